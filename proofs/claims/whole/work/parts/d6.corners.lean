section GU
variable {gu : Nat → Int64}
theorem iwX13_faces_X13 : ∀ w ∈ wsX130, w ∈ wsX13_faces := by decide +kernel
theorem iwX13_corners_X13 : ∀ w ∈ wsX130, w ∈ wsX13_corners := by decide +kernel
theorem dX13_faces_0 : decode cX13_faces 0 = .ok (.aload_n 0, 1) := by decide +kernel
theorem dX13_faces_1 : decode cX13_faces 1 = .ok (.getfield 113, 3) := by decide +kernel
theorem dX13_faces_4 : decode cX13_faces 4 = .ok (.bipush 16, 2) := by decide +kernel
theorem dX13_faces_6 : decode cX13_faces 6 = .ok (.iload_n 1, 1) := by decide +kernel
theorem dX13_faces_7 : decode cX13_faces 7 = .ok (.imul, 1) := by decide +kernel
theorem dX13_faces_8 : decode cX13_faces 8 = .ok (.iload_n 2, 1) := by decide +kernel
theorem dX13_faces_9 : decode cX13_faces 9 = .ok (.aload_n 0, 1) := by decide +kernel
theorem dX13_faces_10 : decode cX13_faces 10 = .ok (.getfield 101, 3) := by decide +kernel
theorem dX13_faces_13 : decode cX13_faces 13 = .ok (.iload_n 1, 1) := by decide +kernel
theorem dX13_faces_14 : decode cX13_faces 14 = .ok (.iaload, 1) := by decide +kernel
theorem dX13_faces_15 : decode cX13_faces 15 = .ok (.iadd, 1) := by decide +kernel
theorem dX13_faces_16 : decode cX13_faces 16 = .ok (.iconst 1, 1) := by decide +kernel
theorem dX13_faces_17 : decode cX13_faces 17 = .ok (.isub, 1) := by decide +kernel
theorem dX13_faces_18 : decode cX13_faces 18 = .ok (.aload_n 0, 1) := by decide +kernel
theorem dX13_faces_19 : decode cX13_faces 19 = .ok (.getfield 101, 3) := by decide +kernel
theorem dX13_faces_22 : decode cX13_faces 22 = .ok (.iload_n 1, 1) := by decide +kernel
theorem dX13_faces_23 : decode cX13_faces 23 = .ok (.iaload, 1) := by decide +kernel
theorem dX13_faces_24 : decode cX13_faces 24 = .ok (.irem, 1) := by decide +kernel
theorem dX13_faces_25 : decode cX13_faces 25 = .ok (.iadd, 1) := by decide +kernel
theorem dX13_faces_26 : decode cX13_faces 26 = .ok (.iaload, 1) := by decide +kernel
theorem dX13_faces_27 : decode cX13_faces 27 = .ok (.istore 5, 2) := by decide +kernel
theorem dX13_faces_29 : decode cX13_faces 29 = .ok (.aload_n 0, 1) := by decide +kernel
theorem dX13_faces_30 : decode cX13_faces 30 = .ok (.getfield 113, 3) := by decide +kernel
theorem dX13_faces_33 : decode cX13_faces 33 = .ok (.bipush 16, 2) := by decide +kernel
theorem dX13_faces_35 : decode cX13_faces 35 = .ok (.iload_n 1, 1) := by decide +kernel
theorem dX13_faces_36 : decode cX13_faces 36 = .ok (.imul, 1) := by decide +kernel
theorem dX13_faces_37 : decode cX13_faces 37 = .ok (.iload_n 2, 1) := by decide +kernel
theorem dX13_faces_38 : decode cX13_faces 38 = .ok (.iadd, 1) := by decide +kernel
theorem dX13_faces_39 : decode cX13_faces 39 = .ok (.iaload, 1) := by decide +kernel
theorem dX13_faces_40 : decode cX13_faces 40 = .ok (.istore 6, 2) := by decide +kernel
theorem dX13_faces_42 : decode cX13_faces 42 = .ok (.aload_n 0, 1) := by decide +kernel
theorem dX13_faces_43 : decode cX13_faces 43 = .ok (.getfield 110, 3) := by decide +kernel
theorem dX13_faces_46 : decode cX13_faces 46 = .ok (.iload_n 1, 1) := by decide +kernel
theorem dX13_faces_47 : decode cX13_faces 47 = .ok (.baload, 1) := by decide +kernel
theorem dX13_faces_48 : decode cX13_faces 48 = .ok (.ifCond .eq 24, 3) := by decide +kernel
theorem dX13_faces_51 : decode cX13_faces 51 = .ok (.iload 5, 2) := by decide +kernel
theorem dX13_faces_53 : decode cX13_faces 53 = .ok (.iload_n 3, 1) := by decide +kernel
theorem dX13_faces_54 : decode cX13_faces 54 = .ok (.if_icmp .ne 14, 3) := by decide +kernel
theorem dX13_faces_57 : decode cX13_faces 57 = .ok (.iload 6, 2) := by decide +kernel
theorem dX13_faces_59 : decode cX13_faces 59 = .ok (.iload 4, 2) := by decide +kernel
theorem dX13_faces_61 : decode cX13_faces 61 = .ok (.if_icmp .ne 7, 3) := by decide +kernel
theorem dX13_faces_64 : decode cX13_faces 64 = .ok (.iconst 1, 1) := by decide +kernel
theorem dX13_faces_65 : decode cX13_faces 65 = .ok (.goto 25, 3) := by decide +kernel
theorem dX13_faces_68 : decode cX13_faces 68 = .ok (.iconst 0, 1) := by decide +kernel
theorem dX13_faces_69 : decode cX13_faces 69 = .ok (.goto 21, 3) := by decide +kernel
theorem dX13_faces_72 : decode cX13_faces 72 = .ok (.iload 5, 2) := by decide +kernel
theorem dX13_faces_74 : decode cX13_faces 74 = .ok (.iload 4, 2) := by decide +kernel
theorem dX13_faces_76 : decode cX13_faces 76 = .ok (.if_icmp .ne 13, 3) := by decide +kernel
theorem dX13_faces_79 : decode cX13_faces 79 = .ok (.iload 6, 2) := by decide +kernel
theorem dX13_faces_81 : decode cX13_faces 81 = .ok (.iload_n 3, 1) := by decide +kernel
theorem dX13_faces_82 : decode cX13_faces 82 = .ok (.if_icmp .ne 7, 3) := by decide +kernel
theorem dX13_faces_85 : decode cX13_faces 85 = .ok (.iconst 1, 1) := by decide +kernel
theorem dX13_faces_86 : decode cX13_faces 86 = .ok (.goto 4, 3) := by decide +kernel
theorem dX13_faces_89 : decode cX13_faces 89 = .ok (.iconst 0, 1) := by decide +kernel
theorem dX13_faces_90 : decode cX13_faces 90 = .ok (.ireturn, 1) := by decide +kernel
set_option maxRecDepth 20000 in
theorem ggX13_corners_X13_faces : GoodIn wsX13_corners wsX13_faces := goodIn_r _ [11, 12, 1, 13, 44, 45, 46, 47, 48, 49, 50, 51, 52, 53, 54, 55, 56, 57, 58, 59, 60, 61, 62, 63, 64, 65, 66, 67, 68, 69, 70, 71, 72, 73, 74, 75, 76, 77, 78, 79, 80, 81, 82, 83, 84, 85, 86, 87, 88, 89, 90, 91, 92, 93, 94, 95, 96, 97, 98, 99, 100, 101, 102, 103, 104, 105, 106, 107, 108, 109, 110, 111, 112, 113, 114] (by decide +kernel) (by decide +kernel)
set_option maxRecDepth 20000 in
theorem gX13_corners_X13_faces : GoodIn wsX13_corners (wsV RX13 280 RX13 yX13_faces wsX13_faces) := goodIn_app (goodIn_of _ (by decide +kernel)) ggX13_corners_X13_faces
set_option maxRecDepth 20000 in
theorem ggX13_corners_X13_tell : GoodIn wsX13_corners wsX13_tell := goodIn_r _ [17, 18, 19, 20, 21, 22, 23, 24, 10, 25, 26, 27, 28, 29, 30, 31, 32, 33, 34, 35, 36, 37, 38, 39, 40, 41, 42, 43, 44, 45, 46, 47, 48, 49, 50, 51, 52, 53, 54, 55, 56, 57, 58, 59, 60, 61, 62, 63, 64, 65, 66, 67, 68, 69, 70, 71, 72, 73, 74, 75, 76, 77, 78, 79, 80, 81, 82, 83, 84, 85, 86, 87, 88, 89, 90, 91, 92, 93, 94, 95, 96, 97, 98, 99, 100, 101, 102, 103, 104, 105, 106, 107, 108, 109, 110, 111, 112, 113, 114] (by decide +kernel) (by decide +kernel)
set_option maxRecDepth 20000 in
theorem gX13_corners_X13_tell : GoodIn wsX13_corners (wsV RX13 276 RX13 yX13_tell wsX13_tell) := goodIn_app (goodIn_of _ (by decide +kernel)) ggX13_corners_X13_tell
theorem dX13_corners_0 : decode cX13_corners 0 = .ok (.iconst 0, 1) := by decide +kernel
theorem dX13_corners_1 : decode cX13_corners 1 = .ok (.istore_n 3, 1) := by decide +kernel
theorem dX13_corners_2 : decode cX13_corners 2 = .ok (.iload_n 3, 1) := by decide +kernel
theorem dX13_corners_3 : decode cX13_corners 3 = .ok (.aload_n 0, 1) := by decide +kernel
theorem dX13_corners_4 : decode cX13_corners 4 = .ok (.getfield 101, 3) := by decide +kernel
theorem dX13_corners_7 : decode cX13_corners 7 = .ok (.iload_n 1, 1) := by decide +kernel
theorem dX13_corners_8 : decode cX13_corners 8 = .ok (.iaload, 1) := by decide +kernel
theorem dX13_corners_9 : decode cX13_corners 9 = .ok (.if_icmp .ge 294, 3) := by decide +kernel
theorem dX13_corners_12 : decode cX13_corners 12 = .ok (.iconst 0, 1) := by decide +kernel
theorem dX13_corners_13 : decode cX13_corners 13 = .ok (.istore 4, 2) := by decide +kernel
theorem dX13_corners_15 : decode cX13_corners 15 = .ok (.iload 4, 2) := by decide +kernel
theorem dX13_corners_17 : decode cX13_corners 17 = .ok (.aload_n 0, 1) := by decide +kernel
theorem dX13_corners_18 : decode cX13_corners 18 = .ok (.getfield 101, 3) := by decide +kernel
theorem dX13_corners_21 : decode cX13_corners 21 = .ok (.iload_n 2, 1) := by decide +kernel
theorem dX13_corners_22 : decode cX13_corners 22 = .ok (.iaload, 1) := by decide +kernel
theorem dX13_corners_23 : decode cX13_corners 23 = .ok (.if_icmp .ge 274, 3) := by decide +kernel
theorem dX13_corners_26 : decode cX13_corners 26 = .ok (.aload_n 0, 1) := by decide +kernel
theorem dX13_corners_27 : decode cX13_corners 27 = .ok (.getfield 104, 3) := by decide +kernel
theorem dX13_corners_30 : decode cX13_corners 30 = .ok (.bipush 17, 2) := by decide +kernel
theorem dX13_corners_32 : decode cX13_corners 32 = .ok (.iload_n 2, 1) := by decide +kernel
theorem dX13_corners_33 : decode cX13_corners 33 = .ok (.imul, 1) := by decide +kernel
theorem dX13_corners_34 : decode cX13_corners 34 = .ok (.iload 4, 2) := by decide +kernel
theorem dX13_corners_36 : decode cX13_corners 36 = .ok (.iadd, 1) := by decide +kernel
theorem dX13_corners_37 : decode cX13_corners 37 = .ok (.laload, 1) := by decide +kernel
theorem dX13_corners_38 : decode cX13_corners 38 = .ok (.aload_n 0, 1) := by decide +kernel
theorem dX13_corners_39 : decode cX13_corners 39 = .ok (.getfield 104, 3) := by decide +kernel
theorem dX13_corners_42 : decode cX13_corners 42 = .ok (.bipush 17, 2) := by decide +kernel
theorem dX13_corners_44 : decode cX13_corners 44 = .ok (.iload_n 1, 1) := by decide +kernel
theorem dX13_corners_45 : decode cX13_corners 45 = .ok (.imul, 1) := by decide +kernel
theorem dX13_corners_46 : decode cX13_corners 46 = .ok (.iload_n 3, 1) := by decide +kernel
theorem dX13_corners_47 : decode cX13_corners 47 = .ok (.iadd, 1) := by decide +kernel
theorem dX13_corners_48 : decode cX13_corners 48 = .ok (.laload, 1) := by decide +kernel
theorem dX13_corners_49 : decode cX13_corners 49 = .ok (.lsub, 1) := by decide +kernel
theorem dX13_corners_50 : decode cX13_corners 50 = .ok (.lstore 5, 2) := by decide +kernel
theorem dX13_corners_52 : decode cX13_corners 52 = .ok (.aload_n 0, 1) := by decide +kernel
theorem dX13_corners_53 : decode cX13_corners 53 = .ok (.getfield 107, 3) := by decide +kernel
theorem dX13_corners_56 : decode cX13_corners 56 = .ok (.bipush 17, 2) := by decide +kernel
theorem dX13_corners_58 : decode cX13_corners 58 = .ok (.iload_n 2, 1) := by decide +kernel
theorem dX13_corners_59 : decode cX13_corners 59 = .ok (.imul, 1) := by decide +kernel
theorem dX13_corners_60 : decode cX13_corners 60 = .ok (.iload 4, 2) := by decide +kernel
theorem dX13_corners_62 : decode cX13_corners 62 = .ok (.iadd, 1) := by decide +kernel
theorem dX13_corners_63 : decode cX13_corners 63 = .ok (.laload, 1) := by decide +kernel
theorem dX13_corners_64 : decode cX13_corners 64 = .ok (.aload_n 0, 1) := by decide +kernel
theorem dX13_corners_65 : decode cX13_corners 65 = .ok (.getfield 107, 3) := by decide +kernel
theorem dX13_corners_68 : decode cX13_corners 68 = .ok (.bipush 17, 2) := by decide +kernel
theorem dX13_corners_70 : decode cX13_corners 70 = .ok (.iload_n 1, 1) := by decide +kernel
theorem dX13_corners_71 : decode cX13_corners 71 = .ok (.imul, 1) := by decide +kernel
theorem dX13_corners_72 : decode cX13_corners 72 = .ok (.iload_n 3, 1) := by decide +kernel
theorem dX13_corners_73 : decode cX13_corners 73 = .ok (.iadd, 1) := by decide +kernel
theorem dX13_corners_74 : decode cX13_corners 74 = .ok (.laload, 1) := by decide +kernel
theorem dX13_corners_75 : decode cX13_corners 75 = .ok (.lsub, 1) := by decide +kernel
theorem dX13_corners_76 : decode cX13_corners 76 = .ok (.lstore 7, 2) := by decide +kernel
theorem dX13_corners_78 : decode cX13_corners 78 = .ok (.lload 7, 2) := by decide +kernel
theorem dX13_corners_80 : decode cX13_corners 80 = .ok (.lconst 0, 1) := by decide +kernel
theorem dX13_corners_81 : decode cX13_corners 81 = .ok (.lcmp, 1) := by decide +kernel
theorem dX13_corners_82 : decode cX13_corners 82 = .ok (.ifCond .le 30, 3) := by decide +kernel
theorem dX13_corners_85 : decode cX13_corners 85 = .ok (.aload_n 0, 1) := by decide +kernel
theorem dX13_corners_86 : decode cX13_corners 86 = .ok (.iload_n 1, 1) := by decide +kernel
theorem dX13_corners_87 : decode cX13_corners 87 = .ok (.iload_n 3, 1) := by decide +kernel
theorem dX13_corners_88 : decode cX13_corners 88 = .ok (.iconst 0, 1) := by decide +kernel
theorem dX13_corners_89 : decode cX13_corners 89 = .ok (.iconst 1, 1) := by decide +kernel
theorem dX13_corners_90 : decode cX13_corners 90 = .ok (.invokevirtual 280, 3) := by decide +kernel
theorem dX13_corners_93 : decode cX13_corners 93 = .ok (.ifCond .eq 19, 3) := by decide +kernel
theorem dX13_corners_96 : decode cX13_corners 96 = .ok (.aload_n 0, 1) := by decide +kernel
theorem dX13_corners_97 : decode cX13_corners 97 = .ok (.iload_n 2, 1) := by decide +kernel
theorem dX13_corners_98 : decode cX13_corners 98 = .ok (.iload 4, 2) := by decide +kernel
theorem dX13_corners_100 : decode cX13_corners 100 = .ok (.iconst 2, 1) := by decide +kernel
theorem dX13_corners_101 : decode cX13_corners 101 = .ok (.iconst 3, 1) := by decide +kernel
theorem dX13_corners_102 : decode cX13_corners 102 = .ok (.invokevirtual 280, 3) := by decide +kernel
theorem dX13_corners_105 : decode cX13_corners 105 = .ok (.ifCond .eq 7, 3) := by decide +kernel
theorem dX13_corners_108 : decode cX13_corners 108 = .ok (.iconst 1, 1) := by decide +kernel
theorem dX13_corners_109 : decode cX13_corners 109 = .ok (.goto 4, 3) := by decide +kernel
theorem dX13_corners_112 : decode cX13_corners 112 = .ok (.iconst 0, 1) := by decide +kernel
theorem dX13_corners_113 : decode cX13_corners 113 = .ok (.istore 9, 2) := by decide +kernel
theorem dX13_corners_115 : decode cX13_corners 115 = .ok (.lload 7, 2) := by decide +kernel
theorem dX13_corners_117 : decode cX13_corners 117 = .ok (.lconst 0, 1) := by decide +kernel
theorem dX13_corners_118 : decode cX13_corners 118 = .ok (.lcmp, 1) := by decide +kernel
theorem dX13_corners_119 : decode cX13_corners 119 = .ok (.ifCond .ge 30, 3) := by decide +kernel
theorem dX13_corners_122 : decode cX13_corners 122 = .ok (.aload_n 0, 1) := by decide +kernel
theorem dX13_corners_123 : decode cX13_corners 123 = .ok (.iload_n 1, 1) := by decide +kernel
theorem dX13_corners_124 : decode cX13_corners 124 = .ok (.iload_n 3, 1) := by decide +kernel
theorem dX13_corners_125 : decode cX13_corners 125 = .ok (.iconst 3, 1) := by decide +kernel
theorem dX13_corners_126 : decode cX13_corners 126 = .ok (.iconst 0, 1) := by decide +kernel
theorem dX13_corners_127 : decode cX13_corners 127 = .ok (.invokevirtual 280, 3) := by decide +kernel
theorem dX13_corners_130 : decode cX13_corners 130 = .ok (.ifCond .eq 19, 3) := by decide +kernel
theorem dX13_corners_133 : decode cX13_corners 133 = .ok (.aload_n 0, 1) := by decide +kernel
theorem dX13_corners_134 : decode cX13_corners 134 = .ok (.iload_n 2, 1) := by decide +kernel
theorem dX13_corners_135 : decode cX13_corners 135 = .ok (.iload 4, 2) := by decide +kernel
theorem dX13_corners_137 : decode cX13_corners 137 = .ok (.iconst 1, 1) := by decide +kernel
theorem dX13_corners_138 : decode cX13_corners 138 = .ok (.iconst 2, 1) := by decide +kernel
theorem dX13_corners_139 : decode cX13_corners 139 = .ok (.invokevirtual 280, 3) := by decide +kernel
theorem dX13_corners_142 : decode cX13_corners 142 = .ok (.ifCond .eq 7, 3) := by decide +kernel
theorem dX13_corners_145 : decode cX13_corners 145 = .ok (.iconst 1, 1) := by decide +kernel
theorem dX13_corners_146 : decode cX13_corners 146 = .ok (.goto 4, 3) := by decide +kernel
theorem dX13_corners_149 : decode cX13_corners 149 = .ok (.iconst 0, 1) := by decide +kernel
theorem dX13_corners_150 : decode cX13_corners 150 = .ok (.istore 10, 2) := by decide +kernel
theorem dX13_corners_152 : decode cX13_corners 152 = .ok (.lload 5, 2) := by decide +kernel
theorem dX13_corners_154 : decode cX13_corners 154 = .ok (.lload 5, 2) := by decide +kernel
theorem dX13_corners_156 : decode cX13_corners 156 = .ok (.lmul, 1) := by decide +kernel
theorem dX13_corners_157 : decode cX13_corners 157 = .ok (.lload 7, 2) := by decide +kernel
theorem dX13_corners_159 : decode cX13_corners 159 = .ok (.lload 7, 2) := by decide +kernel
theorem dX13_corners_161 : decode cX13_corners 161 = .ok (.lmul, 1) := by decide +kernel
theorem dX13_corners_162 : decode cX13_corners 162 = .ok (.ladd, 1) := by decide +kernel
theorem dX13_corners_163 : decode cX13_corners 163 = .ok (.lstore 11, 2) := by decide +kernel
theorem dX13_corners_165 : decode cX13_corners 165 = .ok (.lload 5, 2) := by decide +kernel
theorem dX13_corners_167 : decode cX13_corners 167 = .ok (.lconst 0, 1) := by decide +kernel
theorem dX13_corners_168 : decode cX13_corners 168 = .ok (.lcmp, 1) := by decide +kernel
theorem dX13_corners_169 : decode cX13_corners 169 = .ok (.ifCond .le 122, 3) := by decide +kernel
theorem dX13_corners_172 : decode cX13_corners 172 = .ok (.iload 9, 2) := by decide +kernel
theorem dX13_corners_174 : decode cX13_corners 174 = .ok (.ifCond .ne 8, 3) := by decide +kernel
theorem dX13_corners_177 : decode cX13_corners 177 = .ok (.iload 10, 2) := by decide +kernel
theorem dX13_corners_179 : decode cX13_corners 179 = .ok (.ifCond .eq 112, 3) := by decide +kernel
theorem dX13_corners_182 : decode cX13_corners 182 = .ok (.lload 11, 2) := by decide +kernel
theorem dX13_corners_184 : decode cX13_corners 184 = .ok (.aload_n 0, 1) := by decide +kernel
theorem dX13_corners_185 : decode cX13_corners 185 = .ok (.getfield 56, 3) := by decide +kernel
theorem dX13_corners_188 : decode cX13_corners 188 = .ok (.aload_n 0, 1) := by decide +kernel
theorem dX13_corners_189 : decode cX13_corners 189 = .ok (.getfield 254, 3) := by decide +kernel
theorem dX13_corners_192 : decode cX13_corners 192 = .ok (.laload, 1) := by decide +kernel
theorem dX13_corners_193 : decode cX13_corners 193 = .ok (.aload_n 0, 1) := by decide +kernel
theorem dX13_corners_194 : decode cX13_corners 194 = .ok (.getfield 56, 3) := by decide +kernel
theorem dX13_corners_197 : decode cX13_corners 197 = .ok (.aload_n 0, 1) := by decide +kernel
theorem dX13_corners_198 : decode cX13_corners 198 = .ok (.getfield 254, 3) := by decide +kernel
theorem dX13_corners_201 : decode cX13_corners 201 = .ok (.laload, 1) := by decide +kernel
theorem dX13_corners_202 : decode cX13_corners 202 = .ok (.lmul, 1) := by decide +kernel
theorem dX13_corners_203 : decode cX13_corners 203 = .ok (.lcmp, 1) := by decide +kernel
theorem dX13_corners_204 : decode cX13_corners 204 = .ok (.ifCond .ge 87, 3) := by decide +kernel
theorem dX13_corners_207 : decode cX13_corners 207 = .ok (.aload_n 0, 1) := by decide +kernel
theorem dX13_corners_208 : decode cX13_corners 208 = .ok (.getfield 107, 3) := by decide +kernel
theorem dX13_corners_211 : decode cX13_corners 211 = .ok (.bipush 17, 2) := by decide +kernel
theorem dX13_corners_213 : decode cX13_corners 213 = .ok (.iload_n 1, 1) := by decide +kernel
theorem dX13_corners_214 : decode cX13_corners 214 = .ok (.imul, 1) := by decide +kernel
theorem dX13_corners_215 : decode cX13_corners 215 = .ok (.iload_n 3, 1) := by decide +kernel
theorem dX13_corners_216 : decode cX13_corners 216 = .ok (.iadd, 1) := by decide +kernel
theorem dX13_corners_217 : decode cX13_corners 217 = .ok (.laload, 1) := by decide +kernel
theorem dX13_corners_218 : decode cX13_corners 218 = .ok (.lstore 13, 2) := by decide +kernel
theorem dX13_corners_220 : decode cX13_corners 220 = .ok (.aload_n 0, 1) := by decide +kernel
theorem dX13_corners_221 : decode cX13_corners 221 = .ok (.aload_n 0, 1) := by decide +kernel
theorem dX13_corners_222 : decode cX13_corners 222 = .ok (.getfield 104, 3) := by decide +kernel
theorem dX13_corners_225 : decode cX13_corners 225 = .ok (.bipush 17, 2) := by decide +kernel
theorem dX13_corners_227 : decode cX13_corners 227 = .ok (.iload_n 1, 1) := by decide +kernel
theorem dX13_corners_228 : decode cX13_corners 228 = .ok (.imul, 1) := by decide +kernel
theorem dX13_corners_229 : decode cX13_corners 229 = .ok (.iload_n 3, 1) := by decide +kernel
theorem dX13_corners_230 : decode cX13_corners 230 = .ok (.iadd, 1) := by decide +kernel
theorem dX13_corners_231 : decode cX13_corners 231 = .ok (.laload, 1) := by decide +kernel
theorem dX13_corners_232 : decode cX13_corners 232 = .ok (.iload 9, 2) := by decide +kernel
theorem dX13_corners_234 : decode cX13_corners 234 = .ok (.ifCond .eq 8, 3) := by decide +kernel
theorem dX13_corners_237 : decode cX13_corners 237 = .ok (.lload 13, 2) := by decide +kernel
theorem dX13_corners_239 : decode cX13_corners 239 = .ok (.goto 8, 3) := by decide +kernel
theorem dX13_corners_242 : decode cX13_corners 242 = .ok (.lload 13, 2) := by decide +kernel
theorem dX13_corners_244 : decode cX13_corners 244 = .ok (.lload 7, 2) := by decide +kernel
theorem dX13_corners_246 : decode cX13_corners 246 = .ok (.ladd, 1) := by decide +kernel
theorem dX13_corners_247 : decode cX13_corners 247 = .ok (.aload_n 0, 1) := by decide +kernel
theorem dX13_corners_248 : decode cX13_corners 248 = .ok (.getfield 104, 3) := by decide +kernel
theorem dX13_corners_251 : decode cX13_corners 251 = .ok (.bipush 17, 2) := by decide +kernel
theorem dX13_corners_253 : decode cX13_corners 253 = .ok (.iload_n 2, 1) := by decide +kernel
theorem dX13_corners_254 : decode cX13_corners 254 = .ok (.imul, 1) := by decide +kernel
theorem dX13_corners_255 : decode cX13_corners 255 = .ok (.iload 4, 2) := by decide +kernel
theorem dX13_corners_257 : decode cX13_corners 257 = .ok (.iadd, 1) := by decide +kernel
theorem dX13_corners_258 : decode cX13_corners 258 = .ok (.laload, 1) := by decide +kernel
theorem dX13_corners_259 : decode cX13_corners 259 = .ok (.iload 9, 2) := by decide +kernel
theorem dX13_corners_261 : decode cX13_corners 261 = .ok (.ifCond .eq 11, 3) := by decide +kernel
theorem dX13_corners_264 : decode cX13_corners 264 = .ok (.lload 13, 2) := by decide +kernel
theorem dX13_corners_266 : decode cX13_corners 266 = .ok (.lload 7, 2) := by decide +kernel
theorem dX13_corners_268 : decode cX13_corners 268 = .ok (.ladd, 1) := by decide +kernel
theorem dX13_corners_269 : decode cX13_corners 269 = .ok (.goto 5, 3) := by decide +kernel
theorem dX13_corners_272 : decode cX13_corners 272 = .ok (.lload 13, 2) := by decide +kernel
theorem dX13_corners_274 : decode cX13_corners 274 = .ok (.aload_n 0, 1) := by decide +kernel
theorem dX13_corners_275 : decode cX13_corners 275 = .ok (.getfield 125, 3) := by decide +kernel
theorem dX13_corners_278 : decode cX13_corners 278 = .ok (.iload_n 1, 1) := by decide +kernel
theorem dX13_corners_279 : decode cX13_corners 279 = .ok (.iaload, 1) := by decide +kernel
theorem dX13_corners_280 : decode cX13_corners 280 = .ok (.aload_n 0, 1) := by decide +kernel
theorem dX13_corners_281 : decode cX13_corners 281 = .ok (.getfield 125, 3) := by decide +kernel
theorem dX13_corners_284 : decode cX13_corners 284 = .ok (.iload_n 2, 1) := by decide +kernel
theorem dX13_corners_285 : decode cX13_corners 285 = .ok (.iaload, 1) := by decide +kernel
theorem dX13_corners_286 : decode cX13_corners 286 = .ok (.lload 11, 2) := by decide +kernel
theorem dX13_corners_288 : decode cX13_corners 288 = .ok (.invokevirtual 276, 3) := by decide +kernel
theorem dX13_corners_291 : decode cX13_corners 291 = .ok (.iinc 4 1, 3) := by decide +kernel
theorem dX13_corners_294 : decode cX13_corners 294 = .ok (.goto (-279), 3) := by decide +kernel
theorem dX13_corners_297 : decode cX13_corners 297 = .ok (.iinc 3 1, 3) := by decide +kernel
theorem dX13_corners_300 : decode cX13_corners 300 = .ok (.goto (-298), 3) := by decide +kernel
theorem dX13_corners_303 : decode cX13_corners 303 = .ok (.return_, 1) := by decide +kernel

abbrev mX13_faces : sv_M := (cX13_faces, 7, yX13_faces, wsX13_faces, (some .boolean), { frames := 2, cells := 0, slots := 0, locals := 60 }, [])
abbrev mX13_corners : sv_M := (cX13_corners, 15, yX13_corners, wsX13_corners, none, { frames := 8, cells := 0, slots := 0, locals := 200 }, [])
theorem nI_rem16 : ∀ a, a < 32 → ∀ n, n < 17 → 0 < n → nI a - nI a / nI n * nI n = nI (a % n) := by decide +kernel
/-- the sides before and behind corner k face so -/
abbrev fxM (s : Int) (C : Nat → Int × Int) (n k one other : Nat) : Prop := if 0 < s then fcM s C ((k + n - 1) % n) = one ∧ fcM s C k = other else fcM s C ((k + n - 1) % n) = other ∧ fcM s C k = one
theorem fxM_p {s : Int} {C : Nat → Int × Int} {n k one other : Nat} (h : 0 < s) : fxM s C n k one other ↔ (fcM s C ((k + n - 1) % n) = one ∧ fcM s C k = other) := by unfold fxM; rw [if_pos h]
theorem fxM_n {s : Int} {C : Nat → Int × Int} {n k one other : Nat} (h : ¬ 0 < s) : fxM s C n k one other ↔ (fcM s C ((k + n - 1) % n) = other ∧ fcM s C k = one) := by unfold fxM; rw [if_neg h]
/-- the row between two corners -/
def cnR (M : mvT) (lim a c hmI : Int) (U D : Prop) [Decidable U] [Decidable D] (p q : Int × Int) : List (List Int64) := if 0 < q.1 - p.1 ∧ ((0 < q.2 - p.2 ∧ U) ∨ (q.2 - p.2 < 0 ∧ D)) ∧ (q.1 - p.1) * (q.1 - p.1) + (q.2 - p.2) * (q.2 - p.2) < lim * lim then [mvR M (rwI p.1 (min p.2 q.2) q.1 (max p.2 q.2) a c ((q.1 - p.1) * (q.1 - p.1) + (q.2 - p.2) * (q.2 - p.2)) hmI)] else []
set_option maxHeartbeats 4000000 in
set_option maxRecDepth 100000 in
theorem m_faces (G : sv_G) (z : Nat) (b nc np pl : Nat) (hb : sv_h) (fs0 : List Value) (hq0 : mfq_ b nc np pl fs0) (kk : Nat) (n pg : Nat → Nat) (cc : Nat → Nat → Int × Int) (LD : mld_ G hb b kk n pg cc) (LK : mlk_ kk n pg cc) (h : sv_h) (fs : List Value) (hm9 : h (b + 220) = some (.inr (11, fs))) (hl : fs.length = 71) (hE : fsE [28, 29, 52, 53] fs0 fs) (fr : (∀ a, a ≠ b + 220 → a ≠ b + 241 → h a = hb a)) (w k one other : Nat) (hw : w < kk) (hk : k < n w) (ho1 : one < 4) (ho2 : other < 4) : CT G mX13_faces [.ref (b + 220), .int (nI w), .int (nI k), .int (nI one), .int (nI other)] h z (fun v h1 z1 => v = some (.int (if fxM (twS (cc w) (n w)) (cc w) (n w) k one other then 1 else 0)) ∧ h1 = h ∧ z1 = z) := by
  refine CT.of (by decide +kernel) rfl rfl (Nat.le_of_ble_eq_true rfl) ?_
  obtain ⟨k0, k1⟩ := id LK
  obtain ⟨fsd, fo, ft, ff, gx, gy, gp, gl, gh, d49, d50, d51, d52, d53, d54, d55, d56, d57, dd⟩ := id LD
  obtain ⟨⟨zw1, zw2⟩, pw, cw⟩ := k1 w hw
  obtain ⟨sw1, sw2, sw3, sw4, sw5⟩ := dd w hw
  have hqf := hq0.to (S := [28, 29, 52, 53]) hl hE (by decide)
  have hlen : fs.length = 71 := hl
  have f_sides := hqf.f_sides
  have f_face := hqf.f_face
  have f_toTheLeft := hqf.f_toTheLeft
  have w249 : ab_I G h (b + 249) 2 fsd := (fr _ (by omega) (by omega)).trans d49
  have w252 : ab_Z G h (b + 252) 2 ft := (fr _ (by omega) (by omega)).trans d52
  have w253 : ab_I G h (b + 253) 32 ff := (fr _ (by omega) (by omega)).trans d53
  have hlt := Nat.mod_lt (k + n w - 1) (show n w > 0 by omega)
  have q1 := (sw5 _ hlt).1
  have q2 := (sw5 k hk).1
  have i1 := nI_inj4 _ (fcM_4 (twS (cc w) (n w)) (cc w) ((k + n w - 1) % n w))
  have i2 := nI_inj4 _ (fcM_4 (twS (cc w) (n w)) (cc w) k)
  refine v_aload_n dX13_faces_0 rfl 0 rfl ?_
  refine v_getf 47 (ci := 11) (C := RX13) (T := TX13) (N := 71) rfl iwX13_faces_X13 (Nat.le_of_ble_eq_true rfl) (by decide +kernel) dX13_faces_1 (by first | with_reducible assumption) (by repeat (first | with_reducible assumption | (with_reducible refine (sv_ls (by first | omega | (simp only [List.length_set]; omega))).trans ?_; exact rfl) | with_reducible refine (List.getElem?_set_ne (by decide)).trans ?_)) ?_
  refine v_bipush (v := 16) dX13_faces_4 (by decide) ?_
  refine v_iload_n dX13_faces_6 rfl 1 rfl ?_
  refine v_imul dX13_faces_7 ?_
  refine v_iload_n dX13_faces_8 rfl 2 rfl ?_
  refine v_aload_n dX13_faces_9 rfl 0 rfl ?_
  refine v_getf 43 (ci := 11) (C := RX13) (T := TX13) (N := 71) rfl iwX13_faces_X13 (Nat.le_of_ble_eq_true rfl) (by decide +kernel) dX13_faces_10 (by first | with_reducible assumption) (by repeat (first | with_reducible assumption | (with_reducible refine (sv_ls (by first | omega | (simp only [List.length_set]; omega))).trans ?_; exact rfl) | with_reducible refine (List.getElem?_set_ne (by decide)).trans ?_)) ?_
  refine v_iload_n dX13_faces_13 rfl 1 rfl ?_
  refine v_ialdS (v := nI (n w)) dX13_faces_14 (by first | with_reducible assumption) (vp_in_nI (by omega) (by omega)) (by rw [nI_clamp (by omega)]; exact sw1) ?_
  refine v_iadd dX13_faces_15 ?_
  refine v_iconst (v := 1) dX13_faces_16 (by decide) ?_
  refine v_isub dX13_faces_17 ?_
  rw [show nI k + nI (n w) - 1 = nI (k + n w - 1) from by rw [nI_add, show k + n w = (k + n w - 1) + 1 by omega, nI_s1]; rfl]
  refine v_aload_n dX13_faces_18 rfl 0 rfl ?_
  refine v_getf 43 (ci := 11) (C := RX13) (T := TX13) (N := 71) rfl iwX13_faces_X13 (Nat.le_of_ble_eq_true rfl) (by decide +kernel) dX13_faces_19 (by first | with_reducible assumption) (by repeat (first | with_reducible assumption | (with_reducible refine (sv_ls (by first | omega | (simp only [List.length_set]; omega))).trans ?_; exact rfl) | with_reducible refine (List.getElem?_set_ne (by decide)).trans ?_)) ?_
  refine v_iload_n dX13_faces_22 rfl 1 rfl ?_
  refine v_ialdS (v := nI (n w)) dX13_faces_23 (by first | with_reducible assumption) (vp_in_nI (by omega) (by omega)) (by rw [nI_clamp (by omega)]; exact sw1) ?_
  refine v_irem dX13_faces_24 (by intro e9; have := nI_inj4; have h9 := congrArg Int32.toInt e9; rw [nI_toI (by omega)] at h9; have h8 : (0 : Int32).toInt = 0 := rfl; omega) ?_
  rw [nI_rem16 _ (by omega) _ (by omega) (by omega)]
  refine v_iadd dX13_faces_25 ?_
  rw [sv_16a]
  refine v_ialdS (v := nI (fcM (twS (cc w) (n w)) (cc w) ((k + n w - 1) % n w))) dX13_faces_26 (by first | with_reducible assumption) (vp_in_nI (by omega) (by omega)) (by rw [nI_clamp (by omega)]; exact q1) ?_
  refine v_istore (L' := [(5, _), (0, _), (1, _), (2, _), (3, _), (4, _)]) dX13_faces_27 (Nat.le_of_ble_eq_true rfl) rfl ?_
  refine v_aload_n dX13_faces_29 rfl 1 rfl ?_
  refine v_getf 47 (ci := 11) (C := RX13) (T := TX13) (N := 71) rfl iwX13_faces_X13 (Nat.le_of_ble_eq_true rfl) (by decide +kernel) dX13_faces_30 (by first | with_reducible assumption) (by repeat (first | with_reducible assumption | (with_reducible refine (sv_ls (by first | omega | (simp only [List.length_set]; omega))).trans ?_; exact rfl) | with_reducible refine (List.getElem?_set_ne (by decide)).trans ?_)) ?_
  refine v_bipush (v := 16) dX13_faces_33 (by decide) ?_
  refine v_iload_n dX13_faces_35 rfl 2 rfl ?_
  refine v_imul dX13_faces_36 ?_
  refine v_iload_n dX13_faces_37 rfl 3 rfl ?_
  refine v_iadd dX13_faces_38 ?_
  rw [sv_16a]
  refine v_ialdS (v := nI (fcM (twS (cc w) (n w)) (cc w) k)) dX13_faces_39 (by first | with_reducible assumption) (vp_in_nI (by omega) (by omega)) (by rw [nI_clamp (by omega)]; exact q2) ?_
  refine v_istore (L' := [(6, _), (5, _), (0, _), (1, _), (2, _), (3, _), (4, _)]) dX13_faces_40 (Nat.le_of_ble_eq_true rfl) rfl ?_
  refine v_aload_n dX13_faces_42 rfl 2 rfl ?_
  refine v_getf 46 (ci := 11) (C := RX13) (T := TX13) (N := 71) rfl iwX13_faces_X13 (Nat.le_of_ble_eq_true rfl) (by decide +kernel) dX13_faces_43 (by first | with_reducible assumption) (by repeat (first | with_reducible assumption | (with_reducible refine (sv_ls (by first | omega | (simp only [List.length_set]; omega))).trans ?_; exact rfl) | with_reducible refine (List.getElem?_set_ne (by decide)).trans ?_)) ?_
  refine v_iload_n dX13_faces_46 rfl 3 rfl ?_
  refine v_zaldS (v := (if 0 < twS (cc w) (n w) then 1 else 0)) dX13_faces_47 (by first | with_reducible assumption) (vp_in_nI (by omega) (by omega)) (by rw [nI_clamp (by omega)]; exact sw3) ?_
  refine v_if_eq (tgt := 72) dX13_faces_48 (by decide) (fun c_48 => ?_) (fun c_48 => ?_)
  · refine v_iload dX13_faces_72 1 rfl ?_
    refine v_iload dX13_faces_74 6 rfl ?_
    refine v_icmp_ne (tgt := 89) dX13_faces_76 (by decide) (fun c_76 => ?_) (fun c_76 => ?_)
    · refine v_iconst (v := 0) dX13_faces_89 (by decide) ?_
      exact v_iret rfl dX13_faces_90 (Nat.le_of_ble_eq_true rfl) (Nat.le_of_ble_eq_true rfl) rfl (by
            refine ⟨?_, rfl, rfl⟩
            by_cases e9 : fxM (twS (cc w) (n w)) (cc w) (n w) k one other
            · rw [if_pos e9]
              first
                | done
                | rfl
                | (exfalso
                   by_cases s9 : 0 < twS (cc w) (n w)
                   · have g9 := (fxM_p s9).mp e9
                     first
                       | exact c_54 (congrArg nI g9.1)
                       | exact c_61 (congrArg nI g9.2)
                       | (rw [if_pos s9] at c_48; exact absurd c_48 (by decide))
                   · have g9 := (fxM_n s9).mp e9
                     first
                       | exact c_76 (congrArg nI g9.1)
                       | exact c_82 (congrArg nI g9.2)
                       | (rw [if_neg s9] at c_48; exact absurd rfl c_48))
            · rw [if_neg e9]
              first
                | done
                | rfl
                | (exfalso
                   by_cases s9 : 0 < twS (cc w) (n w)
                   · first
                       | exact e9 ((fxM_p s9).mpr ⟨i1 _ ho1 c_54, i2 _ ho2 c_61⟩)
                       | (rw [if_pos s9] at c_48; exact absurd c_48 (by decide))
                   · first
                       | exact e9 ((fxM_n s9).mpr ⟨i1 _ ho2 c_76, i2 _ ho1 c_82⟩)
                       | (rw [if_neg s9] at c_48; exact absurd rfl c_48)))
    · refine v_iload dX13_faces_79 0 rfl ?_
      refine v_iload_n dX13_faces_81 rfl 5 rfl ?_
      refine v_icmp_ne (tgt := 89) dX13_faces_82 (by decide) (fun c_82 => ?_) (fun c_82 => ?_)
      · refine v_iconst (v := 0) dX13_faces_89 (by decide) ?_
        exact v_iret rfl dX13_faces_90 (Nat.le_of_ble_eq_true rfl) (Nat.le_of_ble_eq_true rfl) rfl (by
              refine ⟨?_, rfl, rfl⟩
              by_cases e9 : fxM (twS (cc w) (n w)) (cc w) (n w) k one other
              · rw [if_pos e9]
                first
                  | done
                  | rfl
                  | (exfalso
                     by_cases s9 : 0 < twS (cc w) (n w)
                     · have g9 := (fxM_p s9).mp e9
                       first
                         | exact c_54 (congrArg nI g9.1)
                         | exact c_61 (congrArg nI g9.2)
                         | (rw [if_pos s9] at c_48; exact absurd c_48 (by decide))
                     · have g9 := (fxM_n s9).mp e9
                       first
                         | exact c_76 (congrArg nI g9.1)
                         | exact c_82 (congrArg nI g9.2)
                         | (rw [if_neg s9] at c_48; exact absurd rfl c_48))
              · rw [if_neg e9]
                first
                  | done
                  | rfl
                  | (exfalso
                     by_cases s9 : 0 < twS (cc w) (n w)
                     · first
                         | exact e9 ((fxM_p s9).mpr ⟨i1 _ ho1 c_54, i2 _ ho2 c_61⟩)
                         | (rw [if_pos s9] at c_48; exact absurd c_48 (by decide))
                     · first
                         | exact e9 ((fxM_n s9).mpr ⟨i1 _ ho2 c_76, i2 _ ho1 c_82⟩)
                         | (rw [if_neg s9] at c_48; exact absurd rfl c_48)))
      · refine v_iconst (v := 1) dX13_faces_85 (by decide) ?_
        refine v_goto (tgt := 90) dX13_faces_86 (by decide) ?_
        exact v_iret rfl dX13_faces_90 (Nat.le_of_ble_eq_true rfl) (Nat.le_of_ble_eq_true rfl) rfl (by
              refine ⟨?_, rfl, rfl⟩
              by_cases e9 : fxM (twS (cc w) (n w)) (cc w) (n w) k one other
              · rw [if_pos e9]
                first
                  | done
                  | rfl
                  | (exfalso
                     by_cases s9 : 0 < twS (cc w) (n w)
                     · have g9 := (fxM_p s9).mp e9
                       first
                         | exact c_54 (congrArg nI g9.1)
                         | exact c_61 (congrArg nI g9.2)
                         | (rw [if_pos s9] at c_48; exact absurd c_48 (by decide))
                     · have g9 := (fxM_n s9).mp e9
                       first
                         | exact c_76 (congrArg nI g9.1)
                         | exact c_82 (congrArg nI g9.2)
                         | (rw [if_neg s9] at c_48; exact absurd rfl c_48))
              · rw [if_neg e9]
                first
                  | done
                  | rfl
                  | (exfalso
                     by_cases s9 : 0 < twS (cc w) (n w)
                     · first
                         | exact e9 ((fxM_p s9).mpr ⟨i1 _ ho1 c_54, i2 _ ho2 c_61⟩)
                         | (rw [if_pos s9] at c_48; exact absurd c_48 (by decide))
                     · first
                         | exact e9 ((fxM_n s9).mpr ⟨i1 _ ho2 c_76, i2 _ ho1 c_82⟩)
                         | (rw [if_neg s9] at c_48; exact absurd rfl c_48)))
  · refine v_iload dX13_faces_51 1 rfl ?_
    refine v_iload_n dX13_faces_53 rfl 5 rfl ?_
    refine v_icmp_ne (tgt := 68) dX13_faces_54 (by decide) (fun c_54 => ?_) (fun c_54 => ?_)
    · refine v_iconst (v := 0) dX13_faces_68 (by decide) ?_
      refine v_goto (tgt := 90) dX13_faces_69 (by decide) ?_
      exact v_iret rfl dX13_faces_90 (Nat.le_of_ble_eq_true rfl) (Nat.le_of_ble_eq_true rfl) rfl (by
            refine ⟨?_, rfl, rfl⟩
            by_cases e9 : fxM (twS (cc w) (n w)) (cc w) (n w) k one other
            · rw [if_pos e9]
              first
                | done
                | rfl
                | (exfalso
                   by_cases s9 : 0 < twS (cc w) (n w)
                   · have g9 := (fxM_p s9).mp e9
                     first
                       | exact c_54 (congrArg nI g9.1)
                       | exact c_61 (congrArg nI g9.2)
                       | (rw [if_pos s9] at c_48; exact absurd c_48 (by decide))
                   · have g9 := (fxM_n s9).mp e9
                     first
                       | exact c_76 (congrArg nI g9.1)
                       | exact c_82 (congrArg nI g9.2)
                       | (rw [if_neg s9] at c_48; exact absurd rfl c_48))
            · rw [if_neg e9]
              first
                | done
                | rfl
                | (exfalso
                   by_cases s9 : 0 < twS (cc w) (n w)
                   · first
                       | exact e9 ((fxM_p s9).mpr ⟨i1 _ ho1 c_54, i2 _ ho2 c_61⟩)
                       | (rw [if_pos s9] at c_48; exact absurd c_48 (by decide))
                   · first
                       | exact e9 ((fxM_n s9).mpr ⟨i1 _ ho2 c_76, i2 _ ho1 c_82⟩)
                       | (rw [if_neg s9] at c_48; exact absurd rfl c_48)))
    · refine v_iload dX13_faces_57 0 rfl ?_
      refine v_iload dX13_faces_59 6 rfl ?_
      refine v_icmp_ne (tgt := 68) dX13_faces_61 (by decide) (fun c_61 => ?_) (fun c_61 => ?_)
      · refine v_iconst (v := 0) dX13_faces_68 (by decide) ?_
        refine v_goto (tgt := 90) dX13_faces_69 (by decide) ?_
        exact v_iret rfl dX13_faces_90 (Nat.le_of_ble_eq_true rfl) (Nat.le_of_ble_eq_true rfl) rfl (by
              refine ⟨?_, rfl, rfl⟩
              by_cases e9 : fxM (twS (cc w) (n w)) (cc w) (n w) k one other
              · rw [if_pos e9]
                first
                  | done
                  | rfl
                  | (exfalso
                     by_cases s9 : 0 < twS (cc w) (n w)
                     · have g9 := (fxM_p s9).mp e9
                       first
                         | exact c_54 (congrArg nI g9.1)
                         | exact c_61 (congrArg nI g9.2)
                         | (rw [if_pos s9] at c_48; exact absurd c_48 (by decide))
                     · have g9 := (fxM_n s9).mp e9
                       first
                         | exact c_76 (congrArg nI g9.1)
                         | exact c_82 (congrArg nI g9.2)
                         | (rw [if_neg s9] at c_48; exact absurd rfl c_48))
              · rw [if_neg e9]
                first
                  | done
                  | rfl
                  | (exfalso
                     by_cases s9 : 0 < twS (cc w) (n w)
                     · first
                         | exact e9 ((fxM_p s9).mpr ⟨i1 _ ho1 c_54, i2 _ ho2 c_61⟩)
                         | (rw [if_pos s9] at c_48; exact absurd c_48 (by decide))
                     · first
                         | exact e9 ((fxM_n s9).mpr ⟨i1 _ ho2 c_76, i2 _ ho1 c_82⟩)
                         | (rw [if_neg s9] at c_48; exact absurd rfl c_48)))
      · refine v_iconst (v := 1) dX13_faces_64 (by decide) ?_
        refine v_goto (tgt := 90) dX13_faces_65 (by decide) ?_
        exact v_iret rfl dX13_faces_90 (Nat.le_of_ble_eq_true rfl) (Nat.le_of_ble_eq_true rfl) rfl (by
              refine ⟨?_, rfl, rfl⟩
              by_cases e9 : fxM (twS (cc w) (n w)) (cc w) (n w) k one other
              · rw [if_pos e9]
                first
                  | done
                  | rfl
                  | (exfalso
                     by_cases s9 : 0 < twS (cc w) (n w)
                     · have g9 := (fxM_p s9).mp e9
                       first
                         | exact c_54 (congrArg nI g9.1)
                         | exact c_61 (congrArg nI g9.2)
                         | (rw [if_pos s9] at c_48; exact absurd c_48 (by decide))
                     · have g9 := (fxM_n s9).mp e9
                       first
                         | exact c_76 (congrArg nI g9.1)
                         | exact c_82 (congrArg nI g9.2)
                         | (rw [if_neg s9] at c_48; exact absurd rfl c_48))
              · rw [if_neg e9]
                first
                  | done
                  | rfl
                  | (exfalso
                     by_cases s9 : 0 < twS (cc w) (n w)
                     · first
                         | exact e9 ((fxM_p s9).mpr ⟨i1 _ ho1 c_54, i2 _ ho2 c_61⟩)
                         | (rw [if_pos s9] at c_48; exact absurd c_48 (by decide))
                     · first
                         | exact e9 ((fxM_n s9).mpr ⟨i1 _ ho2 c_76, i2 _ ho1 c_82⟩)
                         | (rw [if_neg s9] at c_48; exact absurd rfl c_48)))

theorem mul_b4 {x : Int} (h : -400000 ≤ x ∧ x ≤ 400000) : -200000000000 ≤ x * x ∧ x * x ≤ 200000000000 := by
  have h1 : x.natAbs ≤ 400000 := by omega
  have h2 : x.natAbs * x.natAbs ≤ 400000 * 400000 := Nat.mul_le_mul h1 h1
  have h3 : ((x.natAbs * x.natAbs : Nat) : Int) = x * x := Int.natAbs_mul_self
  omega
theorem mul_b5 {x : Int} (h : -2147483648 ≤ x ∧ x ≤ 2147483648) : -5000000000000000000 ≤ x * x ∧ x * x ≤ 5000000000000000000 := by
  have h1 : x.natAbs ≤ 2147483648 := by omega
  have h2 : x.natAbs * x.natAbs ≤ 2147483648 * 2147483648 := Nat.mul_le_mul h1 h1
  have h3 : ((x.natAbs * x.natAbs : Nat) : Int) = x * x := Int.natAbs_mul_self
  omega
set_option maxHeartbeats 4000000 in
set_option maxRecDepth 100000 in
theorem t_co152 (G : sv_G) (Qr : Option Value → sv_h → Nat → Prop) (z b nc np pl : Nat) (R : Nat → Bool) (hm p3 p4 sz : Nat → Nat) (ly vo : Nat → Int32) (mp : Nat → mvT) (X Y : Nat → Nat → Int) (hb : sv_h) (fs0 : List Value) (hq0 : mfq_ b nc np pl fs0) (MY : myl_ G hb b nc np pl R hm p3 p4 sz ly vo mp X Y) (O : List (List Nat × Nat)) (MO : moc_ G hb b O) (o : Nat) (ho : o < O.length) (how : ∀ i, i ∈ (O.getD o ([], 0)).1 → i < pl) (d : Nat) (hd : d ≤ (O.getD o ([], 0)).1.length) (h60 : fs0[60]? = some (.int (nI o))) (h61 : fs0[61]? = some (.int (nI d))) (mc : Nat) (hmc : mc < 100) (h62 : fs0[62]? = some (.int (nI mc))) (hMB : ∀ x y : Int, -200000 ≤ x ∧ x ≤ 200000 → -200000 ≤ y ∧ y ≤ 200000 → (-1000000000 ≤ (mvA (mvW mp ((O.getD o ([], 0)).1.take d)) (x, y)).1 ∧ (mvA (mvW mp ((O.getD o ([], 0)).1.take d)) (x, y)).1 ≤ 1000000000) ∧ (-1000000000 ≤ (mvA (mvW mp ((O.getD o ([], 0)).1.take d)) (x, y)).2 ∧ (mvA (mvW mp ((O.getD o ([], 0)).1.take d)) (x, y)).2 ≤ 1000000000)) (ri kd : Nat) (l1 l2 x3 x4 x5 x6 : Int32) (RU : mru_ G hb b ri kd l1 l2 x3 x4 x5 x6) (h58 : fs0[58]? = some (.int (nI ri))) (hen : x6 = -1 ∨ 0 ≤ x6) (kk : Nat) (n pg : Nat → Nat) (cc : Nat → Nat → Int × Int) (LD : mld_ G hb b kk n pg cc) (LK : mlk_ kk n pg cc) (v w : Nat) (hv : v < kk) (hw : w < kk) (ii jj : Nat) (hii : ii < n v) (hjj : jj < n w) (E0 : List (List Int64)) (hk : ∀ (h : sv_h) (fs : List Value), h (b + 220) = some (.inr (11, fs)) → fs.length = 71 → fsE [28, 29, 52, 53] fs0 fs → (∀ a, a ≠ b + 220 → a ≠ b + 241 → h a = hb a) → mT_ gu G h b fs ((E0 ++ (List.range (jj + 1)).flatMap (fun j => (cnR (mvW mp ((O.getD o ([], 0)).1.take d)) x3.toInt (pg v : Int) (pg w : Int) (mc : Int) (fxM (twS (cc v) (n v)) (cc v) (n v) ii 0 1 ∧ fxM (twS (cc w) (n w)) (cc w) (n w) j 2 3) (fxM (twS (cc v) (n v)) (cc v) (n v) ii 3 0 ∧ fxM (twS (cc w) (n w)) (cc w) (n w) j 1 2) (cc v ii) (cc w j))))) → V G mX13_corners (sv_MQ G mX13_corners Qr) 291 [(4, .int (nI jj)), (3, .int (nI ii)), (2, .int (nI w)), (1, .int (nI v)), (0, .ref (b + 220))] [] h z 0 0) (h : sv_h) (fs : List Value) (hm9 : h (b + 220) = some (.inr (11, fs))) (hl : fs.length = 71) (hE : fsE [28, 29, 52, 53] fs0 fs) (fr : (∀ a, a ≠ b + 220 → a ≠ b + 241 → h a = hb a)) (T : mT_ gu G h b fs (E0 ++ (List.range jj).flatMap (fun j => (cnR (mvW mp ((O.getD o ([], 0)).1.take d)) x3.toInt (pg v : Int) (pg w : Int) (mc : Int) (fxM (twS (cc v) (n v)) (cc v) (n v) ii 0 1 ∧ fxM (twS (cc w) (n w)) (cc w) (n w) j 2 3) (fxM (twS (cc v) (n v)) (cc v) (n v) ii 3 0 ∧ fxM (twS (cc w) (n w)) (cc w) (n w) j 1 2) (cc v ii) (cc w j))))) : V G mX13_corners (sv_MQ G mX13_corners Qr) 152 [(10, .int (if (((cc w jj).2 - (cc v ii).2) < 0 ∧ (fxM (twS (cc v) (n v)) (cc v) (n v) ii 3 0 ∧ fxM (twS (cc w) (n w)) (cc w) (n w) jj 1 2)) then 1 else 0)), (9, .int (if (0 < ((cc w jj).2 - (cc v ii).2) ∧ (fxM (twS (cc v) (n v)) (cc v) (n v) ii 0 1 ∧ fxM (twS (cc w) (n w)) (cc w) (n w) jj 2 3)) then 1 else 0)), (7, .long (jN ((cc w jj).2 - (cc v ii).2))), (5, .long (jN ((cc w jj).1 - (cc v ii).1))), (4, .int (nI jj)), (3, .int (nI ii)), (2, .int (nI w)), (1, .int (nI v)), (0, .ref (b + 220))] [] h z 0 0 := by
  obtain ⟨k0, k1⟩ := id LK
  obtain ⟨r0, r1, ⟨j33, r33, r33a⟩, ⟨j34, r34, r34a⟩, ⟨j35, r35, r35a⟩, ⟨j36, r36, r36a⟩, ⟨j37, r37, r37a⟩, ⟨j38, r38, r38a⟩, ⟨j39, r39, r39a⟩⟩ := id RU
  obtain ⟨fsd, fo, ft, ff, gx, gy, gp, gl, gh, d49, d50, d51, d52, d53, d54, d55, d56, d57, dd⟩ := id LD
  obtain ⟨⟨zv1, zv2⟩, pv, cv⟩ := k1 v hv
  obtain ⟨⟨zw1, zw2⟩, pw, cw⟩ := k1 w hw
  obtain ⟨sv1, sv2, sv3, sv4, sv5⟩ := dd v hv
  obtain ⟨sw1, sw2, sw3, sw4, sw5⟩ := dd w hw
  have hqf := hq0.to (S := [28, 29, 52, 53]) hl hE (by decide)
  have hlen : fs.length = 71 := hl
  have f_sides := hqf.f_sides
  have f_face := hqf.f_face
  have f_pos := hqf.f_pos
  have f_low := hqf.f_low
  have f_high := hqf.f_high
  have f_ofPolygon := hqf.f_ofPolygon
  have f_bound := hqf.f_bound
  have f_run := hqf.f_run
  have f_end := hqf.f_end
  have f_rule : fs[58]? = some (.int (nI ri)) := (hE 58 (by decide)).trans h58
  have w249 : ab_I G h (b + 249) 2 fsd := (fr _ (by omega) (by omega)).trans d49
  have w253 : ab_I G h (b + 253) 32 ff := (fr _ (by omega) (by omega)).trans d53
  have w254 : ab_J G h (b + 254) 32 gp := (fr _ (by omega) (by omega)).trans d54
  have w255 : ab_J G h (b + 255) 32 gl := (fr _ (by omega) (by omega)).trans d55
  have w256 : ab_J G h (b + 256) 32 gh := (fr _ (by omega) (by omega)).trans d56
  have w257 : ab_I G h (b + 257) 2 fo := (fr _ (by omega) (by omega)).trans d57
  have w236 : ab_J G h (b + 236) 40 j36 := (fr _ (by omega) (by omega)).trans r36
  have w237 : ab_J G h (b + 237) 40 j37 := (fr _ (by omega) (by omega)).trans r37
  have w239 : ab_J G h (b + 239) 40 j39 := (fr _ (by omega) (by omega)).trans r39
  have X3a := x3.le_toInt
  have X3b := x3.toInt_lt
  have X4a := (lrn x4).le_toInt
  have X4b := (lrn x4).toInt_lt
  have X6a := x6.le_toInt
  have X6b := x6.toInt_lt
  have w250 : ab_J G h (b + 250) 34 gx := (fr _ (by omega) (by omega)).trans d50
  have w251 : ab_J G h (b + 251) 34 gy := (fr _ (by omega) (by omega)).trans d51
  have f_cx := hqf.f_cx
  have f_cy := hqf.f_cy
  have q1 := sv4 ii (by omega)
  have q2 := sw4 jj (by omega)
  have q3 := cv ii (by omega)
  have q4 := cw jj (by omega)
  have hsb : -200000000000 ≤ ((cc w jj).1 - (cc v ii).1) * ((cc w jj).1 - (cc v ii).1) ∧ ((cc w jj).1 - (cc v ii).1) * ((cc w jj).1 - (cc v ii).1) ≤ 200000000000 := mul_b4 (by omega)
  have hsc : -200000000000 ≤ ((cc w jj).2 - (cc v ii).2) * ((cc w jj).2 - (cc v ii).2) ∧ ((cc w jj).2 - (cc v ii).2) * ((cc w jj).2 - (cc v ii).2) ≤ 200000000000 := mul_b4 (by omega)
  have hsl : -5000000000000000000 ≤ x3.toInt * x3.toInt ∧ x3.toInt * x3.toInt ≤ 5000000000000000000 := mul_b5 (by omega)
  refine v_lload dX13_corners_152 3 rfl ?_
  refine v_lload dX13_corners_154 3 rfl ?_
  refine v_lmul dX13_corners_156 ?_
  refine v_lload dX13_corners_157 2 rfl ?_
  refine v_lload dX13_corners_159 2 rfl ?_
  refine v_lmul dX13_corners_161 ?_
  refine v_ladd dX13_corners_162 ?_
  rw [← jN_mul, ← jN_mul, ← jN_add]
  refine v_lstore (L' := [(11, _), (10, _), (9, _), (7, _), (5, _), (4, _), (3, _), (2, _), (1, _), (0, _)]) dX13_corners_163 (Nat.le_of_ble_eq_true rfl) rfl ?_
  refine v_lload dX13_corners_165 4 rfl ?_
  refine v_lconst (v := 0) dX13_corners_167 (by decide) ?_
  refine v_lcmp_le (tgt := 291) dX13_corners_168 dX13_corners_169 (by decide) (fun c_169 => ?_) (fun c_169 => ?_)
  · refine v_sub (L' := [(4, _), (3, _), (2, _), (1, _), (0, _)]) [5, 6, 7, 8, 9] rfl ?_
    first
      | (have c9 := T1
         refine hk h1 fs1 u1 u2 u3 u4 ?_
         have g1 := (jN_lt (by omega) (by omega) (by omega) (by omega)).mp (Int64.not_le.mp c_204)
         have g2 := (jN_lt (a := 0) (by omega) (by omega) (by omega) (by omega)).mp (Int64.not_le.mp c_169)
         rw [rgm_s, ← List.append_assoc]
         by_cases hU : (0 < ((cc w jj).2 - (cc v ii).2) ∧ (fxM (twS (cc v) (n v)) (cc v) (n v) ii 0 1 ∧ fxM (twS (cc w) (n w)) (cc w) (n w) jj 2 3))
         · rw [show (cnR (mvW mp ((O.getD o ([], 0)).1.take d)) x3.toInt (pg v : Int) (pg w : Int) (mc : Int) (fxM (twS (cc v) (n v)) (cc v) (n v) ii 0 1 ∧ fxM (twS (cc w) (n w)) (cc w) (n w) jj 2 3) (fxM (twS (cc v) (n v)) (cc v) (n v) ii 3 0 ∧ fxM (twS (cc w) (n w)) (cc w) (n w) jj 1 2) (cc v ii) (cc w jj)) = [_] from if_pos ⟨g2, Or.inl hU, g1⟩, Int.min_eq_left (by omega), Int.max_eq_right (by omega)]
           first
             | exact c9
             | (rw [if_pos hU] at c_234; exact absurd c_234 (by decide))
             | (rw [if_pos hU] at c_261; exact absurd c_261 (by decide))
         · have hD : (((cc w jj).2 - (cc v ii).2) < 0 ∧ (fxM (twS (cc v) (n v)) (cc v) (n v) ii 3 0 ∧ fxM (twS (cc w) (n w)) (cc w) (n w) jj 1 2)) := (by
             first
               | (rw [if_neg hU] at c_174; exact absurd rfl c_174)
               | exact Decidable.of_not_not (fun e9 => c_179 (if_neg e9)))
           rw [show (cnR (mvW mp ((O.getD o ([], 0)).1.take d)) x3.toInt (pg v : Int) (pg w : Int) (mc : Int) (fxM (twS (cc v) (n v)) (cc v) (n v) ii 0 1 ∧ fxM (twS (cc w) (n w)) (cc w) (n w) jj 2 3) (fxM (twS (cc v) (n v)) (cc v) (n v) ii 3 0 ∧ fxM (twS (cc w) (n w)) (cc w) (n w) jj 1 2) (cc v ii) (cc w jj)) = [_] from if_pos ⟨g2, Or.inr hD, g1⟩, Int.min_eq_right (by omega), Int.max_eq_left (by omega)]
           first
             | exact c9
             | (rw [if_neg hU] at c_234; exact absurd rfl c_234)
             | (rw [if_neg hU] at c_261; exact absurd rfl c_261))
      | (refine hk h fs hm9 hl hE fr ?_
         rw [rgm_s, show (cnR (mvW mp ((O.getD o ([], 0)).1.take d)) x3.toInt (pg v : Int) (pg w : Int) (mc : Int) (fxM (twS (cc v) (n v)) (cc v) (n v) ii 0 1 ∧ fxM (twS (cc w) (n w)) (cc w) (n w) jj 2 3) (fxM (twS (cc v) (n v)) (cc v) (n v) ii 3 0 ∧ fxM (twS (cc w) (n w)) (cc w) (n w) jj 1 2) (cc v ii) (cc w jj)) = [] from if_neg (fun r9 => ?_), List.append_nil]
         · exact T
         · first
             | exact absurd ((jN_lt (a := 0) (by omega) (by omega) (by omega) (by omega)).mpr r9.1) (Int64.not_lt.mpr c_169)
             | exact absurd ((jN_lt (by omega) (by omega) (by omega) (by omega)).mpr r9.2.2) (Int64.not_lt.mpr c_204)
             | (rcases r9.2.1 with e9 | e9
                · rw [if_pos e9] at c_174; exact absurd c_174 (by decide)
                · rw [if_pos e9] at c_179; exact absurd c_179 (by decide)))
  · refine v_iload dX13_corners_172 2 rfl ?_
    refine v_if_ne (tgt := 182) dX13_corners_174 (by decide) (fun c_174 => ?_) (fun c_174 => ?_)
    · refine v_lload dX13_corners_182 0 rfl ?_
      refine v_aload_n dX13_corners_184 rfl 9 rfl ?_
      refine v_getf 22 (ci := 11) (C := RX13) (T := TX13) (N := 71) rfl iwX13_corners_X13 (Nat.le_of_ble_eq_true rfl) (by decide +kernel) dX13_corners_185 (by first | with_reducible assumption) (by repeat (first | with_reducible assumption | (with_reducible refine (sv_ls (by first | omega | (simp only [List.length_set]; omega))).trans ?_; exact rfl) | with_reducible refine (List.getElem?_set_ne (by decide)).trans ?_)) ?_
      refine v_aload_n dX13_corners_188 rfl 9 rfl ?_
      refine v_getf 58 (ci := 11) (C := RX13) (T := TX13) (N := 71) rfl iwX13_corners_X13 (Nat.le_of_ble_eq_true rfl) (by decide +kernel) dX13_corners_189 (by first | with_reducible assumption) (by repeat (first | with_reducible assumption | (with_reducible refine (sv_ls (by first | omega | (simp only [List.length_set]; omega))).trans ?_; exact rfl) | with_reducible refine (List.getElem?_set_ne (by decide)).trans ?_)) ?_
      refine v_laldS (v := jN x3.toInt) dX13_corners_192 (by first | with_reducible assumption) (vp_in_nI (by omega) (by omega)) (by rw [nI_clamp (by omega)]; exact r36a) ?_
      refine v_aload_n dX13_corners_193 rfl 9 rfl ?_
      refine v_getf 22 (ci := 11) (C := RX13) (T := TX13) (N := 71) rfl iwX13_corners_X13 (Nat.le_of_ble_eq_true rfl) (by decide +kernel) dX13_corners_194 (by first | with_reducible assumption) (by repeat (first | with_reducible assumption | (with_reducible refine (sv_ls (by first | omega | (simp only [List.length_set]; omega))).trans ?_; exact rfl) | with_reducible refine (List.getElem?_set_ne (by decide)).trans ?_)) ?_
      refine v_aload_n dX13_corners_197 rfl 9 rfl ?_
      refine v_getf 58 (ci := 11) (C := RX13) (T := TX13) (N := 71) rfl iwX13_corners_X13 (Nat.le_of_ble_eq_true rfl) (by decide +kernel) dX13_corners_198 (by first | with_reducible assumption) (by repeat (first | with_reducible assumption | (with_reducible refine (sv_ls (by first | omega | (simp only [List.length_set]; omega))).trans ?_; exact rfl) | with_reducible refine (List.getElem?_set_ne (by decide)).trans ?_)) ?_
      refine v_laldS (v := jN x3.toInt) dX13_corners_201 (by first | with_reducible assumption) (vp_in_nI (by omega) (by omega)) (by rw [nI_clamp (by omega)]; exact r36a) ?_
      refine v_lmul dX13_corners_202 ?_
      rw [← jN_mul]
      refine v_lcmp_ge (tgt := 291) dX13_corners_203 dX13_corners_204 (by decide) (fun c_204 => ?_) (fun c_204 => ?_)
      · refine v_sub (L' := [(4, _), (3, _), (2, _), (1, _), (0, _)]) [5, 6, 7, 8, 9] rfl ?_
        first
          | (have c9 := T1
             refine hk h1 fs1 u1 u2 u3 u4 ?_
             have g1 := (jN_lt (by omega) (by omega) (by omega) (by omega)).mp (Int64.not_le.mp c_204)
             have g2 := (jN_lt (a := 0) (by omega) (by omega) (by omega) (by omega)).mp (Int64.not_le.mp c_169)
             rw [rgm_s, ← List.append_assoc]
             by_cases hU : (0 < ((cc w jj).2 - (cc v ii).2) ∧ (fxM (twS (cc v) (n v)) (cc v) (n v) ii 0 1 ∧ fxM (twS (cc w) (n w)) (cc w) (n w) jj 2 3))
             · rw [show (cnR (mvW mp ((O.getD o ([], 0)).1.take d)) x3.toInt (pg v : Int) (pg w : Int) (mc : Int) (fxM (twS (cc v) (n v)) (cc v) (n v) ii 0 1 ∧ fxM (twS (cc w) (n w)) (cc w) (n w) jj 2 3) (fxM (twS (cc v) (n v)) (cc v) (n v) ii 3 0 ∧ fxM (twS (cc w) (n w)) (cc w) (n w) jj 1 2) (cc v ii) (cc w jj)) = [_] from if_pos ⟨g2, Or.inl hU, g1⟩, Int.min_eq_left (by omega), Int.max_eq_right (by omega)]
               first
                 | exact c9
                 | (rw [if_pos hU] at c_234; exact absurd c_234 (by decide))
                 | (rw [if_pos hU] at c_261; exact absurd c_261 (by decide))
             · have hD : (((cc w jj).2 - (cc v ii).2) < 0 ∧ (fxM (twS (cc v) (n v)) (cc v) (n v) ii 3 0 ∧ fxM (twS (cc w) (n w)) (cc w) (n w) jj 1 2)) := (by
                 first
                   | (rw [if_neg hU] at c_174; exact absurd rfl c_174)
                   | exact Decidable.of_not_not (fun e9 => c_179 (if_neg e9)))
               rw [show (cnR (mvW mp ((O.getD o ([], 0)).1.take d)) x3.toInt (pg v : Int) (pg w : Int) (mc : Int) (fxM (twS (cc v) (n v)) (cc v) (n v) ii 0 1 ∧ fxM (twS (cc w) (n w)) (cc w) (n w) jj 2 3) (fxM (twS (cc v) (n v)) (cc v) (n v) ii 3 0 ∧ fxM (twS (cc w) (n w)) (cc w) (n w) jj 1 2) (cc v ii) (cc w jj)) = [_] from if_pos ⟨g2, Or.inr hD, g1⟩, Int.min_eq_right (by omega), Int.max_eq_left (by omega)]
               first
                 | exact c9
                 | (rw [if_neg hU] at c_234; exact absurd rfl c_234)
                 | (rw [if_neg hU] at c_261; exact absurd rfl c_261))
          | (refine hk h fs hm9 hl hE fr ?_
             rw [rgm_s, show (cnR (mvW mp ((O.getD o ([], 0)).1.take d)) x3.toInt (pg v : Int) (pg w : Int) (mc : Int) (fxM (twS (cc v) (n v)) (cc v) (n v) ii 0 1 ∧ fxM (twS (cc w) (n w)) (cc w) (n w) jj 2 3) (fxM (twS (cc v) (n v)) (cc v) (n v) ii 3 0 ∧ fxM (twS (cc w) (n w)) (cc w) (n w) jj 1 2) (cc v ii) (cc w jj)) = [] from if_neg (fun r9 => ?_), List.append_nil]
             · exact T
             · first
                 | exact absurd ((jN_lt (a := 0) (by omega) (by omega) (by omega) (by omega)).mpr r9.1) (Int64.not_lt.mpr c_169)
                 | exact absurd ((jN_lt (by omega) (by omega) (by omega) (by omega)).mpr r9.2.2) (Int64.not_lt.mpr c_204)
                 | (rcases r9.2.1 with e9 | e9
                    · rw [if_pos e9] at c_174; exact absurd c_174 (by decide)
                    · rw [if_pos e9] at c_179; exact absurd c_179 (by decide)))
      · refine v_aload_n dX13_corners_207 rfl 9 rfl ?_
        refine v_getf 45 (ci := 11) (C := RX13) (T := TX13) (N := 71) rfl iwX13_corners_X13 (Nat.le_of_ble_eq_true rfl) (by decide +kernel) dX13_corners_208 (by first | with_reducible assumption) (by repeat (first | with_reducible assumption | (with_reducible refine (sv_ls (by first | omega | (simp only [List.length_set]; omega))).trans ?_; exact rfl) | with_reducible refine (List.getElem?_set_ne (by decide)).trans ?_)) ?_
        refine v_bipush (v := 17) dX13_corners_211 (by decide) ?_
        refine v_iload_n dX13_corners_213 rfl 8 rfl ?_
        refine v_imul dX13_corners_214 ?_
        refine v_iload_n dX13_corners_215 rfl 6 rfl ?_
        refine v_iadd dX13_corners_216 ?_
        rw [sv_17]
        refine v_laldS (v := jN (cc v ii).2) dX13_corners_217 (by first | with_reducible assumption) (vp_in_nI (by omega) (by omega)) (by rw [nI_clamp (by omega)]; exact q1.2) ?_
        refine v_lstore (L' := [(13, _), (11, _), (10, _), (9, _), (7, _), (5, _), (4, _), (3, _), (2, _), (1, _), (0, _)]) dX13_corners_218 (Nat.le_of_ble_eq_true rfl) rfl ?_
        refine v_aload_n dX13_corners_220 rfl 10 rfl ?_
        refine v_aload_n dX13_corners_221 rfl 10 rfl ?_
        refine v_getf 44 (ci := 11) (C := RX13) (T := TX13) (N := 71) rfl iwX13_corners_X13 (Nat.le_of_ble_eq_true rfl) (by decide +kernel) dX13_corners_222 (by first | with_reducible assumption) (by repeat (first | with_reducible assumption | (with_reducible refine (sv_ls (by first | omega | (simp only [List.length_set]; omega))).trans ?_; exact rfl) | with_reducible refine (List.getElem?_set_ne (by decide)).trans ?_)) ?_
        refine v_bipush (v := 17) dX13_corners_225 (by decide) ?_
        refine v_iload_n dX13_corners_227 rfl 9 rfl ?_
        refine v_imul dX13_corners_228 ?_
        refine v_iload_n dX13_corners_229 rfl 7 rfl ?_
        refine v_iadd dX13_corners_230 ?_
        rw [sv_17]
        refine v_laldS (v := jN (cc v ii).1) dX13_corners_231 (by first | with_reducible assumption) (vp_in_nI (by omega) (by omega)) (by rw [nI_clamp (by omega)]; exact q1.1) ?_
        refine v_iload dX13_corners_232 3 rfl ?_
        refine v_if_eq (tgt := 242) dX13_corners_234 (by decide) (fun c_234 => ?_) (fun c_234 => ?_)
        · refine v_lload dX13_corners_242 0 rfl ?_
          refine v_lload dX13_corners_244 4 rfl ?_
          refine v_ladd dX13_corners_246 ?_
          first | rw [show jN (cc v ii).2 + jN ((cc w jj).2 - (cc v ii).2) = jN (cc w jj).2 from by rw [← jN_add]; exact congrArg jN (by omega)] | skip
          refine v_aload_n dX13_corners_247 rfl 10 rfl ?_
          refine v_getf 44 (ci := 11) (C := RX13) (T := TX13) (N := 71) rfl iwX13_corners_X13 (Nat.le_of_ble_eq_true rfl) (by decide +kernel) dX13_corners_248 (by first | with_reducible assumption) (by repeat (first | with_reducible assumption | (with_reducible refine (sv_ls (by first | omega | (simp only [List.length_set]; omega))).trans ?_; exact rfl) | with_reducible refine (List.getElem?_set_ne (by decide)).trans ?_)) ?_
          refine v_bipush (v := 17) dX13_corners_251 (by decide) ?_
          refine v_iload_n dX13_corners_253 rfl 8 rfl ?_
          refine v_imul dX13_corners_254 ?_
          refine v_iload dX13_corners_255 6 rfl ?_
          refine v_iadd dX13_corners_257 ?_
          rw [sv_17]
          refine v_laldS (v := jN (cc w jj).1) dX13_corners_258 (by first | with_reducible assumption) (vp_in_nI (by omega) (by omega)) (by rw [nI_clamp (by omega)]; exact q2.1) ?_
          refine v_iload dX13_corners_259 3 rfl ?_
          refine v_if_eq (tgt := 272) dX13_corners_261 (by decide) (fun c_261 => ?_) (fun c_261 => ?_)
          · refine v_lload dX13_corners_272 0 rfl ?_
            first | rw [show jN (cc v ii).2 + jN ((cc w jj).2 - (cc v ii).2) = jN (cc w jj).2 from by rw [← jN_add]; exact congrArg jN (by omega)] | skip
            refine v_aload_n dX13_corners_274 rfl 10 rfl ?_
            refine v_getf 51 (ci := 11) (C := RX13) (T := TX13) (N := 71) rfl iwX13_corners_X13 (Nat.le_of_ble_eq_true rfl) (by decide +kernel) dX13_corners_275 (by first | with_reducible assumption) (by repeat (first | with_reducible assumption | (with_reducible refine (sv_ls (by first | omega | (simp only [List.length_set]; omega))).trans ?_; exact rfl) | with_reducible refine (List.getElem?_set_ne (by decide)).trans ?_)) ?_
            refine v_iload_n dX13_corners_278 rfl 9 rfl ?_
            refine v_ialdS (v := nI (pg v)) dX13_corners_279 (by first | with_reducible assumption) (vp_in_nI (by omega) (by omega)) (by rw [nI_clamp (by omega)]; exact sv2) ?_
            refine v_aload_n dX13_corners_280 rfl 10 rfl ?_
            refine v_getf 51 (ci := 11) (C := RX13) (T := TX13) (N := 71) rfl iwX13_corners_X13 (Nat.le_of_ble_eq_true rfl) (by decide +kernel) dX13_corners_281 (by first | with_reducible assumption) (by repeat (first | with_reducible assumption | (with_reducible refine (sv_ls (by first | omega | (simp only [List.length_set]; omega))).trans ?_; exact rfl) | with_reducible refine (List.getElem?_set_ne (by decide)).trans ?_)) ?_
            refine v_iload_n dX13_corners_284 rfl 8 rfl ?_
            refine v_ialdS (v := nI (pg w)) dX13_corners_285 (by first | with_reducible assumption) (vp_in_nI (by omega) (by omega)) (by rw [nI_clamp (by omega)]; exact sw2) ?_
            refine v_lload dX13_corners_286 1 rfl ?_
            refine v_callVq (M' := mX13_tell) (n := 7) (As := [_, _, _, _, _, _, _]) (ci := 11) (r := (RX13, TX13, 71)) gX13_corners_X13_tell rfl (by decide +kernel) ⟨(Nat.le_of_ble_eq_true rfl), (Nat.le_of_ble_eq_true rfl)⟩ rfl rfl dX13_corners_288 rfl ⟨(Nat.le_of_ble_eq_true rfl), (Nat.le_of_ble_eq_true rfl)⟩ (Nat.le_of_ble_eq_true rfl) (by first | with_reducible assumption) rfl (m_tell G _ b nc np pl R hm p3 p4 sz ly vo mp X Y hb fs0 hq0 MY O MO o ho how d hd h60 h61 mc hmc h62 hMB h fs hm9 hl hE fr _ T (cc v ii).1 _ (cc w jj).1 _ (pg v : Int) (pg w : Int) (((cc w jj).1 - (cc v ii).1) * ((cc w jj).1 - (cc v ii).1) + ((cc w jj).2 - (cc v ii).2) * ((cc w jj).2 - (cc v ii).2)) (by omega) (by omega) q3.1 (by first | exact q3.2 | exact q4.2) q4.1 (by first | exact q3.2 | exact q4.2)) (fun v9 h1 z1 hq9 => ?_)
            obtain ⟨rfl, rfl, fs1, u1, u2, u3, u4, T1⟩ := hq9
            refine v_sub (L' := [(4, _), (3, _), (2, _), (1, _), (0, _)]) [6, 7, 8, 9, 10] rfl ?_
            first
              | (have c9 := T1
                 refine hk h1 fs1 u1 u2 u3 u4 ?_
                 have g1 := (jN_lt (by omega) (by omega) (by omega) (by omega)).mp (Int64.not_le.mp c_204)
                 have g2 := (jN_lt (a := 0) (by omega) (by omega) (by omega) (by omega)).mp (Int64.not_le.mp c_169)
                 rw [rgm_s, ← List.append_assoc]
                 by_cases hU : (0 < ((cc w jj).2 - (cc v ii).2) ∧ (fxM (twS (cc v) (n v)) (cc v) (n v) ii 0 1 ∧ fxM (twS (cc w) (n w)) (cc w) (n w) jj 2 3))
                 · rw [show (cnR (mvW mp ((O.getD o ([], 0)).1.take d)) x3.toInt (pg v : Int) (pg w : Int) (mc : Int) (fxM (twS (cc v) (n v)) (cc v) (n v) ii 0 1 ∧ fxM (twS (cc w) (n w)) (cc w) (n w) jj 2 3) (fxM (twS (cc v) (n v)) (cc v) (n v) ii 3 0 ∧ fxM (twS (cc w) (n w)) (cc w) (n w) jj 1 2) (cc v ii) (cc w jj)) = [_] from if_pos ⟨g2, Or.inl hU, g1⟩, Int.min_eq_left (by omega), Int.max_eq_right (by omega)]
                   first
                     | exact c9
                     | (rw [if_pos hU] at c_234; exact absurd c_234 (by decide))
                     | (rw [if_pos hU] at c_261; exact absurd c_261 (by decide))
                 · have hD : (((cc w jj).2 - (cc v ii).2) < 0 ∧ (fxM (twS (cc v) (n v)) (cc v) (n v) ii 3 0 ∧ fxM (twS (cc w) (n w)) (cc w) (n w) jj 1 2)) := (by
                     first
                       | (rw [if_neg hU] at c_174; exact absurd rfl c_174)
                       | exact Decidable.of_not_not (fun e9 => c_179 (if_neg e9)))
                   rw [show (cnR (mvW mp ((O.getD o ([], 0)).1.take d)) x3.toInt (pg v : Int) (pg w : Int) (mc : Int) (fxM (twS (cc v) (n v)) (cc v) (n v) ii 0 1 ∧ fxM (twS (cc w) (n w)) (cc w) (n w) jj 2 3) (fxM (twS (cc v) (n v)) (cc v) (n v) ii 3 0 ∧ fxM (twS (cc w) (n w)) (cc w) (n w) jj 1 2) (cc v ii) (cc w jj)) = [_] from if_pos ⟨g2, Or.inr hD, g1⟩, Int.min_eq_right (by omega), Int.max_eq_left (by omega)]
                   first
                     | exact c9
                     | (rw [if_neg hU] at c_234; exact absurd rfl c_234)
                     | (rw [if_neg hU] at c_261; exact absurd rfl c_261))
              | (refine hk h fs hm9 hl hE fr ?_
                 rw [rgm_s, show (cnR (mvW mp ((O.getD o ([], 0)).1.take d)) x3.toInt (pg v : Int) (pg w : Int) (mc : Int) (fxM (twS (cc v) (n v)) (cc v) (n v) ii 0 1 ∧ fxM (twS (cc w) (n w)) (cc w) (n w) jj 2 3) (fxM (twS (cc v) (n v)) (cc v) (n v) ii 3 0 ∧ fxM (twS (cc w) (n w)) (cc w) (n w) jj 1 2) (cc v ii) (cc w jj)) = [] from if_neg (fun r9 => ?_), List.append_nil]
                 · exact T
                 · first
                     | exact absurd ((jN_lt (a := 0) (by omega) (by omega) (by omega) (by omega)).mpr r9.1) (Int64.not_lt.mpr c_169)
                     | exact absurd ((jN_lt (by omega) (by omega) (by omega) (by omega)).mpr r9.2.2) (Int64.not_lt.mpr c_204)
                     | (rcases r9.2.1 with e9 | e9
                        · rw [if_pos e9] at c_174; exact absurd c_174 (by decide)
                        · rw [if_pos e9] at c_179; exact absurd c_179 (by decide)))
          · refine v_lload dX13_corners_264 0 rfl ?_
            refine v_lload dX13_corners_266 4 rfl ?_
            refine v_ladd dX13_corners_268 ?_
            refine v_goto (tgt := 274) dX13_corners_269 (by decide) ?_
            first | rw [show jN (cc v ii).2 + jN ((cc w jj).2 - (cc v ii).2) = jN (cc w jj).2 from by rw [← jN_add]; exact congrArg jN (by omega)] | skip
            refine v_aload_n dX13_corners_274 rfl 10 rfl ?_
            refine v_getf 51 (ci := 11) (C := RX13) (T := TX13) (N := 71) rfl iwX13_corners_X13 (Nat.le_of_ble_eq_true rfl) (by decide +kernel) dX13_corners_275 (by first | with_reducible assumption) (by repeat (first | with_reducible assumption | (with_reducible refine (sv_ls (by first | omega | (simp only [List.length_set]; omega))).trans ?_; exact rfl) | with_reducible refine (List.getElem?_set_ne (by decide)).trans ?_)) ?_
            refine v_iload_n dX13_corners_278 rfl 9 rfl ?_
            refine v_ialdS (v := nI (pg v)) dX13_corners_279 (by first | with_reducible assumption) (vp_in_nI (by omega) (by omega)) (by rw [nI_clamp (by omega)]; exact sv2) ?_
            refine v_aload_n dX13_corners_280 rfl 10 rfl ?_
            refine v_getf 51 (ci := 11) (C := RX13) (T := TX13) (N := 71) rfl iwX13_corners_X13 (Nat.le_of_ble_eq_true rfl) (by decide +kernel) dX13_corners_281 (by first | with_reducible assumption) (by repeat (first | with_reducible assumption | (with_reducible refine (sv_ls (by first | omega | (simp only [List.length_set]; omega))).trans ?_; exact rfl) | with_reducible refine (List.getElem?_set_ne (by decide)).trans ?_)) ?_
            refine v_iload_n dX13_corners_284 rfl 8 rfl ?_
            refine v_ialdS (v := nI (pg w)) dX13_corners_285 (by first | with_reducible assumption) (vp_in_nI (by omega) (by omega)) (by rw [nI_clamp (by omega)]; exact sw2) ?_
            refine v_lload dX13_corners_286 1 rfl ?_
            refine v_callVq (M' := mX13_tell) (n := 7) (As := [_, _, _, _, _, _, _]) (ci := 11) (r := (RX13, TX13, 71)) gX13_corners_X13_tell rfl (by decide +kernel) ⟨(Nat.le_of_ble_eq_true rfl), (Nat.le_of_ble_eq_true rfl)⟩ rfl rfl dX13_corners_288 rfl ⟨(Nat.le_of_ble_eq_true rfl), (Nat.le_of_ble_eq_true rfl)⟩ (Nat.le_of_ble_eq_true rfl) (by first | with_reducible assumption) rfl (m_tell G _ b nc np pl R hm p3 p4 sz ly vo mp X Y hb fs0 hq0 MY O MO o ho how d hd h60 h61 mc hmc h62 hMB h fs hm9 hl hE fr _ T (cc v ii).1 _ (cc w jj).1 _ (pg v : Int) (pg w : Int) (((cc w jj).1 - (cc v ii).1) * ((cc w jj).1 - (cc v ii).1) + ((cc w jj).2 - (cc v ii).2) * ((cc w jj).2 - (cc v ii).2)) (by omega) (by omega) q3.1 (by first | exact q3.2 | exact q4.2) q4.1 (by first | exact q3.2 | exact q4.2)) (fun v9 h1 z1 hq9 => ?_)
            obtain ⟨rfl, rfl, fs1, u1, u2, u3, u4, T1⟩ := hq9
            refine v_sub (L' := [(4, _), (3, _), (2, _), (1, _), (0, _)]) [6, 7, 8, 9, 10] rfl ?_
            first
              | (have c9 := T1
                 refine hk h1 fs1 u1 u2 u3 u4 ?_
                 have g1 := (jN_lt (by omega) (by omega) (by omega) (by omega)).mp (Int64.not_le.mp c_204)
                 have g2 := (jN_lt (a := 0) (by omega) (by omega) (by omega) (by omega)).mp (Int64.not_le.mp c_169)
                 rw [rgm_s, ← List.append_assoc]
                 by_cases hU : (0 < ((cc w jj).2 - (cc v ii).2) ∧ (fxM (twS (cc v) (n v)) (cc v) (n v) ii 0 1 ∧ fxM (twS (cc w) (n w)) (cc w) (n w) jj 2 3))
                 · rw [show (cnR (mvW mp ((O.getD o ([], 0)).1.take d)) x3.toInt (pg v : Int) (pg w : Int) (mc : Int) (fxM (twS (cc v) (n v)) (cc v) (n v) ii 0 1 ∧ fxM (twS (cc w) (n w)) (cc w) (n w) jj 2 3) (fxM (twS (cc v) (n v)) (cc v) (n v) ii 3 0 ∧ fxM (twS (cc w) (n w)) (cc w) (n w) jj 1 2) (cc v ii) (cc w jj)) = [_] from if_pos ⟨g2, Or.inl hU, g1⟩, Int.min_eq_left (by omega), Int.max_eq_right (by omega)]
                   first
                     | exact c9
                     | (rw [if_pos hU] at c_234; exact absurd c_234 (by decide))
                     | (rw [if_pos hU] at c_261; exact absurd c_261 (by decide))
                 · have hD : (((cc w jj).2 - (cc v ii).2) < 0 ∧ (fxM (twS (cc v) (n v)) (cc v) (n v) ii 3 0 ∧ fxM (twS (cc w) (n w)) (cc w) (n w) jj 1 2)) := (by
                     first
                       | (rw [if_neg hU] at c_174; exact absurd rfl c_174)
                       | exact Decidable.of_not_not (fun e9 => c_179 (if_neg e9)))
                   rw [show (cnR (mvW mp ((O.getD o ([], 0)).1.take d)) x3.toInt (pg v : Int) (pg w : Int) (mc : Int) (fxM (twS (cc v) (n v)) (cc v) (n v) ii 0 1 ∧ fxM (twS (cc w) (n w)) (cc w) (n w) jj 2 3) (fxM (twS (cc v) (n v)) (cc v) (n v) ii 3 0 ∧ fxM (twS (cc w) (n w)) (cc w) (n w) jj 1 2) (cc v ii) (cc w jj)) = [_] from if_pos ⟨g2, Or.inr hD, g1⟩, Int.min_eq_right (by omega), Int.max_eq_left (by omega)]
                   first
                     | exact c9
                     | (rw [if_neg hU] at c_234; exact absurd rfl c_234)
                     | (rw [if_neg hU] at c_261; exact absurd rfl c_261))
              | (refine hk h fs hm9 hl hE fr ?_
                 rw [rgm_s, show (cnR (mvW mp ((O.getD o ([], 0)).1.take d)) x3.toInt (pg v : Int) (pg w : Int) (mc : Int) (fxM (twS (cc v) (n v)) (cc v) (n v) ii 0 1 ∧ fxM (twS (cc w) (n w)) (cc w) (n w) jj 2 3) (fxM (twS (cc v) (n v)) (cc v) (n v) ii 3 0 ∧ fxM (twS (cc w) (n w)) (cc w) (n w) jj 1 2) (cc v ii) (cc w jj)) = [] from if_neg (fun r9 => ?_), List.append_nil]
                 · exact T
                 · first
                     | exact absurd ((jN_lt (a := 0) (by omega) (by omega) (by omega) (by omega)).mpr r9.1) (Int64.not_lt.mpr c_169)
                     | exact absurd ((jN_lt (by omega) (by omega) (by omega) (by omega)).mpr r9.2.2) (Int64.not_lt.mpr c_204)
                     | (rcases r9.2.1 with e9 | e9
                        · rw [if_pos e9] at c_174; exact absurd c_174 (by decide)
                        · rw [if_pos e9] at c_179; exact absurd c_179 (by decide)))
        · refine v_lload dX13_corners_237 0 rfl ?_
          refine v_goto (tgt := 247) dX13_corners_239 (by decide) ?_
          first | rw [show jN (cc v ii).2 + jN ((cc w jj).2 - (cc v ii).2) = jN (cc w jj).2 from by rw [← jN_add]; exact congrArg jN (by omega)] | skip
          refine v_aload_n dX13_corners_247 rfl 10 rfl ?_
          refine v_getf 44 (ci := 11) (C := RX13) (T := TX13) (N := 71) rfl iwX13_corners_X13 (Nat.le_of_ble_eq_true rfl) (by decide +kernel) dX13_corners_248 (by first | with_reducible assumption) (by repeat (first | with_reducible assumption | (with_reducible refine (sv_ls (by first | omega | (simp only [List.length_set]; omega))).trans ?_; exact rfl) | with_reducible refine (List.getElem?_set_ne (by decide)).trans ?_)) ?_
          refine v_bipush (v := 17) dX13_corners_251 (by decide) ?_
          refine v_iload_n dX13_corners_253 rfl 8 rfl ?_
          refine v_imul dX13_corners_254 ?_
          refine v_iload dX13_corners_255 6 rfl ?_
          refine v_iadd dX13_corners_257 ?_
          rw [sv_17]
          refine v_laldS (v := jN (cc w jj).1) dX13_corners_258 (by first | with_reducible assumption) (vp_in_nI (by omega) (by omega)) (by rw [nI_clamp (by omega)]; exact q2.1) ?_
          refine v_iload dX13_corners_259 3 rfl ?_
          refine v_if_eq (tgt := 272) dX13_corners_261 (by decide) (fun c_261 => ?_) (fun c_261 => ?_)
          · refine v_lload dX13_corners_272 0 rfl ?_
            first | rw [show jN (cc v ii).2 + jN ((cc w jj).2 - (cc v ii).2) = jN (cc w jj).2 from by rw [← jN_add]; exact congrArg jN (by omega)] | skip
            refine v_aload_n dX13_corners_274 rfl 10 rfl ?_
            refine v_getf 51 (ci := 11) (C := RX13) (T := TX13) (N := 71) rfl iwX13_corners_X13 (Nat.le_of_ble_eq_true rfl) (by decide +kernel) dX13_corners_275 (by first | with_reducible assumption) (by repeat (first | with_reducible assumption | (with_reducible refine (sv_ls (by first | omega | (simp only [List.length_set]; omega))).trans ?_; exact rfl) | with_reducible refine (List.getElem?_set_ne (by decide)).trans ?_)) ?_
            refine v_iload_n dX13_corners_278 rfl 9 rfl ?_
            refine v_ialdS (v := nI (pg v)) dX13_corners_279 (by first | with_reducible assumption) (vp_in_nI (by omega) (by omega)) (by rw [nI_clamp (by omega)]; exact sv2) ?_
            refine v_aload_n dX13_corners_280 rfl 10 rfl ?_
            refine v_getf 51 (ci := 11) (C := RX13) (T := TX13) (N := 71) rfl iwX13_corners_X13 (Nat.le_of_ble_eq_true rfl) (by decide +kernel) dX13_corners_281 (by first | with_reducible assumption) (by repeat (first | with_reducible assumption | (with_reducible refine (sv_ls (by first | omega | (simp only [List.length_set]; omega))).trans ?_; exact rfl) | with_reducible refine (List.getElem?_set_ne (by decide)).trans ?_)) ?_
            refine v_iload_n dX13_corners_284 rfl 8 rfl ?_
            refine v_ialdS (v := nI (pg w)) dX13_corners_285 (by first | with_reducible assumption) (vp_in_nI (by omega) (by omega)) (by rw [nI_clamp (by omega)]; exact sw2) ?_
            refine v_lload dX13_corners_286 1 rfl ?_
            refine v_callVq (M' := mX13_tell) (n := 7) (As := [_, _, _, _, _, _, _]) (ci := 11) (r := (RX13, TX13, 71)) gX13_corners_X13_tell rfl (by decide +kernel) ⟨(Nat.le_of_ble_eq_true rfl), (Nat.le_of_ble_eq_true rfl)⟩ rfl rfl dX13_corners_288 rfl ⟨(Nat.le_of_ble_eq_true rfl), (Nat.le_of_ble_eq_true rfl)⟩ (Nat.le_of_ble_eq_true rfl) (by first | with_reducible assumption) rfl (m_tell G _ b nc np pl R hm p3 p4 sz ly vo mp X Y hb fs0 hq0 MY O MO o ho how d hd h60 h61 mc hmc h62 hMB h fs hm9 hl hE fr _ T (cc v ii).1 _ (cc w jj).1 _ (pg v : Int) (pg w : Int) (((cc w jj).1 - (cc v ii).1) * ((cc w jj).1 - (cc v ii).1) + ((cc w jj).2 - (cc v ii).2) * ((cc w jj).2 - (cc v ii).2)) (by omega) (by omega) q3.1 (by first | exact q3.2 | exact q4.2) q4.1 (by first | exact q3.2 | exact q4.2)) (fun v9 h1 z1 hq9 => ?_)
            obtain ⟨rfl, rfl, fs1, u1, u2, u3, u4, T1⟩ := hq9
            refine v_sub (L' := [(4, _), (3, _), (2, _), (1, _), (0, _)]) [6, 7, 8, 9, 10] rfl ?_
            first
              | (have c9 := T1
                 refine hk h1 fs1 u1 u2 u3 u4 ?_
                 have g1 := (jN_lt (by omega) (by omega) (by omega) (by omega)).mp (Int64.not_le.mp c_204)
                 have g2 := (jN_lt (a := 0) (by omega) (by omega) (by omega) (by omega)).mp (Int64.not_le.mp c_169)
                 rw [rgm_s, ← List.append_assoc]
                 by_cases hU : (0 < ((cc w jj).2 - (cc v ii).2) ∧ (fxM (twS (cc v) (n v)) (cc v) (n v) ii 0 1 ∧ fxM (twS (cc w) (n w)) (cc w) (n w) jj 2 3))
                 · rw [show (cnR (mvW mp ((O.getD o ([], 0)).1.take d)) x3.toInt (pg v : Int) (pg w : Int) (mc : Int) (fxM (twS (cc v) (n v)) (cc v) (n v) ii 0 1 ∧ fxM (twS (cc w) (n w)) (cc w) (n w) jj 2 3) (fxM (twS (cc v) (n v)) (cc v) (n v) ii 3 0 ∧ fxM (twS (cc w) (n w)) (cc w) (n w) jj 1 2) (cc v ii) (cc w jj)) = [_] from if_pos ⟨g2, Or.inl hU, g1⟩, Int.min_eq_left (by omega), Int.max_eq_right (by omega)]
                   first
                     | exact c9
                     | (rw [if_pos hU] at c_234; exact absurd c_234 (by decide))
                     | (rw [if_pos hU] at c_261; exact absurd c_261 (by decide))
                 · have hD : (((cc w jj).2 - (cc v ii).2) < 0 ∧ (fxM (twS (cc v) (n v)) (cc v) (n v) ii 3 0 ∧ fxM (twS (cc w) (n w)) (cc w) (n w) jj 1 2)) := (by
                     first
                       | (rw [if_neg hU] at c_174; exact absurd rfl c_174)
                       | exact Decidable.of_not_not (fun e9 => c_179 (if_neg e9)))
                   rw [show (cnR (mvW mp ((O.getD o ([], 0)).1.take d)) x3.toInt (pg v : Int) (pg w : Int) (mc : Int) (fxM (twS (cc v) (n v)) (cc v) (n v) ii 0 1 ∧ fxM (twS (cc w) (n w)) (cc w) (n w) jj 2 3) (fxM (twS (cc v) (n v)) (cc v) (n v) ii 3 0 ∧ fxM (twS (cc w) (n w)) (cc w) (n w) jj 1 2) (cc v ii) (cc w jj)) = [_] from if_pos ⟨g2, Or.inr hD, g1⟩, Int.min_eq_right (by omega), Int.max_eq_left (by omega)]
                   first
                     | exact c9
                     | (rw [if_neg hU] at c_234; exact absurd rfl c_234)
                     | (rw [if_neg hU] at c_261; exact absurd rfl c_261))
              | (refine hk h fs hm9 hl hE fr ?_
                 rw [rgm_s, show (cnR (mvW mp ((O.getD o ([], 0)).1.take d)) x3.toInt (pg v : Int) (pg w : Int) (mc : Int) (fxM (twS (cc v) (n v)) (cc v) (n v) ii 0 1 ∧ fxM (twS (cc w) (n w)) (cc w) (n w) jj 2 3) (fxM (twS (cc v) (n v)) (cc v) (n v) ii 3 0 ∧ fxM (twS (cc w) (n w)) (cc w) (n w) jj 1 2) (cc v ii) (cc w jj)) = [] from if_neg (fun r9 => ?_), List.append_nil]
                 · exact T
                 · first
                     | exact absurd ((jN_lt (a := 0) (by omega) (by omega) (by omega) (by omega)).mpr r9.1) (Int64.not_lt.mpr c_169)
                     | exact absurd ((jN_lt (by omega) (by omega) (by omega) (by omega)).mpr r9.2.2) (Int64.not_lt.mpr c_204)
                     | (rcases r9.2.1 with e9 | e9
                        · rw [if_pos e9] at c_174; exact absurd c_174 (by decide)
                        · rw [if_pos e9] at c_179; exact absurd c_179 (by decide)))
          · refine v_lload dX13_corners_264 0 rfl ?_
            refine v_lload dX13_corners_266 4 rfl ?_
            refine v_ladd dX13_corners_268 ?_
            refine v_goto (tgt := 274) dX13_corners_269 (by decide) ?_
            first | rw [show jN (cc v ii).2 + jN ((cc w jj).2 - (cc v ii).2) = jN (cc w jj).2 from by rw [← jN_add]; exact congrArg jN (by omega)] | skip
            refine v_aload_n dX13_corners_274 rfl 10 rfl ?_
            refine v_getf 51 (ci := 11) (C := RX13) (T := TX13) (N := 71) rfl iwX13_corners_X13 (Nat.le_of_ble_eq_true rfl) (by decide +kernel) dX13_corners_275 (by first | with_reducible assumption) (by repeat (first | with_reducible assumption | (with_reducible refine (sv_ls (by first | omega | (simp only [List.length_set]; omega))).trans ?_; exact rfl) | with_reducible refine (List.getElem?_set_ne (by decide)).trans ?_)) ?_
            refine v_iload_n dX13_corners_278 rfl 9 rfl ?_
            refine v_ialdS (v := nI (pg v)) dX13_corners_279 (by first | with_reducible assumption) (vp_in_nI (by omega) (by omega)) (by rw [nI_clamp (by omega)]; exact sv2) ?_
            refine v_aload_n dX13_corners_280 rfl 10 rfl ?_
            refine v_getf 51 (ci := 11) (C := RX13) (T := TX13) (N := 71) rfl iwX13_corners_X13 (Nat.le_of_ble_eq_true rfl) (by decide +kernel) dX13_corners_281 (by first | with_reducible assumption) (by repeat (first | with_reducible assumption | (with_reducible refine (sv_ls (by first | omega | (simp only [List.length_set]; omega))).trans ?_; exact rfl) | with_reducible refine (List.getElem?_set_ne (by decide)).trans ?_)) ?_
            refine v_iload_n dX13_corners_284 rfl 8 rfl ?_
            refine v_ialdS (v := nI (pg w)) dX13_corners_285 (by first | with_reducible assumption) (vp_in_nI (by omega) (by omega)) (by rw [nI_clamp (by omega)]; exact sw2) ?_
            refine v_lload dX13_corners_286 1 rfl ?_
            refine v_callVq (M' := mX13_tell) (n := 7) (As := [_, _, _, _, _, _, _]) (ci := 11) (r := (RX13, TX13, 71)) gX13_corners_X13_tell rfl (by decide +kernel) ⟨(Nat.le_of_ble_eq_true rfl), (Nat.le_of_ble_eq_true rfl)⟩ rfl rfl dX13_corners_288 rfl ⟨(Nat.le_of_ble_eq_true rfl), (Nat.le_of_ble_eq_true rfl)⟩ (Nat.le_of_ble_eq_true rfl) (by first | with_reducible assumption) rfl (m_tell G _ b nc np pl R hm p3 p4 sz ly vo mp X Y hb fs0 hq0 MY O MO o ho how d hd h60 h61 mc hmc h62 hMB h fs hm9 hl hE fr _ T (cc v ii).1 _ (cc w jj).1 _ (pg v : Int) (pg w : Int) (((cc w jj).1 - (cc v ii).1) * ((cc w jj).1 - (cc v ii).1) + ((cc w jj).2 - (cc v ii).2) * ((cc w jj).2 - (cc v ii).2)) (by omega) (by omega) q3.1 (by first | exact q3.2 | exact q4.2) q4.1 (by first | exact q3.2 | exact q4.2)) (fun v9 h1 z1 hq9 => ?_)
            obtain ⟨rfl, rfl, fs1, u1, u2, u3, u4, T1⟩ := hq9
            refine v_sub (L' := [(4, _), (3, _), (2, _), (1, _), (0, _)]) [6, 7, 8, 9, 10] rfl ?_
            first
              | (have c9 := T1
                 refine hk h1 fs1 u1 u2 u3 u4 ?_
                 have g1 := (jN_lt (by omega) (by omega) (by omega) (by omega)).mp (Int64.not_le.mp c_204)
                 have g2 := (jN_lt (a := 0) (by omega) (by omega) (by omega) (by omega)).mp (Int64.not_le.mp c_169)
                 rw [rgm_s, ← List.append_assoc]
                 by_cases hU : (0 < ((cc w jj).2 - (cc v ii).2) ∧ (fxM (twS (cc v) (n v)) (cc v) (n v) ii 0 1 ∧ fxM (twS (cc w) (n w)) (cc w) (n w) jj 2 3))
                 · rw [show (cnR (mvW mp ((O.getD o ([], 0)).1.take d)) x3.toInt (pg v : Int) (pg w : Int) (mc : Int) (fxM (twS (cc v) (n v)) (cc v) (n v) ii 0 1 ∧ fxM (twS (cc w) (n w)) (cc w) (n w) jj 2 3) (fxM (twS (cc v) (n v)) (cc v) (n v) ii 3 0 ∧ fxM (twS (cc w) (n w)) (cc w) (n w) jj 1 2) (cc v ii) (cc w jj)) = [_] from if_pos ⟨g2, Or.inl hU, g1⟩, Int.min_eq_left (by omega), Int.max_eq_right (by omega)]
                   first
                     | exact c9
                     | (rw [if_pos hU] at c_234; exact absurd c_234 (by decide))
                     | (rw [if_pos hU] at c_261; exact absurd c_261 (by decide))
                 · have hD : (((cc w jj).2 - (cc v ii).2) < 0 ∧ (fxM (twS (cc v) (n v)) (cc v) (n v) ii 3 0 ∧ fxM (twS (cc w) (n w)) (cc w) (n w) jj 1 2)) := (by
                     first
                       | (rw [if_neg hU] at c_174; exact absurd rfl c_174)
                       | exact Decidable.of_not_not (fun e9 => c_179 (if_neg e9)))
                   rw [show (cnR (mvW mp ((O.getD o ([], 0)).1.take d)) x3.toInt (pg v : Int) (pg w : Int) (mc : Int) (fxM (twS (cc v) (n v)) (cc v) (n v) ii 0 1 ∧ fxM (twS (cc w) (n w)) (cc w) (n w) jj 2 3) (fxM (twS (cc v) (n v)) (cc v) (n v) ii 3 0 ∧ fxM (twS (cc w) (n w)) (cc w) (n w) jj 1 2) (cc v ii) (cc w jj)) = [_] from if_pos ⟨g2, Or.inr hD, g1⟩, Int.min_eq_right (by omega), Int.max_eq_left (by omega)]
                   first
                     | exact c9
                     | (rw [if_neg hU] at c_234; exact absurd rfl c_234)
                     | (rw [if_neg hU] at c_261; exact absurd rfl c_261))
              | (refine hk h fs hm9 hl hE fr ?_
                 rw [rgm_s, show (cnR (mvW mp ((O.getD o ([], 0)).1.take d)) x3.toInt (pg v : Int) (pg w : Int) (mc : Int) (fxM (twS (cc v) (n v)) (cc v) (n v) ii 0 1 ∧ fxM (twS (cc w) (n w)) (cc w) (n w) jj 2 3) (fxM (twS (cc v) (n v)) (cc v) (n v) ii 3 0 ∧ fxM (twS (cc w) (n w)) (cc w) (n w) jj 1 2) (cc v ii) (cc w jj)) = [] from if_neg (fun r9 => ?_), List.append_nil]
                 · exact T
                 · first
                     | exact absurd ((jN_lt (a := 0) (by omega) (by omega) (by omega) (by omega)).mpr r9.1) (Int64.not_lt.mpr c_169)
                     | exact absurd ((jN_lt (by omega) (by omega) (by omega) (by omega)).mpr r9.2.2) (Int64.not_lt.mpr c_204)
                     | (rcases r9.2.1 with e9 | e9
                        · rw [if_pos e9] at c_174; exact absurd c_174 (by decide)
                        · rw [if_pos e9] at c_179; exact absurd c_179 (by decide)))
    · refine v_iload dX13_corners_177 1 rfl ?_
      refine v_if_eq (tgt := 291) dX13_corners_179 (by decide) (fun c_179 => ?_) (fun c_179 => ?_)
      · refine v_sub (L' := [(4, _), (3, _), (2, _), (1, _), (0, _)]) [5, 6, 7, 8, 9] rfl ?_
        first
          | (have c9 := T1
             refine hk h1 fs1 u1 u2 u3 u4 ?_
             have g1 := (jN_lt (by omega) (by omega) (by omega) (by omega)).mp (Int64.not_le.mp c_204)
             have g2 := (jN_lt (a := 0) (by omega) (by omega) (by omega) (by omega)).mp (Int64.not_le.mp c_169)
             rw [rgm_s, ← List.append_assoc]
             by_cases hU : (0 < ((cc w jj).2 - (cc v ii).2) ∧ (fxM (twS (cc v) (n v)) (cc v) (n v) ii 0 1 ∧ fxM (twS (cc w) (n w)) (cc w) (n w) jj 2 3))
             · rw [show (cnR (mvW mp ((O.getD o ([], 0)).1.take d)) x3.toInt (pg v : Int) (pg w : Int) (mc : Int) (fxM (twS (cc v) (n v)) (cc v) (n v) ii 0 1 ∧ fxM (twS (cc w) (n w)) (cc w) (n w) jj 2 3) (fxM (twS (cc v) (n v)) (cc v) (n v) ii 3 0 ∧ fxM (twS (cc w) (n w)) (cc w) (n w) jj 1 2) (cc v ii) (cc w jj)) = [_] from if_pos ⟨g2, Or.inl hU, g1⟩, Int.min_eq_left (by omega), Int.max_eq_right (by omega)]
               first
                 | exact c9
                 | (rw [if_pos hU] at c_234; exact absurd c_234 (by decide))
                 | (rw [if_pos hU] at c_261; exact absurd c_261 (by decide))
             · have hD : (((cc w jj).2 - (cc v ii).2) < 0 ∧ (fxM (twS (cc v) (n v)) (cc v) (n v) ii 3 0 ∧ fxM (twS (cc w) (n w)) (cc w) (n w) jj 1 2)) := (by
                 first
                   | (rw [if_neg hU] at c_174; exact absurd rfl c_174)
                   | exact Decidable.of_not_not (fun e9 => c_179 (if_neg e9)))
               rw [show (cnR (mvW mp ((O.getD o ([], 0)).1.take d)) x3.toInt (pg v : Int) (pg w : Int) (mc : Int) (fxM (twS (cc v) (n v)) (cc v) (n v) ii 0 1 ∧ fxM (twS (cc w) (n w)) (cc w) (n w) jj 2 3) (fxM (twS (cc v) (n v)) (cc v) (n v) ii 3 0 ∧ fxM (twS (cc w) (n w)) (cc w) (n w) jj 1 2) (cc v ii) (cc w jj)) = [_] from if_pos ⟨g2, Or.inr hD, g1⟩, Int.min_eq_right (by omega), Int.max_eq_left (by omega)]
               first
                 | exact c9
                 | (rw [if_neg hU] at c_234; exact absurd rfl c_234)
                 | (rw [if_neg hU] at c_261; exact absurd rfl c_261))
          | (refine hk h fs hm9 hl hE fr ?_
             rw [rgm_s, show (cnR (mvW mp ((O.getD o ([], 0)).1.take d)) x3.toInt (pg v : Int) (pg w : Int) (mc : Int) (fxM (twS (cc v) (n v)) (cc v) (n v) ii 0 1 ∧ fxM (twS (cc w) (n w)) (cc w) (n w) jj 2 3) (fxM (twS (cc v) (n v)) (cc v) (n v) ii 3 0 ∧ fxM (twS (cc w) (n w)) (cc w) (n w) jj 1 2) (cc v ii) (cc w jj)) = [] from if_neg (fun r9 => ?_), List.append_nil]
             · exact T
             · first
                 | exact absurd ((jN_lt (a := 0) (by omega) (by omega) (by omega) (by omega)).mpr r9.1) (Int64.not_lt.mpr c_169)
                 | exact absurd ((jN_lt (by omega) (by omega) (by omega) (by omega)).mpr r9.2.2) (Int64.not_lt.mpr c_204)
                 | (rcases r9.2.1 with e9 | e9
                    · rw [if_pos e9] at c_174; exact absurd c_174 (by decide)
                    · rw [if_pos e9] at c_179; exact absurd c_179 (by decide)))
      · refine v_lload dX13_corners_182 0 rfl ?_
        refine v_aload_n dX13_corners_184 rfl 9 rfl ?_
        refine v_getf 22 (ci := 11) (C := RX13) (T := TX13) (N := 71) rfl iwX13_corners_X13 (Nat.le_of_ble_eq_true rfl) (by decide +kernel) dX13_corners_185 (by first | with_reducible assumption) (by repeat (first | with_reducible assumption | (with_reducible refine (sv_ls (by first | omega | (simp only [List.length_set]; omega))).trans ?_; exact rfl) | with_reducible refine (List.getElem?_set_ne (by decide)).trans ?_)) ?_
        refine v_aload_n dX13_corners_188 rfl 9 rfl ?_
        refine v_getf 58 (ci := 11) (C := RX13) (T := TX13) (N := 71) rfl iwX13_corners_X13 (Nat.le_of_ble_eq_true rfl) (by decide +kernel) dX13_corners_189 (by first | with_reducible assumption) (by repeat (first | with_reducible assumption | (with_reducible refine (sv_ls (by first | omega | (simp only [List.length_set]; omega))).trans ?_; exact rfl) | with_reducible refine (List.getElem?_set_ne (by decide)).trans ?_)) ?_
        refine v_laldS (v := jN x3.toInt) dX13_corners_192 (by first | with_reducible assumption) (vp_in_nI (by omega) (by omega)) (by rw [nI_clamp (by omega)]; exact r36a) ?_
        refine v_aload_n dX13_corners_193 rfl 9 rfl ?_
        refine v_getf 22 (ci := 11) (C := RX13) (T := TX13) (N := 71) rfl iwX13_corners_X13 (Nat.le_of_ble_eq_true rfl) (by decide +kernel) dX13_corners_194 (by first | with_reducible assumption) (by repeat (first | with_reducible assumption | (with_reducible refine (sv_ls (by first | omega | (simp only [List.length_set]; omega))).trans ?_; exact rfl) | with_reducible refine (List.getElem?_set_ne (by decide)).trans ?_)) ?_
        refine v_aload_n dX13_corners_197 rfl 9 rfl ?_
        refine v_getf 58 (ci := 11) (C := RX13) (T := TX13) (N := 71) rfl iwX13_corners_X13 (Nat.le_of_ble_eq_true rfl) (by decide +kernel) dX13_corners_198 (by first | with_reducible assumption) (by repeat (first | with_reducible assumption | (with_reducible refine (sv_ls (by first | omega | (simp only [List.length_set]; omega))).trans ?_; exact rfl) | with_reducible refine (List.getElem?_set_ne (by decide)).trans ?_)) ?_
        refine v_laldS (v := jN x3.toInt) dX13_corners_201 (by first | with_reducible assumption) (vp_in_nI (by omega) (by omega)) (by rw [nI_clamp (by omega)]; exact r36a) ?_
        refine v_lmul dX13_corners_202 ?_
        rw [← jN_mul]
        refine v_lcmp_ge (tgt := 291) dX13_corners_203 dX13_corners_204 (by decide) (fun c_204 => ?_) (fun c_204 => ?_)
        · refine v_sub (L' := [(4, _), (3, _), (2, _), (1, _), (0, _)]) [5, 6, 7, 8, 9] rfl ?_
          first
            | (have c9 := T1
               refine hk h1 fs1 u1 u2 u3 u4 ?_
               have g1 := (jN_lt (by omega) (by omega) (by omega) (by omega)).mp (Int64.not_le.mp c_204)
               have g2 := (jN_lt (a := 0) (by omega) (by omega) (by omega) (by omega)).mp (Int64.not_le.mp c_169)
               rw [rgm_s, ← List.append_assoc]
               by_cases hU : (0 < ((cc w jj).2 - (cc v ii).2) ∧ (fxM (twS (cc v) (n v)) (cc v) (n v) ii 0 1 ∧ fxM (twS (cc w) (n w)) (cc w) (n w) jj 2 3))
               · rw [show (cnR (mvW mp ((O.getD o ([], 0)).1.take d)) x3.toInt (pg v : Int) (pg w : Int) (mc : Int) (fxM (twS (cc v) (n v)) (cc v) (n v) ii 0 1 ∧ fxM (twS (cc w) (n w)) (cc w) (n w) jj 2 3) (fxM (twS (cc v) (n v)) (cc v) (n v) ii 3 0 ∧ fxM (twS (cc w) (n w)) (cc w) (n w) jj 1 2) (cc v ii) (cc w jj)) = [_] from if_pos ⟨g2, Or.inl hU, g1⟩, Int.min_eq_left (by omega), Int.max_eq_right (by omega)]
                 first
                   | exact c9
                   | (rw [if_pos hU] at c_234; exact absurd c_234 (by decide))
                   | (rw [if_pos hU] at c_261; exact absurd c_261 (by decide))
               · have hD : (((cc w jj).2 - (cc v ii).2) < 0 ∧ (fxM (twS (cc v) (n v)) (cc v) (n v) ii 3 0 ∧ fxM (twS (cc w) (n w)) (cc w) (n w) jj 1 2)) := (by
                   first
                     | (rw [if_neg hU] at c_174; exact absurd rfl c_174)
                     | exact Decidable.of_not_not (fun e9 => c_179 (if_neg e9)))
                 rw [show (cnR (mvW mp ((O.getD o ([], 0)).1.take d)) x3.toInt (pg v : Int) (pg w : Int) (mc : Int) (fxM (twS (cc v) (n v)) (cc v) (n v) ii 0 1 ∧ fxM (twS (cc w) (n w)) (cc w) (n w) jj 2 3) (fxM (twS (cc v) (n v)) (cc v) (n v) ii 3 0 ∧ fxM (twS (cc w) (n w)) (cc w) (n w) jj 1 2) (cc v ii) (cc w jj)) = [_] from if_pos ⟨g2, Or.inr hD, g1⟩, Int.min_eq_right (by omega), Int.max_eq_left (by omega)]
                 first
                   | exact c9
                   | (rw [if_neg hU] at c_234; exact absurd rfl c_234)
                   | (rw [if_neg hU] at c_261; exact absurd rfl c_261))
            | (refine hk h fs hm9 hl hE fr ?_
               rw [rgm_s, show (cnR (mvW mp ((O.getD o ([], 0)).1.take d)) x3.toInt (pg v : Int) (pg w : Int) (mc : Int) (fxM (twS (cc v) (n v)) (cc v) (n v) ii 0 1 ∧ fxM (twS (cc w) (n w)) (cc w) (n w) jj 2 3) (fxM (twS (cc v) (n v)) (cc v) (n v) ii 3 0 ∧ fxM (twS (cc w) (n w)) (cc w) (n w) jj 1 2) (cc v ii) (cc w jj)) = [] from if_neg (fun r9 => ?_), List.append_nil]
               · exact T
               · first
                   | exact absurd ((jN_lt (a := 0) (by omega) (by omega) (by omega) (by omega)).mpr r9.1) (Int64.not_lt.mpr c_169)
                   | exact absurd ((jN_lt (by omega) (by omega) (by omega) (by omega)).mpr r9.2.2) (Int64.not_lt.mpr c_204)
                   | (rcases r9.2.1 with e9 | e9
                      · rw [if_pos e9] at c_174; exact absurd c_174 (by decide)
                      · rw [if_pos e9] at c_179; exact absurd c_179 (by decide)))
        · refine v_aload_n dX13_corners_207 rfl 9 rfl ?_
          refine v_getf 45 (ci := 11) (C := RX13) (T := TX13) (N := 71) rfl iwX13_corners_X13 (Nat.le_of_ble_eq_true rfl) (by decide +kernel) dX13_corners_208 (by first | with_reducible assumption) (by repeat (first | with_reducible assumption | (with_reducible refine (sv_ls (by first | omega | (simp only [List.length_set]; omega))).trans ?_; exact rfl) | with_reducible refine (List.getElem?_set_ne (by decide)).trans ?_)) ?_
          refine v_bipush (v := 17) dX13_corners_211 (by decide) ?_
          refine v_iload_n dX13_corners_213 rfl 8 rfl ?_
          refine v_imul dX13_corners_214 ?_
          refine v_iload_n dX13_corners_215 rfl 6 rfl ?_
          refine v_iadd dX13_corners_216 ?_
          rw [sv_17]
          refine v_laldS (v := jN (cc v ii).2) dX13_corners_217 (by first | with_reducible assumption) (vp_in_nI (by omega) (by omega)) (by rw [nI_clamp (by omega)]; exact q1.2) ?_
          refine v_lstore (L' := [(13, _), (11, _), (10, _), (9, _), (7, _), (5, _), (4, _), (3, _), (2, _), (1, _), (0, _)]) dX13_corners_218 (Nat.le_of_ble_eq_true rfl) rfl ?_
          refine v_aload_n dX13_corners_220 rfl 10 rfl ?_
          refine v_aload_n dX13_corners_221 rfl 10 rfl ?_
          refine v_getf 44 (ci := 11) (C := RX13) (T := TX13) (N := 71) rfl iwX13_corners_X13 (Nat.le_of_ble_eq_true rfl) (by decide +kernel) dX13_corners_222 (by first | with_reducible assumption) (by repeat (first | with_reducible assumption | (with_reducible refine (sv_ls (by first | omega | (simp only [List.length_set]; omega))).trans ?_; exact rfl) | with_reducible refine (List.getElem?_set_ne (by decide)).trans ?_)) ?_
          refine v_bipush (v := 17) dX13_corners_225 (by decide) ?_
          refine v_iload_n dX13_corners_227 rfl 9 rfl ?_
          refine v_imul dX13_corners_228 ?_
          refine v_iload_n dX13_corners_229 rfl 7 rfl ?_
          refine v_iadd dX13_corners_230 ?_
          rw [sv_17]
          refine v_laldS (v := jN (cc v ii).1) dX13_corners_231 (by first | with_reducible assumption) (vp_in_nI (by omega) (by omega)) (by rw [nI_clamp (by omega)]; exact q1.1) ?_
          refine v_iload dX13_corners_232 3 rfl ?_
          refine v_if_eq (tgt := 242) dX13_corners_234 (by decide) (fun c_234 => ?_) (fun c_234 => ?_)
          · refine v_lload dX13_corners_242 0 rfl ?_
            refine v_lload dX13_corners_244 4 rfl ?_
            refine v_ladd dX13_corners_246 ?_
            first | rw [show jN (cc v ii).2 + jN ((cc w jj).2 - (cc v ii).2) = jN (cc w jj).2 from by rw [← jN_add]; exact congrArg jN (by omega)] | skip
            refine v_aload_n dX13_corners_247 rfl 10 rfl ?_
            refine v_getf 44 (ci := 11) (C := RX13) (T := TX13) (N := 71) rfl iwX13_corners_X13 (Nat.le_of_ble_eq_true rfl) (by decide +kernel) dX13_corners_248 (by first | with_reducible assumption) (by repeat (first | with_reducible assumption | (with_reducible refine (sv_ls (by first | omega | (simp only [List.length_set]; omega))).trans ?_; exact rfl) | with_reducible refine (List.getElem?_set_ne (by decide)).trans ?_)) ?_
            refine v_bipush (v := 17) dX13_corners_251 (by decide) ?_
            refine v_iload_n dX13_corners_253 rfl 8 rfl ?_
            refine v_imul dX13_corners_254 ?_
            refine v_iload dX13_corners_255 6 rfl ?_
            refine v_iadd dX13_corners_257 ?_
            rw [sv_17]
            refine v_laldS (v := jN (cc w jj).1) dX13_corners_258 (by first | with_reducible assumption) (vp_in_nI (by omega) (by omega)) (by rw [nI_clamp (by omega)]; exact q2.1) ?_
            refine v_iload dX13_corners_259 3 rfl ?_
            refine v_if_eq (tgt := 272) dX13_corners_261 (by decide) (fun c_261 => ?_) (fun c_261 => ?_)
            · refine v_lload dX13_corners_272 0 rfl ?_
              first | rw [show jN (cc v ii).2 + jN ((cc w jj).2 - (cc v ii).2) = jN (cc w jj).2 from by rw [← jN_add]; exact congrArg jN (by omega)] | skip
              refine v_aload_n dX13_corners_274 rfl 10 rfl ?_
              refine v_getf 51 (ci := 11) (C := RX13) (T := TX13) (N := 71) rfl iwX13_corners_X13 (Nat.le_of_ble_eq_true rfl) (by decide +kernel) dX13_corners_275 (by first | with_reducible assumption) (by repeat (first | with_reducible assumption | (with_reducible refine (sv_ls (by first | omega | (simp only [List.length_set]; omega))).trans ?_; exact rfl) | with_reducible refine (List.getElem?_set_ne (by decide)).trans ?_)) ?_
              refine v_iload_n dX13_corners_278 rfl 9 rfl ?_
              refine v_ialdS (v := nI (pg v)) dX13_corners_279 (by first | with_reducible assumption) (vp_in_nI (by omega) (by omega)) (by rw [nI_clamp (by omega)]; exact sv2) ?_
              refine v_aload_n dX13_corners_280 rfl 10 rfl ?_
              refine v_getf 51 (ci := 11) (C := RX13) (T := TX13) (N := 71) rfl iwX13_corners_X13 (Nat.le_of_ble_eq_true rfl) (by decide +kernel) dX13_corners_281 (by first | with_reducible assumption) (by repeat (first | with_reducible assumption | (with_reducible refine (sv_ls (by first | omega | (simp only [List.length_set]; omega))).trans ?_; exact rfl) | with_reducible refine (List.getElem?_set_ne (by decide)).trans ?_)) ?_
              refine v_iload_n dX13_corners_284 rfl 8 rfl ?_
              refine v_ialdS (v := nI (pg w)) dX13_corners_285 (by first | with_reducible assumption) (vp_in_nI (by omega) (by omega)) (by rw [nI_clamp (by omega)]; exact sw2) ?_
              refine v_lload dX13_corners_286 1 rfl ?_
              refine v_callVq (M' := mX13_tell) (n := 7) (As := [_, _, _, _, _, _, _]) (ci := 11) (r := (RX13, TX13, 71)) gX13_corners_X13_tell rfl (by decide +kernel) ⟨(Nat.le_of_ble_eq_true rfl), (Nat.le_of_ble_eq_true rfl)⟩ rfl rfl dX13_corners_288 rfl ⟨(Nat.le_of_ble_eq_true rfl), (Nat.le_of_ble_eq_true rfl)⟩ (Nat.le_of_ble_eq_true rfl) (by first | with_reducible assumption) rfl (m_tell G _ b nc np pl R hm p3 p4 sz ly vo mp X Y hb fs0 hq0 MY O MO o ho how d hd h60 h61 mc hmc h62 hMB h fs hm9 hl hE fr _ T (cc v ii).1 _ (cc w jj).1 _ (pg v : Int) (pg w : Int) (((cc w jj).1 - (cc v ii).1) * ((cc w jj).1 - (cc v ii).1) + ((cc w jj).2 - (cc v ii).2) * ((cc w jj).2 - (cc v ii).2)) (by omega) (by omega) q3.1 (by first | exact q3.2 | exact q4.2) q4.1 (by first | exact q3.2 | exact q4.2)) (fun v9 h1 z1 hq9 => ?_)
              obtain ⟨rfl, rfl, fs1, u1, u2, u3, u4, T1⟩ := hq9
              refine v_sub (L' := [(4, _), (3, _), (2, _), (1, _), (0, _)]) [6, 7, 8, 9, 10] rfl ?_
              first
                | (have c9 := T1
                   refine hk h1 fs1 u1 u2 u3 u4 ?_
                   have g1 := (jN_lt (by omega) (by omega) (by omega) (by omega)).mp (Int64.not_le.mp c_204)
                   have g2 := (jN_lt (a := 0) (by omega) (by omega) (by omega) (by omega)).mp (Int64.not_le.mp c_169)
                   rw [rgm_s, ← List.append_assoc]
                   by_cases hU : (0 < ((cc w jj).2 - (cc v ii).2) ∧ (fxM (twS (cc v) (n v)) (cc v) (n v) ii 0 1 ∧ fxM (twS (cc w) (n w)) (cc w) (n w) jj 2 3))
                   · rw [show (cnR (mvW mp ((O.getD o ([], 0)).1.take d)) x3.toInt (pg v : Int) (pg w : Int) (mc : Int) (fxM (twS (cc v) (n v)) (cc v) (n v) ii 0 1 ∧ fxM (twS (cc w) (n w)) (cc w) (n w) jj 2 3) (fxM (twS (cc v) (n v)) (cc v) (n v) ii 3 0 ∧ fxM (twS (cc w) (n w)) (cc w) (n w) jj 1 2) (cc v ii) (cc w jj)) = [_] from if_pos ⟨g2, Or.inl hU, g1⟩, Int.min_eq_left (by omega), Int.max_eq_right (by omega)]
                     first
                       | exact c9
                       | (rw [if_pos hU] at c_234; exact absurd c_234 (by decide))
                       | (rw [if_pos hU] at c_261; exact absurd c_261 (by decide))
                   · have hD : (((cc w jj).2 - (cc v ii).2) < 0 ∧ (fxM (twS (cc v) (n v)) (cc v) (n v) ii 3 0 ∧ fxM (twS (cc w) (n w)) (cc w) (n w) jj 1 2)) := (by
                       first
                         | (rw [if_neg hU] at c_174; exact absurd rfl c_174)
                         | exact Decidable.of_not_not (fun e9 => c_179 (if_neg e9)))
                     rw [show (cnR (mvW mp ((O.getD o ([], 0)).1.take d)) x3.toInt (pg v : Int) (pg w : Int) (mc : Int) (fxM (twS (cc v) (n v)) (cc v) (n v) ii 0 1 ∧ fxM (twS (cc w) (n w)) (cc w) (n w) jj 2 3) (fxM (twS (cc v) (n v)) (cc v) (n v) ii 3 0 ∧ fxM (twS (cc w) (n w)) (cc w) (n w) jj 1 2) (cc v ii) (cc w jj)) = [_] from if_pos ⟨g2, Or.inr hD, g1⟩, Int.min_eq_right (by omega), Int.max_eq_left (by omega)]
                     first
                       | exact c9
                       | (rw [if_neg hU] at c_234; exact absurd rfl c_234)
                       | (rw [if_neg hU] at c_261; exact absurd rfl c_261))
                | (refine hk h fs hm9 hl hE fr ?_
                   rw [rgm_s, show (cnR (mvW mp ((O.getD o ([], 0)).1.take d)) x3.toInt (pg v : Int) (pg w : Int) (mc : Int) (fxM (twS (cc v) (n v)) (cc v) (n v) ii 0 1 ∧ fxM (twS (cc w) (n w)) (cc w) (n w) jj 2 3) (fxM (twS (cc v) (n v)) (cc v) (n v) ii 3 0 ∧ fxM (twS (cc w) (n w)) (cc w) (n w) jj 1 2) (cc v ii) (cc w jj)) = [] from if_neg (fun r9 => ?_), List.append_nil]
                   · exact T
                   · first
                       | exact absurd ((jN_lt (a := 0) (by omega) (by omega) (by omega) (by omega)).mpr r9.1) (Int64.not_lt.mpr c_169)
                       | exact absurd ((jN_lt (by omega) (by omega) (by omega) (by omega)).mpr r9.2.2) (Int64.not_lt.mpr c_204)
                       | (rcases r9.2.1 with e9 | e9
                          · rw [if_pos e9] at c_174; exact absurd c_174 (by decide)
                          · rw [if_pos e9] at c_179; exact absurd c_179 (by decide)))
            · refine v_lload dX13_corners_264 0 rfl ?_
              refine v_lload dX13_corners_266 4 rfl ?_
              refine v_ladd dX13_corners_268 ?_
              refine v_goto (tgt := 274) dX13_corners_269 (by decide) ?_
              first | rw [show jN (cc v ii).2 + jN ((cc w jj).2 - (cc v ii).2) = jN (cc w jj).2 from by rw [← jN_add]; exact congrArg jN (by omega)] | skip
              refine v_aload_n dX13_corners_274 rfl 10 rfl ?_
              refine v_getf 51 (ci := 11) (C := RX13) (T := TX13) (N := 71) rfl iwX13_corners_X13 (Nat.le_of_ble_eq_true rfl) (by decide +kernel) dX13_corners_275 (by first | with_reducible assumption) (by repeat (first | with_reducible assumption | (with_reducible refine (sv_ls (by first | omega | (simp only [List.length_set]; omega))).trans ?_; exact rfl) | with_reducible refine (List.getElem?_set_ne (by decide)).trans ?_)) ?_
              refine v_iload_n dX13_corners_278 rfl 9 rfl ?_
              refine v_ialdS (v := nI (pg v)) dX13_corners_279 (by first | with_reducible assumption) (vp_in_nI (by omega) (by omega)) (by rw [nI_clamp (by omega)]; exact sv2) ?_
              refine v_aload_n dX13_corners_280 rfl 10 rfl ?_
              refine v_getf 51 (ci := 11) (C := RX13) (T := TX13) (N := 71) rfl iwX13_corners_X13 (Nat.le_of_ble_eq_true rfl) (by decide +kernel) dX13_corners_281 (by first | with_reducible assumption) (by repeat (first | with_reducible assumption | (with_reducible refine (sv_ls (by first | omega | (simp only [List.length_set]; omega))).trans ?_; exact rfl) | with_reducible refine (List.getElem?_set_ne (by decide)).trans ?_)) ?_
              refine v_iload_n dX13_corners_284 rfl 8 rfl ?_
              refine v_ialdS (v := nI (pg w)) dX13_corners_285 (by first | with_reducible assumption) (vp_in_nI (by omega) (by omega)) (by rw [nI_clamp (by omega)]; exact sw2) ?_
              refine v_lload dX13_corners_286 1 rfl ?_
              refine v_callVq (M' := mX13_tell) (n := 7) (As := [_, _, _, _, _, _, _]) (ci := 11) (r := (RX13, TX13, 71)) gX13_corners_X13_tell rfl (by decide +kernel) ⟨(Nat.le_of_ble_eq_true rfl), (Nat.le_of_ble_eq_true rfl)⟩ rfl rfl dX13_corners_288 rfl ⟨(Nat.le_of_ble_eq_true rfl), (Nat.le_of_ble_eq_true rfl)⟩ (Nat.le_of_ble_eq_true rfl) (by first | with_reducible assumption) rfl (m_tell G _ b nc np pl R hm p3 p4 sz ly vo mp X Y hb fs0 hq0 MY O MO o ho how d hd h60 h61 mc hmc h62 hMB h fs hm9 hl hE fr _ T (cc v ii).1 _ (cc w jj).1 _ (pg v : Int) (pg w : Int) (((cc w jj).1 - (cc v ii).1) * ((cc w jj).1 - (cc v ii).1) + ((cc w jj).2 - (cc v ii).2) * ((cc w jj).2 - (cc v ii).2)) (by omega) (by omega) q3.1 (by first | exact q3.2 | exact q4.2) q4.1 (by first | exact q3.2 | exact q4.2)) (fun v9 h1 z1 hq9 => ?_)
              obtain ⟨rfl, rfl, fs1, u1, u2, u3, u4, T1⟩ := hq9
              refine v_sub (L' := [(4, _), (3, _), (2, _), (1, _), (0, _)]) [6, 7, 8, 9, 10] rfl ?_
              first
                | (have c9 := T1
                   refine hk h1 fs1 u1 u2 u3 u4 ?_
                   have g1 := (jN_lt (by omega) (by omega) (by omega) (by omega)).mp (Int64.not_le.mp c_204)
                   have g2 := (jN_lt (a := 0) (by omega) (by omega) (by omega) (by omega)).mp (Int64.not_le.mp c_169)
                   rw [rgm_s, ← List.append_assoc]
                   by_cases hU : (0 < ((cc w jj).2 - (cc v ii).2) ∧ (fxM (twS (cc v) (n v)) (cc v) (n v) ii 0 1 ∧ fxM (twS (cc w) (n w)) (cc w) (n w) jj 2 3))
                   · rw [show (cnR (mvW mp ((O.getD o ([], 0)).1.take d)) x3.toInt (pg v : Int) (pg w : Int) (mc : Int) (fxM (twS (cc v) (n v)) (cc v) (n v) ii 0 1 ∧ fxM (twS (cc w) (n w)) (cc w) (n w) jj 2 3) (fxM (twS (cc v) (n v)) (cc v) (n v) ii 3 0 ∧ fxM (twS (cc w) (n w)) (cc w) (n w) jj 1 2) (cc v ii) (cc w jj)) = [_] from if_pos ⟨g2, Or.inl hU, g1⟩, Int.min_eq_left (by omega), Int.max_eq_right (by omega)]
                     first
                       | exact c9
                       | (rw [if_pos hU] at c_234; exact absurd c_234 (by decide))
                       | (rw [if_pos hU] at c_261; exact absurd c_261 (by decide))
                   · have hD : (((cc w jj).2 - (cc v ii).2) < 0 ∧ (fxM (twS (cc v) (n v)) (cc v) (n v) ii 3 0 ∧ fxM (twS (cc w) (n w)) (cc w) (n w) jj 1 2)) := (by
                       first
                         | (rw [if_neg hU] at c_174; exact absurd rfl c_174)
                         | exact Decidable.of_not_not (fun e9 => c_179 (if_neg e9)))
                     rw [show (cnR (mvW mp ((O.getD o ([], 0)).1.take d)) x3.toInt (pg v : Int) (pg w : Int) (mc : Int) (fxM (twS (cc v) (n v)) (cc v) (n v) ii 0 1 ∧ fxM (twS (cc w) (n w)) (cc w) (n w) jj 2 3) (fxM (twS (cc v) (n v)) (cc v) (n v) ii 3 0 ∧ fxM (twS (cc w) (n w)) (cc w) (n w) jj 1 2) (cc v ii) (cc w jj)) = [_] from if_pos ⟨g2, Or.inr hD, g1⟩, Int.min_eq_right (by omega), Int.max_eq_left (by omega)]
                     first
                       | exact c9
                       | (rw [if_neg hU] at c_234; exact absurd rfl c_234)
                       | (rw [if_neg hU] at c_261; exact absurd rfl c_261))
                | (refine hk h fs hm9 hl hE fr ?_
                   rw [rgm_s, show (cnR (mvW mp ((O.getD o ([], 0)).1.take d)) x3.toInt (pg v : Int) (pg w : Int) (mc : Int) (fxM (twS (cc v) (n v)) (cc v) (n v) ii 0 1 ∧ fxM (twS (cc w) (n w)) (cc w) (n w) jj 2 3) (fxM (twS (cc v) (n v)) (cc v) (n v) ii 3 0 ∧ fxM (twS (cc w) (n w)) (cc w) (n w) jj 1 2) (cc v ii) (cc w jj)) = [] from if_neg (fun r9 => ?_), List.append_nil]
                   · exact T
                   · first
                       | exact absurd ((jN_lt (a := 0) (by omega) (by omega) (by omega) (by omega)).mpr r9.1) (Int64.not_lt.mpr c_169)
                       | exact absurd ((jN_lt (by omega) (by omega) (by omega) (by omega)).mpr r9.2.2) (Int64.not_lt.mpr c_204)
                       | (rcases r9.2.1 with e9 | e9
                          · rw [if_pos e9] at c_174; exact absurd c_174 (by decide)
                          · rw [if_pos e9] at c_179; exact absurd c_179 (by decide)))
          · refine v_lload dX13_corners_237 0 rfl ?_
            refine v_goto (tgt := 247) dX13_corners_239 (by decide) ?_
            first | rw [show jN (cc v ii).2 + jN ((cc w jj).2 - (cc v ii).2) = jN (cc w jj).2 from by rw [← jN_add]; exact congrArg jN (by omega)] | skip
            refine v_aload_n dX13_corners_247 rfl 10 rfl ?_
            refine v_getf 44 (ci := 11) (C := RX13) (T := TX13) (N := 71) rfl iwX13_corners_X13 (Nat.le_of_ble_eq_true rfl) (by decide +kernel) dX13_corners_248 (by first | with_reducible assumption) (by repeat (first | with_reducible assumption | (with_reducible refine (sv_ls (by first | omega | (simp only [List.length_set]; omega))).trans ?_; exact rfl) | with_reducible refine (List.getElem?_set_ne (by decide)).trans ?_)) ?_
            refine v_bipush (v := 17) dX13_corners_251 (by decide) ?_
            refine v_iload_n dX13_corners_253 rfl 8 rfl ?_
            refine v_imul dX13_corners_254 ?_
            refine v_iload dX13_corners_255 6 rfl ?_
            refine v_iadd dX13_corners_257 ?_
            rw [sv_17]
            refine v_laldS (v := jN (cc w jj).1) dX13_corners_258 (by first | with_reducible assumption) (vp_in_nI (by omega) (by omega)) (by rw [nI_clamp (by omega)]; exact q2.1) ?_
            refine v_iload dX13_corners_259 3 rfl ?_
            refine v_if_eq (tgt := 272) dX13_corners_261 (by decide) (fun c_261 => ?_) (fun c_261 => ?_)
            · refine v_lload dX13_corners_272 0 rfl ?_
              first | rw [show jN (cc v ii).2 + jN ((cc w jj).2 - (cc v ii).2) = jN (cc w jj).2 from by rw [← jN_add]; exact congrArg jN (by omega)] | skip
              refine v_aload_n dX13_corners_274 rfl 10 rfl ?_
              refine v_getf 51 (ci := 11) (C := RX13) (T := TX13) (N := 71) rfl iwX13_corners_X13 (Nat.le_of_ble_eq_true rfl) (by decide +kernel) dX13_corners_275 (by first | with_reducible assumption) (by repeat (first | with_reducible assumption | (with_reducible refine (sv_ls (by first | omega | (simp only [List.length_set]; omega))).trans ?_; exact rfl) | with_reducible refine (List.getElem?_set_ne (by decide)).trans ?_)) ?_
              refine v_iload_n dX13_corners_278 rfl 9 rfl ?_
              refine v_ialdS (v := nI (pg v)) dX13_corners_279 (by first | with_reducible assumption) (vp_in_nI (by omega) (by omega)) (by rw [nI_clamp (by omega)]; exact sv2) ?_
              refine v_aload_n dX13_corners_280 rfl 10 rfl ?_
              refine v_getf 51 (ci := 11) (C := RX13) (T := TX13) (N := 71) rfl iwX13_corners_X13 (Nat.le_of_ble_eq_true rfl) (by decide +kernel) dX13_corners_281 (by first | with_reducible assumption) (by repeat (first | with_reducible assumption | (with_reducible refine (sv_ls (by first | omega | (simp only [List.length_set]; omega))).trans ?_; exact rfl) | with_reducible refine (List.getElem?_set_ne (by decide)).trans ?_)) ?_
              refine v_iload_n dX13_corners_284 rfl 8 rfl ?_
              refine v_ialdS (v := nI (pg w)) dX13_corners_285 (by first | with_reducible assumption) (vp_in_nI (by omega) (by omega)) (by rw [nI_clamp (by omega)]; exact sw2) ?_
              refine v_lload dX13_corners_286 1 rfl ?_
              refine v_callVq (M' := mX13_tell) (n := 7) (As := [_, _, _, _, _, _, _]) (ci := 11) (r := (RX13, TX13, 71)) gX13_corners_X13_tell rfl (by decide +kernel) ⟨(Nat.le_of_ble_eq_true rfl), (Nat.le_of_ble_eq_true rfl)⟩ rfl rfl dX13_corners_288 rfl ⟨(Nat.le_of_ble_eq_true rfl), (Nat.le_of_ble_eq_true rfl)⟩ (Nat.le_of_ble_eq_true rfl) (by first | with_reducible assumption) rfl (m_tell G _ b nc np pl R hm p3 p4 sz ly vo mp X Y hb fs0 hq0 MY O MO o ho how d hd h60 h61 mc hmc h62 hMB h fs hm9 hl hE fr _ T (cc v ii).1 _ (cc w jj).1 _ (pg v : Int) (pg w : Int) (((cc w jj).1 - (cc v ii).1) * ((cc w jj).1 - (cc v ii).1) + ((cc w jj).2 - (cc v ii).2) * ((cc w jj).2 - (cc v ii).2)) (by omega) (by omega) q3.1 (by first | exact q3.2 | exact q4.2) q4.1 (by first | exact q3.2 | exact q4.2)) (fun v9 h1 z1 hq9 => ?_)
              obtain ⟨rfl, rfl, fs1, u1, u2, u3, u4, T1⟩ := hq9
              refine v_sub (L' := [(4, _), (3, _), (2, _), (1, _), (0, _)]) [6, 7, 8, 9, 10] rfl ?_
              first
                | (have c9 := T1
                   refine hk h1 fs1 u1 u2 u3 u4 ?_
                   have g1 := (jN_lt (by omega) (by omega) (by omega) (by omega)).mp (Int64.not_le.mp c_204)
                   have g2 := (jN_lt (a := 0) (by omega) (by omega) (by omega) (by omega)).mp (Int64.not_le.mp c_169)
                   rw [rgm_s, ← List.append_assoc]
                   by_cases hU : (0 < ((cc w jj).2 - (cc v ii).2) ∧ (fxM (twS (cc v) (n v)) (cc v) (n v) ii 0 1 ∧ fxM (twS (cc w) (n w)) (cc w) (n w) jj 2 3))
                   · rw [show (cnR (mvW mp ((O.getD o ([], 0)).1.take d)) x3.toInt (pg v : Int) (pg w : Int) (mc : Int) (fxM (twS (cc v) (n v)) (cc v) (n v) ii 0 1 ∧ fxM (twS (cc w) (n w)) (cc w) (n w) jj 2 3) (fxM (twS (cc v) (n v)) (cc v) (n v) ii 3 0 ∧ fxM (twS (cc w) (n w)) (cc w) (n w) jj 1 2) (cc v ii) (cc w jj)) = [_] from if_pos ⟨g2, Or.inl hU, g1⟩, Int.min_eq_left (by omega), Int.max_eq_right (by omega)]
                     first
                       | exact c9
                       | (rw [if_pos hU] at c_234; exact absurd c_234 (by decide))
                       | (rw [if_pos hU] at c_261; exact absurd c_261 (by decide))
                   · have hD : (((cc w jj).2 - (cc v ii).2) < 0 ∧ (fxM (twS (cc v) (n v)) (cc v) (n v) ii 3 0 ∧ fxM (twS (cc w) (n w)) (cc w) (n w) jj 1 2)) := (by
                       first
                         | (rw [if_neg hU] at c_174; exact absurd rfl c_174)
                         | exact Decidable.of_not_not (fun e9 => c_179 (if_neg e9)))
                     rw [show (cnR (mvW mp ((O.getD o ([], 0)).1.take d)) x3.toInt (pg v : Int) (pg w : Int) (mc : Int) (fxM (twS (cc v) (n v)) (cc v) (n v) ii 0 1 ∧ fxM (twS (cc w) (n w)) (cc w) (n w) jj 2 3) (fxM (twS (cc v) (n v)) (cc v) (n v) ii 3 0 ∧ fxM (twS (cc w) (n w)) (cc w) (n w) jj 1 2) (cc v ii) (cc w jj)) = [_] from if_pos ⟨g2, Or.inr hD, g1⟩, Int.min_eq_right (by omega), Int.max_eq_left (by omega)]
                     first
                       | exact c9
                       | (rw [if_neg hU] at c_234; exact absurd rfl c_234)
                       | (rw [if_neg hU] at c_261; exact absurd rfl c_261))
                | (refine hk h fs hm9 hl hE fr ?_
                   rw [rgm_s, show (cnR (mvW mp ((O.getD o ([], 0)).1.take d)) x3.toInt (pg v : Int) (pg w : Int) (mc : Int) (fxM (twS (cc v) (n v)) (cc v) (n v) ii 0 1 ∧ fxM (twS (cc w) (n w)) (cc w) (n w) jj 2 3) (fxM (twS (cc v) (n v)) (cc v) (n v) ii 3 0 ∧ fxM (twS (cc w) (n w)) (cc w) (n w) jj 1 2) (cc v ii) (cc w jj)) = [] from if_neg (fun r9 => ?_), List.append_nil]
                   · exact T
                   · first
                       | exact absurd ((jN_lt (a := 0) (by omega) (by omega) (by omega) (by omega)).mpr r9.1) (Int64.not_lt.mpr c_169)
                       | exact absurd ((jN_lt (by omega) (by omega) (by omega) (by omega)).mpr r9.2.2) (Int64.not_lt.mpr c_204)
                       | (rcases r9.2.1 with e9 | e9
                          · rw [if_pos e9] at c_174; exact absurd c_174 (by decide)
                          · rw [if_pos e9] at c_179; exact absurd c_179 (by decide)))
            · refine v_lload dX13_corners_264 0 rfl ?_
              refine v_lload dX13_corners_266 4 rfl ?_
              refine v_ladd dX13_corners_268 ?_
              refine v_goto (tgt := 274) dX13_corners_269 (by decide) ?_
              first | rw [show jN (cc v ii).2 + jN ((cc w jj).2 - (cc v ii).2) = jN (cc w jj).2 from by rw [← jN_add]; exact congrArg jN (by omega)] | skip
              refine v_aload_n dX13_corners_274 rfl 10 rfl ?_
              refine v_getf 51 (ci := 11) (C := RX13) (T := TX13) (N := 71) rfl iwX13_corners_X13 (Nat.le_of_ble_eq_true rfl) (by decide +kernel) dX13_corners_275 (by first | with_reducible assumption) (by repeat (first | with_reducible assumption | (with_reducible refine (sv_ls (by first | omega | (simp only [List.length_set]; omega))).trans ?_; exact rfl) | with_reducible refine (List.getElem?_set_ne (by decide)).trans ?_)) ?_
              refine v_iload_n dX13_corners_278 rfl 9 rfl ?_
              refine v_ialdS (v := nI (pg v)) dX13_corners_279 (by first | with_reducible assumption) (vp_in_nI (by omega) (by omega)) (by rw [nI_clamp (by omega)]; exact sv2) ?_
              refine v_aload_n dX13_corners_280 rfl 10 rfl ?_
              refine v_getf 51 (ci := 11) (C := RX13) (T := TX13) (N := 71) rfl iwX13_corners_X13 (Nat.le_of_ble_eq_true rfl) (by decide +kernel) dX13_corners_281 (by first | with_reducible assumption) (by repeat (first | with_reducible assumption | (with_reducible refine (sv_ls (by first | omega | (simp only [List.length_set]; omega))).trans ?_; exact rfl) | with_reducible refine (List.getElem?_set_ne (by decide)).trans ?_)) ?_
              refine v_iload_n dX13_corners_284 rfl 8 rfl ?_
              refine v_ialdS (v := nI (pg w)) dX13_corners_285 (by first | with_reducible assumption) (vp_in_nI (by omega) (by omega)) (by rw [nI_clamp (by omega)]; exact sw2) ?_
              refine v_lload dX13_corners_286 1 rfl ?_
              refine v_callVq (M' := mX13_tell) (n := 7) (As := [_, _, _, _, _, _, _]) (ci := 11) (r := (RX13, TX13, 71)) gX13_corners_X13_tell rfl (by decide +kernel) ⟨(Nat.le_of_ble_eq_true rfl), (Nat.le_of_ble_eq_true rfl)⟩ rfl rfl dX13_corners_288 rfl ⟨(Nat.le_of_ble_eq_true rfl), (Nat.le_of_ble_eq_true rfl)⟩ (Nat.le_of_ble_eq_true rfl) (by first | with_reducible assumption) rfl (m_tell G _ b nc np pl R hm p3 p4 sz ly vo mp X Y hb fs0 hq0 MY O MO o ho how d hd h60 h61 mc hmc h62 hMB h fs hm9 hl hE fr _ T (cc v ii).1 _ (cc w jj).1 _ (pg v : Int) (pg w : Int) (((cc w jj).1 - (cc v ii).1) * ((cc w jj).1 - (cc v ii).1) + ((cc w jj).2 - (cc v ii).2) * ((cc w jj).2 - (cc v ii).2)) (by omega) (by omega) q3.1 (by first | exact q3.2 | exact q4.2) q4.1 (by first | exact q3.2 | exact q4.2)) (fun v9 h1 z1 hq9 => ?_)
              obtain ⟨rfl, rfl, fs1, u1, u2, u3, u4, T1⟩ := hq9
              refine v_sub (L' := [(4, _), (3, _), (2, _), (1, _), (0, _)]) [6, 7, 8, 9, 10] rfl ?_
              first
                | (have c9 := T1
                   refine hk h1 fs1 u1 u2 u3 u4 ?_
                   have g1 := (jN_lt (by omega) (by omega) (by omega) (by omega)).mp (Int64.not_le.mp c_204)
                   have g2 := (jN_lt (a := 0) (by omega) (by omega) (by omega) (by omega)).mp (Int64.not_le.mp c_169)
                   rw [rgm_s, ← List.append_assoc]
                   by_cases hU : (0 < ((cc w jj).2 - (cc v ii).2) ∧ (fxM (twS (cc v) (n v)) (cc v) (n v) ii 0 1 ∧ fxM (twS (cc w) (n w)) (cc w) (n w) jj 2 3))
                   · rw [show (cnR (mvW mp ((O.getD o ([], 0)).1.take d)) x3.toInt (pg v : Int) (pg w : Int) (mc : Int) (fxM (twS (cc v) (n v)) (cc v) (n v) ii 0 1 ∧ fxM (twS (cc w) (n w)) (cc w) (n w) jj 2 3) (fxM (twS (cc v) (n v)) (cc v) (n v) ii 3 0 ∧ fxM (twS (cc w) (n w)) (cc w) (n w) jj 1 2) (cc v ii) (cc w jj)) = [_] from if_pos ⟨g2, Or.inl hU, g1⟩, Int.min_eq_left (by omega), Int.max_eq_right (by omega)]
                     first
                       | exact c9
                       | (rw [if_pos hU] at c_234; exact absurd c_234 (by decide))
                       | (rw [if_pos hU] at c_261; exact absurd c_261 (by decide))
                   · have hD : (((cc w jj).2 - (cc v ii).2) < 0 ∧ (fxM (twS (cc v) (n v)) (cc v) (n v) ii 3 0 ∧ fxM (twS (cc w) (n w)) (cc w) (n w) jj 1 2)) := (by
                       first
                         | (rw [if_neg hU] at c_174; exact absurd rfl c_174)
                         | exact Decidable.of_not_not (fun e9 => c_179 (if_neg e9)))
                     rw [show (cnR (mvW mp ((O.getD o ([], 0)).1.take d)) x3.toInt (pg v : Int) (pg w : Int) (mc : Int) (fxM (twS (cc v) (n v)) (cc v) (n v) ii 0 1 ∧ fxM (twS (cc w) (n w)) (cc w) (n w) jj 2 3) (fxM (twS (cc v) (n v)) (cc v) (n v) ii 3 0 ∧ fxM (twS (cc w) (n w)) (cc w) (n w) jj 1 2) (cc v ii) (cc w jj)) = [_] from if_pos ⟨g2, Or.inr hD, g1⟩, Int.min_eq_right (by omega), Int.max_eq_left (by omega)]
                     first
                       | exact c9
                       | (rw [if_neg hU] at c_234; exact absurd rfl c_234)
                       | (rw [if_neg hU] at c_261; exact absurd rfl c_261))
                | (refine hk h fs hm9 hl hE fr ?_
                   rw [rgm_s, show (cnR (mvW mp ((O.getD o ([], 0)).1.take d)) x3.toInt (pg v : Int) (pg w : Int) (mc : Int) (fxM (twS (cc v) (n v)) (cc v) (n v) ii 0 1 ∧ fxM (twS (cc w) (n w)) (cc w) (n w) jj 2 3) (fxM (twS (cc v) (n v)) (cc v) (n v) ii 3 0 ∧ fxM (twS (cc w) (n w)) (cc w) (n w) jj 1 2) (cc v ii) (cc w jj)) = [] from if_neg (fun r9 => ?_), List.append_nil]
                   · exact T
                   · first
                       | exact absurd ((jN_lt (a := 0) (by omega) (by omega) (by omega) (by omega)).mpr r9.1) (Int64.not_lt.mpr c_169)
                       | exact absurd ((jN_lt (by omega) (by omega) (by omega) (by omega)).mpr r9.2.2) (Int64.not_lt.mpr c_204)
                       | (rcases r9.2.1 with e9 | e9
                          · rw [if_pos e9] at c_174; exact absurd c_174 (by decide)
                          · rw [if_pos e9] at c_179; exact absurd c_179 (by decide)))

set_option maxHeartbeats 4000000 in
set_option maxRecDepth 100000 in
theorem t_co115 (G : sv_G) (Qr : Option Value → sv_h → Nat → Prop) (z b nc np pl : Nat) (R : Nat → Bool) (hm p3 p4 sz : Nat → Nat) (ly vo : Nat → Int32) (mp : Nat → mvT) (X Y : Nat → Nat → Int) (hb : sv_h) (fs0 : List Value) (hq0 : mfq_ b nc np pl fs0) (MY : myl_ G hb b nc np pl R hm p3 p4 sz ly vo mp X Y) (O : List (List Nat × Nat)) (MO : moc_ G hb b O) (o : Nat) (ho : o < O.length) (how : ∀ i, i ∈ (O.getD o ([], 0)).1 → i < pl) (d : Nat) (hd : d ≤ (O.getD o ([], 0)).1.length) (h60 : fs0[60]? = some (.int (nI o))) (h61 : fs0[61]? = some (.int (nI d))) (mc : Nat) (hmc : mc < 100) (h62 : fs0[62]? = some (.int (nI mc))) (hMB : ∀ x y : Int, -200000 ≤ x ∧ x ≤ 200000 → -200000 ≤ y ∧ y ≤ 200000 → (-1000000000 ≤ (mvA (mvW mp ((O.getD o ([], 0)).1.take d)) (x, y)).1 ∧ (mvA (mvW mp ((O.getD o ([], 0)).1.take d)) (x, y)).1 ≤ 1000000000) ∧ (-1000000000 ≤ (mvA (mvW mp ((O.getD o ([], 0)).1.take d)) (x, y)).2 ∧ (mvA (mvW mp ((O.getD o ([], 0)).1.take d)) (x, y)).2 ≤ 1000000000)) (ri kd : Nat) (l1 l2 x3 x4 x5 x6 : Int32) (RU : mru_ G hb b ri kd l1 l2 x3 x4 x5 x6) (h58 : fs0[58]? = some (.int (nI ri))) (hen : x6 = -1 ∨ 0 ≤ x6) (kk : Nat) (n pg : Nat → Nat) (cc : Nat → Nat → Int × Int) (LD : mld_ G hb b kk n pg cc) (LK : mlk_ kk n pg cc) (v w : Nat) (hv : v < kk) (hw : w < kk) (ii jj : Nat) (hii : ii < n v) (hjj : jj < n w) (E0 : List (List Int64)) (hk : ∀ (h : sv_h) (fs : List Value), h (b + 220) = some (.inr (11, fs)) → fs.length = 71 → fsE [28, 29, 52, 53] fs0 fs → (∀ a, a ≠ b + 220 → a ≠ b + 241 → h a = hb a) → mT_ gu G h b fs ((E0 ++ (List.range (jj + 1)).flatMap (fun j => (cnR (mvW mp ((O.getD o ([], 0)).1.take d)) x3.toInt (pg v : Int) (pg w : Int) (mc : Int) (fxM (twS (cc v) (n v)) (cc v) (n v) ii 0 1 ∧ fxM (twS (cc w) (n w)) (cc w) (n w) j 2 3) (fxM (twS (cc v) (n v)) (cc v) (n v) ii 3 0 ∧ fxM (twS (cc w) (n w)) (cc w) (n w) j 1 2) (cc v ii) (cc w j))))) → V G mX13_corners (sv_MQ G mX13_corners Qr) 291 [(4, .int (nI jj)), (3, .int (nI ii)), (2, .int (nI w)), (1, .int (nI v)), (0, .ref (b + 220))] [] h z 0 0) (h : sv_h) (fs : List Value) (hm9 : h (b + 220) = some (.inr (11, fs))) (hl : fs.length = 71) (hE : fsE [28, 29, 52, 53] fs0 fs) (fr : (∀ a, a ≠ b + 220 → a ≠ b + 241 → h a = hb a)) (T : mT_ gu G h b fs (E0 ++ (List.range jj).flatMap (fun j => (cnR (mvW mp ((O.getD o ([], 0)).1.take d)) x3.toInt (pg v : Int) (pg w : Int) (mc : Int) (fxM (twS (cc v) (n v)) (cc v) (n v) ii 0 1 ∧ fxM (twS (cc w) (n w)) (cc w) (n w) j 2 3) (fxM (twS (cc v) (n v)) (cc v) (n v) ii 3 0 ∧ fxM (twS (cc w) (n w)) (cc w) (n w) j 1 2) (cc v ii) (cc w j))))) : V G mX13_corners (sv_MQ G mX13_corners Qr) 115 [(9, .int (if (0 < ((cc w jj).2 - (cc v ii).2) ∧ (fxM (twS (cc v) (n v)) (cc v) (n v) ii 0 1 ∧ fxM (twS (cc w) (n w)) (cc w) (n w) jj 2 3)) then 1 else 0)), (7, .long (jN ((cc w jj).2 - (cc v ii).2))), (5, .long (jN ((cc w jj).1 - (cc v ii).1))), (4, .int (nI jj)), (3, .int (nI ii)), (2, .int (nI w)), (1, .int (nI v)), (0, .ref (b + 220))] [] h z 0 0 := by
  obtain ⟨k0, k1⟩ := id LK
  obtain ⟨r0, r1, ⟨j33, r33, r33a⟩, ⟨j34, r34, r34a⟩, ⟨j35, r35, r35a⟩, ⟨j36, r36, r36a⟩, ⟨j37, r37, r37a⟩, ⟨j38, r38, r38a⟩, ⟨j39, r39, r39a⟩⟩ := id RU
  obtain ⟨fsd, fo, ft, ff, gx, gy, gp, gl, gh, d49, d50, d51, d52, d53, d54, d55, d56, d57, dd⟩ := id LD
  obtain ⟨⟨zv1, zv2⟩, pv, cv⟩ := k1 v hv
  obtain ⟨⟨zw1, zw2⟩, pw, cw⟩ := k1 w hw
  obtain ⟨sv1, sv2, sv3, sv4, sv5⟩ := dd v hv
  obtain ⟨sw1, sw2, sw3, sw4, sw5⟩ := dd w hw
  have hqf := hq0.to (S := [28, 29, 52, 53]) hl hE (by decide)
  have hlen : fs.length = 71 := hl
  have f_sides := hqf.f_sides
  have f_face := hqf.f_face
  have f_pos := hqf.f_pos
  have f_low := hqf.f_low
  have f_high := hqf.f_high
  have f_ofPolygon := hqf.f_ofPolygon
  have f_bound := hqf.f_bound
  have f_run := hqf.f_run
  have f_end := hqf.f_end
  have f_rule : fs[58]? = some (.int (nI ri)) := (hE 58 (by decide)).trans h58
  have w249 : ab_I G h (b + 249) 2 fsd := (fr _ (by omega) (by omega)).trans d49
  have w253 : ab_I G h (b + 253) 32 ff := (fr _ (by omega) (by omega)).trans d53
  have w254 : ab_J G h (b + 254) 32 gp := (fr _ (by omega) (by omega)).trans d54
  have w255 : ab_J G h (b + 255) 32 gl := (fr _ (by omega) (by omega)).trans d55
  have w256 : ab_J G h (b + 256) 32 gh := (fr _ (by omega) (by omega)).trans d56
  have w257 : ab_I G h (b + 257) 2 fo := (fr _ (by omega) (by omega)).trans d57
  have w236 : ab_J G h (b + 236) 40 j36 := (fr _ (by omega) (by omega)).trans r36
  have w237 : ab_J G h (b + 237) 40 j37 := (fr _ (by omega) (by omega)).trans r37
  have w239 : ab_J G h (b + 239) 40 j39 := (fr _ (by omega) (by omega)).trans r39
  have X3a := x3.le_toInt
  have X3b := x3.toInt_lt
  have X4a := (lrn x4).le_toInt
  have X4b := (lrn x4).toInt_lt
  have X6a := x6.le_toInt
  have X6b := x6.toInt_lt
  have w250 : ab_J G h (b + 250) 34 gx := (fr _ (by omega) (by omega)).trans d50
  have w251 : ab_J G h (b + 251) 34 gy := (fr _ (by omega) (by omega)).trans d51
  have f_cx := hqf.f_cx
  have f_cy := hqf.f_cy
  have q1 := sv4 ii (by omega)
  have q2 := sw4 jj (by omega)
  have q3 := cv ii (by omega)
  have q4 := cw jj (by omega)
  refine v_lload dX13_corners_115 1 rfl ?_
  refine v_lconst (v := 0) dX13_corners_117 (by decide) ?_
  refine v_lcmp_ge (tgt := 149) dX13_corners_118 dX13_corners_119 (by decide) (fun c_119 => ?_) (fun c_119 => ?_)
  · refine v_iconst (v := 0) dX13_corners_149 (by decide) ?_
    refine v_istore (L' := [(10, _), (9, _), (7, _), (5, _), (4, _), (3, _), (2, _), (1, _), (0, _)]) dX13_corners_150 (Nat.le_of_ble_eq_true rfl) rfl ?_
    refine v_sub (L' := [(10, _), (9, _), (7, _), (5, _), (4, _), (3, _), (2, _), (1, _), (0, _)]) [0, 1, 2, 3, 4, 5, 6, 7, 8] rfl ?_
    have hh := t_co152 G _ _ b nc np pl R hm p3 p4 sz ly vo mp X Y hb fs0 hq0 MY O MO o ho how d hd h60 h61 mc hmc h62 hMB ri kd l1 l2 x3 x4 x5 x6 RU h58 hen kk n pg cc LD LK v w hv hw ii jj hii hjj E0 hk h fs hm9 hl hE fr T
    first
      | (rw [if_pos (by exact ⟨(jN_lt (b := 0) (by omega) (by omega) (by omega) (by omega)).mp (Int64.not_le.mp c_119), Decidable.of_not_not (fun e9 => c_130 (if_neg e9)), Decidable.of_not_not (fun e9 => c_142 (if_neg e9))⟩)] at hh; exact hh)
      | (rw [if_neg (by intro e9; first | exact absurd ((jN_lt (b := 0) (by omega) (by omega) (by omega) (by omega)).mpr e9.1) (Int64.not_lt.mpr c_119) | (rw [if_pos e9.2.1] at c_130; exact absurd c_130 (by decide)) | (rw [if_pos e9.2.2] at c_142; exact absurd c_142 (by decide)))] at hh; exact hh)
  · refine v_aload_n dX13_corners_122 rfl 7 rfl ?_
    refine v_iload_n dX13_corners_123 rfl 6 rfl ?_
    refine v_iload_n dX13_corners_124 rfl 4 rfl ?_
    refine v_iconst (v := 3) dX13_corners_125 (by decide) ?_
    refine v_iconst (v := 0) dX13_corners_126 (by decide) ?_
    refine v_callVq (M' := mX13_faces) (n := 4) (As := [_, _, _, _]) (ci := 11) (r := (RX13, TX13, 71)) gX13_corners_X13_faces rfl (by decide +kernel) ⟨(Nat.le_of_ble_eq_true rfl), (Nat.le_of_ble_eq_true rfl)⟩ rfl rfl dX13_corners_127 rfl ⟨(Nat.le_of_ble_eq_true rfl), (Nat.le_of_ble_eq_true rfl)⟩ (Nat.le_of_ble_eq_true rfl) (by first | with_reducible assumption) rfl (m_faces G _ b nc np pl hb fs0 hq0 kk n pg cc LD LK h fs hm9 hl hE fr v ii 3 0 hv hii (by decide) (by decide)) (fun v9 h9 y9 hq => v_pq hq ?_)
    refine v_if_eq (tgt := 149) dX13_corners_130 (by decide) (fun c_130 => ?_) (fun c_130 => ?_)
    · refine v_iconst (v := 0) dX13_corners_149 (by decide) ?_
      refine v_istore (L' := [(10, _), (9, _), (7, _), (5, _), (4, _), (3, _), (2, _), (1, _), (0, _)]) dX13_corners_150 (Nat.le_of_ble_eq_true rfl) rfl ?_
      refine v_sub (L' := [(10, _), (9, _), (7, _), (5, _), (4, _), (3, _), (2, _), (1, _), (0, _)]) [0, 1, 2, 3, 4, 5, 6, 7, 8] rfl ?_
      have hh := t_co152 G _ _ b nc np pl R hm p3 p4 sz ly vo mp X Y hb fs0 hq0 MY O MO o ho how d hd h60 h61 mc hmc h62 hMB ri kd l1 l2 x3 x4 x5 x6 RU h58 hen kk n pg cc LD LK v w hv hw ii jj hii hjj E0 hk h fs hm9 hl hE fr T
      first
        | (rw [if_pos (by exact ⟨(jN_lt (b := 0) (by omega) (by omega) (by omega) (by omega)).mp (Int64.not_le.mp c_119), Decidable.of_not_not (fun e9 => c_130 (if_neg e9)), Decidable.of_not_not (fun e9 => c_142 (if_neg e9))⟩)] at hh; exact hh)
        | (rw [if_neg (by intro e9; first | exact absurd ((jN_lt (b := 0) (by omega) (by omega) (by omega) (by omega)).mpr e9.1) (Int64.not_lt.mpr c_119) | (rw [if_pos e9.2.1] at c_130; exact absurd c_130 (by decide)) | (rw [if_pos e9.2.2] at c_142; exact absurd c_142 (by decide)))] at hh; exact hh)
    · refine v_aload_n dX13_corners_133 rfl 7 rfl ?_
      refine v_iload_n dX13_corners_134 rfl 5 rfl ?_
      refine v_iload dX13_corners_135 3 rfl ?_
      refine v_iconst (v := 1) dX13_corners_137 (by decide) ?_
      refine v_iconst (v := 2) dX13_corners_138 (by decide) ?_
      refine v_callVq (M' := mX13_faces) (n := 4) (As := [_, _, _, _]) (ci := 11) (r := (RX13, TX13, 71)) gX13_corners_X13_faces rfl (by decide +kernel) ⟨(Nat.le_of_ble_eq_true rfl), (Nat.le_of_ble_eq_true rfl)⟩ rfl rfl dX13_corners_139 rfl ⟨(Nat.le_of_ble_eq_true rfl), (Nat.le_of_ble_eq_true rfl)⟩ (Nat.le_of_ble_eq_true rfl) (by first | with_reducible assumption) rfl (m_faces G _ b nc np pl hb fs0 hq0 kk n pg cc LD LK h fs hm9 hl hE fr w jj 1 2 hw hjj (by decide) (by decide)) (fun v9 h9 y9 hq => v_pq hq ?_)
      refine v_if_eq (tgt := 149) dX13_corners_142 (by decide) (fun c_142 => ?_) (fun c_142 => ?_)
      · refine v_iconst (v := 0) dX13_corners_149 (by decide) ?_
        refine v_istore (L' := [(10, _), (9, _), (7, _), (5, _), (4, _), (3, _), (2, _), (1, _), (0, _)]) dX13_corners_150 (Nat.le_of_ble_eq_true rfl) rfl ?_
        refine v_sub (L' := [(10, _), (9, _), (7, _), (5, _), (4, _), (3, _), (2, _), (1, _), (0, _)]) [0, 1, 2, 3, 4, 5, 6, 7, 8] rfl ?_
        have hh := t_co152 G _ _ b nc np pl R hm p3 p4 sz ly vo mp X Y hb fs0 hq0 MY O MO o ho how d hd h60 h61 mc hmc h62 hMB ri kd l1 l2 x3 x4 x5 x6 RU h58 hen kk n pg cc LD LK v w hv hw ii jj hii hjj E0 hk h fs hm9 hl hE fr T
        first
          | (rw [if_pos (by exact ⟨(jN_lt (b := 0) (by omega) (by omega) (by omega) (by omega)).mp (Int64.not_le.mp c_119), Decidable.of_not_not (fun e9 => c_130 (if_neg e9)), Decidable.of_not_not (fun e9 => c_142 (if_neg e9))⟩)] at hh; exact hh)
          | (rw [if_neg (by intro e9; first | exact absurd ((jN_lt (b := 0) (by omega) (by omega) (by omega) (by omega)).mpr e9.1) (Int64.not_lt.mpr c_119) | (rw [if_pos e9.2.1] at c_130; exact absurd c_130 (by decide)) | (rw [if_pos e9.2.2] at c_142; exact absurd c_142 (by decide)))] at hh; exact hh)
      · refine v_iconst (v := 1) dX13_corners_145 (by decide) ?_
        refine v_goto (tgt := 150) dX13_corners_146 (by decide) ?_
        refine v_istore (L' := [(10, _), (9, _), (7, _), (5, _), (4, _), (3, _), (2, _), (1, _), (0, _)]) dX13_corners_150 (Nat.le_of_ble_eq_true rfl) rfl ?_
        refine v_sub (L' := [(10, _), (9, _), (7, _), (5, _), (4, _), (3, _), (2, _), (1, _), (0, _)]) [0, 1, 2, 3, 4, 5, 6, 7, 8] rfl ?_
        have hh := t_co152 G _ _ b nc np pl R hm p3 p4 sz ly vo mp X Y hb fs0 hq0 MY O MO o ho how d hd h60 h61 mc hmc h62 hMB ri kd l1 l2 x3 x4 x5 x6 RU h58 hen kk n pg cc LD LK v w hv hw ii jj hii hjj E0 hk h fs hm9 hl hE fr T
        first
          | (rw [if_pos (by exact ⟨(jN_lt (b := 0) (by omega) (by omega) (by omega) (by omega)).mp (Int64.not_le.mp c_119), Decidable.of_not_not (fun e9 => c_130 (if_neg e9)), Decidable.of_not_not (fun e9 => c_142 (if_neg e9))⟩)] at hh; exact hh)
          | (rw [if_neg (by intro e9; first | exact absurd ((jN_lt (b := 0) (by omega) (by omega) (by omega) (by omega)).mpr e9.1) (Int64.not_lt.mpr c_119) | (rw [if_pos e9.2.1] at c_130; exact absurd c_130 (by decide)) | (rw [if_pos e9.2.2] at c_142; exact absurd c_142 (by decide)))] at hh; exact hh)

set_option maxHeartbeats 4000000 in
set_option maxRecDepth 100000 in
theorem t_co78 (G : sv_G) (Qr : Option Value → sv_h → Nat → Prop) (z b nc np pl : Nat) (R : Nat → Bool) (hm p3 p4 sz : Nat → Nat) (ly vo : Nat → Int32) (mp : Nat → mvT) (X Y : Nat → Nat → Int) (hb : sv_h) (fs0 : List Value) (hq0 : mfq_ b nc np pl fs0) (MY : myl_ G hb b nc np pl R hm p3 p4 sz ly vo mp X Y) (O : List (List Nat × Nat)) (MO : moc_ G hb b O) (o : Nat) (ho : o < O.length) (how : ∀ i, i ∈ (O.getD o ([], 0)).1 → i < pl) (d : Nat) (hd : d ≤ (O.getD o ([], 0)).1.length) (h60 : fs0[60]? = some (.int (nI o))) (h61 : fs0[61]? = some (.int (nI d))) (mc : Nat) (hmc : mc < 100) (h62 : fs0[62]? = some (.int (nI mc))) (hMB : ∀ x y : Int, -200000 ≤ x ∧ x ≤ 200000 → -200000 ≤ y ∧ y ≤ 200000 → (-1000000000 ≤ (mvA (mvW mp ((O.getD o ([], 0)).1.take d)) (x, y)).1 ∧ (mvA (mvW mp ((O.getD o ([], 0)).1.take d)) (x, y)).1 ≤ 1000000000) ∧ (-1000000000 ≤ (mvA (mvW mp ((O.getD o ([], 0)).1.take d)) (x, y)).2 ∧ (mvA (mvW mp ((O.getD o ([], 0)).1.take d)) (x, y)).2 ≤ 1000000000)) (ri kd : Nat) (l1 l2 x3 x4 x5 x6 : Int32) (RU : mru_ G hb b ri kd l1 l2 x3 x4 x5 x6) (h58 : fs0[58]? = some (.int (nI ri))) (hen : x6 = -1 ∨ 0 ≤ x6) (kk : Nat) (n pg : Nat → Nat) (cc : Nat → Nat → Int × Int) (LD : mld_ G hb b kk n pg cc) (LK : mlk_ kk n pg cc) (v w : Nat) (hv : v < kk) (hw : w < kk) (ii jj : Nat) (hii : ii < n v) (hjj : jj < n w) (E0 : List (List Int64)) (hk : ∀ (h : sv_h) (fs : List Value), h (b + 220) = some (.inr (11, fs)) → fs.length = 71 → fsE [28, 29, 52, 53] fs0 fs → (∀ a, a ≠ b + 220 → a ≠ b + 241 → h a = hb a) → mT_ gu G h b fs ((E0 ++ (List.range (jj + 1)).flatMap (fun j => (cnR (mvW mp ((O.getD o ([], 0)).1.take d)) x3.toInt (pg v : Int) (pg w : Int) (mc : Int) (fxM (twS (cc v) (n v)) (cc v) (n v) ii 0 1 ∧ fxM (twS (cc w) (n w)) (cc w) (n w) j 2 3) (fxM (twS (cc v) (n v)) (cc v) (n v) ii 3 0 ∧ fxM (twS (cc w) (n w)) (cc w) (n w) j 1 2) (cc v ii) (cc w j))))) → V G mX13_corners (sv_MQ G mX13_corners Qr) 291 [(4, .int (nI jj)), (3, .int (nI ii)), (2, .int (nI w)), (1, .int (nI v)), (0, .ref (b + 220))] [] h z 0 0) (h : sv_h) (fs : List Value) (hm9 : h (b + 220) = some (.inr (11, fs))) (hl : fs.length = 71) (hE : fsE [28, 29, 52, 53] fs0 fs) (fr : (∀ a, a ≠ b + 220 → a ≠ b + 241 → h a = hb a)) (T : mT_ gu G h b fs (E0 ++ (List.range jj).flatMap (fun j => (cnR (mvW mp ((O.getD o ([], 0)).1.take d)) x3.toInt (pg v : Int) (pg w : Int) (mc : Int) (fxM (twS (cc v) (n v)) (cc v) (n v) ii 0 1 ∧ fxM (twS (cc w) (n w)) (cc w) (n w) j 2 3) (fxM (twS (cc v) (n v)) (cc v) (n v) ii 3 0 ∧ fxM (twS (cc w) (n w)) (cc w) (n w) j 1 2) (cc v ii) (cc w j))))) : V G mX13_corners (sv_MQ G mX13_corners Qr) 78 [(7, .long (jN ((cc w jj).2 - (cc v ii).2))), (5, .long (jN ((cc w jj).1 - (cc v ii).1))), (4, .int (nI jj)), (3, .int (nI ii)), (2, .int (nI w)), (1, .int (nI v)), (0, .ref (b + 220))] [] h z 0 0 := by
  obtain ⟨k0, k1⟩ := id LK
  obtain ⟨r0, r1, ⟨j33, r33, r33a⟩, ⟨j34, r34, r34a⟩, ⟨j35, r35, r35a⟩, ⟨j36, r36, r36a⟩, ⟨j37, r37, r37a⟩, ⟨j38, r38, r38a⟩, ⟨j39, r39, r39a⟩⟩ := id RU
  obtain ⟨fsd, fo, ft, ff, gx, gy, gp, gl, gh, d49, d50, d51, d52, d53, d54, d55, d56, d57, dd⟩ := id LD
  obtain ⟨⟨zv1, zv2⟩, pv, cv⟩ := k1 v hv
  obtain ⟨⟨zw1, zw2⟩, pw, cw⟩ := k1 w hw
  obtain ⟨sv1, sv2, sv3, sv4, sv5⟩ := dd v hv
  obtain ⟨sw1, sw2, sw3, sw4, sw5⟩ := dd w hw
  have hqf := hq0.to (S := [28, 29, 52, 53]) hl hE (by decide)
  have hlen : fs.length = 71 := hl
  have f_sides := hqf.f_sides
  have f_face := hqf.f_face
  have f_pos := hqf.f_pos
  have f_low := hqf.f_low
  have f_high := hqf.f_high
  have f_ofPolygon := hqf.f_ofPolygon
  have f_bound := hqf.f_bound
  have f_run := hqf.f_run
  have f_end := hqf.f_end
  have f_rule : fs[58]? = some (.int (nI ri)) := (hE 58 (by decide)).trans h58
  have w249 : ab_I G h (b + 249) 2 fsd := (fr _ (by omega) (by omega)).trans d49
  have w253 : ab_I G h (b + 253) 32 ff := (fr _ (by omega) (by omega)).trans d53
  have w254 : ab_J G h (b + 254) 32 gp := (fr _ (by omega) (by omega)).trans d54
  have w255 : ab_J G h (b + 255) 32 gl := (fr _ (by omega) (by omega)).trans d55
  have w256 : ab_J G h (b + 256) 32 gh := (fr _ (by omega) (by omega)).trans d56
  have w257 : ab_I G h (b + 257) 2 fo := (fr _ (by omega) (by omega)).trans d57
  have w236 : ab_J G h (b + 236) 40 j36 := (fr _ (by omega) (by omega)).trans r36
  have w237 : ab_J G h (b + 237) 40 j37 := (fr _ (by omega) (by omega)).trans r37
  have w239 : ab_J G h (b + 239) 40 j39 := (fr _ (by omega) (by omega)).trans r39
  have X3a := x3.le_toInt
  have X3b := x3.toInt_lt
  have X4a := (lrn x4).le_toInt
  have X4b := (lrn x4).toInt_lt
  have X6a := x6.le_toInt
  have X6b := x6.toInt_lt
  have w250 : ab_J G h (b + 250) 34 gx := (fr _ (by omega) (by omega)).trans d50
  have w251 : ab_J G h (b + 251) 34 gy := (fr _ (by omega) (by omega)).trans d51
  have f_cx := hqf.f_cx
  have f_cy := hqf.f_cy
  have q1 := sv4 ii (by omega)
  have q2 := sw4 jj (by omega)
  have q3 := cv ii (by omega)
  have q4 := cw jj (by omega)
  refine v_lload dX13_corners_78 0 rfl ?_
  refine v_lconst (v := 0) dX13_corners_80 (by decide) ?_
  refine v_lcmp_le (tgt := 112) dX13_corners_81 dX13_corners_82 (by decide) (fun c_82 => ?_) (fun c_82 => ?_)
  · refine v_iconst (v := 0) dX13_corners_112 (by decide) ?_
    refine v_istore (L' := [(9, _), (7, _), (5, _), (4, _), (3, _), (2, _), (1, _), (0, _)]) dX13_corners_113 (Nat.le_of_ble_eq_true rfl) rfl ?_
    refine v_sub (L' := [(9, _), (7, _), (5, _), (4, _), (3, _), (2, _), (1, _), (0, _)]) [0, 1, 2, 3, 4, 5, 6, 7] rfl ?_
    have hh := t_co115 G _ _ b nc np pl R hm p3 p4 sz ly vo mp X Y hb fs0 hq0 MY O MO o ho how d hd h60 h61 mc hmc h62 hMB ri kd l1 l2 x3 x4 x5 x6 RU h58 hen kk n pg cc LD LK v w hv hw ii jj hii hjj E0 hk h fs hm9 hl hE fr T
    first
      | (rw [if_pos (by exact ⟨(jN_lt (a := 0) (by omega) (by omega) (by omega) (by omega)).mp (Int64.not_le.mp c_82), Decidable.of_not_not (fun e9 => c_93 (if_neg e9)), Decidable.of_not_not (fun e9 => c_105 (if_neg e9))⟩)] at hh; exact hh)
      | (rw [if_neg (by intro e9; first | exact absurd ((jN_lt (a := 0) (by omega) (by omega) (by omega) (by omega)).mpr e9.1) (Int64.not_lt.mpr c_82) | (rw [if_pos e9.2.1] at c_93; exact absurd c_93 (by decide)) | (rw [if_pos e9.2.2] at c_105; exact absurd c_105 (by decide)))] at hh; exact hh)
  · refine v_aload_n dX13_corners_85 rfl 6 rfl ?_
    refine v_iload_n dX13_corners_86 rfl 5 rfl ?_
    refine v_iload_n dX13_corners_87 rfl 3 rfl ?_
    refine v_iconst (v := 0) dX13_corners_88 (by decide) ?_
    refine v_iconst (v := 1) dX13_corners_89 (by decide) ?_
    refine v_callVq (M' := mX13_faces) (n := 4) (As := [_, _, _, _]) (ci := 11) (r := (RX13, TX13, 71)) gX13_corners_X13_faces rfl (by decide +kernel) ⟨(Nat.le_of_ble_eq_true rfl), (Nat.le_of_ble_eq_true rfl)⟩ rfl rfl dX13_corners_90 rfl ⟨(Nat.le_of_ble_eq_true rfl), (Nat.le_of_ble_eq_true rfl)⟩ (Nat.le_of_ble_eq_true rfl) (by first | with_reducible assumption) rfl (m_faces G _ b nc np pl hb fs0 hq0 kk n pg cc LD LK h fs hm9 hl hE fr v ii 0 1 hv hii (by decide) (by decide)) (fun v9 h9 y9 hq => v_pq hq ?_)
    refine v_if_eq (tgt := 112) dX13_corners_93 (by decide) (fun c_93 => ?_) (fun c_93 => ?_)
    · refine v_iconst (v := 0) dX13_corners_112 (by decide) ?_
      refine v_istore (L' := [(9, _), (7, _), (5, _), (4, _), (3, _), (2, _), (1, _), (0, _)]) dX13_corners_113 (Nat.le_of_ble_eq_true rfl) rfl ?_
      refine v_sub (L' := [(9, _), (7, _), (5, _), (4, _), (3, _), (2, _), (1, _), (0, _)]) [0, 1, 2, 3, 4, 5, 6, 7] rfl ?_
      have hh := t_co115 G _ _ b nc np pl R hm p3 p4 sz ly vo mp X Y hb fs0 hq0 MY O MO o ho how d hd h60 h61 mc hmc h62 hMB ri kd l1 l2 x3 x4 x5 x6 RU h58 hen kk n pg cc LD LK v w hv hw ii jj hii hjj E0 hk h fs hm9 hl hE fr T
      first
        | (rw [if_pos (by exact ⟨(jN_lt (a := 0) (by omega) (by omega) (by omega) (by omega)).mp (Int64.not_le.mp c_82), Decidable.of_not_not (fun e9 => c_93 (if_neg e9)), Decidable.of_not_not (fun e9 => c_105 (if_neg e9))⟩)] at hh; exact hh)
        | (rw [if_neg (by intro e9; first | exact absurd ((jN_lt (a := 0) (by omega) (by omega) (by omega) (by omega)).mpr e9.1) (Int64.not_lt.mpr c_82) | (rw [if_pos e9.2.1] at c_93; exact absurd c_93 (by decide)) | (rw [if_pos e9.2.2] at c_105; exact absurd c_105 (by decide)))] at hh; exact hh)
    · refine v_aload_n dX13_corners_96 rfl 6 rfl ?_
      refine v_iload_n dX13_corners_97 rfl 4 rfl ?_
      refine v_iload dX13_corners_98 2 rfl ?_
      refine v_iconst (v := 2) dX13_corners_100 (by decide) ?_
      refine v_iconst (v := 3) dX13_corners_101 (by decide) ?_
      refine v_callVq (M' := mX13_faces) (n := 4) (As := [_, _, _, _]) (ci := 11) (r := (RX13, TX13, 71)) gX13_corners_X13_faces rfl (by decide +kernel) ⟨(Nat.le_of_ble_eq_true rfl), (Nat.le_of_ble_eq_true rfl)⟩ rfl rfl dX13_corners_102 rfl ⟨(Nat.le_of_ble_eq_true rfl), (Nat.le_of_ble_eq_true rfl)⟩ (Nat.le_of_ble_eq_true rfl) (by first | with_reducible assumption) rfl (m_faces G _ b nc np pl hb fs0 hq0 kk n pg cc LD LK h fs hm9 hl hE fr w jj 2 3 hw hjj (by decide) (by decide)) (fun v9 h9 y9 hq => v_pq hq ?_)
      refine v_if_eq (tgt := 112) dX13_corners_105 (by decide) (fun c_105 => ?_) (fun c_105 => ?_)
      · refine v_iconst (v := 0) dX13_corners_112 (by decide) ?_
        refine v_istore (L' := [(9, _), (7, _), (5, _), (4, _), (3, _), (2, _), (1, _), (0, _)]) dX13_corners_113 (Nat.le_of_ble_eq_true rfl) rfl ?_
        refine v_sub (L' := [(9, _), (7, _), (5, _), (4, _), (3, _), (2, _), (1, _), (0, _)]) [0, 1, 2, 3, 4, 5, 6, 7] rfl ?_
        have hh := t_co115 G _ _ b nc np pl R hm p3 p4 sz ly vo mp X Y hb fs0 hq0 MY O MO o ho how d hd h60 h61 mc hmc h62 hMB ri kd l1 l2 x3 x4 x5 x6 RU h58 hen kk n pg cc LD LK v w hv hw ii jj hii hjj E0 hk h fs hm9 hl hE fr T
        first
          | (rw [if_pos (by exact ⟨(jN_lt (a := 0) (by omega) (by omega) (by omega) (by omega)).mp (Int64.not_le.mp c_82), Decidable.of_not_not (fun e9 => c_93 (if_neg e9)), Decidable.of_not_not (fun e9 => c_105 (if_neg e9))⟩)] at hh; exact hh)
          | (rw [if_neg (by intro e9; first | exact absurd ((jN_lt (a := 0) (by omega) (by omega) (by omega) (by omega)).mpr e9.1) (Int64.not_lt.mpr c_82) | (rw [if_pos e9.2.1] at c_93; exact absurd c_93 (by decide)) | (rw [if_pos e9.2.2] at c_105; exact absurd c_105 (by decide)))] at hh; exact hh)
      · refine v_iconst (v := 1) dX13_corners_108 (by decide) ?_
        refine v_goto (tgt := 113) dX13_corners_109 (by decide) ?_
        refine v_istore (L' := [(9, _), (7, _), (5, _), (4, _), (3, _), (2, _), (1, _), (0, _)]) dX13_corners_113 (Nat.le_of_ble_eq_true rfl) rfl ?_
        refine v_sub (L' := [(9, _), (7, _), (5, _), (4, _), (3, _), (2, _), (1, _), (0, _)]) [0, 1, 2, 3, 4, 5, 6, 7] rfl ?_
        have hh := t_co115 G _ _ b nc np pl R hm p3 p4 sz ly vo mp X Y hb fs0 hq0 MY O MO o ho how d hd h60 h61 mc hmc h62 hMB ri kd l1 l2 x3 x4 x5 x6 RU h58 hen kk n pg cc LD LK v w hv hw ii jj hii hjj E0 hk h fs hm9 hl hE fr T
        first
          | (rw [if_pos (by exact ⟨(jN_lt (a := 0) (by omega) (by omega) (by omega) (by omega)).mp (Int64.not_le.mp c_82), Decidable.of_not_not (fun e9 => c_93 (if_neg e9)), Decidable.of_not_not (fun e9 => c_105 (if_neg e9))⟩)] at hh; exact hh)
          | (rw [if_neg (by intro e9; first | exact absurd ((jN_lt (a := 0) (by omega) (by omega) (by omega) (by omega)).mpr e9.1) (Int64.not_lt.mpr c_82) | (rw [if_pos e9.2.1] at c_93; exact absurd c_93 (by decide)) | (rw [if_pos e9.2.2] at c_105; exact absurd c_105 (by decide)))] at hh; exact hh)

set_option maxHeartbeats 4000000 in
set_option maxRecDepth 100000 in
theorem l_mcI (G : sv_G) (Qr : Option Value → sv_h → Nat → Prop) (z b nc np pl : Nat) (R : Nat → Bool) (hm p3 p4 sz : Nat → Nat) (ly vo : Nat → Int32) (mp : Nat → mvT) (X Y : Nat → Nat → Int) (hb : sv_h) (fs0 : List Value) (hq0 : mfq_ b nc np pl fs0) (MY : myl_ G hb b nc np pl R hm p3 p4 sz ly vo mp X Y) (O : List (List Nat × Nat)) (MO : moc_ G hb b O) (o : Nat) (ho : o < O.length) (how : ∀ i, i ∈ (O.getD o ([], 0)).1 → i < pl) (d : Nat) (hd : d ≤ (O.getD o ([], 0)).1.length) (h60 : fs0[60]? = some (.int (nI o))) (h61 : fs0[61]? = some (.int (nI d))) (mc : Nat) (hmc : mc < 100) (h62 : fs0[62]? = some (.int (nI mc))) (hMB : ∀ x y : Int, -200000 ≤ x ∧ x ≤ 200000 → -200000 ≤ y ∧ y ≤ 200000 → (-1000000000 ≤ (mvA (mvW mp ((O.getD o ([], 0)).1.take d)) (x, y)).1 ∧ (mvA (mvW mp ((O.getD o ([], 0)).1.take d)) (x, y)).1 ≤ 1000000000) ∧ (-1000000000 ≤ (mvA (mvW mp ((O.getD o ([], 0)).1.take d)) (x, y)).2 ∧ (mvA (mvW mp ((O.getD o ([], 0)).1.take d)) (x, y)).2 ≤ 1000000000)) (ri kd : Nat) (l1 l2 x3 x4 x5 x6 : Int32) (RU : mru_ G hb b ri kd l1 l2 x3 x4 x5 x6) (h58 : fs0[58]? = some (.int (nI ri))) (hen : x6 = -1 ∨ 0 ≤ x6) (kk : Nat) (n pg : Nat → Nat) (cc : Nat → Nat → Int × Int) (LD : mld_ G hb b kk n pg cc) (LK : mlk_ kk n pg cc) (v w : Nat) (hv : v < kk) (hw : w < kk) (ii : Nat) (hii : ii < n v) (E0 : List (List Int64)) (hk : ∀ (h : sv_h) (fs : List Value), h (b + 220) = some (.inr (11, fs)) → fs.length = 71 → fsE [28, 29, 52, 53] fs0 fs → (∀ a, a ≠ b + 220 → a ≠ b + 241 → h a = hb a) → mT_ gu G h b fs ((E0 ++ (List.range (n w)).flatMap (fun j => (cnR (mvW mp ((O.getD o ([], 0)).1.take d)) x3.toInt (pg v : Int) (pg w : Int) (mc : Int) (fxM (twS (cc v) (n v)) (cc v) (n v) ii 0 1 ∧ fxM (twS (cc w) (n w)) (cc w) (n w) j 2 3) (fxM (twS (cc v) (n v)) (cc v) (n v) ii 3 0 ∧ fxM (twS (cc w) (n w)) (cc w) (n w) j 1 2) (cc v ii) (cc w j))))) → V G mX13_corners (sv_MQ G mX13_corners Qr) 297 [(3, .int (nI ii)), (2, .int (nI w)), (1, .int (nI v)), (0, .ref (b + 220))] [] h z 0 0) : ∀ (e jj : Nat) (h : sv_h) (fs : List Value), jj + e = n w → h (b + 220) = some (.inr (11, fs)) → fs.length = 71 → fsE [28, 29, 52, 53] fs0 fs → (∀ a, a ≠ b + 220 → a ≠ b + 241 → h a = hb a) → mT_ gu G h b fs ((E0 ++ (List.range jj).flatMap (fun j => (cnR (mvW mp ((O.getD o ([], 0)).1.take d)) x3.toInt (pg v : Int) (pg w : Int) (mc : Int) (fxM (twS (cc v) (n v)) (cc v) (n v) ii 0 1 ∧ fxM (twS (cc w) (n w)) (cc w) (n w) j 2 3) (fxM (twS (cc v) (n v)) (cc v) (n v) ii 3 0 ∧ fxM (twS (cc w) (n w)) (cc w) (n w) j 1 2) (cc v ii) (cc w j))))) → V G mX13_corners (sv_MQ G mX13_corners Qr) 15 [(4, .int (nI jj)), (3, .int (nI ii)), (2, .int (nI w)), (1, .int (nI v)), (0, .ref (b + 220))] [] h z 0 0 := by
  intro e
  induction e with
  | zero =>
    intro jj h fs hje hm9 hl hE fr T
    obtain ⟨k0, k1⟩ := id LK
    obtain ⟨r0, r1, ⟨j33, r33, r33a⟩, ⟨j34, r34, r34a⟩, ⟨j35, r35, r35a⟩, ⟨j36, r36, r36a⟩, ⟨j37, r37, r37a⟩, ⟨j38, r38, r38a⟩, ⟨j39, r39, r39a⟩⟩ := id RU
    obtain ⟨fsd, fo, ft, ff, gx, gy, gp, gl, gh, d49, d50, d51, d52, d53, d54, d55, d56, d57, dd⟩ := id LD
    obtain ⟨⟨zv1, zv2⟩, pv, cv⟩ := k1 v hv
    obtain ⟨⟨zw1, zw2⟩, pw, cw⟩ := k1 w hw
    obtain ⟨sv1, sv2, sv3, sv4, sv5⟩ := dd v hv
    obtain ⟨sw1, sw2, sw3, sw4, sw5⟩ := dd w hw
    have hqf := hq0.to (S := [28, 29, 52, 53]) hl hE (by decide)
    have hlen : fs.length = 71 := hl
    have f_sides := hqf.f_sides
    have f_face := hqf.f_face
    have f_pos := hqf.f_pos
    have f_low := hqf.f_low
    have f_high := hqf.f_high
    have f_ofPolygon := hqf.f_ofPolygon
    have f_bound := hqf.f_bound
    have f_run := hqf.f_run
    have f_end := hqf.f_end
    have f_rule : fs[58]? = some (.int (nI ri)) := (hE 58 (by decide)).trans h58
    have w249 : ab_I G h (b + 249) 2 fsd := (fr _ (by omega) (by omega)).trans d49
    have w253 : ab_I G h (b + 253) 32 ff := (fr _ (by omega) (by omega)).trans d53
    have w254 : ab_J G h (b + 254) 32 gp := (fr _ (by omega) (by omega)).trans d54
    have w255 : ab_J G h (b + 255) 32 gl := (fr _ (by omega) (by omega)).trans d55
    have w256 : ab_J G h (b + 256) 32 gh := (fr _ (by omega) (by omega)).trans d56
    have w257 : ab_I G h (b + 257) 2 fo := (fr _ (by omega) (by omega)).trans d57
    have w236 : ab_J G h (b + 236) 40 j36 := (fr _ (by omega) (by omega)).trans r36
    have w237 : ab_J G h (b + 237) 40 j37 := (fr _ (by omega) (by omega)).trans r37
    have w239 : ab_J G h (b + 239) 40 j39 := (fr _ (by omega) (by omega)).trans r39
    have X3a := x3.le_toInt
    have X3b := x3.toInt_lt
    have X4a := (lrn x4).le_toInt
    have X4b := (lrn x4).toInt_lt
    have X6a := x6.le_toInt
    have X6b := x6.toInt_lt
    have w250 : ab_J G h (b + 250) 34 gx := (fr _ (by omega) (by omega)).trans d50
    have w251 : ab_J G h (b + 251) 34 gy := (fr _ (by omega) (by omega)).trans d51
    have f_cx := hqf.f_cx
    have f_cy := hqf.f_cy
    have e9 : jj = n w := by omega
    subst e9
    refine v_iload dX13_corners_15 0 rfl ?_
    refine v_aload_n dX13_corners_17 rfl 4 rfl ?_
    refine v_getf 43 (ci := 11) (C := RX13) (T := TX13) (N := 71) rfl iwX13_corners_X13 (Nat.le_of_ble_eq_true rfl) (by decide +kernel) dX13_corners_18 (by first | with_reducible assumption) (by repeat (first | with_reducible assumption | (with_reducible refine (sv_ls (by first | omega | (simp only [List.length_set]; omega))).trans ?_; exact rfl) | with_reducible refine (List.getElem?_set_ne (by decide)).trans ?_)) ?_
    refine v_iload_n dX13_corners_21 rfl 2 rfl ?_
    refine v_ialdS (v := nI (n w)) dX13_corners_22 (by first | with_reducible assumption) (vp_in_nI (by omega) (by omega)) (by rw [nI_clamp (by omega)]; exact sw1) ?_
    refine v_icmp_ge (tgt := 297) dX13_corners_23 (by decide) (fun c_23 => ?_) (fun c_23 => ?_)
    · refine v_sub (L' := [(3, _), (2, _), (1, _), (0, _)]) [1, 2, 3, 4] rfl ?_
      exact hk h fs hm9 hl hE fr T
    · exact absurd (nI_le (Nat.le_refl _) (by omega)) c_23
  | succ e ih =>
    intro jj h fs hje hm9 hl hE fr T
    obtain ⟨k0, k1⟩ := id LK
    obtain ⟨r0, r1, ⟨j33, r33, r33a⟩, ⟨j34, r34, r34a⟩, ⟨j35, r35, r35a⟩, ⟨j36, r36, r36a⟩, ⟨j37, r37, r37a⟩, ⟨j38, r38, r38a⟩, ⟨j39, r39, r39a⟩⟩ := id RU
    obtain ⟨fsd, fo, ft, ff, gx, gy, gp, gl, gh, d49, d50, d51, d52, d53, d54, d55, d56, d57, dd⟩ := id LD
    obtain ⟨⟨zv1, zv2⟩, pv, cv⟩ := k1 v hv
    obtain ⟨⟨zw1, zw2⟩, pw, cw⟩ := k1 w hw
    obtain ⟨sv1, sv2, sv3, sv4, sv5⟩ := dd v hv
    obtain ⟨sw1, sw2, sw3, sw4, sw5⟩ := dd w hw
    have hqf := hq0.to (S := [28, 29, 52, 53]) hl hE (by decide)
    have hlen : fs.length = 71 := hl
    have f_sides := hqf.f_sides
    have f_face := hqf.f_face
    have f_pos := hqf.f_pos
    have f_low := hqf.f_low
    have f_high := hqf.f_high
    have f_ofPolygon := hqf.f_ofPolygon
    have f_bound := hqf.f_bound
    have f_run := hqf.f_run
    have f_end := hqf.f_end
    have f_rule : fs[58]? = some (.int (nI ri)) := (hE 58 (by decide)).trans h58
    have w249 : ab_I G h (b + 249) 2 fsd := (fr _ (by omega) (by omega)).trans d49
    have w253 : ab_I G h (b + 253) 32 ff := (fr _ (by omega) (by omega)).trans d53
    have w254 : ab_J G h (b + 254) 32 gp := (fr _ (by omega) (by omega)).trans d54
    have w255 : ab_J G h (b + 255) 32 gl := (fr _ (by omega) (by omega)).trans d55
    have w256 : ab_J G h (b + 256) 32 gh := (fr _ (by omega) (by omega)).trans d56
    have w257 : ab_I G h (b + 257) 2 fo := (fr _ (by omega) (by omega)).trans d57
    have w236 : ab_J G h (b + 236) 40 j36 := (fr _ (by omega) (by omega)).trans r36
    have w237 : ab_J G h (b + 237) 40 j37 := (fr _ (by omega) (by omega)).trans r37
    have w239 : ab_J G h (b + 239) 40 j39 := (fr _ (by omega) (by omega)).trans r39
    have X3a := x3.le_toInt
    have X3b := x3.toInt_lt
    have X4a := (lrn x4).le_toInt
    have X4b := (lrn x4).toInt_lt
    have X6a := x6.le_toInt
    have X6b := x6.toInt_lt
    have w250 : ab_J G h (b + 250) 34 gx := (fr _ (by omega) (by omega)).trans d50
    have w251 : ab_J G h (b + 251) 34 gy := (fr _ (by omega) (by omega)).trans d51
    have f_cx := hqf.f_cx
    have f_cy := hqf.f_cy
    have hjj : jj < n w := by omega
    have q1 := sv4 ii (by omega)
    have q2 := sw4 jj (by omega)
    have q3 := cv ii (by omega)
    have q4 := cw jj (by omega)
    refine v_iload dX13_corners_15 0 rfl ?_
    refine v_aload_n dX13_corners_17 rfl 4 rfl ?_
    refine v_getf 43 (ci := 11) (C := RX13) (T := TX13) (N := 71) rfl iwX13_corners_X13 (Nat.le_of_ble_eq_true rfl) (by decide +kernel) dX13_corners_18 (by first | with_reducible assumption) (by repeat (first | with_reducible assumption | (with_reducible refine (sv_ls (by first | omega | (simp only [List.length_set]; omega))).trans ?_; exact rfl) | with_reducible refine (List.getElem?_set_ne (by decide)).trans ?_)) ?_
    refine v_iload_n dX13_corners_21 rfl 2 rfl ?_
    refine v_ialdS (v := nI (n w)) dX13_corners_22 (by first | with_reducible assumption) (vp_in_nI (by omega) (by omega)) (by rw [nI_clamp (by omega)]; exact sw1) ?_
    refine v_icmp_ge (tgt := 297) dX13_corners_23 (by decide) (fun c_23 => ?_) (fun c_23 => ?_)
    · exact absurd c_23 (nI_ge hjj (by omega))
    · refine v_aload_n dX13_corners_26 rfl 4 rfl ?_
      refine v_getf 44 (ci := 11) (C := RX13) (T := TX13) (N := 71) rfl iwX13_corners_X13 (Nat.le_of_ble_eq_true rfl) (by decide +kernel) dX13_corners_27 (by first | with_reducible assumption) (by repeat (first | with_reducible assumption | (with_reducible refine (sv_ls (by first | omega | (simp only [List.length_set]; omega))).trans ?_; exact rfl) | with_reducible refine (List.getElem?_set_ne (by decide)).trans ?_)) ?_
      refine v_bipush (v := 17) dX13_corners_30 (by decide) ?_
      refine v_iload_n dX13_corners_32 rfl 2 rfl ?_
      refine v_imul dX13_corners_33 ?_
      refine v_iload dX13_corners_34 0 rfl ?_
      refine v_iadd dX13_corners_36 ?_
      rw [sv_17]
      refine v_laldS (v := jN (cc w jj).1) dX13_corners_37 (by first | with_reducible assumption) (vp_in_nI (by omega) (by omega)) (by rw [nI_clamp (by omega)]; exact q2.1) ?_
      refine v_aload_n dX13_corners_38 rfl 4 rfl ?_
      refine v_getf 44 (ci := 11) (C := RX13) (T := TX13) (N := 71) rfl iwX13_corners_X13 (Nat.le_of_ble_eq_true rfl) (by decide +kernel) dX13_corners_39 (by first | with_reducible assumption) (by repeat (first | with_reducible assumption | (with_reducible refine (sv_ls (by first | omega | (simp only [List.length_set]; omega))).trans ?_; exact rfl) | with_reducible refine (List.getElem?_set_ne (by decide)).trans ?_)) ?_
      refine v_bipush (v := 17) dX13_corners_42 (by decide) ?_
      refine v_iload_n dX13_corners_44 rfl 3 rfl ?_
      refine v_imul dX13_corners_45 ?_
      refine v_iload_n dX13_corners_46 rfl 1 rfl ?_
      refine v_iadd dX13_corners_47 ?_
      rw [sv_17]
      refine v_laldS (v := jN (cc v ii).1) dX13_corners_48 (by first | with_reducible assumption) (vp_in_nI (by omega) (by omega)) (by rw [nI_clamp (by omega)]; exact q1.1) ?_
      refine v_lsub dX13_corners_49 ?_
      rw [← jN_sub]
      refine v_lstore (L' := [(5, _), (4, _), (3, _), (2, _), (1, _), (0, _)]) dX13_corners_50 (Nat.le_of_ble_eq_true rfl) rfl ?_
      refine v_aload_n dX13_corners_52 rfl 5 rfl ?_
      refine v_getf 45 (ci := 11) (C := RX13) (T := TX13) (N := 71) rfl iwX13_corners_X13 (Nat.le_of_ble_eq_true rfl) (by decide +kernel) dX13_corners_53 (by first | with_reducible assumption) (by repeat (first | with_reducible assumption | (with_reducible refine (sv_ls (by first | omega | (simp only [List.length_set]; omega))).trans ?_; exact rfl) | with_reducible refine (List.getElem?_set_ne (by decide)).trans ?_)) ?_
      refine v_bipush (v := 17) dX13_corners_56 (by decide) ?_
      refine v_iload_n dX13_corners_58 rfl 3 rfl ?_
      refine v_imul dX13_corners_59 ?_
      refine v_iload dX13_corners_60 1 rfl ?_
      refine v_iadd dX13_corners_62 ?_
      rw [sv_17]
      refine v_laldS (v := jN (cc w jj).2) dX13_corners_63 (by first | with_reducible assumption) (vp_in_nI (by omega) (by omega)) (by rw [nI_clamp (by omega)]; exact q2.2) ?_
      refine v_aload_n dX13_corners_64 rfl 5 rfl ?_
      refine v_getf 45 (ci := 11) (C := RX13) (T := TX13) (N := 71) rfl iwX13_corners_X13 (Nat.le_of_ble_eq_true rfl) (by decide +kernel) dX13_corners_65 (by first | with_reducible assumption) (by repeat (first | with_reducible assumption | (with_reducible refine (sv_ls (by first | omega | (simp only [List.length_set]; omega))).trans ?_; exact rfl) | with_reducible refine (List.getElem?_set_ne (by decide)).trans ?_)) ?_
      refine v_bipush (v := 17) dX13_corners_68 (by decide) ?_
      refine v_iload_n dX13_corners_70 rfl 4 rfl ?_
      refine v_imul dX13_corners_71 ?_
      refine v_iload_n dX13_corners_72 rfl 2 rfl ?_
      refine v_iadd dX13_corners_73 ?_
      rw [sv_17]
      refine v_laldS (v := jN (cc v ii).2) dX13_corners_74 (by first | with_reducible assumption) (vp_in_nI (by omega) (by omega)) (by rw [nI_clamp (by omega)]; exact q1.2) ?_
      refine v_lsub dX13_corners_75 ?_
      rw [← jN_sub]
      refine v_lstore (L' := [(7, _), (5, _), (4, _), (3, _), (2, _), (1, _), (0, _)]) dX13_corners_76 (Nat.le_of_ble_eq_true rfl) rfl ?_
      refine v_sub (L' := [(7, _), (5, _), (4, _), (3, _), (2, _), (1, _), (0, _)]) [0, 1, 2, 3, 4, 5, 6] rfl ?_
      refine t_co78 G _ _ b nc np pl R hm p3 p4 sz ly vo mp X Y hb fs0 hq0 MY O MO o ho how d hd h60 h61 mc hmc h62 hMB ri kd l1 l2 x3 x4 x5 x6 RU h58 hen kk n pg cc LD LK v w hv hw ii jj hii hjj E0 (fun h2 fs2 v1 v2 v3 v4 v5 => ?_) h fs hm9 hl hE fr T
      refine v_iinc (j := 0) (L' := [(4, _), (3, _), (2, _), (1, _), (0, _)]) (v := nI (jj + 1)) dX13_corners_291 rfl (nI_1 _) (Nat.le_of_ble_eq_true rfl) rfl ?_
      refine v_goto (tgt := 15) dX13_corners_294 (by decide) ?_
      refine v_sub (L' := [(4, _), (3, _), (2, _), (1, _), (0, _)]) [0, 1, 2, 3, 4] rfl ?_
      exact ih (jj + 1) h2 fs2 (by omega) v1 v2 v3 v4 v5

/-- the rows between the corners of the one and of the other -/
def cnL (M : mvT) (lim a c hmI : Int) (sv sw : Int) (C D : Nat → Int × Int) (n m : Nat) : List (List Int64) := (List.range n).flatMap (fun i => (List.range m).flatMap (fun j => cnR M lim a c hmI (fxM sv C n i 0 1 ∧ fxM sw D m j 2 3) (fxM sv C n i 3 0 ∧ fxM sw D m j 1 2) (C i) (D j)))
set_option maxHeartbeats 4000000 in
set_option maxRecDepth 100000 in
theorem l_mcO (G : sv_G) (z b nc np pl : Nat) (R : Nat → Bool) (hm p3 p4 sz : Nat → Nat) (ly vo : Nat → Int32) (mp : Nat → mvT) (X Y : Nat → Nat → Int) (hb : sv_h) (fs0 : List Value) (hq0 : mfq_ b nc np pl fs0) (MY : myl_ G hb b nc np pl R hm p3 p4 sz ly vo mp X Y) (O : List (List Nat × Nat)) (MO : moc_ G hb b O) (o : Nat) (ho : o < O.length) (how : ∀ i, i ∈ (O.getD o ([], 0)).1 → i < pl) (d : Nat) (hd : d ≤ (O.getD o ([], 0)).1.length) (h60 : fs0[60]? = some (.int (nI o))) (h61 : fs0[61]? = some (.int (nI d))) (mc : Nat) (hmc : mc < 100) (h62 : fs0[62]? = some (.int (nI mc))) (hMB : ∀ x y : Int, -200000 ≤ x ∧ x ≤ 200000 → -200000 ≤ y ∧ y ≤ 200000 → (-1000000000 ≤ (mvA (mvW mp ((O.getD o ([], 0)).1.take d)) (x, y)).1 ∧ (mvA (mvW mp ((O.getD o ([], 0)).1.take d)) (x, y)).1 ≤ 1000000000) ∧ (-1000000000 ≤ (mvA (mvW mp ((O.getD o ([], 0)).1.take d)) (x, y)).2 ∧ (mvA (mvW mp ((O.getD o ([], 0)).1.take d)) (x, y)).2 ≤ 1000000000)) (ri kd : Nat) (l1 l2 x3 x4 x5 x6 : Int32) (RU : mru_ G hb b ri kd l1 l2 x3 x4 x5 x6) (h58 : fs0[58]? = some (.int (nI ri))) (hen : x6 = -1 ∨ 0 ≤ x6) (kk : Nat) (n pg : Nat → Nat) (cc : Nat → Nat → Int × Int) (LD : mld_ G hb b kk n pg cc) (LK : mlk_ kk n pg cc) (v w : Nat) (hv : v < kk) (hw : w < kk) (E0 : List (List Int64)) : ∀ (e ii : Nat) (h : sv_h) (fs : List Value), ii + e = n v → h (b + 220) = some (.inr (11, fs)) → fs.length = 71 → fsE [28, 29, 52, 53] fs0 fs → (∀ a, a ≠ b + 220 → a ≠ b + 241 → h a = hb a) → mT_ gu G h b fs ((E0 ++ (List.range ii).flatMap (fun i => (List.range (n w)).flatMap (fun j => (cnR (mvW mp ((O.getD o ([], 0)).1.take d)) x3.toInt (pg v : Int) (pg w : Int) (mc : Int) (fxM (twS (cc v) (n v)) (cc v) (n v) i 0 1 ∧ fxM (twS (cc w) (n w)) (cc w) (n w) j 2 3) (fxM (twS (cc v) (n v)) (cc v) (n v) i 3 0 ∧ fxM (twS (cc w) (n w)) (cc w) (n w) j 1 2) (cc v i) (cc w j)))))) → V G mX13_corners (sv_MQ G mX13_corners (fun v9 h1 z1 => v9 = none ∧ z1 = z ∧ ∃ fs1, h1 (b + 220) = some (.inr (11, fs1)) ∧ fs1.length = 71 ∧ fsE [28, 29, 52, 53] fs0 fs1 ∧ (∀ a, a ≠ b + 220 → a ≠ b + 241 → h1 a = hb a) ∧ mT_ gu G h1 b fs1 (E0 ++ cnL (mvW mp ((O.getD o ([], 0)).1.take d)) x3.toInt (pg v : Int) (pg w : Int) (mc : Int) (twS (cc v) (n v)) (twS (cc w) (n w)) (cc v) (cc w) (n v) (n w)))) 2 [(3, .int (nI ii)), (2, .int (nI w)), (1, .int (nI v)), (0, .ref (b + 220))] [] h z 0 0 := by
  intro e
  induction e with
  | zero =>
    intro ii h fs hie hm9 hl hE fr T
    obtain ⟨k0, k1⟩ := id LK
    obtain ⟨r0, r1, ⟨j33, r33, r33a⟩, ⟨j34, r34, r34a⟩, ⟨j35, r35, r35a⟩, ⟨j36, r36, r36a⟩, ⟨j37, r37, r37a⟩, ⟨j38, r38, r38a⟩, ⟨j39, r39, r39a⟩⟩ := id RU
    obtain ⟨fsd, fo, ft, ff, gx, gy, gp, gl, gh, d49, d50, d51, d52, d53, d54, d55, d56, d57, dd⟩ := id LD
    obtain ⟨⟨zv1, zv2⟩, pv, cv⟩ := k1 v hv
    obtain ⟨⟨zw1, zw2⟩, pw, cw⟩ := k1 w hw
    obtain ⟨sv1, sv2, sv3, sv4, sv5⟩ := dd v hv
    obtain ⟨sw1, sw2, sw3, sw4, sw5⟩ := dd w hw
    have hqf := hq0.to (S := [28, 29, 52, 53]) hl hE (by decide)
    have hlen : fs.length = 71 := hl
    have f_sides := hqf.f_sides
    have f_face := hqf.f_face
    have f_pos := hqf.f_pos
    have f_low := hqf.f_low
    have f_high := hqf.f_high
    have f_ofPolygon := hqf.f_ofPolygon
    have f_bound := hqf.f_bound
    have f_run := hqf.f_run
    have f_end := hqf.f_end
    have f_rule : fs[58]? = some (.int (nI ri)) := (hE 58 (by decide)).trans h58
    have w249 : ab_I G h (b + 249) 2 fsd := (fr _ (by omega) (by omega)).trans d49
    have w253 : ab_I G h (b + 253) 32 ff := (fr _ (by omega) (by omega)).trans d53
    have w254 : ab_J G h (b + 254) 32 gp := (fr _ (by omega) (by omega)).trans d54
    have w255 : ab_J G h (b + 255) 32 gl := (fr _ (by omega) (by omega)).trans d55
    have w256 : ab_J G h (b + 256) 32 gh := (fr _ (by omega) (by omega)).trans d56
    have w257 : ab_I G h (b + 257) 2 fo := (fr _ (by omega) (by omega)).trans d57
    have w236 : ab_J G h (b + 236) 40 j36 := (fr _ (by omega) (by omega)).trans r36
    have w237 : ab_J G h (b + 237) 40 j37 := (fr _ (by omega) (by omega)).trans r37
    have w239 : ab_J G h (b + 239) 40 j39 := (fr _ (by omega) (by omega)).trans r39
    have X3a := x3.le_toInt
    have X3b := x3.toInt_lt
    have X4a := (lrn x4).le_toInt
    have X4b := (lrn x4).toInt_lt
    have X6a := x6.le_toInt
    have X6b := x6.toInt_lt
    have w250 : ab_J G h (b + 250) 34 gx := (fr _ (by omega) (by omega)).trans d50
    have w251 : ab_J G h (b + 251) 34 gy := (fr _ (by omega) (by omega)).trans d51
    have f_cx := hqf.f_cx
    have f_cy := hqf.f_cy
    have e9 : ii = n v := by omega
    subst e9
    refine v_iload_n dX13_corners_2 rfl 0 rfl ?_
    refine v_aload_n dX13_corners_3 rfl 3 rfl ?_
    refine v_getf 43 (ci := 11) (C := RX13) (T := TX13) (N := 71) rfl iwX13_corners_X13 (Nat.le_of_ble_eq_true rfl) (by decide +kernel) dX13_corners_4 (by first | with_reducible assumption) (by repeat (first | with_reducible assumption | (with_reducible refine (sv_ls (by first | omega | (simp only [List.length_set]; omega))).trans ?_; exact rfl) | with_reducible refine (List.getElem?_set_ne (by decide)).trans ?_)) ?_
    refine v_iload_n dX13_corners_7 rfl 2 rfl ?_
    refine v_ialdS (v := nI (n v)) dX13_corners_8 (by first | with_reducible assumption) (vp_in_nI (by omega) (by omega)) (by rw [nI_clamp (by omega)]; exact sv1) ?_
    refine v_icmp_ge (tgt := 303) dX13_corners_9 (by decide) (fun c_9 => ?_) (fun c_9 => ?_)
    · exact v_ret rfl dX13_corners_303 (Nat.le_of_ble_eq_true rfl) (Nat.le_of_ble_eq_true rfl) ⟨rfl, rfl, fs, hm9, hl, hE, fr, T⟩
    · exact absurd (nI_le (Nat.le_refl _) (by omega)) c_9
  | succ e ih =>
    intro ii h fs hie hm9 hl hE fr T
    obtain ⟨k0, k1⟩ := id LK
    obtain ⟨r0, r1, ⟨j33, r33, r33a⟩, ⟨j34, r34, r34a⟩, ⟨j35, r35, r35a⟩, ⟨j36, r36, r36a⟩, ⟨j37, r37, r37a⟩, ⟨j38, r38, r38a⟩, ⟨j39, r39, r39a⟩⟩ := id RU
    obtain ⟨fsd, fo, ft, ff, gx, gy, gp, gl, gh, d49, d50, d51, d52, d53, d54, d55, d56, d57, dd⟩ := id LD
    obtain ⟨⟨zv1, zv2⟩, pv, cv⟩ := k1 v hv
    obtain ⟨⟨zw1, zw2⟩, pw, cw⟩ := k1 w hw
    obtain ⟨sv1, sv2, sv3, sv4, sv5⟩ := dd v hv
    obtain ⟨sw1, sw2, sw3, sw4, sw5⟩ := dd w hw
    have hqf := hq0.to (S := [28, 29, 52, 53]) hl hE (by decide)
    have hlen : fs.length = 71 := hl
    have f_sides := hqf.f_sides
    have f_face := hqf.f_face
    have f_pos := hqf.f_pos
    have f_low := hqf.f_low
    have f_high := hqf.f_high
    have f_ofPolygon := hqf.f_ofPolygon
    have f_bound := hqf.f_bound
    have f_run := hqf.f_run
    have f_end := hqf.f_end
    have f_rule : fs[58]? = some (.int (nI ri)) := (hE 58 (by decide)).trans h58
    have w249 : ab_I G h (b + 249) 2 fsd := (fr _ (by omega) (by omega)).trans d49
    have w253 : ab_I G h (b + 253) 32 ff := (fr _ (by omega) (by omega)).trans d53
    have w254 : ab_J G h (b + 254) 32 gp := (fr _ (by omega) (by omega)).trans d54
    have w255 : ab_J G h (b + 255) 32 gl := (fr _ (by omega) (by omega)).trans d55
    have w256 : ab_J G h (b + 256) 32 gh := (fr _ (by omega) (by omega)).trans d56
    have w257 : ab_I G h (b + 257) 2 fo := (fr _ (by omega) (by omega)).trans d57
    have w236 : ab_J G h (b + 236) 40 j36 := (fr _ (by omega) (by omega)).trans r36
    have w237 : ab_J G h (b + 237) 40 j37 := (fr _ (by omega) (by omega)).trans r37
    have w239 : ab_J G h (b + 239) 40 j39 := (fr _ (by omega) (by omega)).trans r39
    have X3a := x3.le_toInt
    have X3b := x3.toInt_lt
    have X4a := (lrn x4).le_toInt
    have X4b := (lrn x4).toInt_lt
    have X6a := x6.le_toInt
    have X6b := x6.toInt_lt
    have w250 : ab_J G h (b + 250) 34 gx := (fr _ (by omega) (by omega)).trans d50
    have w251 : ab_J G h (b + 251) 34 gy := (fr _ (by omega) (by omega)).trans d51
    have f_cx := hqf.f_cx
    have f_cy := hqf.f_cy
    refine v_iload_n dX13_corners_2 rfl 0 rfl ?_
    refine v_aload_n dX13_corners_3 rfl 3 rfl ?_
    refine v_getf 43 (ci := 11) (C := RX13) (T := TX13) (N := 71) rfl iwX13_corners_X13 (Nat.le_of_ble_eq_true rfl) (by decide +kernel) dX13_corners_4 (by first | with_reducible assumption) (by repeat (first | with_reducible assumption | (with_reducible refine (sv_ls (by first | omega | (simp only [List.length_set]; omega))).trans ?_; exact rfl) | with_reducible refine (List.getElem?_set_ne (by decide)).trans ?_)) ?_
    refine v_iload_n dX13_corners_7 rfl 2 rfl ?_
    refine v_ialdS (v := nI (n v)) dX13_corners_8 (by first | with_reducible assumption) (vp_in_nI (by omega) (by omega)) (by rw [nI_clamp (by omega)]; exact sv1) ?_
    refine v_icmp_ge (tgt := 303) dX13_corners_9 (by decide) (fun c_9 => ?_) (fun c_9 => ?_)
    · exact absurd c_9 (nI_ge (show ii < n v by omega) (by omega))
    · refine v_iconst (v := 0) dX13_corners_12 (by decide) ?_
      refine v_istore (L' := [(4, _), (3, _), (2, _), (1, _), (0, _)]) dX13_corners_13 (Nat.le_of_ble_eq_true rfl) rfl ?_
      refine v_sub (L' := [(4, _), (3, _), (2, _), (1, _), (0, _)]) [0, 1, 2, 3, 4] rfl ?_
      refine l_mcI G _ _ b nc np pl R hm p3 p4 sz ly vo mp X Y hb fs0 hq0 MY O MO o ho how d hd h60 h61 mc hmc h62 hMB ri kd l1 l2 x3 x4 x5 x6 RU h58 hen kk n pg cc LD LK v w hv hw ii (by omega) (E0 ++ (List.range ii).flatMap (fun i => (List.range (n w)).flatMap (fun j => (cnR (mvW mp ((O.getD o ([], 0)).1.take d)) x3.toInt (pg v : Int) (pg w : Int) (mc : Int) (fxM (twS (cc v) (n v)) (cc v) (n v) i 0 1 ∧ fxM (twS (cc w) (n w)) (cc w) (n w) j 2 3) (fxM (twS (cc v) (n v)) (cc v) (n v) i 3 0 ∧ fxM (twS (cc w) (n w)) (cc w) (n w) j 1 2) (cc v i) (cc w j))))) (fun h2 fs2 v1 v2 v3 v4 v5 => ?_) (n w) 0 h fs (Nat.zero_add _) hm9 hl hE fr (by rw [List.range_zero, List.flatMap_nil, List.append_nil]; exact T)
      refine v_iinc (j := 0) (L' := [(3, _), (2, _), (1, _), (0, _)]) (v := nI (ii + 1)) dX13_corners_297 rfl (nI_1 _) (Nat.le_of_ble_eq_true rfl) rfl ?_
      refine v_goto (tgt := 2) dX13_corners_300 (by decide) ?_
      refine v_sub (L' := [(3, _), (2, _), (1, _), (0, _)]) [0, 1, 2, 3] rfl ?_
      refine ih (ii + 1) h2 fs2 (by omega) v1 v2 v3 v4 ?_
      rw [rgm_s, ← List.append_assoc]
      exact v5

set_option maxHeartbeats 4000000 in
set_option maxRecDepth 100000 in
theorem m_corners (G : sv_G) (z b nc np pl : Nat) (R : Nat → Bool) (hm p3 p4 sz : Nat → Nat) (ly vo : Nat → Int32) (mp : Nat → mvT) (X Y : Nat → Nat → Int) (hb : sv_h) (fs0 : List Value) (hq0 : mfq_ b nc np pl fs0) (MY : myl_ G hb b nc np pl R hm p3 p4 sz ly vo mp X Y) (O : List (List Nat × Nat)) (MO : moc_ G hb b O) (o : Nat) (ho : o < O.length) (how : ∀ i, i ∈ (O.getD o ([], 0)).1 → i < pl) (d : Nat) (hd : d ≤ (O.getD o ([], 0)).1.length) (h60 : fs0[60]? = some (.int (nI o))) (h61 : fs0[61]? = some (.int (nI d))) (mc : Nat) (hmc : mc < 100) (h62 : fs0[62]? = some (.int (nI mc))) (hMB : ∀ x y : Int, -200000 ≤ x ∧ x ≤ 200000 → -200000 ≤ y ∧ y ≤ 200000 → (-1000000000 ≤ (mvA (mvW mp ((O.getD o ([], 0)).1.take d)) (x, y)).1 ∧ (mvA (mvW mp ((O.getD o ([], 0)).1.take d)) (x, y)).1 ≤ 1000000000) ∧ (-1000000000 ≤ (mvA (mvW mp ((O.getD o ([], 0)).1.take d)) (x, y)).2 ∧ (mvA (mvW mp ((O.getD o ([], 0)).1.take d)) (x, y)).2 ≤ 1000000000)) (ri kd : Nat) (l1 l2 x3 x4 x5 x6 : Int32) (RU : mru_ G hb b ri kd l1 l2 x3 x4 x5 x6) (h58 : fs0[58]? = some (.int (nI ri))) (hen : x6 = -1 ∨ 0 ≤ x6) (kk : Nat) (n pg : Nat → Nat) (cc : Nat → Nat → Int × Int) (LD : mld_ G hb b kk n pg cc) (LK : mlk_ kk n pg cc) (v w : Nat) (hv : v < kk) (hw : w < kk) (h : sv_h) (fs : List Value) (hm9 : h (b + 220) = some (.inr (11, fs))) (hl : fs.length = 71) (hE : fsE [28, 29, 52, 53] fs0 fs) (fr : (∀ a, a ≠ b + 220 → a ≠ b + 241 → h a = hb a)) (E0 : List (List Int64)) (T : mT_ gu G h b fs E0) : CT G mX13_corners [.ref (b + 220), .int (nI v), .int (nI w)] h z (fun v9 h1 z1 => v9 = none ∧ z1 = z ∧ ∃ fs1, h1 (b + 220) = some (.inr (11, fs1)) ∧ fs1.length = 71 ∧ fsE [28, 29, 52, 53] fs0 fs1 ∧ (∀ a, a ≠ b + 220 → a ≠ b + 241 → h1 a = hb a) ∧ mT_ gu G h1 b fs1 (E0 ++ cnL (mvW mp ((O.getD o ([], 0)).1.take d)) x3.toInt (pg v : Int) (pg w : Int) (mc : Int) (twS (cc v) (n v)) (twS (cc w) (n w)) (cc v) (cc w) (n v) (n w))) := by
  refine CT.of (by decide +kernel) rfl rfl (Nat.le_of_ble_eq_true rfl) ?_
  refine v_iconst (v := 0) dX13_corners_0 (by decide) ?_
  refine v_istore_n (L' := [(3, _), (0, _), (1, _), (2, _)]) dX13_corners_1 rfl (Nat.le_of_ble_eq_true rfl) rfl ?_
  refine v_sub (L' := [(3, _), (2, _), (1, _), (0, _)]) [0, 3, 2, 1] rfl ?_
  exact l_mcO G _ b nc np pl R hm p3 p4 sz ly vo mp X Y hb fs0 hq0 MY O MO o ho how d hd h60 h61 mc hmc h62 hMB ri kd l1 l2 x3 x4 x5 x6 RU h58 hen kk n pg cc LD LK v w hv hw E0 (n v) 0 h fs (Nat.zero_add _) hm9 hl hE fr (by rw [List.range_zero, List.flatMap_nil, List.append_nil]; exact T)

end GU
