theorem dL_numbers_83 : decode cL_numbers 83 = .ok (.iload 8, 2) := by decide +kernel
theorem dL_numbers_85 : decode cL_numbers 85 = .ok (.invokevirtual 40, 3) := by decide +kernel
theorem dL_numbers_88 : decode cL_numbers 88 = .ok (.iconst 1, 1) := by decide +kernel
theorem dL_numbers_89 : decode cL_numbers 89 = .ok (.if_icmp .ne 91, 3) := by decide +kernel
theorem dL_numbers_92 : decode cL_numbers 92 = .ok (.aload_n 0, 1) := by decide +kernel
theorem dL_numbers_93 : decode cL_numbers 93 = .ok (.iload_n 1, 1) := by decide +kernel
theorem dL_numbers_94 : decode cL_numbers 94 = .ok (.iload 8, 2) := by decide +kernel
theorem dL_numbers_96 : decode cL_numbers 96 = .ok (.iconst 1, 1) := by decide +kernel
theorem dL_numbers_97 : decode cL_numbers 97 = .ok (.iadd, 1) := by decide +kernel
theorem dL_numbers_98 : decode cL_numbers 98 = .ok (.invokevirtual 40, 3) := by decide +kernel
theorem dL_numbers_101 : decode cL_numbers 101 = .ok (.ifCond .ne 79, 3) := by decide +kernel
theorem dL_numbers_104 : decode cL_numbers 104 = .ok (.aload_n 0, 1) := by decide +kernel
theorem dL_numbers_105 : decode cL_numbers 105 = .ok (.iload_n 1, 1) := by decide +kernel
theorem dL_numbers_106 : decode cL_numbers 106 = .ok (.iload 7, 2) := by decide +kernel
theorem dL_numbers_108 : decode cL_numbers 108 = .ok (.invokevirtual 43, 3) := by decide +kernel
theorem dL_numbers_111 : decode cL_numbers 111 = .ok (.iload 4, 2) := by decide +kernel
theorem dL_numbers_113 : decode cL_numbers 113 = .ok (.iconst 1, 1) := by decide +kernel
theorem dL_numbers_114 : decode cL_numbers 114 = .ok (.iadd, 1) := by decide +kernel
theorem dL_numbers_115 : decode cL_numbers 115 = .ok (.if_icmp .ne 65, 3) := by decide +kernel
theorem dL_numbers_118 : decode cL_numbers 118 = .ok (.aload_n 0, 1) := by decide +kernel
theorem dL_numbers_119 : decode cL_numbers 119 = .ok (.iload_n 1, 1) := by decide +kernel
theorem dL_numbers_120 : decode cL_numbers 120 = .ok (.iload 8, 2) := by decide +kernel
theorem dL_numbers_122 : decode cL_numbers 122 = .ok (.invokevirtual 43, 3) := by decide +kernel
theorem dL_numbers_125 : decode cL_numbers 125 = .ok (.iload 4, 2) := by decide +kernel
theorem dL_numbers_127 : decode cL_numbers 127 = .ok (.iload 8, 2) := by decide +kernel
theorem dL_numbers_129 : decode cL_numbers 129 = .ok (.iadd, 1) := by decide +kernel
theorem dL_numbers_130 : decode cL_numbers 130 = .ok (.iload 7, 2) := by decide +kernel
theorem dL_numbers_132 : decode cL_numbers 132 = .ok (.isub, 1) := by decide +kernel
theorem dL_numbers_133 : decode cL_numbers 133 = .ok (.iconst 1, 1) := by decide +kernel
theorem dL_numbers_134 : decode cL_numbers 134 = .ok (.iadd, 1) := by decide +kernel
theorem dL_numbers_135 : decode cL_numbers 135 = .ok (.if_icmp .ne 45, 3) := by decide +kernel
theorem dL_numbers_138 : decode cL_numbers 138 = .ok (.aload_n 0, 1) := by decide +kernel
theorem dL_numbers_139 : decode cL_numbers 139 = .ok (.iload_n 1, 1) := by decide +kernel
theorem dL_numbers_140 : decode cL_numbers 140 = .ok (.iload 4, 2) := by decide +kernel
theorem dL_numbers_142 : decode cL_numbers 142 = .ok (.invokevirtual 46, 3) := by decide +kernel
theorem dL_numbers_145 : decode cL_numbers 145 = .ok (.iload 7, 2) := by decide +kernel
theorem dL_numbers_147 : decode cL_numbers 147 = .ok (.if_icmp .ne 33, 3) := by decide +kernel
theorem dL_numbers_150 : decode cL_numbers 150 = .ok (.aload_n 0, 1) := by decide +kernel
theorem dL_numbers_151 : decode cL_numbers 151 = .ok (.iload_n 1, 1) := by decide +kernel
theorem dL_numbers_152 : decode cL_numbers 152 = .ok (.iload 5, 2) := by decide +kernel
theorem dL_numbers_154 : decode cL_numbers 154 = .ok (.iconst 1, 1) := by decide +kernel
theorem dL_numbers_155 : decode cL_numbers 155 = .ok (.iadd, 1) := by decide +kernel
theorem dL_numbers_156 : decode cL_numbers 156 = .ok (.iconst 1, 1) := by decide +kernel
theorem dL_numbers_157 : decode cL_numbers 157 = .ok (.invokevirtual 49, 3) := by decide +kernel
theorem dL_numbers_160 : decode cL_numbers 160 = .ok (.iload 7, 2) := by decide +kernel
theorem dL_numbers_162 : decode cL_numbers 162 = .ok (.if_icmp .ne 18, 3) := by decide +kernel
theorem dL_numbers_165 : decode cL_numbers 165 = .ok (.aload_n 0, 1) := by decide +kernel
theorem dL_numbers_166 : decode cL_numbers 166 = .ok (.iload_n 1, 1) := by decide +kernel
theorem dL_numbers_167 : decode cL_numbers 167 = .ok (.iload 8, 2) := by decide +kernel
theorem dL_numbers_169 : decode cL_numbers 169 = .ok (.iconst 1, 1) := by decide +kernel
theorem dL_numbers_170 : decode cL_numbers 170 = .ok (.iadd, 1) := by decide +kernel
theorem dL_numbers_171 : decode cL_numbers 171 = .ok (.iconst 0, 1) := by decide +kernel
theorem dL_numbers_172 : decode cL_numbers 172 = .ok (.invokevirtual 49, 3) := by decide +kernel
theorem dL_numbers_175 : decode cL_numbers 175 = .ok (.iload 8, 2) := by decide +kernel
theorem dL_numbers_177 : decode cL_numbers 177 = .ok (.if_icmp .eq 5, 3) := by decide +kernel
theorem dL_numbers_180 : decode cL_numbers 180 = .ok (.iconst 0, 1) := by decide +kernel
theorem dL_numbers_181 : decode cL_numbers 181 = .ok (.ireturn, 1) := by decide +kernel
theorem dL_numbers_182 : decode cL_numbers 182 = .ok (.iload 4, 2) := by decide +kernel
theorem dL_numbers_184 : decode cL_numbers 184 = .ok (.iload 8, 2) := by decide +kernel
theorem dL_numbers_186 : decode cL_numbers 186 = .ok (.iload 7, 2) := by decide +kernel
theorem dL_numbers_188 : decode cL_numbers 188 = .ok (.isub, 1) := by decide +kernel
theorem dL_numbers_189 : decode cL_numbers 189 = .ok (.iconst 1, 1) := by decide +kernel
theorem dL_numbers_190 : decode cL_numbers 190 = .ok (.iadd, 1) := by decide +kernel
theorem dL_numbers_191 : decode cL_numbers 191 = .ok (.iadd, 1) := by decide +kernel
theorem dL_numbers_192 : decode cL_numbers 192 = .ok (.istore 4, 2) := by decide +kernel
theorem dL_numbers_194 : decode cL_numbers 194 = .ok (.iload 8, 2) := by decide +kernel
theorem dL_numbers_196 : decode cL_numbers 196 = .ok (.istore 5, 2) := by decide +kernel
theorem dL_numbers_198 : decode cL_numbers 198 = .ok (.iinc 6 1, 3) := by decide +kernel
theorem dL_numbers_201 : decode cL_numbers 201 = .ok (.goto (-179), 3) := by decide +kernel
theorem dL_numbers_204 : decode cL_numbers 204 = .ok (.iload 4, 2) := by decide +kernel
theorem dL_numbers_206 : decode cL_numbers 206 = .ok (.iload_n 2, 1) := by decide +kernel
theorem dL_numbers_207 : decode cL_numbers 207 = .ok (.if_icmp .ne 41, 3) := by decide +kernel
theorem dL_numbers_210 : decode cL_numbers 210 = .ok (.aload_n 0, 1) := by decide +kernel
theorem dL_numbers_211 : decode cL_numbers 211 = .ok (.iload_n 1, 1) := by decide +kernel
theorem dL_numbers_212 : decode cL_numbers 212 = .ok (.iload_n 3, 1) := by decide +kernel
theorem dL_numbers_213 : decode cL_numbers 213 = .ok (.invokevirtual 56, 3) := by decide +kernel
theorem dL_numbers_216 : decode cL_numbers 216 = .ok (.bipush (-9), 2) := by decide +kernel
theorem dL_numbers_218 : decode cL_numbers 218 = .ok (.if_icmp .ne 30, 3) := by decide +kernel
theorem dL_numbers_221 : decode cL_numbers 221 = .ok (.aload_n 0, 1) := by decide +kernel
theorem dL_numbers_222 : decode cL_numbers 222 = .ok (.iload_n 1, 1) := by decide +kernel
theorem dL_numbers_223 : decode cL_numbers 223 = .ok (.iload_n 2, 1) := by decide +kernel
theorem dL_numbers_224 : decode cL_numbers 224 = .ok (.invokevirtual 46, 3) := by decide +kernel
theorem dL_numbers_227 : decode cL_numbers 227 = .ok (.bipush (-9), 2) := by decide +kernel
theorem dL_numbers_229 : decode cL_numbers 229 = .ok (.if_icmp .ne 19, 3) := by decide +kernel
theorem dL_numbers_232 : decode cL_numbers 232 = .ok (.aload_n 0, 1) := by decide +kernel
theorem dL_numbers_233 : decode cL_numbers 233 = .ok (.iload_n 1, 1) := by decide +kernel
theorem dL_numbers_234 : decode cL_numbers 234 = .ok (.sipush 4095, 3) := by decide +kernel
theorem dL_numbers_237 : decode cL_numbers 237 = .ok (.invokevirtual 43, 3) := by decide +kernel
theorem dL_numbers_240 : decode cL_numbers 240 = .ok (.iload_n 2, 1) := by decide +kernel
theorem dL_numbers_241 : decode cL_numbers 241 = .ok (.if_icmp .ne 7, 3) := by decide +kernel
theorem dL_numbers_244 : decode cL_numbers 244 = .ok (.iconst 1, 1) := by decide +kernel
theorem dL_numbers_245 : decode cL_numbers 245 = .ok (.goto 4, 3) := by decide +kernel
theorem dL_numbers_248 : decode cL_numbers 248 = .ok (.iconst 0, 1) := by decide +kernel
theorem dL_numbers_249 : decode cL_numbers 249 = .ok (.ireturn, 1) := by decide +kernel
set_option maxRecDepth 20000 in
theorem ggL_pieces_X3_piece : GoodIn wsL_pieces wsX3_piece := goodIn_r _ [5, 6, 7, 8, 4, 9, 10, 11, 12, 13, 14, 15, 16, 17, 18, 19, 20, 21, 22, 23, 24, 25, 26, 27, 28, 29, 30, 31, 32, 33, 34, 35, 36, 37, 38, 39, 40, 41, 42, 105, 106, 107, 108, 109, 110, 111, 112, 113] (by decide +kernel) (by decide +kernel)
set_option maxRecDepth 20000 in
theorem gL_pieces_X3_piece : GoodIn wsL_pieces (wsV RL 59 RX3 yX3_piece wsX3_piece) := goodIn_app (goodIn_of _ (by decide +kernel)) ggL_pieces_X3_piece
set_option maxRecDepth 20000 in
theorem ggL_pieces_X3_rank : GoodIn wsL_pieces wsX3_rank := goodIn_r _ [46, 6, 7, 8, 4, 9, 47, 11, 48, 49, 26, 50, 51, 52, 53, 54, 55, 56, 57, 58, 59, 38, 27, 28, 29, 30, 31, 32, 33, 105, 106, 107, 108, 109, 110, 111, 112, 113] (by decide +kernel) (by decide +kernel)
set_option maxRecDepth 20000 in
theorem gL_pieces_X3_rank : GoodIn wsL_pieces (wsV RL 43 RX3 yX3_rank wsX3_rank) := goodIn_app (goodIn_of _ (by decide +kernel)) ggL_pieces_X3_rank
set_option maxRecDepth 20000 in
theorem ggL_pieces_X3_byteAt : GoodIn wsL_pieces wsX3_byteAt := goodIn_r _ [63, 6, 7, 8, 4, 9, 40, 11, 41, 42, 14, 15, 16, 17, 18, 19, 20, 21, 22, 23, 24, 25, 26, 27, 28, 29, 30, 31, 32, 33, 34, 35, 36, 37, 38, 64, 65, 66, 67, 68, 69, 70, 71, 72, 73, 74, 75, 76, 47, 48, 49, 50, 51, 52, 53, 54, 55, 56, 57, 58, 59, 77, 78, 79, 80, 81, 82, 83, 84, 85, 86, 87, 88, 89, 90, 91, 92, 93, 105, 106, 107, 108, 109, 110, 111, 112, 113] (by decide +kernel) (by decide +kernel)
set_option maxRecDepth 20000 in
theorem gL_pieces_X3_byteAt : GoodIn wsL_pieces (wsV RL 65 RX3 yX3_byteAt wsX3_byteAt) := goodIn_app (goodIn_of _ (by decide +kernel)) ggL_pieces_X3_byteAt
set_option maxRecDepth 20000 in
theorem ggL_pieces_X3_size : GoodIn wsL_pieces wsX3_size := goodIn_r _ [97, 6, 7, 8, 4, 9, 98, 11, 99, 100, 18, 19, 20, 21, 22, 23, 24, 25, 26, 27, 28, 29, 30, 31, 32, 33, 105, 106, 107, 108, 109, 110, 111, 112, 113] (by decide +kernel) (by decide +kernel)
set_option maxRecDepth 20000 in
theorem gL_pieces_X3_size : GoodIn wsL_pieces (wsV RL 36 RX3 yX3_size wsX3_size) := goodIn_app (goodIn_of _ (by decide +kernel)) ggL_pieces_X3_size
set_option maxRecDepth 20000 in
theorem ggL_pieces_X3_bytes : GoodIn wsL_pieces wsX3_bytes := goodIn_r _ [104, 6, 7, 8, 4, 9, 40, 11, 41, 42, 14, 15, 16, 17, 18, 19, 20, 21, 22, 23, 24, 25, 26, 27, 28, 29, 30, 31, 32, 33, 34, 35, 36, 37, 38, 105, 106, 107, 108, 109, 110, 111, 112, 113] (by decide +kernel) (by decide +kernel)
set_option maxRecDepth 20000 in
theorem gL_pieces_X3_bytes : GoodIn wsL_pieces (wsV RL 62 RX3 yX3_bytes wsX3_bytes) := goodIn_app (goodIn_of _ (by decide +kernel)) ggL_pieces_X3_bytes
theorem dL_pieces_0 : decode cL_pieces 0 = .ok (.iconst 0, 1) := by decide +kernel
theorem dL_pieces_1 : decode cL_pieces 1 = .ok (.istore_n 2, 1) := by decide +kernel
theorem dL_pieces_2 : decode cL_pieces 2 = .ok (.iconst 0, 1) := by decide +kernel
theorem dL_pieces_3 : decode cL_pieces 3 = .ok (.istore_n 3, 1) := by decide +kernel
theorem dL_pieces_4 : decode cL_pieces 4 = .ok (.iconst 0, 1) := by decide +kernel
theorem dL_pieces_5 : decode cL_pieces 5 = .ok (.istore 4, 2) := by decide +kernel
theorem dL_pieces_7 : decode cL_pieces 7 = .ok (.iconst 0, 1) := by decide +kernel
theorem dL_pieces_8 : decode cL_pieces 8 = .ok (.istore 5, 2) := by decide +kernel
theorem dL_pieces_10 : decode cL_pieces 10 = .ok (.iload 5, 2) := by decide +kernel
theorem dL_pieces_12 : decode cL_pieces 12 = .ok (.bipush 16, 2) := by decide +kernel
theorem dL_pieces_14 : decode cL_pieces 14 = .ok (.if_icmp .ge 286, 3) := by decide +kernel
theorem dL_pieces_17 : decode cL_pieces 17 = .ok (.aload_n 0, 1) := by decide +kernel
theorem dL_pieces_18 : decode cL_pieces 18 = .ok (.iload_n 1, 1) := by decide +kernel
theorem dL_pieces_19 : decode cL_pieces 19 = .ok (.iload 5, 2) := by decide +kernel
theorem dL_pieces_21 : decode cL_pieces 21 = .ok (.iconst 1, 1) := by decide +kernel
theorem dL_pieces_22 : decode cL_pieces 22 = .ok (.invokevirtual 59, 3) := by decide +kernel
theorem dL_pieces_25 : decode cL_pieces 25 = .ok (.istore 6, 2) := by decide +kernel
theorem dL_pieces_27 : decode cL_pieces 27 = .ok (.aload_n 0, 1) := by decide +kernel
theorem dL_pieces_28 : decode cL_pieces 28 = .ok (.iload_n 1, 1) := by decide +kernel
theorem dL_pieces_29 : decode cL_pieces 29 = .ok (.iload 5, 2) := by decide +kernel
theorem dL_pieces_31 : decode cL_pieces 31 = .ok (.iconst 2, 1) := by decide +kernel
theorem dL_pieces_32 : decode cL_pieces 32 = .ok (.invokevirtual 59, 3) := by decide +kernel
theorem dL_pieces_35 : decode cL_pieces 35 = .ok (.istore 7, 2) := by decide +kernel
theorem dL_pieces_37 : decode cL_pieces 37 = .ok (.aload_n 0, 1) := by decide +kernel
theorem dL_pieces_38 : decode cL_pieces 38 = .ok (.iload_n 1, 1) := by decide +kernel
theorem dL_pieces_39 : decode cL_pieces 39 = .ok (.iload 5, 2) := by decide +kernel
theorem dL_pieces_41 : decode cL_pieces 41 = .ok (.iconst 0, 1) := by decide +kernel
theorem dL_pieces_42 : decode cL_pieces 42 = .ok (.invokevirtual 59, 3) := by decide +kernel
theorem dL_pieces_45 : decode cL_pieces 45 = .ok (.istore 8, 2) := by decide +kernel
theorem dL_pieces_47 : decode cL_pieces 47 = .ok (.aload_n 0, 1) := by decide +kernel
theorem dL_pieces_48 : decode cL_pieces 48 = .ok (.iload_n 1, 1) := by decide +kernel
theorem dL_pieces_49 : decode cL_pieces 49 = .ok (.iload 5, 2) := by decide +kernel
theorem dL_pieces_51 : decode cL_pieces 51 = .ok (.iconst 3, 1) := by decide +kernel
theorem dL_pieces_52 : decode cL_pieces 52 = .ok (.invokevirtual 59, 3) := by decide +kernel
theorem dL_pieces_55 : decode cL_pieces 55 = .ok (.istore 9, 2) := by decide +kernel
theorem dL_pieces_57 : decode cL_pieces 57 = .ok (.iconst 2, 1) := by decide +kernel
theorem dL_pieces_58 : decode cL_pieces 58 = .ok (.iload 6, 2) := by decide +kernel
theorem dL_pieces_60 : decode cL_pieces 60 = .ok (.iadd, 1) := by decide +kernel
theorem dL_pieces_61 : decode cL_pieces 61 = .ok (.istore 10, 2) := by decide +kernel
theorem dL_pieces_63 : decode cL_pieces 63 = .ok (.iconst 2, 1) := by decide +kernel
theorem dL_pieces_64 : decode cL_pieces 64 = .ok (.iconst 2, 1) := by decide +kernel
theorem dL_pieces_65 : decode cL_pieces 65 = .ok (.iload 7, 2) := by decide +kernel
theorem dL_pieces_67 : decode cL_pieces 67 = .ok (.imul, 1) := by decide +kernel
theorem dL_pieces_68 : decode cL_pieces 68 = .ok (.iadd, 1) := by decide +kernel
theorem dL_pieces_69 : decode cL_pieces 69 = .ok (.istore 11, 2) := by decide +kernel
theorem dL_pieces_71 : decode cL_pieces 71 = .ok (.iload 6, 2) := by decide +kernel
theorem dL_pieces_73 : decode cL_pieces 73 = .ok (.ifCond .ne 8, 3) := by decide +kernel
theorem dL_pieces_76 : decode cL_pieces 76 = .ok (.bipush (-9), 2) := by decide +kernel
theorem dL_pieces_78 : decode cL_pieces 78 = .ok (.goto 33, 3) := by decide +kernel
theorem dL_pieces_81 : decode cL_pieces 81 = .ok (.iload 10, 2) := by decide +kernel
theorem dL_pieces_83 : decode cL_pieces 83 = .ok (.iload 11, 2) := by decide +kernel
theorem dL_pieces_85 : decode cL_pieces 85 = .ok (.if_icmp .gt 14, 3) := by decide +kernel
theorem dL_pieces_88 : decode cL_pieces 88 = .ok (.iload 10, 2) := by decide +kernel
theorem dL_pieces_90 : decode cL_pieces 90 = .ok (.bipush 33, 2) := by decide +kernel
theorem dL_pieces_92 : decode cL_pieces 92 = .ok (.if_icmp .gt 7, 3) := by decide +kernel
theorem dL_pieces_95 : decode cL_pieces 95 = .ok (.iconst 0, 1) := by decide +kernel
theorem dL_pieces_96 : decode cL_pieces 96 = .ok (.goto 15, 3) := by decide +kernel
theorem dL_pieces_99 : decode cL_pieces 99 = .ok (.iload 11, 2) := by decide +kernel
theorem dL_pieces_101 : decode cL_pieces 101 = .ok (.bipush 33, 2) := by decide +kernel
theorem dL_pieces_103 : decode cL_pieces 103 = .ok (.if_icmp .gt 7, 3) := by decide +kernel
theorem dL_pieces_106 : decode cL_pieces 106 = .ok (.iconst 1, 1) := by decide +kernel
theorem dL_pieces_107 : decode cL_pieces 107 = .ok (.goto 4, 3) := by decide +kernel
theorem dL_pieces_110 : decode cL_pieces 110 = .ok (.iconst 2, 1) := by decide +kernel
theorem dL_pieces_111 : decode cL_pieces 111 = .ok (.istore 12, 2) := by decide +kernel
theorem dL_pieces_113 : decode cL_pieces 113 = .ok (.iload 8, 2) := by decide +kernel
theorem dL_pieces_115 : decode cL_pieces 115 = .ok (.iload 12, 2) := by decide +kernel
theorem dL_pieces_117 : decode cL_pieces 117 = .ok (.if_icmp .ne 104, 3) := by decide +kernel
theorem dL_pieces_120 : decode cL_pieces 120 = .ok (.iload 9, 2) := by decide +kernel
theorem dL_pieces_122 : decode cL_pieces 122 = .ok (.iload 6, 2) := by decide +kernel
theorem dL_pieces_124 : decode cL_pieces 124 = .ok (.ifCond .ne 7, 3) := by decide +kernel
theorem dL_pieces_127 : decode cL_pieces 127 = .ok (.iconst 0, 1) := by decide +kernel
theorem dL_pieces_128 : decode cL_pieces 128 = .ok (.goto 26, 3) := by decide +kernel
theorem dL_pieces_131 : decode cL_pieces 131 = .ok (.iload 12, 2) := by decide +kernel
theorem dL_pieces_133 : decode cL_pieces 133 = .ok (.ifCond .ne 8, 3) := by decide +kernel
theorem dL_pieces_136 : decode cL_pieces 136 = .ok (.iload 10, 2) := by decide +kernel
theorem dL_pieces_138 : decode cL_pieces 138 = .ok (.goto 16, 3) := by decide +kernel
theorem dL_pieces_141 : decode cL_pieces 141 = .ok (.iload 12, 2) := by decide +kernel
theorem dL_pieces_143 : decode cL_pieces 143 = .ok (.iconst 1, 1) := by decide +kernel
theorem dL_pieces_144 : decode cL_pieces 144 = .ok (.if_icmp .ne 8, 3) := by decide +kernel
theorem dL_pieces_147 : decode cL_pieces 147 = .ok (.iload 11, 2) := by decide +kernel
theorem dL_pieces_149 : decode cL_pieces 149 = .ok (.goto 5, 3) := by decide +kernel
theorem dL_pieces_152 : decode cL_pieces 152 = .ok (.bipush 33, 2) := by decide +kernel
theorem dL_pieces_154 : decode cL_pieces 154 = .ok (.if_icmp .ne 67, 3) := by decide +kernel
theorem dL_pieces_157 : decode cL_pieces 157 = .ok (.iload 6, 2) := by decide +kernel
theorem dL_pieces_159 : decode cL_pieces 159 = .ok (.aload_n 0, 1) := by decide +kernel
theorem dL_pieces_160 : decode cL_pieces 160 = .ok (.iload_n 1, 1) := by decide +kernel
theorem dL_pieces_161 : decode cL_pieces 161 = .ok (.sipush 256, 3) := by decide +kernel
theorem dL_pieces_164 : decode cL_pieces 164 = .ok (.iload 5, 2) := by decide +kernel
theorem dL_pieces_166 : decode cL_pieces 166 = .ok (.imul, 1) := by decide +kernel
theorem dL_pieces_167 : decode cL_pieces 167 = .ok (.sipush 255, 3) := by decide +kernel
theorem dL_pieces_170 : decode cL_pieces 170 = .ok (.iadd, 1) := by decide +kernel
theorem dL_pieces_171 : decode cL_pieces 171 = .ok (.invokevirtual 43, 3) := by decide +kernel
theorem dL_pieces_174 : decode cL_pieces 174 = .ok (.aload_n 0, 1) := by decide +kernel
theorem dL_pieces_175 : decode cL_pieces 175 = .ok (.iload_n 1, 1) := by decide +kernel
theorem dL_pieces_176 : decode cL_pieces 176 = .ok (.sipush 256, 3) := by decide +kernel
theorem dL_pieces_179 : decode cL_pieces 179 = .ok (.iload 5, 2) := by decide +kernel
theorem dL_pieces_181 : decode cL_pieces 181 = .ok (.imul, 1) := by decide +kernel
theorem dL_pieces_182 : decode cL_pieces 182 = .ok (.iconst 1, 1) := by decide +kernel
theorem dL_pieces_183 : decode cL_pieces 183 = .ok (.isub, 1) := by decide +kernel
theorem dL_pieces_184 : decode cL_pieces 184 = .ok (.invokevirtual 43, 3) := by decide +kernel
theorem dL_pieces_187 : decode cL_pieces 187 = .ok (.isub, 1) := by decide +kernel
theorem dL_pieces_188 : decode cL_pieces 188 = .ok (.if_icmp .ne 33, 3) := by decide +kernel
theorem dL_pieces_191 : decode cL_pieces 191 = .ok (.iload 6, 2) := by decide +kernel
theorem dL_pieces_193 : decode cL_pieces 193 = .ok (.ifCond .ne 7, 3) := by decide +kernel
theorem dL_pieces_196 : decode cL_pieces 196 = .ok (.iconst 1, 1) := by decide +kernel
theorem dL_pieces_197 : decode cL_pieces 197 = .ok (.goto 4, 3) := by decide +kernel
theorem dL_pieces_200 : decode cL_pieces 200 = .ok (.iconst 0, 1) := by decide +kernel
theorem dL_pieces_201 : decode cL_pieces 201 = .ok (.iload 7, 2) := by decide +kernel
theorem dL_pieces_203 : decode cL_pieces 203 = .ok (.ifCond .ne 7, 3) := by decide +kernel
theorem dL_pieces_206 : decode cL_pieces 206 = .ok (.iconst 1, 1) := by decide +kernel
theorem dL_pieces_207 : decode cL_pieces 207 = .ok (.goto 4, 3) := by decide +kernel
theorem dL_pieces_210 : decode cL_pieces 210 = .ok (.iconst 0, 1) := by decide +kernel
theorem dL_pieces_211 : decode cL_pieces 211 = .ok (.if_icmp .ne 10, 3) := by decide +kernel
theorem dL_pieces_214 : decode cL_pieces 214 = .ok (.iload 7, 2) := by decide +kernel
theorem dL_pieces_216 : decode cL_pieces 216 = .ok (.iload 6, 2) := by decide +kernel
theorem dL_pieces_218 : decode cL_pieces 218 = .ok (.if_icmp .le 5, 3) := by decide +kernel
theorem dL_pieces_221 : decode cL_pieces 221 = .ok (.iconst 0, 1) := by decide +kernel
theorem dL_pieces_222 : decode cL_pieces 222 = .ok (.ireturn, 1) := by decide +kernel
theorem dL_pieces_223 : decode cL_pieces 223 = .ok (.iload 6, 2) := by decide +kernel
theorem dL_pieces_225 : decode cL_pieces 225 = .ok (.ifCond .le 52, 3) := by decide +kernel
theorem dL_pieces_228 : decode cL_pieces 228 = .ok (.aload_n 0, 1) := by decide +kernel
theorem dL_pieces_229 : decode cL_pieces 229 = .ok (.iload_n 1, 1) := by decide +kernel
theorem dL_pieces_230 : decode cL_pieces 230 = .ok (.iload 4, 2) := by decide +kernel
theorem dL_pieces_232 : decode cL_pieces 232 = .ok (.invokevirtual 65, 3) := by decide +kernel
theorem dL_pieces_235 : decode cL_pieces 235 = .ok (.iconst 4, 1) := by decide +kernel
theorem dL_pieces_236 : decode cL_pieces 236 = .ok (.iload 5, 2) := by decide +kernel
theorem dL_pieces_238 : decode cL_pieces 238 = .ok (.imul, 1) := by decide +kernel
theorem dL_pieces_239 : decode cL_pieces 239 = .ok (.iload 8, 2) := by decide +kernel
theorem dL_pieces_241 : decode cL_pieces 241 = .ok (.iadd, 1) := by decide +kernel
theorem dL_pieces_242 : decode cL_pieces 242 = .ok (.if_icmp .ne 33, 3) := by decide +kernel
theorem dL_pieces_245 : decode cL_pieces 245 = .ok (.iload 8, 2) := by decide +kernel
theorem dL_pieces_247 : decode cL_pieces 247 = .ok (.iconst 2, 1) := by decide +kernel
theorem dL_pieces_248 : decode cL_pieces 248 = .ok (.if_icmp .ge 29, 3) := by decide +kernel
theorem dL_pieces_251 : decode cL_pieces 251 = .ok (.aload_n 0, 1) := by decide +kernel
theorem dL_pieces_252 : decode cL_pieces 252 = .ok (.iload_n 1, 1) := by decide +kernel
theorem dL_pieces_253 : decode cL_pieces 253 = .ok (.iload 4, 2) := by decide +kernel
theorem dL_pieces_255 : decode cL_pieces 255 = .ok (.iconst 1, 1) := by decide +kernel
theorem dL_pieces_256 : decode cL_pieces 256 = .ok (.iadd, 1) := by decide +kernel
theorem dL_pieces_257 : decode cL_pieces 257 = .ok (.invokevirtual 65, 3) := by decide +kernel
theorem dL_pieces_260 : decode cL_pieces 260 = .ok (.iload 8, 2) := by decide +kernel
theorem dL_pieces_262 : decode cL_pieces 262 = .ok (.ifCond .ne 8, 3) := by decide +kernel
theorem dL_pieces_265 : decode cL_pieces 265 = .ok (.iload 6, 2) := by decide +kernel
theorem dL_pieces_267 : decode cL_pieces 267 = .ok (.goto 5, 3) := by decide +kernel
theorem dL_pieces_270 : decode cL_pieces 270 = .ok (.iload 7, 2) := by decide +kernel
theorem dL_pieces_272 : decode cL_pieces 272 = .ok (.if_icmp .eq 5, 3) := by decide +kernel
theorem dL_pieces_275 : decode cL_pieces 275 = .ok (.iconst 0, 1) := by decide +kernel
theorem dL_pieces_276 : decode cL_pieces 276 = .ok (.ireturn, 1) := by decide +kernel
theorem dL_pieces_277 : decode cL_pieces 277 = .ok (.iload 4, 2) := by decide +kernel
theorem dL_pieces_279 : decode cL_pieces 279 = .ok (.iload 9, 2) := by decide +kernel
theorem dL_pieces_281 : decode cL_pieces 281 = .ok (.iadd, 1) := by decide +kernel
theorem dL_pieces_282 : decode cL_pieces 282 = .ok (.istore 4, 2) := by decide +kernel
theorem dL_pieces_284 : decode cL_pieces 284 = .ok (.iload_n 2, 1) := by decide +kernel
theorem dL_pieces_285 : decode cL_pieces 285 = .ok (.iload 6, 2) := by decide +kernel
theorem dL_pieces_287 : decode cL_pieces 287 = .ok (.iadd, 1) := by decide +kernel
theorem dL_pieces_288 : decode cL_pieces 288 = .ok (.istore_n 2, 1) := by decide +kernel
theorem dL_pieces_289 : decode cL_pieces 289 = .ok (.iload_n 3, 1) := by decide +kernel
theorem dL_pieces_290 : decode cL_pieces 290 = .ok (.iload 9, 2) := by decide +kernel
theorem dL_pieces_292 : decode cL_pieces 292 = .ok (.iadd, 1) := by decide +kernel
theorem dL_pieces_293 : decode cL_pieces 293 = .ok (.istore_n 3, 1) := by decide +kernel
theorem dL_pieces_294 : decode cL_pieces 294 = .ok (.iinc 5 1, 3) := by decide +kernel
theorem dL_pieces_297 : decode cL_pieces 297 = .ok (.goto (-287), 3) := by decide +kernel
theorem dL_pieces_300 : decode cL_pieces 300 = .ok (.iload_n 2, 1) := by decide +kernel
theorem dL_pieces_301 : decode cL_pieces 301 = .ok (.aload_n 0, 1) := by decide +kernel
theorem dL_pieces_302 : decode cL_pieces 302 = .ok (.iload_n 1, 1) := by decide +kernel
theorem dL_pieces_303 : decode cL_pieces 303 = .ok (.invokevirtual 36, 3) := by decide +kernel
theorem dL_pieces_306 : decode cL_pieces 306 = .ok (.if_icmp .ne 27, 3) := by decide +kernel
theorem dL_pieces_309 : decode cL_pieces 309 = .ok (.iload_n 3, 1) := by decide +kernel
theorem dL_pieces_310 : decode cL_pieces 310 = .ok (.aload_n 0, 1) := by decide +kernel
theorem dL_pieces_311 : decode cL_pieces 311 = .ok (.iload_n 1, 1) := by decide +kernel
theorem dL_pieces_312 : decode cL_pieces 312 = .ok (.invokevirtual 62, 3) := by decide +kernel
theorem dL_pieces_315 : decode cL_pieces 315 = .ok (.if_icmp .ne 18, 3) := by decide +kernel
theorem dL_pieces_318 : decode cL_pieces 318 = .ok (.aload_n 0, 1) := by decide +kernel
theorem dL_pieces_319 : decode cL_pieces 319 = .ok (.iload_n 1, 1) := by decide +kernel
theorem dL_pieces_320 : decode cL_pieces 320 = .ok (.iload_n 3, 1) := by decide +kernel
theorem dL_pieces_321 : decode cL_pieces 321 = .ok (.invokevirtual 65, 3) := by decide +kernel
theorem dL_pieces_324 : decode cL_pieces 324 = .ok (.bipush (-9), 2) := by decide +kernel
theorem dL_pieces_326 : decode cL_pieces 326 = .ok (.if_icmp .ne 7, 3) := by decide +kernel
theorem dL_pieces_329 : decode cL_pieces 329 = .ok (.iconst 1, 1) := by decide +kernel
theorem dL_pieces_330 : decode cL_pieces 330 = .ok (.goto 4, 3) := by decide +kernel
theorem dL_pieces_333 : decode cL_pieces 333 = .ok (.iconst 0, 1) := by decide +kernel
theorem dL_pieces_334 : decode cL_pieces 334 = .ok (.ireturn, 1) := by decide +kernel
set_option maxRecDepth 20000 in
theorem ggL_copies_X3_bytes : GoodIn wsL_copies wsX3_bytes := goodIn_r _ [5, 6, 7, 8, 4, 9, 10, 11, 12, 13, 14, 15, 16, 17, 18, 19, 20, 21, 22, 23, 24, 25, 26, 27, 28, 29, 30, 31, 32, 33, 34, 35, 36, 37, 38, 196, 197, 198, 199, 200, 201, 202, 203, 204] (by decide +kernel) (by decide +kernel)
set_option maxRecDepth 20000 in
theorem gL_copies_X3_bytes : GoodIn wsL_copies (wsV RL 62 RX3 yX3_bytes wsX3_bytes) := goodIn_app (goodIn_of _ (by decide +kernel)) ggL_copies_X3_bytes
set_option maxRecDepth 20000 in
theorem ggL_copies_X3_byteAt : GoodIn wsL_copies wsX3_byteAt := goodIn_r _ [42, 6, 7, 8, 4, 9, 10, 11, 12, 13, 14, 15, 16, 17, 18, 19, 20, 21, 22, 23, 24, 25, 26, 27, 28, 29, 30, 31, 32, 33, 34, 35, 36, 37, 38, 43, 44, 45, 46, 47, 48, 49, 50, 51, 52, 53, 54, 55, 56, 57, 58, 59, 60, 61, 62, 63, 64, 65, 66, 67, 68, 69, 70, 71, 72, 73, 74, 75, 76, 77, 78, 79, 80, 81, 82, 83, 84, 85, 196, 197, 198, 199, 200, 201, 202, 203, 204] (by decide +kernel) (by decide +kernel)
set_option maxRecDepth 20000 in
theorem gL_copies_X3_byteAt : GoodIn wsL_copies (wsV RL 65 RX3 yX3_byteAt wsX3_byteAt) := goodIn_app (goodIn_of _ (by decide +kernel)) ggL_copies_X3_byteAt
set_option maxRecDepth 20000 in
theorem ggL_copies_X3_put : GoodIn wsL_copies wsX3_put := goodIn_r _ [89, 90, 91, 92, 93, 94, 95, 96, 196, 197, 198, 199, 200, 205, 206] (by decide +kernel) (by decide +kernel)
set_option maxRecDepth 20000 in
theorem gL_copies_X3_put : GoodIn wsL_copies (wsV RL 68 RX3 yX3_put wsX3_put) := goodIn_app (goodIn_of _ (by decide +kernel)) ggL_copies_X3_put
set_option maxRecDepth 20000 in
theorem ggL_copies_X3_read : GoodIn wsL_copies wsX3_read := goodIn_r _ [100, 90, 101, 6, 7, 8, 4, 9, 102, 92, 103, 104, 95, 96, 105, 11, 106, 107, 26, 108, 109, 110, 111, 112, 113, 114, 115, 116, 117, 118, 119, 120, 121, 122, 123, 124, 84, 85, 125, 126, 127, 128, 129, 130, 131, 132, 133, 134, 135, 59, 60, 61, 62, 63, 64, 65, 66, 67, 68, 38, 15, 16, 17, 18, 19, 20, 21, 22, 23, 24, 25, 27, 28, 29, 30, 31, 32, 33, 34, 35, 36, 37, 136, 137, 138, 139, 140, 141, 142, 143, 144, 145, 146, 147, 148, 149, 150, 151, 152, 153, 154, 155, 156, 157, 158, 159, 160, 161, 162, 196, 197, 198, 199, 200, 201, 202, 203, 205, 206, 204] (by decide +kernel) (by decide +kernel)
set_option maxRecDepth 20000 in
theorem gL_copies_X3_read : GoodIn wsL_copies (wsV RL 71 RX3 yX3_read wsX3_read) := goodIn_app (goodIn_of _ (by decide +kernel)) ggL_copies_X3_read
set_option maxRecDepth 20000 in
theorem ggL_copies_X3_size : GoodIn wsL_copies wsX3_size := goodIn_r _ [166, 6, 7, 8, 4, 9, 160, 11, 161, 162, 18, 19, 20, 21, 22, 23, 24, 25, 26, 27, 28, 29, 30, 31, 32, 33, 196, 197, 198, 199, 200, 201, 202, 203, 204] (by decide +kernel) (by decide +kernel)
set_option maxRecDepth 20000 in
theorem gL_copies_X3_size : GoodIn wsL_copies (wsV RL 36 RX3 yX3_size wsX3_size) := goodIn_app (goodIn_of _ (by decide +kernel)) ggL_copies_X3_size
set_option maxRecDepth 20000 in
theorem ggL_copies_X3_clear : GoodIn wsL_copies wsX3_clear := goodIn_r _ [170, 90, 196, 197, 198, 199, 200, 205, 206] (by decide +kernel) (by decide +kernel)
set_option maxRecDepth 20000 in
theorem gL_copies_X3_clear : GoodIn wsL_copies (wsV RL 86 RX3 yX3_clear wsX3_clear) := goodIn_app (goodIn_of _ (by decide +kernel)) ggL_copies_X3_clear
set_option maxRecDepth 20000 in
theorem ggL_copies_X3_compare : GoodIn wsL_copies wsX3_compare := goodIn_r _ [174, 101, 6, 7, 8, 4, 9, 175, 176, 177, 178, 179, 11, 180, 181, 26, 182, 183, 184, 38, 160, 161, 162, 18, 19, 20, 21, 22, 23, 24, 25, 27, 28, 29, 30, 31, 32, 33, 185, 186, 187, 188, 70, 71, 72, 73, 74, 75, 196, 197, 198, 199, 200, 201, 202, 203, 204] (by decide +kernel) (by decide +kernel)
set_option maxRecDepth 20000 in
theorem gL_copies_X3_compare : GoodIn wsL_copies (wsV RL 74 RX3 yX3_compare wsX3_compare) := goodIn_app (goodIn_of _ (by decide +kernel)) ggL_copies_X3_compare
set_option maxRecDepth 20000 in
theorem ggL_copies_X3_alike : GoodIn wsL_copies wsX3_alike := goodIn_r _ [192, 7, 8, 4, 9, 175, 176, 177, 178, 101, 6, 179, 11, 180, 181, 26, 182, 183, 184, 38, 160, 161, 162, 18, 19, 20, 21, 22, 23, 24, 25, 27, 28, 29, 30, 31, 32, 33, 193, 194, 195, 196, 197, 198, 199, 200, 201, 202, 203, 204] (by decide +kernel) (by decide +kernel)
set_option maxRecDepth 20000 in
theorem gL_copies_X3_alike : GoodIn wsL_copies (wsV RL 77 RX3 yX3_alike wsX3_alike) := goodIn_app (goodIn_of _ (by decide +kernel)) ggL_copies_X3_alike
theorem dL_copies_0 : decode cL_copies 0 = .ok (.aload_n 0, 1) := by decide +kernel
theorem dL_copies_1 : decode cL_copies 1 = .ok (.iload_n 1, 1) := by decide +kernel
theorem dL_copies_2 : decode cL_copies 2 = .ok (.invokevirtual 62, 3) := by decide +kernel
theorem dL_copies_5 : decode cL_copies 5 = .ok (.istore_n 3, 1) := by decide +kernel
theorem dL_copies_6 : decode cL_copies 6 = .ok (.iload_n 3, 1) := by decide +kernel
theorem dL_copies_7 : decode cL_copies 7 = .ok (.sipush 200, 3) := by decide +kernel
theorem dL_copies_10 : decode cL_copies 10 = .ok (.if_icmp .le 5, 3) := by decide +kernel
theorem dL_copies_13 : decode cL_copies 13 = .ok (.iconst 1, 1) := by decide +kernel
theorem dL_copies_14 : decode cL_copies 14 = .ok (.ireturn, 1) := by decide +kernel
theorem dL_copies_15 : decode cL_copies 15 = .ok (.iconst 0, 1) := by decide +kernel
theorem dL_copies_16 : decode cL_copies 16 = .ok (.istore 4, 2) := by decide +kernel
theorem dL_copies_18 : decode cL_copies 18 = .ok (.iload 4, 2) := by decide +kernel
theorem dL_copies_20 : decode cL_copies 20 = .ok (.iload_n 3, 1) := by decide +kernel
theorem dL_copies_21 : decode cL_copies 21 = .ok (.if_icmp .ge 29, 3) := by decide +kernel
theorem dL_copies_24 : decode cL_copies 24 = .ok (.aload_n 0, 1) := by decide +kernel
theorem dL_copies_25 : decode cL_copies 25 = .ok (.aload_n 0, 1) := by decide +kernel
theorem dL_copies_26 : decode cL_copies 26 = .ok (.iload_n 1, 1) := by decide +kernel
theorem dL_copies_27 : decode cL_copies 27 = .ok (.iload 4, 2) := by decide +kernel
theorem dL_copies_29 : decode cL_copies 29 = .ok (.invokevirtual 65, 3) := by decide +kernel
theorem dL_copies_32 : decode cL_copies 32 = .ok (.invokevirtual 68, 3) := by decide +kernel
theorem dL_copies_35 : decode cL_copies 35 = .ok (.iload 4, 2) := by decide +kernel
theorem dL_copies_37 : decode cL_copies 37 = .ok (.iconst 1, 1) := by decide +kernel
theorem dL_copies_38 : decode cL_copies 38 = .ok (.iadd, 1) := by decide +kernel
theorem dL_copies_39 : decode cL_copies 39 = .ok (.if_icmp .eq 5, 3) := by decide +kernel
theorem dL_copies_42 : decode cL_copies 42 = .ok (.iconst 0, 1) := by decide +kernel
theorem dL_copies_43 : decode cL_copies 43 = .ok (.ireturn, 1) := by decide +kernel
theorem dL_copies_44 : decode cL_copies 44 = .ok (.iinc 4 1, 3) := by decide +kernel
theorem dL_copies_47 : decode cL_copies 47 = .ok (.goto (-29), 3) := by decide +kernel
theorem dL_copies_50 : decode cL_copies 50 = .ok (.aload_n 0, 1) := by decide +kernel
theorem dL_copies_51 : decode cL_copies 51 = .ok (.iload_n 2, 1) := by decide +kernel
theorem dL_copies_52 : decode cL_copies 52 = .ok (.invokevirtual 71, 3) := by decide +kernel
theorem dL_copies_55 : decode cL_copies 55 = .ok (.aload_n 0, 1) := by decide +kernel
theorem dL_copies_56 : decode cL_copies 56 = .ok (.iload_n 1, 1) := by decide +kernel
theorem dL_copies_57 : decode cL_copies 57 = .ok (.invokevirtual 36, 3) := by decide +kernel
theorem dL_copies_60 : decode cL_copies 60 = .ok (.if_icmp .ne 70, 3) := by decide +kernel
theorem dL_copies_63 : decode cL_copies 63 = .ok (.aload_n 0, 1) := by decide +kernel
theorem dL_copies_64 : decode cL_copies 64 = .ok (.invokevirtual 86, 3) := by decide +kernel
theorem dL_copies_67 : decode cL_copies 67 = .ok (.ifCond .ne 63, 3) := by decide +kernel
theorem dL_copies_70 : decode cL_copies 70 = .ok (.aload_n 0, 1) := by decide +kernel
theorem dL_copies_71 : decode cL_copies 71 = .ok (.iload_n 1, 1) := by decide +kernel
theorem dL_copies_72 : decode cL_copies 72 = .ok (.iload_n 2, 1) := by decide +kernel
theorem dL_copies_73 : decode cL_copies 73 = .ok (.iconst 1, 1) := by decide +kernel
theorem dL_copies_74 : decode cL_copies 74 = .ok (.invokevirtual 74, 3) := by decide +kernel
theorem dL_copies_77 : decode cL_copies 77 = .ok (.ifCond .ne 53, 3) := by decide +kernel
theorem dL_copies_80 : decode cL_copies 80 = .ok (.aload_n 0, 1) := by decide +kernel
theorem dL_copies_81 : decode cL_copies 81 = .ok (.iload_n 1, 1) := by decide +kernel
theorem dL_copies_82 : decode cL_copies 82 = .ok (.iload_n 2, 1) := by decide +kernel
theorem dL_copies_83 : decode cL_copies 83 = .ok (.iconst 3, 1) := by decide +kernel
theorem dL_copies_84 : decode cL_copies 84 = .ok (.invokevirtual 74, 3) := by decide +kernel
theorem dL_copies_87 : decode cL_copies 87 = .ok (.bipush 16, 2) := by decide +kernel
theorem dL_copies_89 : decode cL_copies 89 = .ok (.if_icmp .ne 41, 3) := by decide +kernel
theorem dL_copies_92 : decode cL_copies 92 = .ok (.aload_n 0, 1) := by decide +kernel
theorem dL_copies_93 : decode cL_copies 93 = .ok (.iload_n 2, 1) := by decide +kernel
theorem dL_copies_94 : decode cL_copies 94 = .ok (.iload_n 1, 1) := by decide +kernel
theorem dL_copies_95 : decode cL_copies 95 = .ok (.iconst 0, 1) := by decide +kernel
theorem dL_copies_96 : decode cL_copies 96 = .ok (.invokevirtual 77, 3) := by decide +kernel
theorem dL_copies_99 : decode cL_copies 99 = .ok (.iconst 1, 1) := by decide +kernel
theorem dL_copies_100 : decode cL_copies 100 = .ok (.if_icmp .ne 30, 3) := by decide +kernel
theorem dL_copies_103 : decode cL_copies 103 = .ok (.aload_n 0, 1) := by decide +kernel
theorem dL_copies_104 : decode cL_copies 104 = .ok (.iload_n 1, 1) := by decide +kernel
theorem dL_copies_105 : decode cL_copies 105 = .ok (.iload_n 2, 1) := by decide +kernel
theorem dL_copies_106 : decode cL_copies 106 = .ok (.iconst 1, 1) := by decide +kernel
theorem dL_copies_107 : decode cL_copies 107 = .ok (.invokevirtual 77, 3) := by decide +kernel
theorem dL_copies_110 : decode cL_copies 110 = .ok (.iconst 1, 1) := by decide +kernel
theorem dL_copies_111 : decode cL_copies 111 = .ok (.if_icmp .ne 19, 3) := by decide +kernel
theorem dL_copies_114 : decode cL_copies 114 = .ok (.aload_n 0, 1) := by decide +kernel
theorem dL_copies_115 : decode cL_copies 115 = .ok (.iload_n 2, 1) := by decide +kernel
theorem dL_copies_116 : decode cL_copies 116 = .ok (.iload_n 1, 1) := by decide +kernel
theorem dL_copies_117 : decode cL_copies 117 = .ok (.iconst 4, 1) := by decide +kernel
theorem dL_copies_118 : decode cL_copies 118 = .ok (.invokevirtual 74, 3) := by decide +kernel
theorem dL_copies_121 : decode cL_copies 121 = .ok (.bipush (-9), 2) := by decide +kernel
theorem dL_copies_123 : decode cL_copies 123 = .ok (.if_icmp .ne 7, 3) := by decide +kernel
theorem dL_copies_126 : decode cL_copies 126 = .ok (.iconst 1, 1) := by decide +kernel
theorem dL_copies_127 : decode cL_copies 127 = .ok (.goto 4, 3) := by decide +kernel
theorem dL_copies_130 : decode cL_copies 130 = .ok (.iconst 0, 1) := by decide +kernel
theorem dL_copies_131 : decode cL_copies 131 = .ok (.ireturn, 1) := by decide +kernel
set_option maxRecDepth 20000 in
theorem ggL_combines_X3_fingerprint : GoodIn wsL_combines wsX3_fingerprint := goodIn_r _ [5, 6, 7, 8, 9, 10, 4, 11, 12, 13, 14, 15, 16, 17, 18, 19, 20, 21, 22, 23, 24, 25, 26, 27, 28, 29, 30, 31, 32, 33, 34, 35, 36, 37, 38, 39, 40, 41, 42, 43, 44, 45, 46, 47, 48, 49, 50, 138, 139, 140, 141, 142, 143, 144, 145, 146] (by decide +kernel) (by decide +kernel)
set_option maxRecDepth 20000 in
theorem gL_combines_X3_fingerprint : GoodIn wsL_combines (wsV RL 9 RX3 yX3_fingerprint wsX3_fingerprint) := goodIn_app (goodIn_of _ (by decide +kernel)) ggL_combines_X3_fingerprint
set_option maxRecDepth 20000 in
theorem ggL_combines_X3_compare : GoodIn wsL_combines wsX3_compare := goodIn_r _ [54, 55, 7, 56, 57, 4, 58, 59, 60, 61, 62, 63, 13, 64, 65, 24, 66, 67, 68, 43, 12, 14, 15, 16, 17, 18, 19, 20, 21, 22, 23, 25, 26, 27, 28, 29, 30, 31, 69, 70, 71, 72, 73, 74, 75, 76, 77, 78, 138, 139, 140, 141, 142, 143, 144, 145, 146] (by decide +kernel) (by decide +kernel)
set_option maxRecDepth 20000 in
theorem gL_combines_X3_compare : GoodIn wsL_combines (wsV RL 74 RX3 yX3_compare wsX3_compare) := goodIn_app (goodIn_of _ (by decide +kernel)) ggL_combines_X3_compare
set_option maxRecDepth 20000 in
theorem ggL_combines_X3_size : GoodIn wsL_combines wsX3_size := goodIn_r _ [82, 7, 56, 57, 4, 58, 12, 13, 14, 15, 16, 17, 18, 19, 20, 21, 22, 23, 24, 25, 26, 27, 28, 29, 30, 31, 138, 139, 140, 141, 142, 143, 144, 145, 146] (by decide +kernel) (by decide +kernel)
set_option maxRecDepth 20000 in
theorem gL_combines_X3_size : GoodIn wsL_combines (wsV RL 36 RX3 yX3_size wsX3_size) := goodIn_app (goodIn_of _ (by decide +kernel)) ggL_combines_X3_size
set_option maxRecDepth 20000 in
theorem ggL_combines_L_up : GoodIn wsL_combines wsL_up := goodIn_r _ [86, 87] (by decide +kernel) (by decide +kernel)
set_option maxRecDepth 20000 in
theorem gL_combines_L_up : GoodIn wsL_combines (va_wsS RL 90 yL_up wsL_up) := goodIn_app (goodIn_of _ (by decide +kernel)) ggL_combines_L_up
set_option maxRecDepth 20000 in
theorem ggL_combines_X3_met : GoodIn wsL_combines wsX3_met := goodIn_r _ [91, 7, 92, 93, 4, 94, 138, 139, 140, 141, 142, 143, 144, 145] (by decide +kernel) (by decide +kernel)
set_option maxRecDepth 20000 in
theorem gL_combines_X3_met : GoodIn wsL_combines (wsV RL 80 RX3 yX3_met wsX3_met) := goodIn_app (goodIn_of _ (by decide +kernel)) ggL_combines_X3_met
set_option maxRecDepth 20000 in
theorem ggL_combines_X3_piece : GoodIn wsL_combines wsX3_piece := goodIn_r _ [98, 7, 56, 57, 4, 58, 32, 13, 33, 34, 35, 36, 37, 38, 16, 17, 18, 19, 20, 21, 22, 23, 24, 25, 26, 27, 28, 29, 30, 31, 39, 40, 41, 42, 43, 44, 45, 46, 47, 138, 139, 140, 141, 142, 143, 144, 145, 146] (by decide +kernel) (by decide +kernel)
set_option maxRecDepth 20000 in
theorem gL_combines_X3_piece : GoodIn wsL_combines (wsV RL 59 RX3 yX3_piece wsX3_piece) := goodIn_app (goodIn_of _ (by decide +kernel)) ggL_combines_X3_piece
set_option maxRecDepth 20000 in
theorem ggL_combines_X3_combine : GoodIn wsL_combines wsX3_combine := goodIn_r _ [102, 7, 56, 57, 4, 58, 103, 104, 105, 106, 107, 108, 109, 110, 111, 112, 113, 114, 115, 116, 117, 118, 119, 120, 13, 121, 122, 24, 123, 63, 64, 65, 66, 67, 68, 43, 124, 125, 126, 36, 37, 38, 16, 17, 18, 19, 20, 21, 22, 23, 25, 26, 27, 28, 29, 30, 31, 39, 40, 41, 42, 93, 94, 127, 128, 129, 12, 14, 15, 138, 139, 140, 141, 142, 143, 144, 145, 146] (by decide +kernel) (by decide +kernel)
set_option maxRecDepth 20000 in
theorem gL_combines_X3_combine : GoodIn wsL_combines (wsV RL 28 RX3 yX3_combine wsX3_combine) := goodIn_app (goodIn_of _ (by decide +kernel)) ggL_combines_X3_combine
set_option maxRecDepth 20000 in
theorem ggL_combines_X3_select : GoodIn wsL_combines wsX3_select := goodIn_r _ [133, 7, 56, 57, 4, 58, 73, 13, 74, 75, 24, 25, 26, 27, 28, 29, 30, 31, 76, 77, 78, 138, 139, 140, 141, 142, 143, 144, 145, 146] (by decide +kernel) (by decide +kernel)
set_option maxRecDepth 20000 in
theorem gL_combines_X3_select : GoodIn wsL_combines (wsV RL 46 RX3 yX3_select wsX3_select) := goodIn_app (goodIn_of _ (by decide +kernel)) ggL_combines_X3_select
set_option maxRecDepth 20000 in
theorem ggL_combines_X3_undo : GoodIn wsL_combines wsX3_undo := goodIn_r _ [137, 107, 7, 108, 138, 139, 140, 141, 142] (by decide +kernel) (by decide +kernel)
set_option maxRecDepth 20000 in
theorem gL_combines_X3_undo : GoodIn wsL_combines (wsV RL 95 RX3 yX3_undo wsX3_undo) := goodIn_app (goodIn_of _ (by decide +kernel)) ggL_combines_X3_undo
theorem dL_combines_0 : decode cL_combines 0 = .ok (.aload_n 0, 1) := by decide +kernel
theorem dL_combines_1 : decode cL_combines 1 = .ok (.invokevirtual 9, 3) := by decide +kernel
theorem dL_combines_4 : decode cL_combines 4 = .ok (.lstore 4, 2) := by decide +kernel
theorem dL_combines_6 : decode cL_combines 6 = .ok (.aload_n 0, 1) := by decide +kernel
theorem dL_combines_7 : decode cL_combines 7 = .ok (.iload_n 2, 1) := by decide +kernel
theorem dL_combines_8 : decode cL_combines 8 = .ok (.iload_n 3, 1) := by decide +kernel
theorem dL_combines_9 : decode cL_combines 9 = .ok (.iconst 0, 1) := by decide +kernel
theorem dL_combines_10 : decode cL_combines 10 = .ok (.invokevirtual 74, 3) := by decide +kernel
theorem dL_combines_13 : decode cL_combines 13 = .ok (.istore 6, 2) := by decide +kernel
theorem dL_combines_15 : decode cL_combines 15 = .ok (.aload_n 0, 1) := by decide +kernel
theorem dL_combines_16 : decode cL_combines 16 = .ok (.iload_n 2, 1) := by decide +kernel
theorem dL_combines_17 : decode cL_combines 17 = .ok (.iload_n 3, 1) := by decide +kernel
theorem dL_combines_18 : decode cL_combines 18 = .ok (.iconst 1, 1) := by decide +kernel
theorem dL_combines_19 : decode cL_combines 19 = .ok (.invokevirtual 74, 3) := by decide +kernel
theorem dL_combines_22 : decode cL_combines 22 = .ok (.istore 7, 2) := by decide +kernel
theorem dL_combines_24 : decode cL_combines 24 = .ok (.aload_n 0, 1) := by decide +kernel
theorem dL_combines_25 : decode cL_combines 25 = .ok (.iload_n 2, 1) := by decide +kernel
theorem dL_combines_26 : decode cL_combines 26 = .ok (.invokevirtual 36, 3) := by decide +kernel
theorem dL_combines_29 : decode cL_combines 29 = .ok (.istore 8, 2) := by decide +kernel
theorem dL_combines_31 : decode cL_combines 31 = .ok (.iload_n 1, 1) := by decide +kernel
theorem dL_combines_32 : decode cL_combines 32 = .ok (.iconst 4, 1) := by decide +kernel
theorem dL_combines_33 : decode cL_combines 33 = .ok (.invokestatic 90, 3) := by decide +kernel
theorem dL_combines_36 : decode cL_combines 36 = .ok (.istore 9, 2) := by decide +kernel
theorem dL_combines_38 : decode cL_combines 38 = .ok (.iload_n 1, 1) := by decide +kernel
theorem dL_combines_39 : decode cL_combines 39 = .ok (.iconst 2, 1) := by decide +kernel
theorem dL_combines_40 : decode cL_combines 40 = .ok (.ishr, 1) := by decide +kernel
theorem dL_combines_41 : decode cL_combines 41 = .ok (.bipush 6, 2) := by decide +kernel
theorem dL_combines_43 : decode cL_combines 43 = .ok (.invokestatic 90, 3) := by decide +kernel
theorem dL_combines_46 : decode cL_combines 46 = .ok (.istore 10, 2) := by decide +kernel
theorem dL_combines_48 : decode cL_combines 48 = .ok (.iload 9, 2) := by decide +kernel
theorem dL_combines_50 : decode cL_combines 50 = .ok (.ifCond .ne 8, 3) := by decide +kernel
theorem dL_combines_53 : decode cL_combines 53 = .ok (.iload 6, 2) := by decide +kernel
theorem dL_combines_55 : decode cL_combines 55 = .ok (.goto 33, 3) := by decide +kernel
theorem dL_combines_58 : decode cL_combines 58 = .ok (.iload 9, 2) := by decide +kernel
theorem dL_combines_60 : decode cL_combines 60 = .ok (.iconst 1, 1) := by decide +kernel
theorem dL_combines_61 : decode cL_combines 61 = .ok (.if_icmp .ne 11, 3) := by decide +kernel
theorem dL_combines_64 : decode cL_combines 64 = .ok (.iload 6, 2) := by decide +kernel
theorem dL_combines_66 : decode cL_combines 66 = .ok (.iload 7, 2) := by decide +kernel
theorem dL_combines_68 : decode cL_combines 68 = .ok (.iadd, 1) := by decide +kernel
theorem dL_combines_69 : decode cL_combines 69 = .ok (.goto 19, 3) := by decide +kernel
theorem dL_combines_72 : decode cL_combines 72 = .ok (.iload 9, 2) := by decide +kernel
theorem dL_combines_74 : decode cL_combines 74 = .ok (.iconst 2, 1) := by decide +kernel
theorem dL_combines_75 : decode cL_combines 75 = .ok (.if_icmp .ne 8, 3) := by decide +kernel
theorem dL_combines_78 : decode cL_combines 78 = .ok (.iload 7, 2) := by decide +kernel
theorem dL_combines_80 : decode cL_combines 80 = .ok (.goto 8, 3) := by decide +kernel
theorem dL_combines_83 : decode cL_combines 83 = .ok (.iload 8, 2) := by decide +kernel
theorem dL_combines_85 : decode cL_combines 85 = .ok (.iload 6, 2) := by decide +kernel
theorem dL_combines_87 : decode cL_combines 87 = .ok (.isub, 1) := by decide +kernel
theorem dL_combines_88 : decode cL_combines 88 = .ok (.istore 11, 2) := by decide +kernel
theorem dL_combines_90 : decode cL_combines 90 = .ok (.iconst 0, 1) := by decide +kernel
theorem dL_combines_91 : decode cL_combines 91 = .ok (.istore 12, 2) := by decide +kernel
theorem dL_combines_93 : decode cL_combines 93 = .ok (.iconst 0, 1) := by decide +kernel
theorem dL_combines_94 : decode cL_combines 94 = .ok (.istore 13, 2) := by decide +kernel
theorem dL_combines_96 : decode cL_combines 96 = .ok (.iconst 0, 1) := by decide +kernel
theorem dL_combines_97 : decode cL_combines 97 = .ok (.istore 14, 2) := by decide +kernel
theorem dL_combines_99 : decode cL_combines 99 = .ok (.iload 14, 2) := by decide +kernel
theorem dL_combines_101 : decode cL_combines 101 = .ok (.bipush 9, 2) := by decide +kernel
theorem dL_combines_103 : decode cL_combines 103 = .ok (.if_icmp .ge 26, 3) := by decide +kernel
theorem dL_combines_106 : decode cL_combines 106 = .ok (.iload 12, 2) := by decide +kernel
theorem dL_combines_108 : decode cL_combines 108 = .ok (.aload_n 0, 1) := by decide +kernel
theorem dL_combines_109 : decode cL_combines 109 = .ok (.iload 14, 2) := by decide +kernel
theorem dL_combines_111 : decode cL_combines 111 = .ok (.iconst 3, 1) := by decide +kernel
theorem dL_combines_112 : decode cL_combines 112 = .ok (.idiv, 1) := by decide +kernel
theorem dL_combines_113 : decode cL_combines 113 = .ok (.iload 14, 2) := by decide +kernel
theorem dL_combines_115 : decode cL_combines 115 = .ok (.iconst 3, 1) := by decide +kernel
theorem dL_combines_116 : decode cL_combines 116 = .ok (.irem, 1) := by decide +kernel
theorem dL_combines_117 : decode cL_combines 117 = .ok (.invokevirtual 80, 3) := by decide +kernel
theorem dL_combines_120 : decode cL_combines 120 = .ok (.iadd, 1) := by decide +kernel
theorem dL_combines_121 : decode cL_combines 121 = .ok (.istore 12, 2) := by decide +kernel
theorem dL_combines_123 : decode cL_combines 123 = .ok (.iinc 14 1, 3) := by decide +kernel
theorem dL_combines_126 : decode cL_combines 126 = .ok (.goto (-27), 3) := by decide +kernel
theorem dL_combines_129 : decode cL_combines 129 = .ok (.iconst 0, 1) := by decide +kernel
theorem dL_combines_130 : decode cL_combines 130 = .ok (.istore 14, 2) := by decide +kernel
theorem dL_combines_132 : decode cL_combines 132 = .ok (.iload 14, 2) := by decide +kernel
theorem dL_combines_134 : decode cL_combines 134 = .ok (.bipush 16, 2) := by decide +kernel
theorem dL_combines_136 : decode cL_combines 136 = .ok (.if_icmp .ge 41, 3) := by decide +kernel
theorem dL_combines_139 : decode cL_combines 139 = .ok (.iload 13, 2) := by decide +kernel
theorem dL_combines_141 : decode cL_combines 141 = .ok (.aload_n 0, 1) := by decide +kernel
theorem dL_combines_142 : decode cL_combines 142 = .ok (.iload_n 2, 1) := by decide +kernel
theorem dL_combines_143 : decode cL_combines 143 = .ok (.iload 14, 2) := by decide +kernel
theorem dL_combines_145 : decode cL_combines 145 = .ok (.iconst 1, 1) := by decide +kernel
theorem dL_combines_146 : decode cL_combines 146 = .ok (.invokevirtual 59, 3) := by decide +kernel
theorem dL_combines_149 : decode cL_combines 149 = .ok (.ifCond .le 18, 3) := by decide +kernel
theorem dL_combines_152 : decode cL_combines 152 = .ok (.aload_n 0, 1) := by decide +kernel
theorem dL_combines_153 : decode cL_combines 153 = .ok (.iload_n 3, 1) := by decide +kernel
theorem dL_combines_154 : decode cL_combines 154 = .ok (.iload 14, 2) := by decide +kernel
theorem dL_combines_156 : decode cL_combines 156 = .ok (.iconst 1, 1) := by decide +kernel
theorem dL_combines_157 : decode cL_combines 157 = .ok (.invokevirtual 59, 3) := by decide +kernel
theorem dL_combines_160 : decode cL_combines 160 = .ok (.ifCond .le 7, 3) := by decide +kernel
theorem dL_combines_163 : decode cL_combines 163 = .ok (.iconst 1, 1) := by decide +kernel
theorem dL_combines_164 : decode cL_combines 164 = .ok (.goto 4, 3) := by decide +kernel
theorem dL_combines_167 : decode cL_combines 167 = .ok (.iconst 0, 1) := by decide +kernel
theorem dL_combines_168 : decode cL_combines 168 = .ok (.iadd, 1) := by decide +kernel
theorem dL_combines_169 : decode cL_combines 169 = .ok (.istore 13, 2) := by decide +kernel
theorem dL_combines_171 : decode cL_combines 171 = .ok (.iinc 14 1, 3) := by decide +kernel
theorem dL_combines_174 : decode cL_combines 174 = .ok (.goto (-42), 3) := by decide +kernel
theorem dL_combines_177 : decode cL_combines 177 = .ok (.aload_n 0, 1) := by decide +kernel
theorem dL_combines_178 : decode cL_combines 178 = .ok (.iload_n 2, 1) := by decide +kernel
theorem dL_combines_179 : decode cL_combines 179 = .ok (.iload_n 3, 1) := by decide +kernel
theorem dL_combines_180 : decode cL_combines 180 = .ok (.iconst 4, 1) := by decide +kernel
theorem dL_combines_181 : decode cL_combines 181 = .ok (.invokevirtual 74, 3) := by decide +kernel
theorem dL_combines_184 : decode cL_combines 184 = .ok (.istore 14, 2) := by decide +kernel
theorem dL_combines_186 : decode cL_combines 186 = .ok (.aload_n 0, 1) := by decide +kernel
theorem dL_combines_187 : decode cL_combines 187 = .ok (.iload 9, 2) := by decide +kernel
theorem dL_combines_189 : decode cL_combines 189 = .ok (.iload_n 2, 1) := by decide +kernel
theorem dL_combines_190 : decode cL_combines 190 = .ok (.iload_n 3, 1) := by decide +kernel
theorem dL_combines_191 : decode cL_combines 191 = .ok (.iload 10, 2) := by decide +kernel
theorem dL_combines_193 : decode cL_combines 193 = .ok (.invokevirtual 28, 3) := by decide +kernel
theorem dL_combines_196 : decode cL_combines 196 = .ok (.iload 11, 2) := by decide +kernel
theorem dL_combines_198 : decode cL_combines 198 = .ok (.if_icmp .ne 14, 3) := by decide +kernel
theorem dL_combines_201 : decode cL_combines 201 = .ok (.aload_n 0, 1) := by decide +kernel
theorem dL_combines_202 : decode cL_combines 202 = .ok (.iload 10, 2) := by decide +kernel
theorem dL_combines_204 : decode cL_combines 204 = .ok (.invokevirtual 36, 3) := by decide +kernel
theorem dL_combines_207 : decode cL_combines 207 = .ok (.iload 11, 2) := by decide +kernel
theorem dL_combines_209 : decode cL_combines 209 = .ok (.if_icmp .eq 5, 3) := by decide +kernel
theorem dL_combines_212 : decode cL_combines 212 = .ok (.iconst 0, 1) := by decide +kernel
theorem dL_combines_213 : decode cL_combines 213 = .ok (.ireturn, 1) := by decide +kernel
theorem dL_combines_214 : decode cL_combines 214 = .ok (.iconst 0, 1) := by decide +kernel
theorem dL_combines_215 : decode cL_combines 215 = .ok (.istore 15, 2) := by decide +kernel
theorem dL_combines_217 : decode cL_combines 217 = .ok (.iload 15, 2) := by decide +kernel
theorem dL_combines_219 : decode cL_combines 219 = .ok (.bipush 9, 2) := by decide +kernel
