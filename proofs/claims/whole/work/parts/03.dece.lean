set_option maxRecDepth 20000 in
theorem ggX4_combine_X4_in : GoodIn wsX4_combine wsX4_in := goodIn_r _ [6] (by decide +kernel) (by decide +kernel)
set_option maxRecDepth 20000 in
theorem gX4_combine_X4_in : GoodIn wsX4_combine (va_wsS RX4 25 yX4_in wsX4_in) := goodIn_app (goodIn_of _ (by decide +kernel)) ggX4_combine_X4_in
set_option maxRecDepth 20000 in
theorem ggX4_combine_X4_isSet : GoodIn wsX4_combine wsX4_isSet := goodIn_r _ [9, 3, 4, 5, 6] (by decide +kernel) (by decide +kernel)
set_option maxRecDepth 20000 in
theorem gX4_combine_X4_isSet : GoodIn wsX4_combine (va_wsS RX4 55 yX4_isSet wsX4_isSet) := goodIn_app (goodIn_of _ (by decide +kernel)) ggX4_combine_X4_isSet
set_option maxRecDepth 20000 in
theorem ggX4_combine_X4_act : GoodIn wsX4_combine wsX4_act := goodIn_r _ [13, 14, 15, 2, 1, 43, 44, 45, 46, 47, 48, 49, 50] (by decide +kernel) (by decide +kernel)
set_option maxRecDepth 20000 in
theorem gX4_combine_X4_act : GoodIn wsX4_combine (wsV RX4 59 RX4 yX4_act wsX4_act) := goodIn_app (goodIn_of _ (by decide +kernel)) ggX4_combine_X4_act
set_option maxRecDepth 20000 in
theorem ggX4_combine_X4_kindIn : GoodIn wsX4_combine wsX4_kindIn := goodIn_r _ [18, 19, 20, 5, 21, 22, 23, 24, 25, 26, 27, 28, 29, 30] (by decide +kernel) (by decide +kernel)
set_option maxRecDepth 20000 in
theorem gX4_combine_X4_kindIn : GoodIn wsX4_combine (va_wsS RX4 48 yX4_kindIn wsX4_kindIn) := goodIn_app (goodIn_of _ (by decide +kernel)) ggX4_combine_X4_kindIn
set_option maxRecDepth 20000 in
theorem ggX4_combine_X4_converts : GoodIn wsX4_combine wsX4_converts := goodIn_r _ [34, 1, 2, 16, 17, 5, 18, 19, 20, 21, 22, 23, 24, 25, 26, 27, 28, 29, 30, 43, 44, 45, 46, 47, 48, 49, 50] (by decide +kernel) (by decide +kernel)
set_option maxRecDepth 20000 in
theorem gX4_combine_X4_converts : GoodIn wsX4_combine (wsV RX4 66 RX4 yX4_converts wsX4_converts) := goodIn_app (goodIn_of _ (by decide +kernel)) ggX4_combine_X4_converts
set_option maxRecDepth 20000 in
theorem ggX4_combine_X4_sizeOf : GoodIn wsX4_combine wsX4_sizeOf := goodIn_r _ [38, 39, 40, 41, 5, 42, 2, 22, 23, 24, 43, 44, 45, 46, 47, 48, 49, 50] (by decide +kernel) (by decide +kernel)
set_option maxRecDepth 20000 in
theorem gX4_combine_X4_sizeOf : GoodIn wsX4_combine (wsV RX4 78 RX4 yX4_sizeOf wsX4_sizeOf) := goodIn_app (goodIn_of _ (by decide +kernel)) ggX4_combine_X4_sizeOf
theorem dX4_combine_0 : decode cX4_combine 0 = .ok (.iload_n 1, 1) := by decide +kernel
theorem dX4_combine_1 : decode cX4_combine 1 = .ok (.iconst 0, 1) := by decide +kernel
theorem dX4_combine_2 : decode cX4_combine 2 = .ok (.iconst 3, 1) := by decide +kernel
theorem dX4_combine_3 : decode cX4_combine 3 = .ok (.invokestatic 25, 3) := by decide +kernel
theorem dX4_combine_6 : decode cX4_combine 6 = .ok (.ifCond .eq 25, 3) := by decide +kernel
theorem dX4_combine_9 : decode cX4_combine 9 = .ok (.iload_n 2, 1) := by decide +kernel
theorem dX4_combine_10 : decode cX4_combine 10 = .ok (.invokestatic 55, 3) := by decide +kernel
theorem dX4_combine_13 : decode cX4_combine 13 = .ok (.ifCond .eq 18, 3) := by decide +kernel
theorem dX4_combine_16 : decode cX4_combine 16 = .ok (.iload_n 3, 1) := by decide +kernel
theorem dX4_combine_17 : decode cX4_combine 17 = .ok (.invokestatic 55, 3) := by decide +kernel
theorem dX4_combine_20 : decode cX4_combine 20 = .ok (.ifCond .eq 11, 3) := by decide +kernel
theorem dX4_combine_23 : decode cX4_combine 23 = .ok (.iload 4, 2) := by decide +kernel
theorem dX4_combine_25 : decode cX4_combine 25 = .ok (.invokestatic 55, 3) := by decide +kernel
theorem dX4_combine_28 : decode cX4_combine 28 = .ok (.ifCond .ne 5, 3) := by decide +kernel
theorem dX4_combine_31 : decode cX4_combine 31 = .ok (.iconst (-1), 1) := by decide +kernel
theorem dX4_combine_32 : decode cX4_combine 32 = .ok (.ireturn, 1) := by decide +kernel
theorem dX4_combine_33 : decode cX4_combine 33 = .ok (.aload_n 0, 1) := by decide +kernel
theorem dX4_combine_34 : decode cX4_combine 34 = .ok (.invokevirtual 59, 3) := by decide +kernel
theorem dX4_combine_37 : decode cX4_combine 37 = .ok (.iconst 0, 1) := by decide +kernel
theorem dX4_combine_38 : decode cX4_combine 38 = .ok (.istore 5, 2) := by decide +kernel
theorem dX4_combine_40 : decode cX4_combine 40 = .ok (.iload 5, 2) := by decide +kernel
theorem dX4_combine_42 : decode cX4_combine 42 = .ok (.bipush 16, 2) := by decide +kernel
theorem dX4_combine_44 : decode cX4_combine 44 = .ok (.if_icmp .ge 63, 3) := by decide +kernel
theorem dX4_combine_47 : decode cX4_combine 47 = .ok (.aload_n 0, 1) := by decide +kernel
theorem dX4_combine_48 : decode cX4_combine 48 = .ok (.getfield 13, 3) := by decide +kernel
theorem dX4_combine_51 : decode cX4_combine 51 = .ok (.iload_n 2, 1) := by decide +kernel
theorem dX4_combine_52 : decode cX4_combine 52 = .ok (.iload 5, 2) := by decide +kernel
theorem dX4_combine_54 : decode cX4_combine 54 = .ok (.invokestatic 48, 3) := by decide +kernel
theorem dX4_combine_57 : decode cX4_combine 57 = .ok (.istore 6, 2) := by decide +kernel
theorem dX4_combine_59 : decode cX4_combine 59 = .ok (.aload_n 0, 1) := by decide +kernel
theorem dX4_combine_60 : decode cX4_combine 60 = .ok (.getfield 13, 3) := by decide +kernel
theorem dX4_combine_63 : decode cX4_combine 63 = .ok (.iload_n 3, 1) := by decide +kernel
theorem dX4_combine_64 : decode cX4_combine 64 = .ok (.iload 5, 2) := by decide +kernel
theorem dX4_combine_66 : decode cX4_combine 66 = .ok (.invokestatic 48, 3) := by decide +kernel
theorem dX4_combine_69 : decode cX4_combine 69 = .ok (.istore 7, 2) := by decide +kernel
theorem dX4_combine_71 : decode cX4_combine 71 = .ok (.iload 6, 2) := by decide +kernel
theorem dX4_combine_73 : decode cX4_combine 73 = .ok (.ifCond .lt 28, 3) := by decide +kernel
theorem dX4_combine_76 : decode cX4_combine 76 = .ok (.iload 7, 2) := by decide +kernel
theorem dX4_combine_78 : decode cX4_combine 78 = .ok (.ifCond .lt 23, 3) := by decide +kernel
theorem dX4_combine_81 : decode cX4_combine 81 = .ok (.aload_n 0, 1) := by decide +kernel
theorem dX4_combine_82 : decode cX4_combine 82 = .ok (.getfield 7, 3) := by decide +kernel
theorem dX4_combine_85 : decode cX4_combine 85 = .ok (.sipush 768, 3) := by decide +kernel
theorem dX4_combine_88 : decode cX4_combine 88 = .ok (.iconst 3, 1) := by decide +kernel
theorem dX4_combine_89 : decode cX4_combine 89 = .ok (.iload 6, 2) := by decide +kernel
theorem dX4_combine_91 : decode cX4_combine 91 = .ok (.imul, 1) := by decide +kernel
theorem dX4_combine_92 : decode cX4_combine 92 = .ok (.iadd, 1) := by decide +kernel
theorem dX4_combine_93 : decode cX4_combine 93 = .ok (.iload 7, 2) := by decide +kernel
theorem dX4_combine_95 : decode cX4_combine 95 = .ok (.iadd, 1) := by decide +kernel
theorem dX4_combine_96 : decode cX4_combine 96 = .ok (.dup2, 1) := by decide +kernel
theorem dX4_combine_97 : decode cX4_combine 97 = .ok (.iaload, 1) := by decide +kernel
theorem dX4_combine_98 : decode cX4_combine 98 = .ok (.iconst 1, 1) := by decide +kernel
theorem dX4_combine_99 : decode cX4_combine 99 = .ok (.iadd, 1) := by decide +kernel
theorem dX4_combine_100 : decode cX4_combine 100 = .ok (.iastore, 1) := by decide +kernel
theorem dX4_combine_101 : decode cX4_combine 101 = .ok (.iinc 5 1, 3) := by decide +kernel
theorem dX4_combine_104 : decode cX4_combine 104 = .ok (.goto (-64), 3) := by decide +kernel
theorem dX4_combine_107 : decode cX4_combine 107 = .ok (.iconst 0, 1) := by decide +kernel
theorem dX4_combine_108 : decode cX4_combine 108 = .ok (.istore 5, 2) := by decide +kernel
theorem dX4_combine_110 : decode cX4_combine 110 = .ok (.iload 5, 2) := by decide +kernel
theorem dX4_combine_112 : decode cX4_combine 112 = .ok (.sipush 128, 3) := by decide +kernel
theorem dX4_combine_115 : decode cX4_combine 115 = .ok (.if_icmp .ge 98, 3) := by decide +kernel
theorem dX4_combine_118 : decode cX4_combine 118 = .ok (.aload_n 0, 1) := by decide +kernel
theorem dX4_combine_119 : decode cX4_combine 119 = .ok (.getfield 13, 3) := by decide +kernel
theorem dX4_combine_122 : decode cX4_combine 122 = .ok (.sipush 128, 3) := by decide +kernel
theorem dX4_combine_125 : decode cX4_combine 125 = .ok (.iload_n 2, 1) := by decide +kernel
theorem dX4_combine_126 : decode cX4_combine 126 = .ok (.imul, 1) := by decide +kernel
theorem dX4_combine_127 : decode cX4_combine 127 = .ok (.iload 5, 2) := by decide +kernel
theorem dX4_combine_129 : decode cX4_combine 129 = .ok (.iadd, 1) := by decide +kernel
theorem dX4_combine_130 : decode cX4_combine 130 = .ok (.iaload, 1) := by decide +kernel
theorem dX4_combine_131 : decode cX4_combine 131 = .ok (.istore 6, 2) := by decide +kernel
theorem dX4_combine_133 : decode cX4_combine 133 = .ok (.aload_n 0, 1) := by decide +kernel
theorem dX4_combine_134 : decode cX4_combine 134 = .ok (.getfield 13, 3) := by decide +kernel
theorem dX4_combine_137 : decode cX4_combine 137 = .ok (.sipush 128, 3) := by decide +kernel
theorem dX4_combine_140 : decode cX4_combine 140 = .ok (.iload_n 3, 1) := by decide +kernel
theorem dX4_combine_141 : decode cX4_combine 141 = .ok (.imul, 1) := by decide +kernel
theorem dX4_combine_142 : decode cX4_combine 142 = .ok (.iload 5, 2) := by decide +kernel
theorem dX4_combine_144 : decode cX4_combine 144 = .ok (.iadd, 1) := by decide +kernel
theorem dX4_combine_145 : decode cX4_combine 145 = .ok (.iaload, 1) := by decide +kernel
theorem dX4_combine_146 : decode cX4_combine 146 = .ok (.istore 7, 2) := by decide +kernel
theorem dX4_combine_148 : decode cX4_combine 148 = .ok (.aload_n 0, 1) := by decide +kernel
theorem dX4_combine_149 : decode cX4_combine 149 = .ok (.getfield 7, 3) := by decide +kernel
theorem dX4_combine_152 : decode cX4_combine 152 = .ok (.sipush 128, 3) := by decide +kernel
theorem dX4_combine_155 : decode cX4_combine 155 = .ok (.iload 4, 2) := by decide +kernel
theorem dX4_combine_157 : decode cX4_combine 157 = .ok (.imul, 1) := by decide +kernel
theorem dX4_combine_158 : decode cX4_combine 158 = .ok (.iload 5, 2) := by decide +kernel
theorem dX4_combine_160 : decode cX4_combine 160 = .ok (.iadd, 1) := by decide +kernel
theorem dX4_combine_161 : decode cX4_combine 161 = .ok (.iload_n 1, 1) := by decide +kernel
theorem dX4_combine_162 : decode cX4_combine 162 = .ok (.ifCond .ne 11, 3) := by decide +kernel
theorem dX4_combine_165 : decode cX4_combine 165 = .ok (.iload 6, 2) := by decide +kernel
theorem dX4_combine_167 : decode cX4_combine 167 = .ok (.iload 7, 2) := by decide +kernel
theorem dX4_combine_169 : decode cX4_combine 169 = .ok (.iand, 1) := by decide +kernel
theorem dX4_combine_170 : decode cX4_combine 170 = .ok (.goto 36, 3) := by decide +kernel
theorem dX4_combine_173 : decode cX4_combine 173 = .ok (.iload_n 1, 1) := by decide +kernel
theorem dX4_combine_174 : decode cX4_combine 174 = .ok (.iconst 1, 1) := by decide +kernel
theorem dX4_combine_175 : decode cX4_combine 175 = .ok (.if_icmp .ne 11, 3) := by decide +kernel
theorem dX4_combine_178 : decode cX4_combine 178 = .ok (.iload 6, 2) := by decide +kernel
theorem dX4_combine_180 : decode cX4_combine 180 = .ok (.iload 7, 2) := by decide +kernel
theorem dX4_combine_182 : decode cX4_combine 182 = .ok (.ior, 1) := by decide +kernel
theorem dX4_combine_183 : decode cX4_combine 183 = .ok (.goto 23, 3) := by decide +kernel
theorem dX4_combine_186 : decode cX4_combine 186 = .ok (.iload_n 1, 1) := by decide +kernel
theorem dX4_combine_187 : decode cX4_combine 187 = .ok (.iconst 2, 1) := by decide +kernel
theorem dX4_combine_188 : decode cX4_combine 188 = .ok (.if_icmp .ne 11, 3) := by decide +kernel
theorem dX4_combine_191 : decode cX4_combine 191 = .ok (.iload 6, 2) := by decide +kernel
theorem dX4_combine_193 : decode cX4_combine 193 = .ok (.iload 7, 2) := by decide +kernel
theorem dX4_combine_195 : decode cX4_combine 195 = .ok (.ixor, 1) := by decide +kernel
theorem dX4_combine_196 : decode cX4_combine 196 = .ok (.goto 10, 3) := by decide +kernel
theorem dX4_combine_199 : decode cX4_combine 199 = .ok (.iload 6, 2) := by decide +kernel
theorem dX4_combine_201 : decode cX4_combine 201 = .ok (.iload 7, 2) := by decide +kernel
theorem dX4_combine_203 : decode cX4_combine 203 = .ok (.iconst (-1), 1) := by decide +kernel
theorem dX4_combine_204 : decode cX4_combine 204 = .ok (.ixor, 1) := by decide +kernel
theorem dX4_combine_205 : decode cX4_combine 205 = .ok (.iand, 1) := by decide +kernel
theorem dX4_combine_206 : decode cX4_combine 206 = .ok (.iastore, 1) := by decide +kernel
theorem dX4_combine_207 : decode cX4_combine 207 = .ok (.iinc 5 1, 3) := by decide +kernel
theorem dX4_combine_210 : decode cX4_combine 210 = .ok (.goto (-100), 3) := by decide +kernel
theorem dX4_combine_213 : decode cX4_combine 213 = .ok (.aload_n 0, 1) := by decide +kernel
theorem dX4_combine_214 : decode cX4_combine 214 = .ok (.iload 4, 2) := by decide +kernel
theorem dX4_combine_216 : decode cX4_combine 216 = .ok (.invokevirtual 66, 3) := by decide +kernel
theorem dX4_combine_219 : decode cX4_combine 219 = .ok (.aload_n 0, 1) := by decide +kernel
theorem dX4_combine_220 : decode cX4_combine 220 = .ok (.iload 4, 2) := by decide +kernel
theorem dX4_combine_222 : decode cX4_combine 222 = .ok (.invokevirtual 78, 3) := by decide +kernel
theorem dX4_combine_225 : decode cX4_combine 225 = .ok (.ireturn, 1) := by decide +kernel
set_option maxRecDepth 20000 in
theorem ggX4_shift_X4_isSet : GoodIn wsX4_shift wsX4_isSet := goodIn_r _ [6, 7, 8, 5, 9] (by decide +kernel) (by decide +kernel)
set_option maxRecDepth 20000 in
theorem gX4_shift_X4_isSet : GoodIn wsX4_shift (va_wsS RX4 55 yX4_isSet wsX4_isSet) := goodIn_app (goodIn_of _ (by decide +kernel)) ggX4_shift_X4_isSet
set_option maxRecDepth 20000 in
theorem ggX4_shift_X4_in : GoodIn wsX4_shift wsX4_in := goodIn_r _ [9] (by decide +kernel) (by decide +kernel)
set_option maxRecDepth 20000 in
theorem gX4_shift_X4_in : GoodIn wsX4_shift (va_wsS RX4 25 yX4_in wsX4_in) := goodIn_app (goodIn_of _ (by decide +kernel)) ggX4_shift_X4_in
set_option maxRecDepth 20000 in
theorem ggX4_shift_X4_act : GoodIn wsX4_shift wsX4_act := goodIn_r _ [13, 14, 15, 1, 2, 39, 40, 41, 42, 43, 44, 45, 46] (by decide +kernel) (by decide +kernel)
set_option maxRecDepth 20000 in
theorem gX4_shift_X4_act : GoodIn wsX4_shift (wsV RX4 59 RX4 yX4_act wsX4_act) := goodIn_app (goodIn_of _ (by decide +kernel)) ggX4_shift_X4_act
set_option maxRecDepth 20000 in
theorem ggX4_shift_X4_bit : GoodIn wsX4_shift wsX4_bit := goodIn_r _ [18] (by decide +kernel) (by decide +kernel)
set_option maxRecDepth 20000 in
theorem gX4_shift_X4_bit : GoodIn wsX4_shift (va_wsS RX4 29 yX4_bit wsX4_bit) := goodIn_app (goodIn_of _ (by decide +kernel)) ggX4_shift_X4_bit
set_option maxRecDepth 20000 in
theorem ggX4_shift_X4_puts : GoodIn wsX4_shift wsX4_puts := goodIn_r _ [22, 1, 39, 40, 41, 42, 43, 44, 45, 46] (by decide +kernel) (by decide +kernel)
set_option maxRecDepth 20000 in
theorem gX4_shift_X4_puts : GoodIn wsX4_shift (wsV RX4 62 RX4 yX4_puts wsX4_puts) := goodIn_app (goodIn_of _ (by decide +kernel)) ggX4_shift_X4_puts
set_option maxRecDepth 20000 in
theorem ggX4_shift_X4_converts : GoodIn wsX4_shift wsX4_converts := goodIn_r _ [26, 2, 1, 27, 28, 5, 29, 30, 31, 32, 16, 17, 18, 33, 34, 35, 36, 37, 38, 39, 40, 41, 42, 43, 44, 45, 46] (by decide +kernel) (by decide +kernel)
set_option maxRecDepth 20000 in
theorem gX4_shift_X4_converts : GoodIn wsX4_shift (wsV RX4 66 RX4 yX4_converts wsX4_converts) := goodIn_app (goodIn_of _ (by decide +kernel)) ggX4_shift_X4_converts
theorem dX4_shift_0 : decode cX4_shift 0 = .ok (.iload_n 1, 1) := by decide +kernel
theorem dX4_shift_1 : decode cX4_shift 1 = .ok (.invokestatic 55, 3) := by decide +kernel
theorem dX4_shift_4 : decode cX4_shift 4 = .ok (.ifCond .eq 16, 3) := by decide +kernel
theorem dX4_shift_7 : decode cX4_shift 7 = .ok (.iload_n 2, 1) := by decide +kernel
theorem dX4_shift_8 : decode cX4_shift 8 = .ok (.sipush (-4095), 3) := by decide +kernel
theorem dX4_shift_11 : decode cX4_shift 11 = .ok (.sipush 4095, 3) := by decide +kernel
theorem dX4_shift_14 : decode cX4_shift 14 = .ok (.invokestatic 25, 3) := by decide +kernel
theorem dX4_shift_17 : decode cX4_shift 17 = .ok (.ifCond .ne 5, 3) := by decide +kernel
theorem dX4_shift_20 : decode cX4_shift 20 = .ok (.iconst (-1), 1) := by decide +kernel
theorem dX4_shift_21 : decode cX4_shift 21 = .ok (.ireturn, 1) := by decide +kernel
theorem dX4_shift_22 : decode cX4_shift 22 = .ok (.aload_n 0, 1) := by decide +kernel
theorem dX4_shift_23 : decode cX4_shift 23 = .ok (.invokevirtual 59, 3) := by decide +kernel
theorem dX4_shift_26 : decode cX4_shift 26 = .ok (.iconst 0, 1) := by decide +kernel
theorem dX4_shift_27 : decode cX4_shift 27 = .ok (.istore_n 3, 1) := by decide +kernel
theorem dX4_shift_28 : decode cX4_shift 28 = .ok (.iconst 0, 1) := by decide +kernel
theorem dX4_shift_29 : decode cX4_shift 29 = .ok (.istore 4, 2) := by decide +kernel
theorem dX4_shift_31 : decode cX4_shift 31 = .ok (.iload 4, 2) := by decide +kernel
theorem dX4_shift_33 : decode cX4_shift 33 = .ok (.sipush 128, 3) := by decide +kernel
theorem dX4_shift_36 : decode cX4_shift 36 = .ok (.if_icmp .ge 23, 3) := by decide +kernel
theorem dX4_shift_39 : decode cX4_shift 39 = .ok (.aload_n 0, 1) := by decide +kernel
theorem dX4_shift_40 : decode cX4_shift 40 = .ok (.getfield 7, 3) := by decide +kernel
theorem dX4_shift_43 : decode cX4_shift 43 = .ok (.sipush 128, 3) := by decide +kernel
theorem dX4_shift_46 : decode cX4_shift 46 = .ok (.iload_n 1, 1) := by decide +kernel
theorem dX4_shift_47 : decode cX4_shift 47 = .ok (.imul, 1) := by decide +kernel
theorem dX4_shift_48 : decode cX4_shift 48 = .ok (.iload 4, 2) := by decide +kernel
theorem dX4_shift_50 : decode cX4_shift 50 = .ok (.iadd, 1) := by decide +kernel
theorem dX4_shift_51 : decode cX4_shift 51 = .ok (.iconst 0, 1) := by decide +kernel
theorem dX4_shift_52 : decode cX4_shift 52 = .ok (.iastore, 1) := by decide +kernel
theorem dX4_shift_53 : decode cX4_shift 53 = .ok (.iinc 4 1, 3) := by decide +kernel
theorem dX4_shift_56 : decode cX4_shift 56 = .ok (.goto (-25), 3) := by decide +kernel
theorem dX4_shift_59 : decode cX4_shift 59 = .ok (.iconst 0, 1) := by decide +kernel
theorem dX4_shift_60 : decode cX4_shift 60 = .ok (.istore 4, 2) := by decide +kernel
theorem dX4_shift_62 : decode cX4_shift 62 = .ok (.iload 4, 2) := by decide +kernel
theorem dX4_shift_64 : decode cX4_shift 64 = .ok (.sipush 4096, 3) := by decide +kernel
theorem dX4_shift_67 : decode cX4_shift 67 = .ok (.if_icmp .ge 52, 3) := by decide +kernel
theorem dX4_shift_70 : decode cX4_shift 70 = .ok (.aload_n 0, 1) := by decide +kernel
theorem dX4_shift_71 : decode cX4_shift 71 = .ok (.getfield 13, 3) := by decide +kernel
theorem dX4_shift_74 : decode cX4_shift 74 = .ok (.iload_n 1, 1) := by decide +kernel
theorem dX4_shift_75 : decode cX4_shift 75 = .ok (.iload 4, 2) := by decide +kernel
theorem dX4_shift_77 : decode cX4_shift 77 = .ok (.invokestatic 29, 3) := by decide +kernel
theorem dX4_shift_80 : decode cX4_shift 80 = .ok (.ifCond .eq 33, 3) := by decide +kernel
theorem dX4_shift_83 : decode cX4_shift 83 = .ok (.iload 4, 2) := by decide +kernel
theorem dX4_shift_85 : decode cX4_shift 85 = .ok (.iload_n 2, 1) := by decide +kernel
theorem dX4_shift_86 : decode cX4_shift 86 = .ok (.iadd, 1) := by decide +kernel
theorem dX4_shift_87 : decode cX4_shift 87 = .ok (.iconst 0, 1) := by decide +kernel
theorem dX4_shift_88 : decode cX4_shift 88 = .ok (.sipush 4095, 3) := by decide +kernel
theorem dX4_shift_91 : decode cX4_shift 91 = .ok (.invokestatic 25, 3) := by decide +kernel
theorem dX4_shift_94 : decode cX4_shift 94 = .ok (.ifCond .eq 16, 3) := by decide +kernel
theorem dX4_shift_97 : decode cX4_shift 97 = .ok (.aload_n 0, 1) := by decide +kernel
theorem dX4_shift_98 : decode cX4_shift 98 = .ok (.iload_n 1, 1) := by decide +kernel
theorem dX4_shift_99 : decode cX4_shift 99 = .ok (.iload 4, 2) := by decide +kernel
theorem dX4_shift_101 : decode cX4_shift 101 = .ok (.iload_n 2, 1) := by decide +kernel
theorem dX4_shift_102 : decode cX4_shift 102 = .ok (.iadd, 1) := by decide +kernel
theorem dX4_shift_103 : decode cX4_shift 103 = .ok (.iconst 1, 1) := by decide +kernel
theorem dX4_shift_104 : decode cX4_shift 104 = .ok (.invokevirtual 62, 3) := by decide +kernel
theorem dX4_shift_107 : decode cX4_shift 107 = .ok (.goto 6, 3) := by decide +kernel
theorem dX4_shift_110 : decode cX4_shift 110 = .ok (.iinc 3 1, 3) := by decide +kernel
theorem dX4_shift_113 : decode cX4_shift 113 = .ok (.iinc 4 1, 3) := by decide +kernel
theorem dX4_shift_116 : decode cX4_shift 116 = .ok (.goto (-54), 3) := by decide +kernel
theorem dX4_shift_119 : decode cX4_shift 119 = .ok (.aload_n 0, 1) := by decide +kernel
theorem dX4_shift_120 : decode cX4_shift 120 = .ok (.iload_n 1, 1) := by decide +kernel
theorem dX4_shift_121 : decode cX4_shift 121 = .ok (.invokevirtual 66, 3) := by decide +kernel
theorem dX4_shift_124 : decode cX4_shift 124 = .ok (.iload_n 3, 1) := by decide +kernel
theorem dX4_shift_125 : decode cX4_shift 125 = .ok (.ireturn, 1) := by decide +kernel
set_option maxRecDepth 20000 in
theorem ggX4_size_X4_isSet : GoodIn wsX4_size wsX4_isSet := goodIn_r _ [4, 5, 6, 3, 7] (by decide +kernel) (by decide +kernel)
set_option maxRecDepth 20000 in
theorem gX4_size_X4_isSet : GoodIn wsX4_size (va_wsS RX4 55 yX4_isSet wsX4_isSet) := goodIn_app (goodIn_of _ (by decide +kernel)) ggX4_size_X4_isSet
set_option maxRecDepth 20000 in
theorem ggX4_size_X4_sizeOf : GoodIn wsX4_size wsX4_sizeOf := goodIn_r _ [11, 12, 13, 14, 3, 15, 16, 17, 18, 19, 20, 21, 22, 23, 24, 25, 26, 27] (by decide +kernel) (by decide +kernel)
set_option maxRecDepth 20000 in
theorem gX4_size_X4_sizeOf : GoodIn wsX4_size (wsV RX4 78 RX4 yX4_sizeOf wsX4_sizeOf) := goodIn_app (goodIn_of _ (by decide +kernel)) ggX4_size_X4_sizeOf
theorem dX4_size_0 : decode cX4_size 0 = .ok (.iload_n 1, 1) := by decide +kernel
theorem dX4_size_1 : decode cX4_size 1 = .ok (.invokestatic 55, 3) := by decide +kernel
theorem dX4_size_4 : decode cX4_size 4 = .ok (.ifCond .eq 11, 3) := by decide +kernel
theorem dX4_size_7 : decode cX4_size 7 = .ok (.aload_n 0, 1) := by decide +kernel
theorem dX4_size_8 : decode cX4_size 8 = .ok (.iload_n 1, 1) := by decide +kernel
theorem dX4_size_9 : decode cX4_size 9 = .ok (.invokevirtual 78, 3) := by decide +kernel
theorem dX4_size_12 : decode cX4_size 12 = .ok (.goto 4, 3) := by decide +kernel
theorem dX4_size_15 : decode cX4_size 15 = .ok (.iconst (-1), 1) := by decide +kernel
theorem dX4_size_16 : decode cX4_size 16 = .ok (.ireturn, 1) := by decide +kernel
set_option maxRecDepth 20000 in
theorem ggX4_contains_X4_isSet : GoodIn wsX4_contains wsX4_isSet := goodIn_r _ [4, 5, 6, 3, 7] (by decide +kernel) (by decide +kernel)
set_option maxRecDepth 20000 in
theorem gX4_contains_X4_isSet : GoodIn wsX4_contains (va_wsS RX4 55 yX4_isSet wsX4_isSet) := goodIn_app (goodIn_of _ (by decide +kernel)) ggX4_contains_X4_isSet
set_option maxRecDepth 20000 in
theorem ggX4_contains_X4_in : GoodIn wsX4_contains wsX4_in := goodIn_r _ [7] (by decide +kernel) (by decide +kernel)
set_option maxRecDepth 20000 in
theorem gX4_contains_X4_in : GoodIn wsX4_contains (va_wsS RX4 25 yX4_in wsX4_in) := goodIn_app (goodIn_of _ (by decide +kernel)) ggX4_contains_X4_in
set_option maxRecDepth 20000 in
theorem ggX4_contains_X4_has : GoodIn wsX4_contains wsX4_has := goodIn_r _ [11, 12, 13, 14, 3, 15, 16, 17, 18, 19, 20, 21, 22, 23] (by decide +kernel) (by decide +kernel)
set_option maxRecDepth 20000 in
theorem gX4_contains_X4_has : GoodIn wsX4_contains (wsV RX4 51 RX4 yX4_has wsX4_has) := goodIn_app (goodIn_of _ (by decide +kernel)) ggX4_contains_X4_has
theorem dX4_contains_0 : decode cX4_contains 0 = .ok (.iload_n 1, 1) := by decide +kernel
theorem dX4_contains_1 : decode cX4_contains 1 = .ok (.invokestatic 55, 3) := by decide +kernel
theorem dX4_contains_4 : decode cX4_contains 4 = .ok (.ifCond .ne 7, 3) := by decide +kernel
theorem dX4_contains_7 : decode cX4_contains 7 = .ok (.iconst (-1), 1) := by decide +kernel
theorem dX4_contains_8 : decode cX4_contains 8 = .ok (.goto 28, 3) := by decide +kernel
theorem dX4_contains_11 : decode cX4_contains 11 = .ok (.iload_n 2, 1) := by decide +kernel
theorem dX4_contains_12 : decode cX4_contains 12 = .ok (.iconst 0, 1) := by decide +kernel
theorem dX4_contains_13 : decode cX4_contains 13 = .ok (.sipush 4095, 3) := by decide +kernel
theorem dX4_contains_16 : decode cX4_contains 16 = .ok (.invokestatic 25, 3) := by decide +kernel
theorem dX4_contains_19 : decode cX4_contains 19 = .ok (.ifCond .eq 16, 3) := by decide +kernel
theorem dX4_contains_22 : decode cX4_contains 22 = .ok (.aload_n 0, 1) := by decide +kernel
theorem dX4_contains_23 : decode cX4_contains 23 = .ok (.iload_n 1, 1) := by decide +kernel
theorem dX4_contains_24 : decode cX4_contains 24 = .ok (.iload_n 2, 1) := by decide +kernel
theorem dX4_contains_25 : decode cX4_contains 25 = .ok (.invokevirtual 51, 3) := by decide +kernel
theorem dX4_contains_28 : decode cX4_contains 28 = .ok (.ifCond .eq 7, 3) := by decide +kernel
theorem dX4_contains_31 : decode cX4_contains 31 = .ok (.iconst 1, 1) := by decide +kernel
theorem dX4_contains_32 : decode cX4_contains 32 = .ok (.goto 4, 3) := by decide +kernel
theorem dX4_contains_35 : decode cX4_contains 35 = .ok (.iconst 0, 1) := by decide +kernel
theorem dX4_contains_36 : decode cX4_contains 36 = .ok (.ireturn, 1) := by decide +kernel
set_option maxRecDepth 20000 in
theorem ggX4_rank_X4_isSet : GoodIn wsX4_rank wsX4_isSet := goodIn_r _ [4, 5, 6, 3, 7] (by decide +kernel) (by decide +kernel)
set_option maxRecDepth 20000 in
theorem gX4_rank_X4_isSet : GoodIn wsX4_rank (va_wsS RX4 55 yX4_isSet wsX4_isSet) := goodIn_app (goodIn_of _ (by decide +kernel)) ggX4_rank_X4_isSet
set_option maxRecDepth 20000 in
theorem ggX4_rank_X4_has : GoodIn wsX4_rank wsX4_has := goodIn_r _ [11, 12, 13, 14, 3, 15, 16, 17, 18, 19, 20, 21, 22, 23] (by decide +kernel) (by decide +kernel)
set_option maxRecDepth 20000 in
theorem gX4_rank_X4_has : GoodIn wsX4_rank (wsV RX4 51 RX4 yX4_has wsX4_has) := goodIn_app (goodIn_of _ (by decide +kernel)) ggX4_rank_X4_has
theorem dX4_rank_0 : decode cX4_rank 0 = .ok (.iload_n 1, 1) := by decide +kernel
theorem dX4_rank_1 : decode cX4_rank 1 = .ok (.invokestatic 55, 3) := by decide +kernel
theorem dX4_rank_4 : decode cX4_rank 4 = .ok (.ifCond .ne 5, 3) := by decide +kernel
theorem dX4_rank_7 : decode cX4_rank 7 = .ok (.iconst (-1), 1) := by decide +kernel
theorem dX4_rank_8 : decode cX4_rank 8 = .ok (.ireturn, 1) := by decide +kernel
theorem dX4_rank_9 : decode cX4_rank 9 = .ok (.iconst 0, 1) := by decide +kernel
theorem dX4_rank_10 : decode cX4_rank 10 = .ok (.istore_n 3, 1) := by decide +kernel
theorem dX4_rank_11 : decode cX4_rank 11 = .ok (.iconst 0, 1) := by decide +kernel
theorem dX4_rank_12 : decode cX4_rank 12 = .ok (.istore 4, 2) := by decide +kernel
theorem dX4_rank_14 : decode cX4_rank 14 = .ok (.iload 4, 2) := by decide +kernel
theorem dX4_rank_16 : decode cX4_rank 16 = .ok (.sipush 4096, 3) := by decide +kernel
theorem dX4_rank_19 : decode cX4_rank 19 = .ok (.if_icmp .ge 33, 3) := by decide +kernel
theorem dX4_rank_22 : decode cX4_rank 22 = .ok (.iload 4, 2) := by decide +kernel
theorem dX4_rank_24 : decode cX4_rank 24 = .ok (.iload_n 2, 1) := by decide +kernel
theorem dX4_rank_25 : decode cX4_rank 25 = .ok (.if_icmp .gt 27, 3) := by decide +kernel
theorem dX4_rank_28 : decode cX4_rank 28 = .ok (.iload_n 3, 1) := by decide +kernel
theorem dX4_rank_29 : decode cX4_rank 29 = .ok (.aload_n 0, 1) := by decide +kernel
theorem dX4_rank_30 : decode cX4_rank 30 = .ok (.iload_n 1, 1) := by decide +kernel
theorem dX4_rank_31 : decode cX4_rank 31 = .ok (.iload 4, 2) := by decide +kernel
theorem dX4_rank_33 : decode cX4_rank 33 = .ok (.invokevirtual 51, 3) := by decide +kernel
theorem dX4_rank_36 : decode cX4_rank 36 = .ok (.ifCond .eq 7, 3) := by decide +kernel
theorem dX4_rank_39 : decode cX4_rank 39 = .ok (.iconst 1, 1) := by decide +kernel
theorem dX4_rank_40 : decode cX4_rank 40 = .ok (.goto 4, 3) := by decide +kernel
theorem dX4_rank_43 : decode cX4_rank 43 = .ok (.iconst 0, 1) := by decide +kernel
theorem dX4_rank_44 : decode cX4_rank 44 = .ok (.iadd, 1) := by decide +kernel
theorem dX4_rank_45 : decode cX4_rank 45 = .ok (.istore_n 3, 1) := by decide +kernel
theorem dX4_rank_46 : decode cX4_rank 46 = .ok (.iinc 4 1, 3) := by decide +kernel
theorem dX4_rank_49 : decode cX4_rank 49 = .ok (.goto (-35), 3) := by decide +kernel
theorem dX4_rank_52 : decode cX4_rank 52 = .ok (.iload_n 3, 1) := by decide +kernel
theorem dX4_rank_53 : decode cX4_rank 53 = .ok (.ireturn, 1) := by decide +kernel
set_option maxRecDepth 20000 in
theorem ggX4_select_X4_isSet : GoodIn wsX4_select wsX4_isSet := goodIn_r _ [4, 5, 6, 3, 7] (by decide +kernel) (by decide +kernel)
set_option maxRecDepth 20000 in
theorem gX4_select_X4_isSet : GoodIn wsX4_select (va_wsS RX4 55 yX4_isSet wsX4_isSet) := goodIn_app (goodIn_of _ (by decide +kernel)) ggX4_select_X4_isSet
set_option maxRecDepth 20000 in
theorem ggX4_select_X4_has : GoodIn wsX4_select wsX4_has := goodIn_r _ [11, 12, 13, 14, 3, 15, 16, 17, 18, 19, 20, 21, 22, 23] (by decide +kernel) (by decide +kernel)
set_option maxRecDepth 20000 in
theorem gX4_select_X4_has : GoodIn wsX4_select (wsV RX4 51 RX4 yX4_has wsX4_has) := goodIn_app (goodIn_of _ (by decide +kernel)) ggX4_select_X4_has
theorem dX4_select_0 : decode cX4_select 0 = .ok (.iload_n 1, 1) := by decide +kernel
theorem dX4_select_1 : decode cX4_select 1 = .ok (.invokestatic 55, 3) := by decide +kernel
theorem dX4_select_4 : decode cX4_select 4 = .ok (.ifCond .eq 7, 3) := by decide +kernel
theorem dX4_select_7 : decode cX4_select 7 = .ok (.iload_n 2, 1) := by decide +kernel
theorem dX4_select_8 : decode cX4_select 8 = .ok (.ifCond .ge 5, 3) := by decide +kernel
theorem dX4_select_11 : decode cX4_select 11 = .ok (.iconst (-1), 1) := by decide +kernel
theorem dX4_select_12 : decode cX4_select 12 = .ok (.ireturn, 1) := by decide +kernel
theorem dX4_select_13 : decode cX4_select 13 = .ok (.iload_n 2, 1) := by decide +kernel
theorem dX4_select_14 : decode cX4_select 14 = .ok (.istore_n 3, 1) := by decide +kernel
theorem dX4_select_15 : decode cX4_select 15 = .ok (.iconst 0, 1) := by decide +kernel
theorem dX4_select_16 : decode cX4_select 16 = .ok (.istore 4, 2) := by decide +kernel
theorem dX4_select_18 : decode cX4_select 18 = .ok (.iload 4, 2) := by decide +kernel
theorem dX4_select_20 : decode cX4_select 20 = .ok (.sipush 4096, 3) := by decide +kernel
theorem dX4_select_23 : decode cX4_select 23 = .ok (.if_icmp .ge 29, 3) := by decide +kernel
theorem dX4_select_26 : decode cX4_select 26 = .ok (.aload_n 0, 1) := by decide +kernel
theorem dX4_select_27 : decode cX4_select 27 = .ok (.iload_n 1, 1) := by decide +kernel
theorem dX4_select_28 : decode cX4_select 28 = .ok (.iload 4, 2) := by decide +kernel
theorem dX4_select_30 : decode cX4_select 30 = .ok (.invokevirtual 51, 3) := by decide +kernel
theorem dX4_select_33 : decode cX4_select 33 = .ok (.ifCond .eq 13, 3) := by decide +kernel
theorem dX4_select_36 : decode cX4_select 36 = .ok (.iload_n 3, 1) := by decide +kernel
theorem dX4_select_37 : decode cX4_select 37 = .ok (.ifCond .ne 6, 3) := by decide +kernel
theorem dX4_select_40 : decode cX4_select 40 = .ok (.iload 4, 2) := by decide +kernel
theorem dX4_select_42 : decode cX4_select 42 = .ok (.ireturn, 1) := by decide +kernel
theorem dX4_select_43 : decode cX4_select 43 = .ok (.iinc 3 (-1), 3) := by decide +kernel
theorem dX4_select_46 : decode cX4_select 46 = .ok (.iinc 4 1, 3) := by decide +kernel
theorem dX4_select_49 : decode cX4_select 49 = .ok (.goto (-31), 3) := by decide +kernel
theorem dX4_select_52 : decode cX4_select 52 = .ok (.bipush (-9), 2) := by decide +kernel
theorem dX4_select_54 : decode cX4_select 54 = .ok (.ireturn, 1) := by decide +kernel
set_option maxRecDepth 20000 in
theorem ggX4_near_X4_isSet : GoodIn wsX4_near wsX4_isSet := goodIn_r _ [4, 5, 6, 3, 7] (by decide +kernel) (by decide +kernel)
set_option maxRecDepth 20000 in
theorem gX4_near_X4_isSet : GoodIn wsX4_near (va_wsS RX4 55 yX4_isSet wsX4_isSet) := goodIn_app (goodIn_of _ (by decide +kernel)) ggX4_near_X4_isSet
set_option maxRecDepth 20000 in
theorem ggX4_near_X4_has : GoodIn wsX4_near wsX4_has := goodIn_r _ [11, 12, 13, 14, 3, 15, 16, 17, 18, 19, 20, 21, 22, 23] (by decide +kernel) (by decide +kernel)
set_option maxRecDepth 20000 in
theorem gX4_near_X4_has : GoodIn wsX4_near (wsV RX4 51 RX4 yX4_has wsX4_has) := goodIn_app (goodIn_of _ (by decide +kernel)) ggX4_near_X4_has
theorem dX4_near_0 : decode cX4_near 0 = .ok (.iload_n 1, 1) := by decide +kernel
theorem dX4_near_1 : decode cX4_near 1 = .ok (.invokestatic 55, 3) := by decide +kernel
theorem dX4_near_4 : decode cX4_near 4 = .ok (.ifCond .ne 5, 3) := by decide +kernel
theorem dX4_near_7 : decode cX4_near 7 = .ok (.iconst (-1), 1) := by decide +kernel
theorem dX4_near_8 : decode cX4_near 8 = .ok (.ireturn, 1) := by decide +kernel
theorem dX4_near_9 : decode cX4_near 9 = .ok (.bipush (-9), 2) := by decide +kernel
theorem dX4_near_11 : decode cX4_near 11 = .ok (.istore 4, 2) := by decide +kernel
theorem dX4_near_13 : decode cX4_near 13 = .ok (.iconst 0, 1) := by decide +kernel
theorem dX4_near_14 : decode cX4_near 14 = .ok (.istore 5, 2) := by decide +kernel
theorem dX4_near_16 : decode cX4_near 16 = .ok (.iload 5, 2) := by decide +kernel
theorem dX4_near_18 : decode cX4_near 18 = .ok (.sipush 4096, 3) := by decide +kernel
theorem dX4_near_21 : decode cX4_near 21 = .ok (.if_icmp .ge 59, 3) := by decide +kernel
theorem dX4_near_24 : decode cX4_near 24 = .ok (.aload_n 0, 1) := by decide +kernel
theorem dX4_near_25 : decode cX4_near 25 = .ok (.iload_n 1, 1) := by decide +kernel
theorem dX4_near_26 : decode cX4_near 26 = .ok (.iload 5, 2) := by decide +kernel
theorem dX4_near_28 : decode cX4_near 28 = .ok (.invokevirtual 51, 3) := by decide +kernel
theorem dX4_near_31 : decode cX4_near 31 = .ok (.ifCond .eq 43, 3) := by decide +kernel
theorem dX4_near_34 : decode cX4_near 34 = .ok (.iload_n 3, 1) := by decide +kernel
theorem dX4_near_35 : decode cX4_near 35 = .ok (.ifCond .eq 24, 3) := by decide +kernel
theorem dX4_near_38 : decode cX4_near 38 = .ok (.iload 5, 2) := by decide +kernel
theorem dX4_near_40 : decode cX4_near 40 = .ok (.iload_n 2, 1) := by decide +kernel
theorem dX4_near_41 : decode cX4_near 41 = .ok (.if_icmp .lt 13, 3) := by decide +kernel
theorem dX4_near_44 : decode cX4_near 44 = .ok (.iload 4, 2) := by decide +kernel
theorem dX4_near_46 : decode cX4_near 46 = .ok (.ifCond .ge 8, 3) := by decide +kernel
theorem dX4_near_49 : decode cX4_near 49 = .ok (.iload 5, 2) := by decide +kernel
theorem dX4_near_51 : decode cX4_near 51 = .ok (.goto 21, 3) := by decide +kernel
theorem dX4_near_54 : decode cX4_near 54 = .ok (.iload 4, 2) := by decide +kernel
theorem dX4_near_56 : decode cX4_near 56 = .ok (.goto 16, 3) := by decide +kernel
theorem dX4_near_59 : decode cX4_near 59 = .ok (.iload 5, 2) := by decide +kernel
theorem dX4_near_61 : decode cX4_near 61 = .ok (.iload_n 2, 1) := by decide +kernel
theorem dX4_near_62 : decode cX4_near 62 = .ok (.if_icmp .gt 8, 3) := by decide +kernel
theorem dX4_near_65 : decode cX4_near 65 = .ok (.iload 5, 2) := by decide +kernel
theorem dX4_near_67 : decode cX4_near 67 = .ok (.goto 5, 3) := by decide +kernel
theorem dX4_near_70 : decode cX4_near 70 = .ok (.iload 4, 2) := by decide +kernel
theorem dX4_near_72 : decode cX4_near 72 = .ok (.istore 4, 2) := by decide +kernel
theorem dX4_near_74 : decode cX4_near 74 = .ok (.iinc 5 1, 3) := by decide +kernel
theorem dX4_near_77 : decode cX4_near 77 = .ok (.goto (-61), 3) := by decide +kernel
theorem dX4_near_80 : decode cX4_near 80 = .ok (.iload 4, 2) := by decide +kernel
theorem dX4_near_82 : decode cX4_near 82 = .ok (.ireturn, 1) := by decide +kernel
set_option maxRecDepth 20000 in
theorem ggX4_begins_X4_has : GoodIn wsX4_begins wsX4_has := goodIn_r _ [5, 6, 7, 8, 4, 9, 10, 11, 12, 13, 14, 15, 16, 17] (by decide +kernel) (by decide +kernel)
set_option maxRecDepth 20000 in
theorem gX4_begins_X4_has : GoodIn wsX4_begins (wsV RX4 51 RX4 yX4_has wsX4_has) := goodIn_app (goodIn_of _ (by decide +kernel)) ggX4_begins_X4_has
theorem dX4_begins_0 : decode cX4_begins 0 = .ok (.aload_n 0, 1) := by decide +kernel
theorem dX4_begins_1 : decode cX4_begins 1 = .ok (.iload_n 1, 1) := by decide +kernel
theorem dX4_begins_2 : decode cX4_begins 2 = .ok (.iload_n 2, 1) := by decide +kernel
theorem dX4_begins_3 : decode cX4_begins 3 = .ok (.invokevirtual 51, 3) := by decide +kernel
theorem dX4_begins_6 : decode cX4_begins 6 = .ok (.ifCond .eq 22, 3) := by decide +kernel
theorem dX4_begins_9 : decode cX4_begins 9 = .ok (.iload_n 2, 1) := by decide +kernel
theorem dX4_begins_10 : decode cX4_begins 10 = .ok (.ifCond .eq 14, 3) := by decide +kernel
theorem dX4_begins_13 : decode cX4_begins 13 = .ok (.aload_n 0, 1) := by decide +kernel
theorem dX4_begins_14 : decode cX4_begins 14 = .ok (.iload_n 1, 1) := by decide +kernel
theorem dX4_begins_15 : decode cX4_begins 15 = .ok (.iload_n 2, 1) := by decide +kernel
theorem dX4_begins_16 : decode cX4_begins 16 = .ok (.iconst 1, 1) := by decide +kernel
theorem dX4_begins_17 : decode cX4_begins 17 = .ok (.isub, 1) := by decide +kernel
theorem dX4_begins_18 : decode cX4_begins 18 = .ok (.invokevirtual 51, 3) := by decide +kernel
theorem dX4_begins_21 : decode cX4_begins 21 = .ok (.ifCond .ne 7, 3) := by decide +kernel
theorem dX4_begins_24 : decode cX4_begins 24 = .ok (.iconst 1, 1) := by decide +kernel
theorem dX4_begins_25 : decode cX4_begins 25 = .ok (.goto 4, 3) := by decide +kernel
theorem dX4_begins_28 : decode cX4_begins 28 = .ok (.iconst 0, 1) := by decide +kernel
theorem dX4_begins_29 : decode cX4_begins 29 = .ok (.ireturn, 1) := by decide +kernel
set_option maxRecDepth 20000 in
theorem ggX4_runs_X4_isSet : GoodIn wsX4_runs wsX4_isSet := goodIn_r _ [4, 5, 6, 3, 7] (by decide +kernel) (by decide +kernel)
set_option maxRecDepth 20000 in
theorem gX4_runs_X4_isSet : GoodIn wsX4_runs (va_wsS RX4 55 yX4_isSet wsX4_isSet) := goodIn_app (goodIn_of _ (by decide +kernel)) ggX4_runs_X4_isSet
set_option maxRecDepth 20000 in
theorem ggX4_runs_X4_begins : GoodIn wsX4_runs wsX4_begins := goodIn_r _ [11, 12, 13, 14, 3, 15, 16, 17, 18, 19, 20, 21, 22, 23, 24, 25, 26, 27] (by decide +kernel) (by decide +kernel)
set_option maxRecDepth 20000 in
theorem gX4_runs_X4_begins : GoodIn wsX4_runs (wsV RX4 82 RX4 yX4_begins wsX4_begins) := goodIn_app (goodIn_of _ (by decide +kernel)) ggX4_runs_X4_begins
theorem dX4_runs_0 : decode cX4_runs 0 = .ok (.iload_n 1, 1) := by decide +kernel
theorem dX4_runs_1 : decode cX4_runs 1 = .ok (.invokestatic 55, 3) := by decide +kernel
theorem dX4_runs_4 : decode cX4_runs 4 = .ok (.ifCond .ne 5, 3) := by decide +kernel
theorem dX4_runs_7 : decode cX4_runs 7 = .ok (.iconst (-1), 1) := by decide +kernel
theorem dX4_runs_8 : decode cX4_runs 8 = .ok (.ireturn, 1) := by decide +kernel
theorem dX4_runs_9 : decode cX4_runs 9 = .ok (.iconst 0, 1) := by decide +kernel
theorem dX4_runs_10 : decode cX4_runs 10 = .ok (.istore_n 2, 1) := by decide +kernel
theorem dX4_runs_11 : decode cX4_runs 11 = .ok (.iconst 0, 1) := by decide +kernel
theorem dX4_runs_12 : decode cX4_runs 12 = .ok (.istore_n 3, 1) := by decide +kernel
theorem dX4_runs_13 : decode cX4_runs 13 = .ok (.iload_n 3, 1) := by decide +kernel
theorem dX4_runs_14 : decode cX4_runs 14 = .ok (.sipush 4096, 3) := by decide +kernel
theorem dX4_runs_17 : decode cX4_runs 17 = .ok (.if_icmp .ge 26, 3) := by decide +kernel
theorem dX4_runs_20 : decode cX4_runs 20 = .ok (.iload_n 2, 1) := by decide +kernel
theorem dX4_runs_21 : decode cX4_runs 21 = .ok (.aload_n 0, 1) := by decide +kernel
theorem dX4_runs_22 : decode cX4_runs 22 = .ok (.iload_n 1, 1) := by decide +kernel
theorem dX4_runs_23 : decode cX4_runs 23 = .ok (.iload_n 3, 1) := by decide +kernel
theorem dX4_runs_24 : decode cX4_runs 24 = .ok (.invokevirtual 82, 3) := by decide +kernel
theorem dX4_runs_27 : decode cX4_runs 27 = .ok (.ifCond .eq 7, 3) := by decide +kernel
theorem dX4_runs_30 : decode cX4_runs 30 = .ok (.iconst 1, 1) := by decide +kernel
theorem dX4_runs_31 : decode cX4_runs 31 = .ok (.goto 4, 3) := by decide +kernel
theorem dX4_runs_34 : decode cX4_runs 34 = .ok (.iconst 0, 1) := by decide +kernel
theorem dX4_runs_35 : decode cX4_runs 35 = .ok (.iadd, 1) := by decide +kernel
theorem dX4_runs_36 : decode cX4_runs 36 = .ok (.istore_n 2, 1) := by decide +kernel
theorem dX4_runs_37 : decode cX4_runs 37 = .ok (.iinc 3 1, 3) := by decide +kernel
theorem dX4_runs_40 : decode cX4_runs 40 = .ok (.goto (-27), 3) := by decide +kernel
theorem dX4_runs_43 : decode cX4_runs 43 = .ok (.iload_n 2, 1) := by decide +kernel
theorem dX4_runs_44 : decode cX4_runs 44 = .ok (.ireturn, 1) := by decide +kernel
set_option maxRecDepth 20000 in
theorem ggX4_run_X4_isSet : GoodIn wsX4_run wsX4_isSet := goodIn_r _ [4, 5, 6, 3, 7] (by decide +kernel) (by decide +kernel)
set_option maxRecDepth 20000 in
theorem gX4_run_X4_isSet : GoodIn wsX4_run (va_wsS RX4 55 yX4_isSet wsX4_isSet) := goodIn_app (goodIn_of _ (by decide +kernel)) ggX4_run_X4_isSet
set_option maxRecDepth 20000 in
theorem ggX4_run_X4_begins : GoodIn wsX4_run wsX4_begins := goodIn_r _ [11, 12, 13, 14, 3, 15, 16, 17, 18, 19, 20, 21, 22, 23, 24, 25, 26, 27] (by decide +kernel) (by decide +kernel)
set_option maxRecDepth 20000 in
theorem gX4_run_X4_begins : GoodIn wsX4_run (wsV RX4 82 RX4 yX4_begins wsX4_begins) := goodIn_app (goodIn_of _ (by decide +kernel)) ggX4_run_X4_begins
set_option maxRecDepth 20000 in
theorem ggX4_run_X4_has : GoodIn wsX4_run wsX4_has := goodIn_r _ [15, 16, 17, 18, 3, 19, 20, 21, 22, 23, 24, 25, 26, 27] (by decide +kernel) (by decide +kernel)
set_option maxRecDepth 20000 in
theorem gX4_run_X4_has : GoodIn wsX4_run (wsV RX4 51 RX4 yX4_has wsX4_has) := goodIn_app (goodIn_of _ (by decide +kernel)) ggX4_run_X4_has
theorem dX4_run_0 : decode cX4_run 0 = .ok (.iload_n 1, 1) := by decide +kernel
theorem dX4_run_1 : decode cX4_run 1 = .ok (.invokestatic 55, 3) := by decide +kernel
theorem dX4_run_4 : decode cX4_run 4 = .ok (.ifCond .eq 7, 3) := by decide +kernel
theorem dX4_run_7 : decode cX4_run 7 = .ok (.iload_n 2, 1) := by decide +kernel
theorem dX4_run_8 : decode cX4_run 8 = .ok (.ifCond .ge 5, 3) := by decide +kernel
theorem dX4_run_11 : decode cX4_run 11 = .ok (.iconst (-1), 1) := by decide +kernel
theorem dX4_run_12 : decode cX4_run 12 = .ok (.ireturn, 1) := by decide +kernel
theorem dX4_run_13 : decode cX4_run 13 = .ok (.iload_n 2, 1) := by decide +kernel
theorem dX4_run_14 : decode cX4_run 14 = .ok (.istore_n 3, 1) := by decide +kernel
theorem dX4_run_15 : decode cX4_run 15 = .ok (.iconst 0, 1) := by decide +kernel
theorem dX4_run_16 : decode cX4_run 16 = .ok (.istore 4, 2) := by decide +kernel
theorem dX4_run_18 : decode cX4_run 18 = .ok (.iload 4, 2) := by decide +kernel
theorem dX4_run_20 : decode cX4_run 20 = .ok (.sipush 4096, 3) := by decide +kernel
theorem dX4_run_23 : decode cX4_run 23 = .ok (.if_icmp .ge 68, 3) := by decide +kernel
theorem dX4_run_26 : decode cX4_run 26 = .ok (.aload_n 0, 1) := by decide +kernel
theorem dX4_run_27 : decode cX4_run 27 = .ok (.iload_n 1, 1) := by decide +kernel
theorem dX4_run_28 : decode cX4_run 28 = .ok (.iload 4, 2) := by decide +kernel
theorem dX4_run_30 : decode cX4_run 30 = .ok (.invokevirtual 82, 3) := by decide +kernel
theorem dX4_run_33 : decode cX4_run 33 = .ok (.ifCond .eq 52, 3) := by decide +kernel
theorem dX4_run_36 : decode cX4_run 36 = .ok (.iload_n 3, 1) := by decide +kernel
theorem dX4_run_37 : decode cX4_run 37 = .ok (.ifCond .ne 45, 3) := by decide +kernel
theorem dX4_run_40 : decode cX4_run 40 = .ok (.iload 4, 2) := by decide +kernel
theorem dX4_run_42 : decode cX4_run 42 = .ok (.istore 5, 2) := by decide +kernel
theorem dX4_run_44 : decode cX4_run 44 = .ok (.iload 5, 2) := by decide +kernel
theorem dX4_run_46 : decode cX4_run 46 = .ok (.iconst 1, 1) := by decide +kernel
theorem dX4_run_47 : decode cX4_run 47 = .ok (.iadd, 1) := by decide +kernel
theorem dX4_run_48 : decode cX4_run 48 = .ok (.sipush 4096, 3) := by decide +kernel
theorem dX4_run_51 : decode cX4_run 51 = .ok (.if_icmp .ge 21, 3) := by decide +kernel
theorem dX4_run_54 : decode cX4_run 54 = .ok (.aload_n 0, 1) := by decide +kernel
theorem dX4_run_55 : decode cX4_run 55 = .ok (.iload_n 1, 1) := by decide +kernel
theorem dX4_run_56 : decode cX4_run 56 = .ok (.iload 5, 2) := by decide +kernel
theorem dX4_run_58 : decode cX4_run 58 = .ok (.iconst 1, 1) := by decide +kernel
theorem dX4_run_59 : decode cX4_run 59 = .ok (.iadd, 1) := by decide +kernel
theorem dX4_run_60 : decode cX4_run 60 = .ok (.invokevirtual 51, 3) := by decide +kernel
theorem dX4_run_63 : decode cX4_run 63 = .ok (.ifCond .eq 9, 3) := by decide +kernel
theorem dX4_run_66 : decode cX4_run 66 = .ok (.iinc 5 1, 3) := by decide +kernel
theorem dX4_run_69 : decode cX4_run 69 = .ok (.goto (-25), 3) := by decide +kernel
theorem dX4_run_72 : decode cX4_run 72 = .ok (.sipush 4096, 3) := by decide +kernel
theorem dX4_run_75 : decode cX4_run 75 = .ok (.iload 4, 2) := by decide +kernel
theorem dX4_run_77 : decode cX4_run 77 = .ok (.imul, 1) := by decide +kernel
theorem dX4_run_78 : decode cX4_run 78 = .ok (.iload 5, 2) := by decide +kernel
theorem dX4_run_80 : decode cX4_run 80 = .ok (.iadd, 1) := by decide +kernel
theorem dX4_run_81 : decode cX4_run 81 = .ok (.ireturn, 1) := by decide +kernel
theorem dX4_run_82 : decode cX4_run 82 = .ok (.iinc 3 (-1), 3) := by decide +kernel
theorem dX4_run_85 : decode cX4_run 85 = .ok (.iinc 4 1, 3) := by decide +kernel
theorem dX4_run_88 : decode cX4_run 88 = .ok (.goto (-70), 3) := by decide +kernel
theorem dX4_run_91 : decode cX4_run 91 = .ok (.bipush (-9), 2) := by decide +kernel
theorem dX4_run_93 : decode cX4_run 93 = .ok (.ireturn, 1) := by decide +kernel
set_option maxRecDepth 20000 in
theorem ggX4_told_X4_manyIn : GoodIn wsX4_told wsX4_manyIn := goodIn_r _ [5, 6, 7, 4, 8] (by decide +kernel) (by decide +kernel)
set_option maxRecDepth 20000 in
theorem gX4_told_X4_manyIn : GoodIn wsX4_told (va_wsS RX4 41 yX4_manyIn wsX4_manyIn) := goodIn_app (goodIn_of _ (by decide +kernel)) ggX4_told_X4_manyIn
set_option maxRecDepth 20000 in
theorem ggX4_told_X4_runsIn : GoodIn wsX4_told wsX4_runsIn := goodIn_r _ [11, 6, 7, 4, 8] (by decide +kernel) (by decide +kernel)
set_option maxRecDepth 20000 in
theorem gX4_told_X4_runsIn : GoodIn wsX4_told (va_wsS RX4 45 yX4_runsIn wsX4_runsIn) := goodIn_app (goodIn_of _ (by decide +kernel)) ggX4_told_X4_runsIn
set_option maxRecDepth 20000 in
theorem ggX4_told_X4_kindBy : GoodIn wsX4_told wsX4_kindBy := goodIn_r _ [14] (by decide +kernel) (by decide +kernel)
set_option maxRecDepth 20000 in
theorem gX4_told_X4_kindBy : GoodIn wsX4_told (va_wsS RX4 37 yX4_kindBy wsX4_kindBy) := goodIn_app (goodIn_of _ (by decide +kernel)) ggX4_told_X4_kindBy
set_option maxRecDepth 20000 in
theorem ggX4_told_X4_bytesBy : GoodIn wsX4_told wsX4_bytesBy := goodIn_r _ [17, 12, 13, 4, 14] (by decide +kernel) (by decide +kernel)
set_option maxRecDepth 20000 in
theorem gX4_told_X4_bytesBy : GoodIn wsX4_told (va_wsS RX4 85 yX4_bytesBy wsX4_bytesBy) := goodIn_app (goodIn_of _ (by decide +kernel)) ggX4_told_X4_bytesBy
theorem dX4_told_0 : decode cX4_told 0 = .ok (.aload_n 0, 1) := by decide +kernel
theorem dX4_told_1 : decode cX4_told 1 = .ok (.getfield 7, 3) := by decide +kernel
theorem dX4_told_4 : decode cX4_told 4 = .ok (.iload_n 1, 1) := by decide +kernel
theorem dX4_told_5 : decode cX4_told 5 = .ok (.iload_n 2, 1) := by decide +kernel
theorem dX4_told_6 : decode cX4_told 6 = .ok (.invokestatic 41, 3) := by decide +kernel
theorem dX4_told_9 : decode cX4_told 9 = .ok (.istore 4, 2) := by decide +kernel
theorem dX4_told_11 : decode cX4_told 11 = .ok (.aload_n 0, 1) := by decide +kernel
theorem dX4_told_12 : decode cX4_told 12 = .ok (.getfield 7, 3) := by decide +kernel
theorem dX4_told_15 : decode cX4_told 15 = .ok (.iload_n 1, 1) := by decide +kernel
theorem dX4_told_16 : decode cX4_told 16 = .ok (.iload_n 2, 1) := by decide +kernel
theorem dX4_told_17 : decode cX4_told 17 = .ok (.invokestatic 45, 3) := by decide +kernel
theorem dX4_told_20 : decode cX4_told 20 = .ok (.istore 5, 2) := by decide +kernel
theorem dX4_told_22 : decode cX4_told 22 = .ok (.iload_n 3, 1) := by decide +kernel
theorem dX4_told_23 : decode cX4_told 23 = .ok (.ifCond .ne 13, 3) := by decide +kernel
theorem dX4_told_26 : decode cX4_told 26 = .ok (.iload 4, 2) := by decide +kernel
theorem dX4_told_28 : decode cX4_told 28 = .ok (.iload 5, 2) := by decide +kernel
theorem dX4_told_30 : decode cX4_told 30 = .ok (.invokestatic 37, 3) := by decide +kernel
theorem dX4_told_33 : decode cX4_told 33 = .ok (.goto 30, 3) := by decide +kernel
theorem dX4_told_36 : decode cX4_told 36 = .ok (.iload_n 3, 1) := by decide +kernel
theorem dX4_told_37 : decode cX4_told 37 = .ok (.iconst 1, 1) := by decide +kernel
theorem dX4_told_38 : decode cX4_told 38 = .ok (.if_icmp .ne 8, 3) := by decide +kernel
theorem dX4_told_41 : decode cX4_told 41 = .ok (.iload 4, 2) := by decide +kernel
theorem dX4_told_43 : decode cX4_told 43 = .ok (.goto 20, 3) := by decide +kernel
theorem dX4_told_46 : decode cX4_told 46 = .ok (.iload_n 3, 1) := by decide +kernel
theorem dX4_told_47 : decode cX4_told 47 = .ok (.iconst 2, 1) := by decide +kernel
theorem dX4_told_48 : decode cX4_told 48 = .ok (.if_icmp .ne 8, 3) := by decide +kernel
theorem dX4_told_51 : decode cX4_told 51 = .ok (.iload 5, 2) := by decide +kernel
theorem dX4_told_53 : decode cX4_told 53 = .ok (.goto 10, 3) := by decide +kernel
theorem dX4_told_56 : decode cX4_told 56 = .ok (.iload 4, 2) := by decide +kernel
theorem dX4_told_58 : decode cX4_told 58 = .ok (.iload 5, 2) := by decide +kernel
theorem dX4_told_60 : decode cX4_told 60 = .ok (.invokestatic 85, 3) := by decide +kernel
theorem dX4_told_63 : decode cX4_told 63 = .ok (.ireturn, 1) := by decide +kernel
set_option maxRecDepth 20000 in
theorem ggX4_piece_X4_isSet : GoodIn wsX4_piece wsX4_isSet := goodIn_r _ [4, 5, 6, 3, 7] (by decide +kernel) (by decide +kernel)
set_option maxRecDepth 20000 in
theorem gX4_piece_X4_isSet : GoodIn wsX4_piece (va_wsS RX4 55 yX4_isSet wsX4_isSet) := goodIn_app (goodIn_of _ (by decide +kernel)) ggX4_piece_X4_isSet
set_option maxRecDepth 20000 in
theorem ggX4_piece_X4_in : GoodIn wsX4_piece wsX4_in := goodIn_r _ [7] (by decide +kernel) (by decide +kernel)
set_option maxRecDepth 20000 in
theorem gX4_piece_X4_in : GoodIn wsX4_piece (va_wsS RX4 25 yX4_in wsX4_in) := goodIn_app (goodIn_of _ (by decide +kernel)) ggX4_piece_X4_in
set_option maxRecDepth 20000 in
theorem ggX4_piece_X4_told : GoodIn wsX4_piece wsX4_told := goodIn_r _ [11, 12, 13, 14, 3, 15, 16, 17, 18, 19, 20, 21, 22, 23, 24, 25, 26, 27, 28, 29, 30, 31, 32, 33, 34, 35] (by decide +kernel) (by decide +kernel)
set_option maxRecDepth 20000 in
theorem gX4_piece_X4_told : GoodIn wsX4_piece (wsV RX4 88 RX4 yX4_told wsX4_told) := goodIn_app (goodIn_of _ (by decide +kernel)) ggX4_piece_X4_told
theorem dX4_piece_0 : decode cX4_piece 0 = .ok (.iload_n 1, 1) := by decide +kernel
theorem dX4_piece_1 : decode cX4_piece 1 = .ok (.invokestatic 55, 3) := by decide +kernel
theorem dX4_piece_4 : decode cX4_piece 4 = .ok (.ifCond .eq 32, 3) := by decide +kernel
theorem dX4_piece_7 : decode cX4_piece 7 = .ok (.iload_n 2, 1) := by decide +kernel
theorem dX4_piece_8 : decode cX4_piece 8 = .ok (.iconst 0, 1) := by decide +kernel
theorem dX4_piece_9 : decode cX4_piece 9 = .ok (.bipush 15, 2) := by decide +kernel
theorem dX4_piece_11 : decode cX4_piece 11 = .ok (.invokestatic 25, 3) := by decide +kernel
theorem dX4_piece_14 : decode cX4_piece 14 = .ok (.ifCond .eq 22, 3) := by decide +kernel
theorem dX4_piece_17 : decode cX4_piece 17 = .ok (.iload_n 3, 1) := by decide +kernel
theorem dX4_piece_18 : decode cX4_piece 18 = .ok (.iconst 0, 1) := by decide +kernel
theorem dX4_piece_19 : decode cX4_piece 19 = .ok (.iconst 3, 1) := by decide +kernel
theorem dX4_piece_20 : decode cX4_piece 20 = .ok (.invokestatic 25, 3) := by decide +kernel
theorem dX4_piece_23 : decode cX4_piece 23 = .ok (.ifCond .eq 13, 3) := by decide +kernel
theorem dX4_piece_26 : decode cX4_piece 26 = .ok (.aload_n 0, 1) := by decide +kernel
theorem dX4_piece_27 : decode cX4_piece 27 = .ok (.iload_n 1, 1) := by decide +kernel
theorem dX4_piece_28 : decode cX4_piece 28 = .ok (.iload_n 2, 1) := by decide +kernel
theorem dX4_piece_29 : decode cX4_piece 29 = .ok (.iload_n 3, 1) := by decide +kernel
theorem dX4_piece_30 : decode cX4_piece 30 = .ok (.invokevirtual 88, 3) := by decide +kernel
theorem dX4_piece_33 : decode cX4_piece 33 = .ok (.goto 4, 3) := by decide +kernel
theorem dX4_piece_36 : decode cX4_piece 36 = .ok (.iconst (-1), 1) := by decide +kernel
theorem dX4_piece_37 : decode cX4_piece 37 = .ok (.ireturn, 1) := by decide +kernel
set_option maxRecDepth 20000 in
theorem ggX4_bytes_X4_isSet : GoodIn wsX4_bytes wsX4_isSet := goodIn_r _ [4, 5, 6, 3, 7] (by decide +kernel) (by decide +kernel)
set_option maxRecDepth 20000 in
theorem gX4_bytes_X4_isSet : GoodIn wsX4_bytes (va_wsS RX4 55 yX4_isSet wsX4_isSet) := goodIn_app (goodIn_of _ (by decide +kernel)) ggX4_bytes_X4_isSet
set_option maxRecDepth 20000 in
theorem ggX4_bytes_X4_told : GoodIn wsX4_bytes wsX4_told := goodIn_r _ [11, 12, 13, 14, 3, 15, 16, 17, 18, 19, 20, 21, 22, 23, 24, 25, 26, 27, 28, 29, 30, 31, 32, 33, 34, 35] (by decide +kernel) (by decide +kernel)
set_option maxRecDepth 20000 in
theorem gX4_bytes_X4_told : GoodIn wsX4_bytes (wsV RX4 88 RX4 yX4_told wsX4_told) := goodIn_app (goodIn_of _ (by decide +kernel)) ggX4_bytes_X4_told
theorem dX4_bytes_0 : decode cX4_bytes 0 = .ok (.iload_n 1, 1) := by decide +kernel
theorem dX4_bytes_1 : decode cX4_bytes 1 = .ok (.invokestatic 55, 3) := by decide +kernel
theorem dX4_bytes_4 : decode cX4_bytes 4 = .ok (.ifCond .ne 5, 3) := by decide +kernel
theorem dX4_bytes_7 : decode cX4_bytes 7 = .ok (.iconst (-1), 1) := by decide +kernel
theorem dX4_bytes_8 : decode cX4_bytes 8 = .ok (.ireturn, 1) := by decide +kernel
theorem dX4_bytes_9 : decode cX4_bytes 9 = .ok (.iconst 0, 1) := by decide +kernel
theorem dX4_bytes_10 : decode cX4_bytes 10 = .ok (.istore_n 2, 1) := by decide +kernel
theorem dX4_bytes_11 : decode cX4_bytes 11 = .ok (.iconst 0, 1) := by decide +kernel
theorem dX4_bytes_12 : decode cX4_bytes 12 = .ok (.istore_n 3, 1) := by decide +kernel
theorem dX4_bytes_13 : decode cX4_bytes 13 = .ok (.iload_n 3, 1) := by decide +kernel
theorem dX4_bytes_14 : decode cX4_bytes 14 = .ok (.bipush 16, 2) := by decide +kernel
theorem dX4_bytes_16 : decode cX4_bytes 16 = .ok (.if_icmp .ge 19, 3) := by decide +kernel
theorem dX4_bytes_19 : decode cX4_bytes 19 = .ok (.iload_n 2, 1) := by decide +kernel
theorem dX4_bytes_20 : decode cX4_bytes 20 = .ok (.aload_n 0, 1) := by decide +kernel
theorem dX4_bytes_21 : decode cX4_bytes 21 = .ok (.iload_n 1, 1) := by decide +kernel
theorem dX4_bytes_22 : decode cX4_bytes 22 = .ok (.iload_n 3, 1) := by decide +kernel
theorem dX4_bytes_23 : decode cX4_bytes 23 = .ok (.iconst 3, 1) := by decide +kernel
theorem dX4_bytes_24 : decode cX4_bytes 24 = .ok (.invokevirtual 88, 3) := by decide +kernel
theorem dX4_bytes_27 : decode cX4_bytes 27 = .ok (.iadd, 1) := by decide +kernel
theorem dX4_bytes_28 : decode cX4_bytes 28 = .ok (.istore_n 2, 1) := by decide +kernel
theorem dX4_bytes_29 : decode cX4_bytes 29 = .ok (.iinc 3 1, 3) := by decide +kernel
theorem dX4_bytes_32 : decode cX4_bytes 32 = .ok (.goto (-19), 3) := by decide +kernel
theorem dX4_bytes_35 : decode cX4_bytes 35 = .ok (.iload_n 2, 1) := by decide +kernel
theorem dX4_bytes_36 : decode cX4_bytes 36 = .ok (.ireturn, 1) := by decide +kernel
set_option maxRecDepth 20000 in
theorem ggX4_byteOf_X4_told : GoodIn wsX4_byteOf wsX4_told := goodIn_r _ [5, 6, 7, 8, 4, 9, 10, 11, 12, 13, 14, 15, 16, 17, 18, 19, 20, 21, 26, 27, 28, 29, 30, 31, 32, 33] (by decide +kernel) (by decide +kernel)
set_option maxRecDepth 20000 in
theorem gX4_byteOf_X4_told : GoodIn wsX4_byteOf (wsV RX4 88 RX4 yX4_told wsX4_told) := goodIn_app (goodIn_of _ (by decide +kernel)) ggX4_byteOf_X4_told
set_option maxRecDepth 20000 in
theorem ggX4_byteOf_X4_has : GoodIn wsX4_byteOf wsX4_has := goodIn_r _ [25, 6, 10, 11, 4, 12, 26, 27, 28, 29, 30, 31, 32, 33] (by decide +kernel) (by decide +kernel)
set_option maxRecDepth 20000 in
theorem gX4_byteOf_X4_has : GoodIn wsX4_byteOf (wsV RX4 51 RX4 yX4_has wsX4_has) := goodIn_app (goodIn_of _ (by decide +kernel)) ggX4_byteOf_X4_has
theorem dX4_byteOf_0 : decode cX4_byteOf 0 = .ok (.aload_n 0, 1) := by decide +kernel
theorem dX4_byteOf_1 : decode cX4_byteOf 1 = .ok (.iload_n 1, 1) := by decide +kernel
theorem dX4_byteOf_2 : decode cX4_byteOf 2 = .ok (.iload_n 2, 1) := by decide +kernel
theorem dX4_byteOf_3 : decode cX4_byteOf 3 = .ok (.iconst 0, 1) := by decide +kernel
theorem dX4_byteOf_4 : decode cX4_byteOf 4 = .ok (.invokevirtual 88, 3) := by decide +kernel
theorem dX4_byteOf_7 : decode cX4_byteOf 7 = .ok (.istore 4, 2) := by decide +kernel
theorem dX4_byteOf_9 : decode cX4_byteOf 9 = .ok (.sipush 256, 3) := by decide +kernel
theorem dX4_byteOf_12 : decode cX4_byteOf 12 = .ok (.iload_n 2, 1) := by decide +kernel
theorem dX4_byteOf_13 : decode cX4_byteOf 13 = .ok (.imul, 1) := by decide +kernel
theorem dX4_byteOf_14 : decode cX4_byteOf 14 = .ok (.istore 5, 2) := by decide +kernel
theorem dX4_byteOf_16 : decode cX4_byteOf 16 = .ok (.iload_n 3, 1) := by decide +kernel
theorem dX4_byteOf_17 : decode cX4_byteOf 17 = .ok (.ifCond .ne 10, 3) := by decide +kernel
theorem dX4_byteOf_20 : decode cX4_byteOf 20 = .ok (.iconst 4, 1) := by decide +kernel
theorem dX4_byteOf_21 : decode cX4_byteOf 21 = .ok (.iload_n 2, 1) := by decide +kernel
theorem dX4_byteOf_22 : decode cX4_byteOf 22 = .ok (.imul, 1) := by decide +kernel
theorem dX4_byteOf_23 : decode cX4_byteOf 23 = .ok (.iload 4, 2) := by decide +kernel
theorem dX4_byteOf_25 : decode cX4_byteOf 25 = .ok (.iadd, 1) := by decide +kernel
theorem dX4_byteOf_26 : decode cX4_byteOf 26 = .ok (.ireturn, 1) := by decide +kernel
theorem dX4_byteOf_27 : decode cX4_byteOf 27 = .ok (.iload 4, 2) := by decide +kernel
theorem dX4_byteOf_29 : decode cX4_byteOf 29 = .ok (.iconst 2, 1) := by decide +kernel
theorem dX4_byteOf_30 : decode cX4_byteOf 30 = .ok (.if_icmp .ne 58, 3) := by decide +kernel
theorem dX4_byteOf_33 : decode cX4_byteOf 33 = .ok (.iconst 0, 1) := by decide +kernel
theorem dX4_byteOf_34 : decode cX4_byteOf 34 = .ok (.istore 6, 2) := by decide +kernel
theorem dX4_byteOf_36 : decode cX4_byteOf 36 = .ok (.iconst 0, 1) := by decide +kernel
theorem dX4_byteOf_37 : decode cX4_byteOf 37 = .ok (.istore 7, 2) := by decide +kernel
theorem dX4_byteOf_39 : decode cX4_byteOf 39 = .ok (.iload 7, 2) := by decide +kernel
theorem dX4_byteOf_41 : decode cX4_byteOf 41 = .ok (.bipush 8, 2) := by decide +kernel
theorem dX4_byteOf_43 : decode cX4_byteOf 43 = .ok (.if_icmp .ge 42, 3) := by decide +kernel
theorem dX4_byteOf_46 : decode cX4_byteOf 46 = .ok (.iload 6, 2) := by decide +kernel
theorem dX4_byteOf_48 : decode cX4_byteOf 48 = .ok (.aload_n 0, 1) := by decide +kernel
theorem dX4_byteOf_49 : decode cX4_byteOf 49 = .ok (.iload_n 1, 1) := by decide +kernel
theorem dX4_byteOf_50 : decode cX4_byteOf 50 = .ok (.iload 5, 2) := by decide +kernel
theorem dX4_byteOf_52 : decode cX4_byteOf 52 = .ok (.bipush 8, 2) := by decide +kernel
theorem dX4_byteOf_54 : decode cX4_byteOf 54 = .ok (.iload_n 3, 1) := by decide +kernel
theorem dX4_byteOf_55 : decode cX4_byteOf 55 = .ok (.iconst 1, 1) := by decide +kernel
theorem dX4_byteOf_56 : decode cX4_byteOf 56 = .ok (.isub, 1) := by decide +kernel
theorem dX4_byteOf_57 : decode cX4_byteOf 57 = .ok (.imul, 1) := by decide +kernel
theorem dX4_byteOf_58 : decode cX4_byteOf 58 = .ok (.iadd, 1) := by decide +kernel
theorem dX4_byteOf_59 : decode cX4_byteOf 59 = .ok (.iload 7, 2) := by decide +kernel
theorem dX4_byteOf_61 : decode cX4_byteOf 61 = .ok (.iadd, 1) := by decide +kernel
theorem dX4_byteOf_62 : decode cX4_byteOf 62 = .ok (.invokevirtual 51, 3) := by decide +kernel
theorem dX4_byteOf_65 : decode cX4_byteOf 65 = .ok (.ifCond .eq 10, 3) := by decide +kernel
theorem dX4_byteOf_68 : decode cX4_byteOf 68 = .ok (.iconst 1, 1) := by decide +kernel
theorem dX4_byteOf_69 : decode cX4_byteOf 69 = .ok (.iload 7, 2) := by decide +kernel
theorem dX4_byteOf_71 : decode cX4_byteOf 71 = .ok (.ishl, 1) := by decide +kernel
theorem dX4_byteOf_72 : decode cX4_byteOf 72 = .ok (.goto 4, 3) := by decide +kernel
theorem dX4_byteOf_75 : decode cX4_byteOf 75 = .ok (.iconst 0, 1) := by decide +kernel
theorem dX4_byteOf_76 : decode cX4_byteOf 76 = .ok (.ior, 1) := by decide +kernel
theorem dX4_byteOf_77 : decode cX4_byteOf 77 = .ok (.istore 6, 2) := by decide +kernel
theorem dX4_byteOf_79 : decode cX4_byteOf 79 = .ok (.iinc 7 1, 3) := by decide +kernel
theorem dX4_byteOf_82 : decode cX4_byteOf 82 = .ok (.goto (-43), 3) := by decide +kernel
theorem dX4_byteOf_85 : decode cX4_byteOf 85 = .ok (.iload 6, 2) := by decide +kernel
theorem dX4_byteOf_87 : decode cX4_byteOf 87 = .ok (.ireturn, 1) := by decide +kernel
theorem dX4_byteOf_88 : decode cX4_byteOf 88 = .ok (.iload_n 3, 1) := by decide +kernel
theorem dX4_byteOf_89 : decode cX4_byteOf 89 = .ok (.iconst 1, 1) := by decide +kernel
theorem dX4_byteOf_90 : decode cX4_byteOf 90 = .ok (.if_icmp .ne 20, 3) := by decide +kernel
theorem dX4_byteOf_93 : decode cX4_byteOf 93 = .ok (.aload_n 0, 1) := by decide +kernel
theorem dX4_byteOf_94 : decode cX4_byteOf 94 = .ok (.iload_n 1, 1) := by decide +kernel
theorem dX4_byteOf_95 : decode cX4_byteOf 95 = .ok (.iload_n 2, 1) := by decide +kernel
theorem dX4_byteOf_96 : decode cX4_byteOf 96 = .ok (.iload 4, 2) := by decide +kernel
theorem dX4_byteOf_98 : decode cX4_byteOf 98 = .ok (.ifCond .ne 7, 3) := by decide +kernel
theorem dX4_byteOf_101 : decode cX4_byteOf 101 = .ok (.iconst 1, 1) := by decide +kernel
theorem dX4_byteOf_102 : decode cX4_byteOf 102 = .ok (.goto 4, 3) := by decide +kernel
theorem dX4_byteOf_105 : decode cX4_byteOf 105 = .ok (.iconst 2, 1) := by decide +kernel
theorem dX4_byteOf_106 : decode cX4_byteOf 106 = .ok (.invokevirtual 88, 3) := by decide +kernel
theorem dX4_byteOf_109 : decode cX4_byteOf 109 = .ok (.ireturn, 1) := by decide +kernel
theorem dX4_byteOf_110 : decode cX4_byteOf 110 = .ok (.iload_n 3, 1) := by decide +kernel
theorem dX4_byteOf_111 : decode cX4_byteOf 111 = .ok (.iconst 2, 1) := by decide +kernel
theorem dX4_byteOf_112 : decode cX4_byteOf 112 = .ok (.isub, 1) := by decide +kernel
theorem dX4_byteOf_113 : decode cX4_byteOf 113 = .ok (.istore 6, 2) := by decide +kernel
theorem dX4_byteOf_115 : decode cX4_byteOf 115 = .ok (.iconst 0, 1) := by decide +kernel
theorem dX4_byteOf_116 : decode cX4_byteOf 116 = .ok (.istore 7, 2) := by decide +kernel
theorem dX4_byteOf_118 : decode cX4_byteOf 118 = .ok (.iload 7, 2) := by decide +kernel
theorem dX4_byteOf_120 : decode cX4_byteOf 120 = .ok (.sipush 256, 3) := by decide +kernel
theorem dX4_byteOf_123 : decode cX4_byteOf 123 = .ok (.if_icmp .ge 122, 3) := by decide +kernel
theorem dX4_byteOf_126 : decode cX4_byteOf 126 = .ok (.aload_n 0, 1) := by decide +kernel
theorem dX4_byteOf_127 : decode cX4_byteOf 127 = .ok (.iload_n 1, 1) := by decide +kernel
theorem dX4_byteOf_128 : decode cX4_byteOf 128 = .ok (.iload 5, 2) := by decide +kernel
theorem dX4_byteOf_130 : decode cX4_byteOf 130 = .ok (.iload 7, 2) := by decide +kernel
theorem dX4_byteOf_132 : decode cX4_byteOf 132 = .ok (.iadd, 1) := by decide +kernel
theorem dX4_byteOf_133 : decode cX4_byteOf 133 = .ok (.invokevirtual 51, 3) := by decide +kernel
theorem dX4_byteOf_136 : decode cX4_byteOf 136 = .ok (.ifCond .eq 103, 3) := by decide +kernel
theorem dX4_byteOf_139 : decode cX4_byteOf 139 = .ok (.iload 7, 2) := by decide +kernel
theorem dX4_byteOf_141 : decode cX4_byteOf 141 = .ok (.ifCond .eq 18, 3) := by decide +kernel
theorem dX4_byteOf_144 : decode cX4_byteOf 144 = .ok (.aload_n 0, 1) := by decide +kernel
theorem dX4_byteOf_145 : decode cX4_byteOf 145 = .ok (.iload_n 1, 1) := by decide +kernel
theorem dX4_byteOf_146 : decode cX4_byteOf 146 = .ok (.iload 5, 2) := by decide +kernel
theorem dX4_byteOf_148 : decode cX4_byteOf 148 = .ok (.iload 7, 2) := by decide +kernel
theorem dX4_byteOf_150 : decode cX4_byteOf 150 = .ok (.iadd, 1) := by decide +kernel
theorem dX4_byteOf_151 : decode cX4_byteOf 151 = .ok (.iconst 1, 1) := by decide +kernel
theorem dX4_byteOf_152 : decode cX4_byteOf 152 = .ok (.isub, 1) := by decide +kernel
theorem dX4_byteOf_153 : decode cX4_byteOf 153 = .ok (.invokevirtual 51, 3) := by decide +kernel
theorem dX4_byteOf_156 : decode cX4_byteOf 156 = .ok (.ifCond .ne 7, 3) := by decide +kernel
theorem dX4_byteOf_159 : decode cX4_byteOf 159 = .ok (.iconst 1, 1) := by decide +kernel
theorem dX4_byteOf_160 : decode cX4_byteOf 160 = .ok (.goto 4, 3) := by decide +kernel
theorem dX4_byteOf_163 : decode cX4_byteOf 163 = .ok (.iconst 0, 1) := by decide +kernel
theorem dX4_byteOf_164 : decode cX4_byteOf 164 = .ok (.istore 8, 2) := by decide +kernel
theorem dX4_byteOf_166 : decode cX4_byteOf 166 = .ok (.iload 7, 2) := by decide +kernel
theorem dX4_byteOf_168 : decode cX4_byteOf 168 = .ok (.sipush 255, 3) := by decide +kernel
theorem dX4_byteOf_171 : decode cX4_byteOf 171 = .ok (.if_icmp .eq 18, 3) := by decide +kernel
theorem dX4_byteOf_174 : decode cX4_byteOf 174 = .ok (.aload_n 0, 1) := by decide +kernel
theorem dX4_byteOf_175 : decode cX4_byteOf 175 = .ok (.iload_n 1, 1) := by decide +kernel
theorem dX4_byteOf_176 : decode cX4_byteOf 176 = .ok (.iload 5, 2) := by decide +kernel
theorem dX4_byteOf_178 : decode cX4_byteOf 178 = .ok (.iload 7, 2) := by decide +kernel
theorem dX4_byteOf_180 : decode cX4_byteOf 180 = .ok (.iadd, 1) := by decide +kernel
theorem dX4_byteOf_181 : decode cX4_byteOf 181 = .ok (.iconst 1, 1) := by decide +kernel
theorem dX4_byteOf_182 : decode cX4_byteOf 182 = .ok (.iadd, 1) := by decide +kernel
theorem dX4_byteOf_183 : decode cX4_byteOf 183 = .ok (.invokevirtual 51, 3) := by decide +kernel
theorem dX4_byteOf_186 : decode cX4_byteOf 186 = .ok (.ifCond .ne 7, 3) := by decide +kernel
theorem dX4_byteOf_189 : decode cX4_byteOf 189 = .ok (.iconst 1, 1) := by decide +kernel
theorem dX4_byteOf_190 : decode cX4_byteOf 190 = .ok (.goto 4, 3) := by decide +kernel
theorem dX4_byteOf_193 : decode cX4_byteOf 193 = .ok (.iconst 0, 1) := by decide +kernel
theorem dX4_byteOf_194 : decode cX4_byteOf 194 = .ok (.istore 9, 2) := by decide +kernel
theorem dX4_byteOf_196 : decode cX4_byteOf 196 = .ok (.iload 4, 2) := by decide +kernel
theorem dX4_byteOf_198 : decode cX4_byteOf 198 = .ok (.ifCond .eq 8, 3) := by decide +kernel
theorem dX4_byteOf_201 : decode cX4_byteOf 201 = .ok (.iload 8, 2) := by decide +kernel
theorem dX4_byteOf_203 : decode cX4_byteOf 203 = .ok (.ifCond .eq 14, 3) := by decide +kernel
theorem dX4_byteOf_206 : decode cX4_byteOf 206 = .ok (.iload 6, 2) := by decide +kernel
theorem dX4_byteOf_208 : decode cX4_byteOf 208 = .ok (.ifCond .ne 6, 3) := by decide +kernel
theorem dX4_byteOf_211 : decode cX4_byteOf 211 = .ok (.iload 7, 2) := by decide +kernel
theorem dX4_byteOf_213 : decode cX4_byteOf 213 = .ok (.ireturn, 1) := by decide +kernel
theorem dX4_byteOf_214 : decode cX4_byteOf 214 = .ok (.iinc 6 (-1), 3) := by decide +kernel
theorem dX4_byteOf_217 : decode cX4_byteOf 217 = .ok (.iload 4, 2) := by decide +kernel
theorem dX4_byteOf_219 : decode cX4_byteOf 219 = .ok (.iconst 1, 1) := by decide +kernel
theorem dX4_byteOf_220 : decode cX4_byteOf 220 = .ok (.if_icmp .ne 19, 3) := by decide +kernel
theorem dX4_byteOf_223 : decode cX4_byteOf 223 = .ok (.iload 9, 2) := by decide +kernel
theorem dX4_byteOf_225 : decode cX4_byteOf 225 = .ok (.ifCond .eq 14, 3) := by decide +kernel
theorem dX4_byteOf_228 : decode cX4_byteOf 228 = .ok (.iload 6, 2) := by decide +kernel
theorem dX4_byteOf_230 : decode cX4_byteOf 230 = .ok (.ifCond .ne 6, 3) := by decide +kernel
theorem dX4_byteOf_233 : decode cX4_byteOf 233 = .ok (.iload 7, 2) := by decide +kernel
theorem dX4_byteOf_235 : decode cX4_byteOf 235 = .ok (.ireturn, 1) := by decide +kernel
theorem dX4_byteOf_236 : decode cX4_byteOf 236 = .ok (.iinc 6 (-1), 3) := by decide +kernel
theorem dX4_byteOf_239 : decode cX4_byteOf 239 = .ok (.iinc 7 1, 3) := by decide +kernel
theorem dX4_byteOf_242 : decode cX4_byteOf 242 = .ok (.goto (-124), 3) := by decide +kernel
theorem dX4_byteOf_245 : decode cX4_byteOf 245 = .ok (.bipush (-9), 2) := by decide +kernel
theorem dX4_byteOf_247 : decode cX4_byteOf 247 = .ok (.ireturn, 1) := by decide +kernel
set_option maxRecDepth 20000 in
theorem ggX4_byteAt_X4_isSet : GoodIn wsX4_byteAt wsX4_isSet := goodIn_r _ [4, 5, 6, 3, 7] (by decide +kernel) (by decide +kernel)
set_option maxRecDepth 20000 in
theorem gX4_byteAt_X4_isSet : GoodIn wsX4_byteAt (va_wsS RX4 55 yX4_isSet wsX4_isSet) := goodIn_app (goodIn_of _ (by decide +kernel)) ggX4_byteAt_X4_isSet
set_option maxRecDepth 20000 in
theorem ggX4_byteAt_X4_told : GoodIn wsX4_byteAt wsX4_told := goodIn_r _ [11, 12, 13, 14, 3, 15, 16, 17, 18, 19, 20, 21, 22, 23, 24, 25, 26, 27, 36, 37, 38, 39, 40, 41, 42, 43] (by decide +kernel) (by decide +kernel)
set_option maxRecDepth 20000 in
theorem gX4_byteAt_X4_told : GoodIn wsX4_byteAt (wsV RX4 88 RX4 yX4_told wsX4_told) := goodIn_app (goodIn_of _ (by decide +kernel)) ggX4_byteAt_X4_told
set_option maxRecDepth 20000 in
theorem ggX4_byteAt_X4_byteOf : GoodIn wsX4_byteAt wsX4_byteOf := goodIn_r _ [31, 8, 9, 10, 3, 11, 12, 13, 14, 15, 16, 17, 18, 19, 20, 21, 22, 23, 24, 25, 26, 27, 32, 33, 34, 35, 36, 37, 38, 39, 40, 41, 42, 43] (by decide +kernel) (by decide +kernel)
set_option maxRecDepth 20000 in
theorem gX4_byteAt_X4_byteOf : GoodIn wsX4_byteAt (wsV RX4 92 RX4 yX4_byteOf wsX4_byteOf) := goodIn_app (goodIn_of _ (by decide +kernel)) ggX4_byteAt_X4_byteOf
theorem dX4_byteAt_0 : decode cX4_byteAt 0 = .ok (.iload_n 1, 1) := by decide +kernel
theorem dX4_byteAt_1 : decode cX4_byteAt 1 = .ok (.invokestatic 55, 3) := by decide +kernel
theorem dX4_byteAt_4 : decode cX4_byteAt 4 = .ok (.ifCond .eq 7, 3) := by decide +kernel
theorem dX4_byteAt_7 : decode cX4_byteAt 7 = .ok (.iload_n 2, 1) := by decide +kernel
theorem dX4_byteAt_8 : decode cX4_byteAt 8 = .ok (.ifCond .ge 5, 3) := by decide +kernel
theorem dX4_byteAt_11 : decode cX4_byteAt 11 = .ok (.iconst (-1), 1) := by decide +kernel
theorem dX4_byteAt_12 : decode cX4_byteAt 12 = .ok (.ireturn, 1) := by decide +kernel
theorem dX4_byteAt_13 : decode cX4_byteAt 13 = .ok (.iload_n 2, 1) := by decide +kernel
theorem dX4_byteAt_14 : decode cX4_byteAt 14 = .ok (.istore_n 3, 1) := by decide +kernel
theorem dX4_byteAt_15 : decode cX4_byteAt 15 = .ok (.iconst 0, 1) := by decide +kernel
theorem dX4_byteAt_16 : decode cX4_byteAt 16 = .ok (.istore 4, 2) := by decide +kernel
theorem dX4_byteAt_18 : decode cX4_byteAt 18 = .ok (.iload 4, 2) := by decide +kernel
theorem dX4_byteAt_20 : decode cX4_byteAt 20 = .ok (.bipush 16, 2) := by decide +kernel
theorem dX4_byteAt_22 : decode cX4_byteAt 22 = .ok (.if_icmp .ge 39, 3) := by decide +kernel
theorem dX4_byteAt_25 : decode cX4_byteAt 25 = .ok (.aload_n 0, 1) := by decide +kernel
theorem dX4_byteAt_26 : decode cX4_byteAt 26 = .ok (.iload_n 1, 1) := by decide +kernel
theorem dX4_byteAt_27 : decode cX4_byteAt 27 = .ok (.iload 4, 2) := by decide +kernel
theorem dX4_byteAt_29 : decode cX4_byteAt 29 = .ok (.iconst 3, 1) := by decide +kernel
theorem dX4_byteAt_30 : decode cX4_byteAt 30 = .ok (.invokevirtual 88, 3) := by decide +kernel
theorem dX4_byteAt_33 : decode cX4_byteAt 33 = .ok (.istore 5, 2) := by decide +kernel
theorem dX4_byteAt_35 : decode cX4_byteAt 35 = .ok (.iload_n 3, 1) := by decide +kernel
theorem dX4_byteAt_36 : decode cX4_byteAt 36 = .ok (.iload 5, 2) := by decide +kernel
theorem dX4_byteAt_38 : decode cX4_byteAt 38 = .ok (.if_icmp .ge 12, 3) := by decide +kernel
theorem dX4_byteAt_41 : decode cX4_byteAt 41 = .ok (.aload_n 0, 1) := by decide +kernel
theorem dX4_byteAt_42 : decode cX4_byteAt 42 = .ok (.iload_n 1, 1) := by decide +kernel
theorem dX4_byteAt_43 : decode cX4_byteAt 43 = .ok (.iload 4, 2) := by decide +kernel
theorem dX4_byteAt_45 : decode cX4_byteAt 45 = .ok (.iload_n 3, 1) := by decide +kernel
theorem dX4_byteAt_46 : decode cX4_byteAt 46 = .ok (.invokevirtual 92, 3) := by decide +kernel
theorem dX4_byteAt_49 : decode cX4_byteAt 49 = .ok (.ireturn, 1) := by decide +kernel
theorem dX4_byteAt_50 : decode cX4_byteAt 50 = .ok (.iload_n 3, 1) := by decide +kernel
theorem dX4_byteAt_51 : decode cX4_byteAt 51 = .ok (.iload 5, 2) := by decide +kernel
theorem dX4_byteAt_53 : decode cX4_byteAt 53 = .ok (.isub, 1) := by decide +kernel
theorem dX4_byteAt_54 : decode cX4_byteAt 54 = .ok (.istore_n 3, 1) := by decide +kernel
theorem dX4_byteAt_55 : decode cX4_byteAt 55 = .ok (.iinc 4 1, 3) := by decide +kernel
theorem dX4_byteAt_58 : decode cX4_byteAt 58 = .ok (.goto (-40), 3) := by decide +kernel
theorem dX4_byteAt_61 : decode cX4_byteAt 61 = .ok (.bipush (-9), 2) := by decide +kernel
theorem dX4_byteAt_63 : decode cX4_byteAt 63 = .ok (.ireturn, 1) := by decide +kernel
set_option maxRecDepth 20000 in
theorem ggX4_put_X4_in : GoodIn wsX4_put wsX4_in := goodIn_r _ [6] (by decide +kernel) (by decide +kernel)
set_option maxRecDepth 20000 in
theorem gX4_put_X4_in : GoodIn wsX4_put (va_wsS RX4 25 yX4_in wsX4_in) := goodIn_app (goodIn_of _ (by decide +kernel)) ggX4_put_X4_in
theorem dX4_put_0 : decode cX4_put 0 = .ok (.iload_n 1, 1) := by decide +kernel
theorem dX4_put_1 : decode cX4_put 1 = .ok (.iconst 0, 1) := by decide +kernel
theorem dX4_put_2 : decode cX4_put 2 = .ok (.sipush 255, 3) := by decide +kernel
theorem dX4_put_5 : decode cX4_put 5 = .ok (.invokestatic 25, 3) := by decide +kernel
theorem dX4_put_8 : decode cX4_put 8 = .ok (.ifCond .ne 5, 3) := by decide +kernel
theorem dX4_put_11 : decode cX4_put 11 = .ok (.iconst (-1), 1) := by decide +kernel
theorem dX4_put_12 : decode cX4_put 12 = .ok (.ireturn, 1) := by decide +kernel
theorem dX4_put_13 : decode cX4_put 13 = .ok (.aload_n 0, 1) := by decide +kernel
theorem dX4_put_14 : decode cX4_put 14 = .ok (.getfield 95, 3) := by decide +kernel
theorem dX4_put_17 : decode cX4_put 17 = .ok (.sipush 200, 3) := by decide +kernel
theorem dX4_put_20 : decode cX4_put 20 = .ok (.if_icmp .ne 6, 3) := by decide +kernel
theorem dX4_put_23 : decode cX4_put 23 = .ok (.bipush (-3), 2) := by decide +kernel
theorem dX4_put_25 : decode cX4_put 25 = .ok (.ireturn, 1) := by decide +kernel
theorem dX4_put_26 : decode cX4_put 26 = .ok (.aload_n 0, 1) := by decide +kernel
theorem dX4_put_27 : decode cX4_put 27 = .ok (.getfield 19, 3) := by decide +kernel
theorem dX4_put_30 : decode cX4_put 30 = .ok (.aload_n 0, 1) := by decide +kernel
theorem dX4_put_31 : decode cX4_put 31 = .ok (.getfield 95, 3) := by decide +kernel
theorem dX4_put_34 : decode cX4_put 34 = .ok (.iload_n 1, 1) := by decide +kernel
theorem dX4_put_35 : decode cX4_put 35 = .ok (.iastore, 1) := by decide +kernel
theorem dX4_put_36 : decode cX4_put 36 = .ok (.aload_n 0, 1) := by decide +kernel
theorem dX4_put_37 : decode cX4_put 37 = .ok (.dup, 1) := by decide +kernel
theorem dX4_put_38 : decode cX4_put 38 = .ok (.getfield 95, 3) := by decide +kernel
theorem dX4_put_41 : decode cX4_put 41 = .ok (.iconst 1, 1) := by decide +kernel
theorem dX4_put_42 : decode cX4_put 42 = .ok (.iadd, 1) := by decide +kernel
theorem dX4_put_43 : decode cX4_put 43 = .ok (.putfield 95, 3) := by decide +kernel
theorem dX4_put_46 : decode cX4_put 46 = .ok (.aload_n 0, 1) := by decide +kernel
theorem dX4_put_47 : decode cX4_put 47 = .ok (.getfield 95, 3) := by decide +kernel
theorem dX4_put_50 : decode cX4_put 50 = .ok (.ireturn, 1) := by decide +kernel
