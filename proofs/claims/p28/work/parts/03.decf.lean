theorem dX3_printNumbers_73 : decode cX3_printNumbers 73 = .ok (.iinc 5 1, 3) := by decide +kernel
theorem dX3_printNumbers_76 : decode cX3_printNumbers 76 = .ok (.goto (-71), 3) := by decide +kernel
theorem dX3_printNumbers_79 : decode cX3_printNumbers 79 = .ok (.lload_n 3, 1) := by decide +kernel
theorem dX3_printNumbers_80 : decode cX3_printNumbers 80 = .ok (.lreturn, 1) := by decide +kernel
theorem dJ13_bitCount_95d88_0 : decode cJ13_bitCount_95d88 0 = .ok (.lload_n 0, 1) := by decide +kernel
theorem dJ13_bitCount_95d88_1 : decode cJ13_bitCount_95d88 1 = .ok (.lload_n 0, 1) := by decide +kernel
theorem dJ13_bitCount_95d88_2 : decode cJ13_bitCount_95d88 2 = .ok (.iconst 1, 1) := by decide +kernel
theorem dJ13_bitCount_95d88_3 : decode cJ13_bitCount_95d88 3 = .ok (.lushr, 1) := by decide +kernel
theorem dJ13_bitCount_95d88_4 : decode cJ13_bitCount_95d88 4 = .ok (.ldc2_w 314, 3) := by decide +kernel
theorem dJ13_bitCount_95d88_7 : decode cJ13_bitCount_95d88 7 = .ok (.land, 1) := by decide +kernel
theorem dJ13_bitCount_95d88_8 : decode cJ13_bitCount_95d88 8 = .ok (.lsub, 1) := by decide +kernel
theorem dJ13_bitCount_95d88_9 : decode cJ13_bitCount_95d88 9 = .ok (.lstore_n 0, 1) := by decide +kernel
theorem dJ13_bitCount_95d88_10 : decode cJ13_bitCount_95d88 10 = .ok (.lload_n 0, 1) := by decide +kernel
theorem dJ13_bitCount_95d88_11 : decode cJ13_bitCount_95d88 11 = .ok (.ldc2_w 316, 3) := by decide +kernel
theorem dJ13_bitCount_95d88_14 : decode cJ13_bitCount_95d88 14 = .ok (.land, 1) := by decide +kernel
theorem dJ13_bitCount_95d88_15 : decode cJ13_bitCount_95d88 15 = .ok (.lload_n 0, 1) := by decide +kernel
theorem dJ13_bitCount_95d88_16 : decode cJ13_bitCount_95d88 16 = .ok (.iconst 2, 1) := by decide +kernel
theorem dJ13_bitCount_95d88_17 : decode cJ13_bitCount_95d88 17 = .ok (.lushr, 1) := by decide +kernel
theorem dJ13_bitCount_95d88_18 : decode cJ13_bitCount_95d88 18 = .ok (.ldc2_w 316, 3) := by decide +kernel
theorem dJ13_bitCount_95d88_21 : decode cJ13_bitCount_95d88 21 = .ok (.land, 1) := by decide +kernel
theorem dJ13_bitCount_95d88_22 : decode cJ13_bitCount_95d88 22 = .ok (.ladd, 1) := by decide +kernel
theorem dJ13_bitCount_95d88_23 : decode cJ13_bitCount_95d88 23 = .ok (.lstore_n 0, 1) := by decide +kernel
theorem dJ13_bitCount_95d88_24 : decode cJ13_bitCount_95d88 24 = .ok (.lload_n 0, 1) := by decide +kernel
theorem dJ13_bitCount_95d88_25 : decode cJ13_bitCount_95d88 25 = .ok (.lload_n 0, 1) := by decide +kernel
theorem dJ13_bitCount_95d88_26 : decode cJ13_bitCount_95d88 26 = .ok (.iconst 4, 1) := by decide +kernel
theorem dJ13_bitCount_95d88_27 : decode cJ13_bitCount_95d88 27 = .ok (.lushr, 1) := by decide +kernel
theorem dJ13_bitCount_95d88_28 : decode cJ13_bitCount_95d88 28 = .ok (.ladd, 1) := by decide +kernel
theorem dJ13_bitCount_95d88_29 : decode cJ13_bitCount_95d88 29 = .ok (.ldc2_w 318, 3) := by decide +kernel
theorem dJ13_bitCount_95d88_32 : decode cJ13_bitCount_95d88 32 = .ok (.land, 1) := by decide +kernel
theorem dJ13_bitCount_95d88_33 : decode cJ13_bitCount_95d88 33 = .ok (.lstore_n 0, 1) := by decide +kernel
theorem dJ13_bitCount_95d88_34 : decode cJ13_bitCount_95d88 34 = .ok (.lload_n 0, 1) := by decide +kernel
theorem dJ13_bitCount_95d88_35 : decode cJ13_bitCount_95d88 35 = .ok (.lload_n 0, 1) := by decide +kernel
theorem dJ13_bitCount_95d88_36 : decode cJ13_bitCount_95d88 36 = .ok (.bipush 8, 2) := by decide +kernel
theorem dJ13_bitCount_95d88_38 : decode cJ13_bitCount_95d88 38 = .ok (.lushr, 1) := by decide +kernel
theorem dJ13_bitCount_95d88_39 : decode cJ13_bitCount_95d88 39 = .ok (.ladd, 1) := by decide +kernel
theorem dJ13_bitCount_95d88_40 : decode cJ13_bitCount_95d88 40 = .ok (.lstore_n 0, 1) := by decide +kernel
theorem dJ13_bitCount_95d88_41 : decode cJ13_bitCount_95d88 41 = .ok (.lload_n 0, 1) := by decide +kernel
theorem dJ13_bitCount_95d88_42 : decode cJ13_bitCount_95d88 42 = .ok (.lload_n 0, 1) := by decide +kernel
theorem dJ13_bitCount_95d88_43 : decode cJ13_bitCount_95d88 43 = .ok (.bipush 16, 2) := by decide +kernel
theorem dJ13_bitCount_95d88_45 : decode cJ13_bitCount_95d88 45 = .ok (.lushr, 1) := by decide +kernel
theorem dJ13_bitCount_95d88_46 : decode cJ13_bitCount_95d88 46 = .ok (.ladd, 1) := by decide +kernel
theorem dJ13_bitCount_95d88_47 : decode cJ13_bitCount_95d88 47 = .ok (.lstore_n 0, 1) := by decide +kernel
theorem dJ13_bitCount_95d88_48 : decode cJ13_bitCount_95d88 48 = .ok (.lload_n 0, 1) := by decide +kernel
theorem dJ13_bitCount_95d88_49 : decode cJ13_bitCount_95d88 49 = .ok (.lload_n 0, 1) := by decide +kernel
theorem dJ13_bitCount_95d88_50 : decode cJ13_bitCount_95d88 50 = .ok (.bipush 32, 2) := by decide +kernel
theorem dJ13_bitCount_95d88_52 : decode cJ13_bitCount_95d88 52 = .ok (.lushr, 1) := by decide +kernel
theorem dJ13_bitCount_95d88_53 : decode cJ13_bitCount_95d88 53 = .ok (.ladd, 1) := by decide +kernel
theorem dJ13_bitCount_95d88_54 : decode cJ13_bitCount_95d88 54 = .ok (.lstore_n 0, 1) := by decide +kernel
theorem dJ13_bitCount_95d88_55 : decode cJ13_bitCount_95d88 55 = .ok (.lload_n 0, 1) := by decide +kernel
theorem dJ13_bitCount_95d88_56 : decode cJ13_bitCount_95d88 56 = .ok (.l2i, 1) := by decide +kernel
theorem dJ13_bitCount_95d88_57 : decode cJ13_bitCount_95d88 57 = .ok (.bipush 127, 2) := by decide +kernel
theorem dJ13_bitCount_95d88_59 : decode cJ13_bitCount_95d88 59 = .ok (.iand, 1) := by decide +kernel
theorem dJ13_bitCount_95d88_60 : decode cJ13_bitCount_95d88 60 = .ok (.ireturn, 1) := by decide +kernel
theorem dJ9_max_7cf53_0 : decode cJ9_max_7cf53 0 = .ok (.iload_n 0, 1) := by decide +kernel
theorem dJ9_max_7cf53_1 : decode cJ9_max_7cf53 1 = .ok (.iload_n 1, 1) := by decide +kernel
theorem dJ9_max_7cf53_2 : decode cJ9_max_7cf53 2 = .ok (.if_icmp .lt 7, 3) := by decide +kernel
theorem dJ9_max_7cf53_5 : decode cJ9_max_7cf53 5 = .ok (.iload_n 0, 1) := by decide +kernel
theorem dJ9_max_7cf53_6 : decode cJ9_max_7cf53 6 = .ok (.goto 4, 3) := by decide +kernel
theorem dJ9_max_7cf53_9 : decode cJ9_max_7cf53 9 = .ok (.iload_n 1, 1) := by decide +kernel
theorem dJ9_max_7cf53_10 : decode cJ9_max_7cf53 10 = .ok (.ireturn, 1) := by decide +kernel
theorem dJ9_min_7cf53_0 : decode cJ9_min_7cf53 0 = .ok (.iload_n 0, 1) := by decide +kernel
theorem dJ9_min_7cf53_1 : decode cJ9_min_7cf53 1 = .ok (.iload_n 1, 1) := by decide +kernel
theorem dJ9_min_7cf53_2 : decode cJ9_min_7cf53 2 = .ok (.if_icmp .gt 7, 3) := by decide +kernel
theorem dJ9_min_7cf53_5 : decode cJ9_min_7cf53 5 = .ok (.iload_n 0, 1) := by decide +kernel
theorem dJ9_min_7cf53_6 : decode cJ9_min_7cf53 6 = .ok (.goto 4, 3) := by decide +kernel
theorem dJ9_min_7cf53_9 : decode cJ9_min_7cf53 9 = .ok (.iload_n 1, 1) := by decide +kernel
theorem dJ9_min_7cf53_10 : decode cJ9_min_7cf53 10 = .ok (.ireturn, 1) := by decide +kernel
theorem dJ7_fill_d0a16_0 : decode cJ7_fill_d0a16 0 = .ok (.iconst 0, 1) := by decide +kernel
theorem dJ7_fill_d0a16_1 : decode cJ7_fill_d0a16 1 = .ok (.istore_n 3, 1) := by decide +kernel
theorem dJ7_fill_d0a16_2 : decode cJ7_fill_d0a16 2 = .ok (.aload_n 0, 1) := by decide +kernel
theorem dJ7_fill_d0a16_3 : decode cJ7_fill_d0a16 3 = .ok (.arraylength, 1) := by decide +kernel
theorem dJ7_fill_d0a16_4 : decode cJ7_fill_d0a16 4 = .ok (.istore 4, 2) := by decide +kernel
theorem dJ7_fill_d0a16_6 : decode cJ7_fill_d0a16 6 = .ok (.iload_n 3, 1) := by decide +kernel
theorem dJ7_fill_d0a16_7 : decode cJ7_fill_d0a16 7 = .ok (.iload 4, 2) := by decide +kernel
theorem dJ7_fill_d0a16_9 : decode cJ7_fill_d0a16 9 = .ok (.if_icmp .ge 13, 3) := by decide +kernel
theorem dJ7_fill_d0a16_12 : decode cJ7_fill_d0a16 12 = .ok (.aload_n 0, 1) := by decide +kernel
theorem dJ7_fill_d0a16_13 : decode cJ7_fill_d0a16 13 = .ok (.iload_n 3, 1) := by decide +kernel
theorem dJ7_fill_d0a16_14 : decode cJ7_fill_d0a16 14 = .ok (.lload_n 1, 1) := by decide +kernel
theorem dJ7_fill_d0a16_15 : decode cJ7_fill_d0a16 15 = .ok (.lastore, 1) := by decide +kernel
theorem dJ7_fill_d0a16_16 : decode cJ7_fill_d0a16 16 = .ok (.iinc 3 1, 3) := by decide +kernel
theorem dJ7_fill_d0a16_19 : decode cJ7_fill_d0a16 19 = .ok (.goto (-13), 3) := by decide +kernel
theorem dJ7_fill_d0a16_22 : decode cJ7_fill_d0a16 22 = .ok (.return_, 1) := by decide +kernel
theorem dL_cell_0 : decode cL_cell 0 = .ok (.iload_n 1, 1) := by decide +kernel
theorem dL_cell_1 : decode cL_cell 1 = .ok (.aload_n 0, 1) := by decide +kernel
theorem dL_cell_2 : decode cL_cell 2 = .ok (.arraylength, 1) := by decide +kernel
theorem dL_cell_3 : decode cL_cell 3 = .ok (.if_icmp .ge 9, 3) := by decide +kernel
theorem dL_cell_6 : decode cL_cell 6 = .ok (.aload_n 0, 1) := by decide +kernel
theorem dL_cell_7 : decode cL_cell 7 = .ok (.iload_n 1, 1) := by decide +kernel
theorem dL_cell_8 : decode cL_cell 8 = .ok (.iaload, 1) := by decide +kernel
theorem dL_cell_9 : decode cL_cell 9 = .ok (.goto 9, 3) := by decide +kernel
theorem dL_cell_12 : decode cL_cell 12 = .ok (.ldc 7, 2) := by decide +kernel
theorem dL_cell_14 : decode cL_cell 14 = .ok (.iload_n 1, 1) := by decide +kernel
theorem dL_cell_15 : decode cL_cell 15 = .ok (.iconst 3, 1) := by decide +kernel
theorem dL_cell_16 : decode cL_cell 16 = .ok (.iadd, 1) := by decide +kernel
theorem dL_cell_17 : decode cL_cell 17 = .ok (.imul, 1) := by decide +kernel
theorem dL_cell_18 : decode cL_cell 18 = .ok (.ireturn, 1) := by decide +kernel
theorem dL_up_0 : decode cL_up 0 = .ok (.iload_n 0, 1) := by decide +kernel
theorem dL_up_1 : decode cL_up 1 = .ok (.ldc 8, 2) := by decide +kernel
theorem dL_up_3 : decode cL_up 3 = .ok (.iand, 1) := by decide +kernel
theorem dL_up_4 : decode cL_up 4 = .ok (.iload_n 1, 1) := by decide +kernel
theorem dL_up_5 : decode cL_up 5 = .ok (.irem, 1) := by decide +kernel
theorem dL_up_6 : decode cL_up 6 = .ok (.ireturn, 1) := by decide +kernel
set_option maxRecDepth 20000 in
theorem ggL_fails_X3_fingerprint : GoodIn wsL_fails wsX3_fingerprint := goodIn_r _ [5, 6, 7, 8, 9, 10, 4, 11, 12, 13, 14, 15, 16, 17, 18, 19, 20, 21, 22, 23, 24, 25, 26, 27, 28, 29, 30, 31, 32, 33, 34, 35, 36, 37, 38, 39, 40, 41, 42, 43, 44, 45, 46, 47, 48, 49, 50, 290, 291, 292, 293, 294, 295, 296, 297, 298] (by decide +kernel) (by decide +kernel)
set_option maxRecDepth 20000 in
theorem gL_fails_X3_fingerprint : GoodIn wsL_fails (wsV RL 9 RX3 yX3_fingerprint wsX3_fingerprint) := goodIn_app (goodIn_of _ (by decide +kernel)) ggL_fails_X3_fingerprint
set_option maxRecDepth 20000 in
theorem ggL_fails_X3_add : GoodIn wsL_fails wsX3_add := goodIn_r _ [54, 7, 55, 56, 4, 57, 58, 59, 60, 61, 62, 63, 64, 65, 66, 67, 68, 69, 70, 71, 72, 73, 74, 75, 76, 77, 78, 79, 80, 81, 13, 82, 83, 24, 84, 85, 86, 87, 88, 89, 90, 91, 92, 93, 94, 95, 96, 97, 43, 98, 99, 100, 36, 37, 38, 16, 17, 18, 19, 20, 21, 22, 23, 25, 26, 27, 28, 29, 30, 31, 39, 40, 41, 42, 101, 102, 12, 14, 15, 295, 296, 297, 290, 291, 292, 293, 294, 298] (by decide +kernel) (by decide +kernel)
set_option maxRecDepth 20000 in
theorem gL_fails_X3_add : GoodIn wsL_fails (wsV RL 15 RX3 yX3_add wsX3_add) := goodIn_app (goodIn_of _ (by decide +kernel)) ggL_fails_X3_add
set_option maxRecDepth 20000 in
theorem ggL_fails_X3_remove : GoodIn wsL_fails wsX3_remove := goodIn_r _ [106, 7, 55, 56, 4, 57, 58, 59, 60, 61, 62, 63, 64, 65, 66, 67, 68, 69, 70, 71, 72, 73, 74, 75, 76, 77, 78, 79, 80, 81, 13, 82, 83, 24, 84, 107, 108, 109, 43, 88, 89, 90, 91, 92, 93, 94, 95, 96, 97, 98, 99, 100, 36, 37, 38, 16, 17, 18, 19, 20, 21, 22, 23, 25, 26, 27, 28, 29, 30, 31, 39, 40, 41, 42, 101, 102, 12, 14, 15, 295, 296, 297, 290, 291, 292, 293, 294, 298] (by decide +kernel) (by decide +kernel)
set_option maxRecDepth 20000 in
theorem gL_fails_X3_remove : GoodIn wsL_fails (wsV RL 19 RX3 yX3_remove wsX3_remove) := goodIn_app (goodIn_of _ (by decide +kernel)) ggL_fails_X3_remove
set_option maxRecDepth 20000 in
theorem ggL_fails_X3_flip : GoodIn wsL_fails wsX3_flip := goodIn_r _ [113, 7, 55, 56, 4, 57, 58, 59, 60, 61, 62, 63, 64, 65, 66, 67, 68, 69, 70, 71, 72, 73, 74, 75, 76, 77, 78, 79, 80, 81, 13, 82, 83, 24, 84, 114, 115, 116, 88, 89, 90, 91, 92, 93, 94, 95, 96, 97, 43, 98, 99, 100, 36, 37, 38, 16, 17, 18, 19, 20, 21, 22, 23, 25, 26, 27, 28, 29, 30, 31, 39, 40, 41, 42, 101, 102, 117, 118, 119, 295, 296, 297, 290, 291, 292, 293, 294, 298] (by decide +kernel) (by decide +kernel)
set_option maxRecDepth 20000 in
theorem gL_fails_X3_flip : GoodIn wsL_fails (wsV RL 22 RX3 yX3_flip wsX3_flip) := goodIn_app (goodIn_of _ (by decide +kernel)) ggL_fails_X3_flip
set_option maxRecDepth 20000 in
theorem ggL_fails_X3_scatter : GoodIn wsL_fails wsX3_scatter := goodIn_r _ [123, 7, 124, 55, 56, 4, 57, 64, 65, 66, 67, 68, 69, 70, 71, 72, 73, 74, 75, 76, 77, 78, 79, 80, 81, 13, 82, 83, 24, 84, 125, 126, 127, 62, 63, 98, 99, 100, 36, 37, 38, 16, 17, 18, 19, 20, 21, 22, 23, 25, 26, 27, 28, 29, 30, 31, 39, 40, 41, 42, 43, 101, 102, 12, 14, 15, 295, 296, 297, 290, 291, 292, 293, 294, 298] (by decide +kernel) (by decide +kernel)
set_option maxRecDepth 20000 in
theorem gL_fails_X3_scatter : GoodIn wsL_fails (wsV RL 25 RX3 yX3_scatter wsX3_scatter) := goodIn_app (goodIn_of _ (by decide +kernel)) ggL_fails_X3_scatter
set_option maxRecDepth 20000 in
theorem ggL_fails_X3_combine : GoodIn wsL_fails wsX3_combine := goodIn_r _ [131, 7, 55, 56, 4, 57, 64, 65, 66, 67, 68, 69, 70, 71, 72, 73, 74, 75, 76, 77, 78, 79, 80, 81, 13, 82, 83, 24, 84, 132, 133, 134, 135, 136, 137, 43, 138, 139, 140, 36, 37, 38, 16, 17, 18, 19, 20, 21, 22, 23, 25, 26, 27, 28, 29, 30, 31, 39, 40, 41, 42, 101, 102, 98, 99, 100, 12, 14, 15, 290, 291, 292, 293, 294, 295, 296, 297, 298] (by decide +kernel) (by decide +kernel)
set_option maxRecDepth 20000 in
theorem gL_fails_X3_combine : GoodIn wsL_fails (wsV RL 28 RX3 yX3_combine wsX3_combine) := goodIn_app (goodIn_of _ (by decide +kernel)) ggL_fails_X3_combine
set_option maxRecDepth 20000 in
theorem ggL_fails_X3_shift : GoodIn wsL_fails wsX3_shift := goodIn_r _ [144, 7, 55, 56, 4, 57, 64, 65, 66, 67, 68, 69, 70, 71, 72, 73, 74, 75, 76, 77, 78, 79, 80, 81, 13, 82, 83, 24, 84, 145, 146, 147, 20, 21, 22, 23, 98, 99, 100, 36, 37, 38, 16, 17, 18, 19, 25, 26, 27, 28, 29, 30, 31, 39, 40, 41, 42, 43, 101, 102, 12, 14, 15, 295, 296, 297, 290, 291, 292, 293, 294, 298] (by decide +kernel) (by decide +kernel)
set_option maxRecDepth 20000 in
theorem gL_fails_X3_shift : GoodIn wsL_fails (wsV RL 32 RX3 yX3_shift wsX3_shift) := goodIn_app (goodIn_of _ (by decide +kernel)) ggL_fails_X3_shift
set_option maxRecDepth 20000 in
theorem ggL_fails_X3_size : GoodIn wsL_fails wsX3_size := goodIn_r _ [151, 7, 55, 56, 4, 57, 12, 13, 14, 15, 16, 17, 18, 19, 20, 21, 22, 23, 24, 25, 26, 27, 28, 29, 30, 31, 290, 291, 292, 293, 294, 295, 296, 297, 298] (by decide +kernel) (by decide +kernel)
set_option maxRecDepth 20000 in
theorem gL_fails_X3_size : GoodIn wsL_fails (wsV RL 36 RX3 yX3_size wsX3_size) := goodIn_app (goodIn_of _ (by decide +kernel)) ggL_fails_X3_size
set_option maxRecDepth 20000 in
theorem ggL_fails_X3_contains : GoodIn wsL_fails wsX3_contains := goodIn_r _ [155, 7, 55, 56, 4, 57, 156, 13, 157, 158, 24, 62, 63, 290, 291, 292, 293, 294, 295, 296, 297, 298] (by decide +kernel) (by decide +kernel)
set_option maxRecDepth 20000 in
theorem gL_fails_X3_contains : GoodIn wsL_fails (wsV RL 40 RX3 yX3_contains wsX3_contains) := goodIn_app (goodIn_of _ (by decide +kernel)) ggL_fails_X3_contains
set_option maxRecDepth 20000 in
theorem ggL_fails_X3_rank : GoodIn wsL_fails wsX3_rank := goodIn_r _ [162, 7, 55, 56, 4, 57, 117, 13, 118, 119, 24, 88, 89, 90, 91, 92, 93, 94, 95, 96, 97, 43, 25, 26, 27, 28, 29, 30, 31, 290, 291, 292, 293, 294, 295, 296, 297, 298] (by decide +kernel) (by decide +kernel)
set_option maxRecDepth 20000 in
theorem gL_fails_X3_rank : GoodIn wsL_fails (wsV RL 43 RX3 yX3_rank wsX3_rank) := goodIn_app (goodIn_of _ (by decide +kernel)) ggL_fails_X3_rank
set_option maxRecDepth 20000 in
theorem ggL_fails_X3_select : GoodIn wsL_fails wsX3_select := goodIn_r _ [166, 7, 55, 56, 4, 57, 167, 13, 168, 169, 24, 25, 26, 27, 28, 29, 30, 31, 170, 171, 172, 290, 291, 292, 293, 294, 295, 296, 297, 298] (by decide +kernel) (by decide +kernel)
set_option maxRecDepth 20000 in
theorem gL_fails_X3_select : GoodIn wsL_fails (wsV RL 46 RX3 yX3_select wsX3_select) := goodIn_app (goodIn_of _ (by decide +kernel)) ggL_fails_X3_select
set_option maxRecDepth 20000 in
theorem ggL_fails_X3_near : GoodIn wsL_fails wsX3_near := goodIn_r _ [176, 7, 55, 56, 4, 57, 117, 13, 118, 119, 24, 88, 89, 90, 91, 92, 93, 94, 95, 96, 97, 43, 25, 26, 27, 28, 29, 30, 31, 167, 168, 169, 170, 171, 172, 290, 291, 292, 293, 294, 295, 296, 297, 298] (by decide +kernel) (by decide +kernel)
set_option maxRecDepth 20000 in
theorem gL_fails_X3_near : GoodIn wsL_fails (wsV RL 49 RX3 yX3_near wsX3_near) := goodIn_app (goodIn_of _ (by decide +kernel)) ggL_fails_X3_near
set_option maxRecDepth 20000 in
theorem ggL_fails_X3_runs : GoodIn wsL_fails wsX3_runs := goodIn_r _ [180, 7, 55, 56, 4, 57, 40, 13, 41, 42, 43, 20, 21, 22, 23, 24, 25, 26, 27, 28, 29, 30, 31, 290, 291, 292, 293, 294, 295, 296, 297, 298] (by decide +kernel) (by decide +kernel)
set_option maxRecDepth 20000 in
theorem gL_fails_X3_runs : GoodIn wsL_fails (wsV RL 53 RX3 yX3_runs wsX3_runs) := goodIn_app (goodIn_of _ (by decide +kernel)) ggL_fails_X3_runs
set_option maxRecDepth 20000 in
theorem ggL_fails_X3_run : GoodIn wsL_fails wsX3_run := goodIn_r _ [184, 7, 55, 56, 4, 57, 185, 186, 187, 188, 189, 145, 13, 146, 147, 24, 20, 21, 22, 23, 132, 133, 134, 135, 136, 137, 43, 167, 168, 169, 25, 26, 27, 28, 29, 30, 31, 170, 171, 172, 290, 291, 292, 293, 294, 295, 296, 297, 298] (by decide +kernel) (by decide +kernel)
set_option maxRecDepth 20000 in
theorem gL_fails_X3_run : GoodIn wsL_fails (wsV RL 56 RX3 yX3_run wsX3_run) := goodIn_app (goodIn_of _ (by decide +kernel)) ggL_fails_X3_run
set_option maxRecDepth 20000 in
theorem ggL_fails_X3_piece : GoodIn wsL_fails wsX3_piece := goodIn_r _ [193, 7, 55, 56, 4, 57, 32, 13, 33, 34, 35, 36, 37, 38, 16, 17, 18, 19, 20, 21, 22, 23, 24, 25, 26, 27, 28, 29, 30, 31, 39, 40, 41, 42, 43, 44, 45, 46, 47, 290, 291, 292, 293, 294, 295, 296, 297, 298] (by decide +kernel) (by decide +kernel)
set_option maxRecDepth 20000 in
theorem gL_fails_X3_piece : GoodIn wsL_fails (wsV RL 59 RX3 yX3_piece wsX3_piece) := goodIn_app (goodIn_of _ (by decide +kernel)) ggL_fails_X3_piece
set_option maxRecDepth 20000 in
theorem ggL_fails_X3_bytes : GoodIn wsL_fails wsX3_bytes := goodIn_r _ [197, 7, 55, 56, 4, 57, 45, 13, 46, 47, 35, 36, 37, 38, 16, 17, 18, 19, 20, 21, 22, 23, 24, 25, 26, 27, 28, 29, 30, 31, 39, 40, 41, 42, 43, 290, 291, 292, 293, 294, 295, 296, 297, 298] (by decide +kernel) (by decide +kernel)
set_option maxRecDepth 20000 in
theorem gL_fails_X3_bytes : GoodIn wsL_fails (wsV RL 62 RX3 yX3_bytes wsX3_bytes) := goodIn_app (goodIn_of _ (by decide +kernel)) ggL_fails_X3_bytes
set_option maxRecDepth 20000 in
theorem ggL_fails_X3_byteAt : GoodIn wsL_fails wsX3_byteAt := goodIn_r _ [201, 7, 55, 56, 4, 57, 45, 13, 46, 47, 35, 36, 37, 38, 16, 17, 18, 19, 20, 21, 22, 23, 24, 25, 26, 27, 28, 29, 30, 31, 39, 40, 41, 42, 43, 202, 203, 204, 205, 206, 207, 208, 209, 210, 211, 212, 213, 214, 117, 118, 119, 88, 89, 90, 91, 92, 93, 94, 95, 96, 97, 215, 167, 168, 169, 170, 171, 172, 216, 217, 218, 219, 220, 156, 157, 158, 62, 63, 290, 291, 292, 293, 294, 295, 296, 297, 298] (by decide +kernel) (by decide +kernel)
set_option maxRecDepth 20000 in
theorem gL_fails_X3_byteAt : GoodIn wsL_fails (wsV RL 65 RX3 yX3_byteAt wsX3_byteAt) := goodIn_app (goodIn_of _ (by decide +kernel)) ggL_fails_X3_byteAt
set_option maxRecDepth 20000 in
theorem ggL_fails_X3_put : GoodIn wsL_fails wsX3_put := goodIn_r _ [224, 225, 226, 227, 228, 229, 230, 231, 290, 291, 292, 293, 294, 299, 300] (by decide +kernel) (by decide +kernel)
set_option maxRecDepth 20000 in
theorem gL_fails_X3_put : GoodIn wsL_fails (wsV RL 68 RX3 yX3_put wsX3_put) := goodIn_app (goodIn_of _ (by decide +kernel)) ggL_fails_X3_put
set_option maxRecDepth 20000 in
theorem ggL_fails_X3_read : GoodIn wsL_fails wsX3_read := goodIn_r _ [235, 225, 189, 7, 55, 56, 4, 57, 236, 227, 237, 238, 230, 231, 239, 13, 240, 241, 24, 242, 243, 244, 245, 101, 102, 246, 247, 248, 249, 250, 251, 252, 253, 125, 126, 127, 62, 63, 254, 255, 256, 257, 258, 259, 260, 261, 85, 86, 87, 88, 89, 90, 91, 92, 93, 94, 95, 96, 97, 43, 36, 37, 38, 16, 17, 18, 19, 20, 21, 22, 23, 25, 26, 27, 28, 29, 30, 31, 39, 40, 41, 42, 64, 65, 66, 67, 68, 69, 70, 71, 72, 73, 74, 75, 76, 77, 78, 79, 80, 81, 82, 83, 84, 98, 99, 100, 12, 14, 15, 290, 291, 292, 293, 294, 295, 296, 297, 299, 300, 298] (by decide +kernel) (by decide +kernel)
set_option maxRecDepth 20000 in
theorem gL_fails_X3_read : GoodIn wsL_fails (wsV RL 71 RX3 yX3_read wsX3_read) := goodIn_app (goodIn_of _ (by decide +kernel)) ggL_fails_X3_read
set_option maxRecDepth 20000 in
theorem ggL_fails_X3_compare : GoodIn wsL_fails wsX3_compare := goodIn_r _ [265, 189, 7, 55, 56, 4, 57, 266, 267, 268, 269, 132, 13, 133, 134, 24, 135, 136, 137, 43, 12, 14, 15, 16, 17, 18, 19, 20, 21, 22, 23, 25, 26, 27, 28, 29, 30, 31, 270, 271, 272, 273, 167, 168, 169, 170, 171, 172, 290, 291, 292, 293, 294, 295, 296, 297, 298] (by decide +kernel) (by decide +kernel)
set_option maxRecDepth 20000 in
theorem gL_fails_X3_compare : GoodIn wsL_fails (wsV RL 74 RX3 yX3_compare wsX3_compare) := goodIn_app (goodIn_of _ (by decide +kernel)) ggL_fails_X3_compare
set_option maxRecDepth 20000 in
theorem ggL_fails_X3_alike : GoodIn wsL_fails wsX3_alike := goodIn_r _ [277, 55, 56, 4, 57, 266, 267, 268, 269, 189, 7, 132, 13, 133, 134, 24, 135, 136, 137, 43, 12, 14, 15, 16, 17, 18, 19, 20, 21, 22, 23, 25, 26, 27, 28, 29, 30, 31, 278, 279, 280, 290, 291, 292, 293, 294, 295, 296, 297, 298] (by decide +kernel) (by decide +kernel)
set_option maxRecDepth 20000 in
theorem gL_fails_X3_alike : GoodIn wsL_fails (wsV RL 77 RX3 yX3_alike wsX3_alike) := goodIn_app (goodIn_of _ (by decide +kernel)) ggL_fails_X3_alike
set_option maxRecDepth 20000 in
theorem ggL_fails_X3_met : GoodIn wsL_fails wsX3_met := goodIn_r _ [284, 7, 285, 101, 4, 102, 290, 291, 292, 293, 294, 295, 296, 297] (by decide +kernel) (by decide +kernel)
set_option maxRecDepth 20000 in
theorem gL_fails_X3_met : GoodIn wsL_fails (wsV RL 80 RX3 yX3_met wsX3_met) := goodIn_app (goodIn_of _ (by decide +kernel)) ggL_fails_X3_met
set_option maxRecDepth 20000 in
theorem ggL_fails_X3_converted : GoodIn wsL_fails wsX3_converted := goodIn_r _ [289, 7, 285, 101, 4, 102, 290, 291, 292, 293, 294, 295, 296, 297] (by decide +kernel) (by decide +kernel)
set_option maxRecDepth 20000 in
theorem gL_fails_X3_converted : GoodIn wsL_fails (wsV RL 83 RX3 yX3_converted wsX3_converted) := goodIn_app (goodIn_of _ (by decide +kernel)) ggL_fails_X3_converted
theorem dL_fails_0 : decode cL_fails 0 = .ok (.aload_n 0, 1) := by decide +kernel
theorem dL_fails_1 : decode cL_fails 1 = .ok (.invokevirtual 9, 3) := by decide +kernel
theorem dL_fails_4 : decode cL_fails 4 = .ok (.lstore_n 1, 1) := by decide +kernel
theorem dL_fails_5 : decode cL_fails 5 = .ok (.aload_n 0, 1) := by decide +kernel
theorem dL_fails_6 : decode cL_fails 6 = .ok (.bipush 6, 2) := by decide +kernel
theorem dL_fails_8 : decode cL_fails 8 = .ok (.iconst 0, 1) := by decide +kernel
theorem dL_fails_9 : decode cL_fails 9 = .ok (.iconst 0, 1) := by decide +kernel
theorem dL_fails_10 : decode cL_fails 10 = .ok (.invokevirtual 15, 3) := by decide +kernel
theorem dL_fails_13 : decode cL_fails 13 = .ok (.iconst (-1), 1) := by decide +kernel
theorem dL_fails_14 : decode cL_fails 14 = .ok (.if_icmp .ne 165, 3) := by decide +kernel
theorem dL_fails_17 : decode cL_fails 17 = .ok (.aload_n 0, 1) := by decide +kernel
theorem dL_fails_18 : decode cL_fails 18 = .ok (.iconst 0, 1) := by decide +kernel
theorem dL_fails_19 : decode cL_fails 19 = .ok (.iconst (-1), 1) := by decide +kernel
theorem dL_fails_20 : decode cL_fails 20 = .ok (.iconst 0, 1) := by decide +kernel
theorem dL_fails_21 : decode cL_fails 21 = .ok (.invokevirtual 15, 3) := by decide +kernel
theorem dL_fails_24 : decode cL_fails 24 = .ok (.iconst (-1), 1) := by decide +kernel
theorem dL_fails_25 : decode cL_fails 25 = .ok (.if_icmp .ne 154, 3) := by decide +kernel
theorem dL_fails_28 : decode cL_fails 28 = .ok (.aload_n 0, 1) := by decide +kernel
theorem dL_fails_29 : decode cL_fails 29 = .ok (.iconst 0, 1) := by decide +kernel
theorem dL_fails_30 : decode cL_fails 30 = .ok (.iconst 5, 1) := by decide +kernel
theorem dL_fails_31 : decode cL_fails 31 = .ok (.iconst 4, 1) := by decide +kernel
theorem dL_fails_32 : decode cL_fails 32 = .ok (.invokevirtual 15, 3) := by decide +kernel
theorem dL_fails_35 : decode cL_fails 35 = .ok (.iconst (-1), 1) := by decide +kernel
theorem dL_fails_36 : decode cL_fails 36 = .ok (.if_icmp .ne 143, 3) := by decide +kernel
theorem dL_fails_39 : decode cL_fails 39 = .ok (.aload_n 0, 1) := by decide +kernel
theorem dL_fails_40 : decode cL_fails 40 = .ok (.iconst 0, 1) := by decide +kernel
theorem dL_fails_41 : decode cL_fails 41 = .ok (.iconst 0, 1) := by decide +kernel
theorem dL_fails_42 : decode cL_fails 42 = .ok (.sipush 4096, 3) := by decide +kernel
theorem dL_fails_45 : decode cL_fails 45 = .ok (.invokevirtual 15, 3) := by decide +kernel
theorem dL_fails_48 : decode cL_fails 48 = .ok (.iconst (-1), 1) := by decide +kernel
theorem dL_fails_49 : decode cL_fails 49 = .ok (.if_icmp .ne 130, 3) := by decide +kernel
theorem dL_fails_52 : decode cL_fails 52 = .ok (.aload_n 0, 1) := by decide +kernel
theorem dL_fails_53 : decode cL_fails 53 = .ok (.iconst (-1), 1) := by decide +kernel
theorem dL_fails_54 : decode cL_fails 54 = .ok (.iconst 0, 1) := by decide +kernel
theorem dL_fails_55 : decode cL_fails 55 = .ok (.iconst 0, 1) := by decide +kernel
theorem dL_fails_56 : decode cL_fails 56 = .ok (.invokevirtual 19, 3) := by decide +kernel
theorem dL_fails_59 : decode cL_fails 59 = .ok (.iconst (-1), 1) := by decide +kernel
theorem dL_fails_60 : decode cL_fails 60 = .ok (.if_icmp .ne 119, 3) := by decide +kernel
theorem dL_fails_63 : decode cL_fails 63 = .ok (.aload_n 0, 1) := by decide +kernel
theorem dL_fails_64 : decode cL_fails 64 = .ok (.iconst 0, 1) := by decide +kernel
theorem dL_fails_65 : decode cL_fails 65 = .ok (.bipush 7, 2) := by decide +kernel
theorem dL_fails_67 : decode cL_fails 67 = .ok (.bipush 6, 2) := by decide +kernel
theorem dL_fails_69 : decode cL_fails 69 = .ok (.invokevirtual 19, 3) := by decide +kernel
theorem dL_fails_72 : decode cL_fails 72 = .ok (.iconst (-1), 1) := by decide +kernel
theorem dL_fails_73 : decode cL_fails 73 = .ok (.if_icmp .ne 106, 3) := by decide +kernel
theorem dL_fails_76 : decode cL_fails 76 = .ok (.aload_n 0, 1) := by decide +kernel
theorem dL_fails_77 : decode cL_fails 77 = .ok (.iconst 0, 1) := by decide +kernel
theorem dL_fails_78 : decode cL_fails 78 = .ok (.sipush 4096, 3) := by decide +kernel
theorem dL_fails_81 : decode cL_fails 81 = .ok (.sipush 4096, 3) := by decide +kernel
theorem dL_fails_84 : decode cL_fails 84 = .ok (.invokevirtual 22, 3) := by decide +kernel
theorem dL_fails_87 : decode cL_fails 87 = .ok (.iconst (-1), 1) := by decide +kernel
theorem dL_fails_88 : decode cL_fails 88 = .ok (.if_icmp .ne 91, 3) := by decide +kernel
theorem dL_fails_91 : decode cL_fails 91 = .ok (.aload_n 0, 1) := by decide +kernel
theorem dL_fails_92 : decode cL_fails 92 = .ok (.iconst 0, 1) := by decide +kernel
theorem dL_fails_93 : decode cL_fails 93 = .ok (.iconst 1, 1) := by decide +kernel
theorem dL_fails_94 : decode cL_fails 94 = .ok (.iconst 0, 1) := by decide +kernel
theorem dL_fails_95 : decode cL_fails 95 = .ok (.invokevirtual 25, 3) := by decide +kernel
theorem dL_fails_98 : decode cL_fails 98 = .ok (.iconst (-1), 1) := by decide +kernel
theorem dL_fails_99 : decode cL_fails 99 = .ok (.if_icmp .ne 80, 3) := by decide +kernel
theorem dL_fails_102 : decode cL_fails 102 = .ok (.aload_n 0, 1) := by decide +kernel
theorem dL_fails_103 : decode cL_fails 103 = .ok (.iconst 0, 1) := by decide +kernel
theorem dL_fails_104 : decode cL_fails 104 = .ok (.iconst 1, 1) := by decide +kernel
theorem dL_fails_105 : decode cL_fails 105 = .ok (.sipush 301, 3) := by decide +kernel
theorem dL_fails_108 : decode cL_fails 108 = .ok (.invokevirtual 25, 3) := by decide +kernel
theorem dL_fails_111 : decode cL_fails 111 = .ok (.iconst (-1), 1) := by decide +kernel
theorem dL_fails_112 : decode cL_fails 112 = .ok (.if_icmp .ne 67, 3) := by decide +kernel
theorem dL_fails_115 : decode cL_fails 115 = .ok (.aload_n 0, 1) := by decide +kernel
theorem dL_fails_116 : decode cL_fails 116 = .ok (.iconst 4, 1) := by decide +kernel
theorem dL_fails_117 : decode cL_fails 117 = .ok (.iconst 0, 1) := by decide +kernel
theorem dL_fails_118 : decode cL_fails 118 = .ok (.iconst 0, 1) := by decide +kernel
theorem dL_fails_119 : decode cL_fails 119 = .ok (.iconst 0, 1) := by decide +kernel
theorem dL_fails_120 : decode cL_fails 120 = .ok (.invokevirtual 28, 3) := by decide +kernel
theorem dL_fails_123 : decode cL_fails 123 = .ok (.iconst (-1), 1) := by decide +kernel
theorem dL_fails_124 : decode cL_fails 124 = .ok (.if_icmp .ne 55, 3) := by decide +kernel
theorem dL_fails_127 : decode cL_fails 127 = .ok (.aload_n 0, 1) := by decide +kernel
theorem dL_fails_128 : decode cL_fails 128 = .ok (.iconst 0, 1) := by decide +kernel
theorem dL_fails_129 : decode cL_fails 129 = .ok (.bipush 6, 2) := by decide +kernel
theorem dL_fails_131 : decode cL_fails 131 = .ok (.iconst 0, 1) := by decide +kernel
theorem dL_fails_132 : decode cL_fails 132 = .ok (.iconst 0, 1) := by decide +kernel
theorem dL_fails_133 : decode cL_fails 133 = .ok (.invokevirtual 28, 3) := by decide +kernel
theorem dL_fails_136 : decode cL_fails 136 = .ok (.iconst (-1), 1) := by decide +kernel
theorem dL_fails_137 : decode cL_fails 137 = .ok (.if_icmp .ne 42, 3) := by decide +kernel
theorem dL_fails_140 : decode cL_fails 140 = .ok (.aload_n 0, 1) := by decide +kernel
theorem dL_fails_141 : decode cL_fails 141 = .ok (.iconst 0, 1) := by decide +kernel
theorem dL_fails_142 : decode cL_fails 142 = .ok (.iconst 0, 1) := by decide +kernel
theorem dL_fails_143 : decode cL_fails 143 = .ok (.iconst 0, 1) := by decide +kernel
theorem dL_fails_144 : decode cL_fails 144 = .ok (.iconst (-1), 1) := by decide +kernel
theorem dL_fails_145 : decode cL_fails 145 = .ok (.invokevirtual 28, 3) := by decide +kernel
theorem dL_fails_148 : decode cL_fails 148 = .ok (.iconst (-1), 1) := by decide +kernel
theorem dL_fails_149 : decode cL_fails 149 = .ok (.if_icmp .ne 30, 3) := by decide +kernel
theorem dL_fails_152 : decode cL_fails 152 = .ok (.aload_n 0, 1) := by decide +kernel
theorem dL_fails_153 : decode cL_fails 153 = .ok (.iconst 0, 1) := by decide +kernel
theorem dL_fails_154 : decode cL_fails 154 = .ok (.sipush 4096, 3) := by decide +kernel
theorem dL_fails_157 : decode cL_fails 157 = .ok (.invokevirtual 32, 3) := by decide +kernel
theorem dL_fails_160 : decode cL_fails 160 = .ok (.iconst (-1), 1) := by decide +kernel
theorem dL_fails_161 : decode cL_fails 161 = .ok (.if_icmp .ne 18, 3) := by decide +kernel
theorem dL_fails_164 : decode cL_fails 164 = .ok (.aload_n 0, 1) := by decide +kernel
theorem dL_fails_165 : decode cL_fails 165 = .ok (.bipush 6, 2) := by decide +kernel
theorem dL_fails_167 : decode cL_fails 167 = .ok (.iconst 0, 1) := by decide +kernel
theorem dL_fails_168 : decode cL_fails 168 = .ok (.invokevirtual 32, 3) := by decide +kernel
theorem dL_fails_171 : decode cL_fails 171 = .ok (.iconst (-1), 1) := by decide +kernel
theorem dL_fails_172 : decode cL_fails 172 = .ok (.if_icmp .ne 7, 3) := by decide +kernel
theorem dL_fails_175 : decode cL_fails 175 = .ok (.iconst 1, 1) := by decide +kernel
theorem dL_fails_176 : decode cL_fails 176 = .ok (.goto 4, 3) := by decide +kernel
theorem dL_fails_179 : decode cL_fails 179 = .ok (.iconst 0, 1) := by decide +kernel
theorem dL_fails_180 : decode cL_fails 180 = .ok (.istore_n 3, 1) := by decide +kernel
theorem dL_fails_181 : decode cL_fails 181 = .ok (.iload_n 3, 1) := by decide +kernel
theorem dL_fails_182 : decode cL_fails 182 = .ok (.ifCond .eq 162, 3) := by decide +kernel
theorem dL_fails_185 : decode cL_fails 185 = .ok (.aload_n 0, 1) := by decide +kernel
theorem dL_fails_186 : decode cL_fails 186 = .ok (.bipush 6, 2) := by decide +kernel
theorem dL_fails_188 : decode cL_fails 188 = .ok (.invokevirtual 36, 3) := by decide +kernel
theorem dL_fails_191 : decode cL_fails 191 = .ok (.iconst (-1), 1) := by decide +kernel
theorem dL_fails_192 : decode cL_fails 192 = .ok (.if_icmp .ne 152, 3) := by decide +kernel
theorem dL_fails_195 : decode cL_fails 195 = .ok (.aload_n 0, 1) := by decide +kernel
theorem dL_fails_196 : decode cL_fails 196 = .ok (.iconst (-1), 1) := by decide +kernel
theorem dL_fails_197 : decode cL_fails 197 = .ok (.iconst 0, 1) := by decide +kernel
theorem dL_fails_198 : decode cL_fails 198 = .ok (.invokevirtual 40, 3) := by decide +kernel
theorem dL_fails_201 : decode cL_fails 201 = .ok (.iconst (-1), 1) := by decide +kernel
theorem dL_fails_202 : decode cL_fails 202 = .ok (.if_icmp .ne 142, 3) := by decide +kernel
theorem dL_fails_205 : decode cL_fails 205 = .ok (.aload_n 0, 1) := by decide +kernel
theorem dL_fails_206 : decode cL_fails 206 = .ok (.iconst 0, 1) := by decide +kernel
theorem dL_fails_207 : decode cL_fails 207 = .ok (.bipush (-5), 2) := by decide +kernel
theorem dL_fails_209 : decode cL_fails 209 = .ok (.invokevirtual 40, 3) := by decide +kernel
theorem dL_fails_212 : decode cL_fails 212 = .ok (.ifCond .ne 132, 3) := by decide +kernel
theorem dL_fails_215 : decode cL_fails 215 = .ok (.aload_n 0, 1) := by decide +kernel
theorem dL_fails_216 : decode cL_fails 216 = .ok (.iconst 0, 1) := by decide +kernel
theorem dL_fails_217 : decode cL_fails 217 = .ok (.sipush 4096, 3) := by decide +kernel
theorem dL_fails_220 : decode cL_fails 220 = .ok (.invokevirtual 40, 3) := by decide +kernel
theorem dL_fails_223 : decode cL_fails 223 = .ok (.ifCond .ne 121, 3) := by decide +kernel
theorem dL_fails_226 : decode cL_fails 226 = .ok (.aload_n 0, 1) := by decide +kernel
theorem dL_fails_227 : decode cL_fails 227 = .ok (.bipush 6, 2) := by decide +kernel
theorem dL_fails_229 : decode cL_fails 229 = .ok (.iconst 0, 1) := by decide +kernel
theorem dL_fails_230 : decode cL_fails 230 = .ok (.invokevirtual 43, 3) := by decide +kernel
theorem dL_fails_233 : decode cL_fails 233 = .ok (.iconst (-1), 1) := by decide +kernel
theorem dL_fails_234 : decode cL_fails 234 = .ok (.if_icmp .ne 110, 3) := by decide +kernel
theorem dL_fails_237 : decode cL_fails 237 = .ok (.aload_n 0, 1) := by decide +kernel
theorem dL_fails_238 : decode cL_fails 238 = .ok (.iconst 0, 1) := by decide +kernel
theorem dL_fails_239 : decode cL_fails 239 = .ok (.iconst (-1), 1) := by decide +kernel
theorem dL_fails_240 : decode cL_fails 240 = .ok (.invokevirtual 43, 3) := by decide +kernel
theorem dL_fails_243 : decode cL_fails 243 = .ok (.ifCond .ne 101, 3) := by decide +kernel
theorem dL_fails_246 : decode cL_fails 246 = .ok (.aload_n 0, 1) := by decide +kernel
theorem dL_fails_247 : decode cL_fails 247 = .ok (.iconst 0, 1) := by decide +kernel
theorem dL_fails_248 : decode cL_fails 248 = .ok (.iconst (-1), 1) := by decide +kernel
theorem dL_fails_249 : decode cL_fails 249 = .ok (.invokevirtual 46, 3) := by decide +kernel
theorem dL_fails_252 : decode cL_fails 252 = .ok (.iconst (-1), 1) := by decide +kernel
theorem dL_fails_253 : decode cL_fails 253 = .ok (.if_icmp .ne 91, 3) := by decide +kernel
theorem dL_fails_256 : decode cL_fails 256 = .ok (.aload_n 0, 1) := by decide +kernel
theorem dL_fails_257 : decode cL_fails 257 = .ok (.iconst 0, 1) := by decide +kernel
theorem dL_fails_258 : decode cL_fails 258 = .ok (.sipush 4096, 3) := by decide +kernel
theorem dL_fails_261 : decode cL_fails 261 = .ok (.invokevirtual 46, 3) := by decide +kernel
theorem dL_fails_264 : decode cL_fails 264 = .ok (.bipush (-9), 2) := by decide +kernel
theorem dL_fails_266 : decode cL_fails 266 = .ok (.if_icmp .ne 78, 3) := by decide +kernel
theorem dL_fails_269 : decode cL_fails 269 = .ok (.aload_n 0, 1) := by decide +kernel
theorem dL_fails_270 : decode cL_fails 270 = .ok (.bipush 6, 2) := by decide +kernel
theorem dL_fails_272 : decode cL_fails 272 = .ok (.iconst 0, 1) := by decide +kernel
theorem dL_fails_273 : decode cL_fails 273 = .ok (.iconst 1, 1) := by decide +kernel
theorem dL_fails_274 : decode cL_fails 274 = .ok (.invokevirtual 49, 3) := by decide +kernel
theorem dL_fails_277 : decode cL_fails 277 = .ok (.iconst (-1), 1) := by decide +kernel
theorem dL_fails_278 : decode cL_fails 278 = .ok (.if_icmp .ne 66, 3) := by decide +kernel
theorem dL_fails_281 : decode cL_fails 281 = .ok (.aload_n 0, 1) := by decide +kernel
theorem dL_fails_282 : decode cL_fails 282 = .ok (.iconst 0, 1) := by decide +kernel
theorem dL_fails_283 : decode cL_fails 283 = .ok (.sipush 4096, 3) := by decide +kernel
theorem dL_fails_286 : decode cL_fails 286 = .ok (.iconst 1, 1) := by decide +kernel
theorem dL_fails_287 : decode cL_fails 287 = .ok (.invokevirtual 49, 3) := by decide +kernel
theorem dL_fails_290 : decode cL_fails 290 = .ok (.bipush (-9), 2) := by decide +kernel
theorem dL_fails_292 : decode cL_fails 292 = .ok (.if_icmp .ne 52, 3) := by decide +kernel
theorem dL_fails_295 : decode cL_fails 295 = .ok (.aload_n 0, 1) := by decide +kernel
theorem dL_fails_296 : decode cL_fails 296 = .ok (.iconst 0, 1) := by decide +kernel
theorem dL_fails_297 : decode cL_fails 297 = .ok (.iconst (-1), 1) := by decide +kernel
theorem dL_fails_298 : decode cL_fails 298 = .ok (.iconst 0, 1) := by decide +kernel
theorem dL_fails_299 : decode cL_fails 299 = .ok (.invokevirtual 49, 3) := by decide +kernel
theorem dL_fails_302 : decode cL_fails 302 = .ok (.bipush (-9), 2) := by decide +kernel
theorem dL_fails_304 : decode cL_fails 304 = .ok (.if_icmp .ne 40, 3) := by decide +kernel
theorem dL_fails_307 : decode cL_fails 307 = .ok (.aload_n 0, 1) := by decide +kernel
theorem dL_fails_308 : decode cL_fails 308 = .ok (.bipush 6, 2) := by decide +kernel
theorem dL_fails_310 : decode cL_fails 310 = .ok (.invokevirtual 53, 3) := by decide +kernel
theorem dL_fails_313 : decode cL_fails 313 = .ok (.iconst (-1), 1) := by decide +kernel
theorem dL_fails_314 : decode cL_fails 314 = .ok (.if_icmp .ne 30, 3) := by decide +kernel
theorem dL_fails_317 : decode cL_fails 317 = .ok (.aload_n 0, 1) := by decide +kernel
theorem dL_fails_318 : decode cL_fails 318 = .ok (.iconst 0, 1) := by decide +kernel
theorem dL_fails_319 : decode cL_fails 319 = .ok (.iconst (-1), 1) := by decide +kernel
theorem dL_fails_320 : decode cL_fails 320 = .ok (.invokevirtual 56, 3) := by decide +kernel
theorem dL_fails_323 : decode cL_fails 323 = .ok (.iconst (-1), 1) := by decide +kernel
theorem dL_fails_324 : decode cL_fails 324 = .ok (.if_icmp .ne 20, 3) := by decide +kernel
theorem dL_fails_327 : decode cL_fails 327 = .ok (.aload_n 0, 1) := by decide +kernel
theorem dL_fails_328 : decode cL_fails 328 = .ok (.iconst 0, 1) := by decide +kernel
theorem dL_fails_329 : decode cL_fails 329 = .ok (.sipush 2049, 3) := by decide +kernel
theorem dL_fails_332 : decode cL_fails 332 = .ok (.invokevirtual 56, 3) := by decide +kernel
theorem dL_fails_335 : decode cL_fails 335 = .ok (.bipush (-9), 2) := by decide +kernel
theorem dL_fails_337 : decode cL_fails 337 = .ok (.if_icmp .ne 7, 3) := by decide +kernel
theorem dL_fails_340 : decode cL_fails 340 = .ok (.iconst 1, 1) := by decide +kernel
theorem dL_fails_341 : decode cL_fails 341 = .ok (.goto 4, 3) := by decide +kernel
theorem dL_fails_344 : decode cL_fails 344 = .ok (.iconst 0, 1) := by decide +kernel
theorem dL_fails_345 : decode cL_fails 345 = .ok (.istore_n 3, 1) := by decide +kernel
theorem dL_fails_346 : decode cL_fails 346 = .ok (.iload_n 3, 1) := by decide +kernel
theorem dL_fails_347 : decode cL_fails 347 = .ok (.ifCond .eq 148, 3) := by decide +kernel
theorem dL_fails_350 : decode cL_fails 350 = .ok (.aload_n 0, 1) := by decide +kernel
theorem dL_fails_351 : decode cL_fails 351 = .ok (.iconst 0, 1) := by decide +kernel
theorem dL_fails_352 : decode cL_fails 352 = .ok (.bipush 16, 2) := by decide +kernel
theorem dL_fails_354 : decode cL_fails 354 = .ok (.iconst 0, 1) := by decide +kernel
theorem dL_fails_355 : decode cL_fails 355 = .ok (.invokevirtual 59, 3) := by decide +kernel
theorem dL_fails_358 : decode cL_fails 358 = .ok (.iconst (-1), 1) := by decide +kernel
theorem dL_fails_359 : decode cL_fails 359 = .ok (.if_icmp .ne 136, 3) := by decide +kernel
theorem dL_fails_362 : decode cL_fails 362 = .ok (.aload_n 0, 1) := by decide +kernel
theorem dL_fails_363 : decode cL_fails 363 = .ok (.iconst 0, 1) := by decide +kernel
theorem dL_fails_364 : decode cL_fails 364 = .ok (.iconst 0, 1) := by decide +kernel
theorem dL_fails_365 : decode cL_fails 365 = .ok (.iconst 4, 1) := by decide +kernel
theorem dL_fails_366 : decode cL_fails 366 = .ok (.invokevirtual 59, 3) := by decide +kernel
theorem dL_fails_369 : decode cL_fails 369 = .ok (.iconst (-1), 1) := by decide +kernel
theorem dL_fails_370 : decode cL_fails 370 = .ok (.if_icmp .ne 125, 3) := by decide +kernel
theorem dL_fails_373 : decode cL_fails 373 = .ok (.aload_n 0, 1) := by decide +kernel
theorem dL_fails_374 : decode cL_fails 374 = .ok (.bipush 6, 2) := by decide +kernel
theorem dL_fails_376 : decode cL_fails 376 = .ok (.invokevirtual 62, 3) := by decide +kernel
theorem dL_fails_379 : decode cL_fails 379 = .ok (.iconst (-1), 1) := by decide +kernel
theorem dL_fails_380 : decode cL_fails 380 = .ok (.if_icmp .ne 115, 3) := by decide +kernel
theorem dL_fails_383 : decode cL_fails 383 = .ok (.aload_n 0, 1) := by decide +kernel
theorem dL_fails_384 : decode cL_fails 384 = .ok (.iconst 0, 1) := by decide +kernel
theorem dL_fails_385 : decode cL_fails 385 = .ok (.iconst (-1), 1) := by decide +kernel
theorem dL_fails_386 : decode cL_fails 386 = .ok (.invokevirtual 65, 3) := by decide +kernel
theorem dL_fails_389 : decode cL_fails 389 = .ok (.iconst (-1), 1) := by decide +kernel
theorem dL_fails_390 : decode cL_fails 390 = .ok (.if_icmp .ne 105, 3) := by decide +kernel
theorem dL_fails_393 : decode cL_fails 393 = .ok (.aload_n 0, 1) := by decide +kernel
theorem dL_fails_394 : decode cL_fails 394 = .ok (.iconst 0, 1) := by decide +kernel
theorem dL_fails_395 : decode cL_fails 395 = .ok (.sipush 529, 3) := by decide +kernel
theorem dL_fails_398 : decode cL_fails 398 = .ok (.invokevirtual 65, 3) := by decide +kernel
theorem dL_fails_401 : decode cL_fails 401 = .ok (.bipush (-9), 2) := by decide +kernel
theorem dL_fails_403 : decode cL_fails 403 = .ok (.if_icmp .ne 92, 3) := by decide +kernel
theorem dL_fails_406 : decode cL_fails 406 = .ok (.aload_n 0, 1) := by decide +kernel
theorem dL_fails_407 : decode cL_fails 407 = .ok (.sipush 256, 3) := by decide +kernel
theorem dL_fails_410 : decode cL_fails 410 = .ok (.invokevirtual 68, 3) := by decide +kernel
theorem dL_fails_413 : decode cL_fails 413 = .ok (.iconst (-1), 1) := by decide +kernel
theorem dL_fails_414 : decode cL_fails 414 = .ok (.if_icmp .ne 81, 3) := by decide +kernel
theorem dL_fails_417 : decode cL_fails 417 = .ok (.aload_n 0, 1) := by decide +kernel
theorem dL_fails_418 : decode cL_fails 418 = .ok (.bipush 6, 2) := by decide +kernel
theorem dL_fails_420 : decode cL_fails 420 = .ok (.invokevirtual 71, 3) := by decide +kernel
theorem dL_fails_423 : decode cL_fails 423 = .ok (.iconst (-1), 1) := by decide +kernel
theorem dL_fails_424 : decode cL_fails 424 = .ok (.if_icmp .ne 71, 3) := by decide +kernel
theorem dL_fails_427 : decode cL_fails 427 = .ok (.aload_n 0, 1) := by decide +kernel
theorem dL_fails_428 : decode cL_fails 428 = .ok (.iconst 0, 1) := by decide +kernel
theorem dL_fails_429 : decode cL_fails 429 = .ok (.bipush 6, 2) := by decide +kernel
theorem dL_fails_431 : decode cL_fails 431 = .ok (.iconst 0, 1) := by decide +kernel
theorem dL_fails_432 : decode cL_fails 432 = .ok (.invokevirtual 74, 3) := by decide +kernel
theorem dL_fails_435 : decode cL_fails 435 = .ok (.iconst (-1), 1) := by decide +kernel
theorem dL_fails_436 : decode cL_fails 436 = .ok (.if_icmp .ne 59, 3) := by decide +kernel
theorem dL_fails_439 : decode cL_fails 439 = .ok (.aload_n 0, 1) := by decide +kernel
theorem dL_fails_440 : decode cL_fails 440 = .ok (.iconst 0, 1) := by decide +kernel
theorem dL_fails_441 : decode cL_fails 441 = .ok (.iconst 0, 1) := by decide +kernel
theorem dL_fails_442 : decode cL_fails 442 = .ok (.iconst 5, 1) := by decide +kernel
theorem dL_fails_443 : decode cL_fails 443 = .ok (.invokevirtual 74, 3) := by decide +kernel
theorem dL_fails_446 : decode cL_fails 446 = .ok (.iconst (-1), 1) := by decide +kernel
theorem dL_fails_447 : decode cL_fails 447 = .ok (.if_icmp .ne 48, 3) := by decide +kernel
theorem dL_fails_450 : decode cL_fails 450 = .ok (.aload_n 0, 1) := by decide +kernel
theorem dL_fails_451 : decode cL_fails 451 = .ok (.iconst 0, 1) := by decide +kernel
theorem dL_fails_452 : decode cL_fails 452 = .ok (.iconst (-1), 1) := by decide +kernel
theorem dL_fails_453 : decode cL_fails 453 = .ok (.iconst 1, 1) := by decide +kernel
theorem dL_fails_454 : decode cL_fails 454 = .ok (.invokevirtual 77, 3) := by decide +kernel
theorem dL_fails_457 : decode cL_fails 457 = .ok (.iconst (-1), 1) := by decide +kernel
theorem dL_fails_458 : decode cL_fails 458 = .ok (.if_icmp .ne 37, 3) := by decide +kernel
theorem dL_fails_461 : decode cL_fails 461 = .ok (.aload_n 0, 1) := by decide +kernel
theorem dL_fails_462 : decode cL_fails 462 = .ok (.iconst 3, 1) := by decide +kernel
theorem dL_fails_463 : decode cL_fails 463 = .ok (.iconst 0, 1) := by decide +kernel
theorem dL_fails_464 : decode cL_fails 464 = .ok (.invokevirtual 80, 3) := by decide +kernel
theorem dL_fails_467 : decode cL_fails 467 = .ok (.iconst (-1), 1) := by decide +kernel
theorem dL_fails_468 : decode cL_fails 468 = .ok (.if_icmp .ne 27, 3) := by decide +kernel
theorem dL_fails_471 : decode cL_fails 471 = .ok (.aload_n 0, 1) := by decide +kernel
theorem dL_fails_472 : decode cL_fails 472 = .ok (.iconst 1, 1) := by decide +kernel
theorem dL_fails_473 : decode cL_fails 473 = .ok (.iconst 1, 1) := by decide +kernel
theorem dL_fails_474 : decode cL_fails 474 = .ok (.invokevirtual 83, 3) := by decide +kernel
theorem dL_fails_477 : decode cL_fails 477 = .ok (.iconst (-1), 1) := by decide +kernel
theorem dL_fails_478 : decode cL_fails 478 = .ok (.if_icmp .ne 17, 3) := by decide +kernel
theorem dL_fails_481 : decode cL_fails 481 = .ok (.aload_n 0, 1) := by decide +kernel
theorem dL_fails_482 : decode cL_fails 482 = .ok (.iconst 0, 1) := by decide +kernel
theorem dL_fails_483 : decode cL_fails 483 = .ok (.iconst 3, 1) := by decide +kernel
theorem dL_fails_484 : decode cL_fails 484 = .ok (.invokevirtual 83, 3) := by decide +kernel
theorem dL_fails_487 : decode cL_fails 487 = .ok (.iconst (-1), 1) := by decide +kernel
theorem dL_fails_488 : decode cL_fails 488 = .ok (.if_icmp .ne 7, 3) := by decide +kernel
theorem dL_fails_491 : decode cL_fails 491 = .ok (.iconst 1, 1) := by decide +kernel
theorem dL_fails_492 : decode cL_fails 492 = .ok (.goto 4, 3) := by decide +kernel
theorem dL_fails_495 : decode cL_fails 495 = .ok (.iconst 0, 1) := by decide +kernel
theorem dL_fails_496 : decode cL_fails 496 = .ok (.istore_n 3, 1) := by decide +kernel
theorem dL_fails_497 : decode cL_fails 497 = .ok (.iload_n 3, 1) := by decide +kernel
theorem dL_fails_498 : decode cL_fails 498 = .ok (.ifCond .eq 16, 3) := by decide +kernel
theorem dL_fails_501 : decode cL_fails 501 = .ok (.aload_n 0, 1) := by decide +kernel
theorem dL_fails_502 : decode cL_fails 502 = .ok (.invokevirtual 9, 3) := by decide +kernel
theorem dL_fails_505 : decode cL_fails 505 = .ok (.lload_n 1, 1) := by decide +kernel
theorem dL_fails_506 : decode cL_fails 506 = .ok (.lcmp, 1) := by decide +kernel
theorem dL_fails_507 : decode cL_fails 507 = .ok (.ifCond .ne 7, 3) := by decide +kernel
theorem dL_fails_510 : decode cL_fails 510 = .ok (.iconst 1, 1) := by decide +kernel
theorem dL_fails_511 : decode cL_fails 511 = .ok (.goto 4, 3) := by decide +kernel
theorem dL_fails_514 : decode cL_fails 514 = .ok (.iconst 0, 1) := by decide +kernel
theorem dL_fails_515 : decode cL_fails 515 = .ok (.ireturn, 1) := by decide +kernel
set_option maxRecDepth 20000 in
theorem ggL_numbers_X3_size : GoodIn wsL_numbers wsX3_size := goodIn_r _ [5, 6, 7, 8, 4, 9, 10, 11, 12, 13, 14, 15, 16, 17, 18, 19, 20, 21, 22, 23, 24, 25, 26, 27, 28, 29, 96, 97, 98, 99, 100, 101, 102, 103, 104] (by decide +kernel) (by decide +kernel)
set_option maxRecDepth 20000 in
theorem gL_numbers_X3_size : GoodIn wsL_numbers (wsV RL 36 RX3 yX3_size wsX3_size) := goodIn_app (goodIn_of _ (by decide +kernel)) ggL_numbers_X3_size
set_option maxRecDepth 20000 in
theorem ggL_numbers_X3_runs : GoodIn wsL_numbers wsX3_runs := goodIn_r _ [33, 6, 7, 8, 4, 9, 34, 11, 35, 36, 37, 18, 19, 20, 21, 22, 23, 24, 25, 26, 27, 28, 29, 96, 97, 98, 99, 100, 101, 102, 103, 104] (by decide +kernel) (by decide +kernel)
set_option maxRecDepth 20000 in
theorem gL_numbers_X3_runs : GoodIn wsL_numbers (wsV RL 53 RX3 yX3_runs wsX3_runs) := goodIn_app (goodIn_of _ (by decide +kernel)) ggL_numbers_X3_runs
set_option maxRecDepth 20000 in
theorem ggL_numbers_X3_run : GoodIn wsL_numbers wsX3_run := goodIn_r _ [41, 6, 7, 8, 4, 9, 42, 43, 44, 45, 46, 47, 11, 48, 49, 22, 18, 19, 20, 21, 50, 51, 52, 53, 54, 55, 37, 56, 57, 58, 23, 24, 25, 26, 27, 28, 29, 59, 60, 61, 96, 97, 98, 99, 100, 101, 102, 103, 104] (by decide +kernel) (by decide +kernel)
set_option maxRecDepth 20000 in
theorem gL_numbers_X3_run : GoodIn wsL_numbers (wsV RL 56 RX3 yX3_run wsX3_run) := goodIn_app (goodIn_of _ (by decide +kernel)) ggL_numbers_X3_run
set_option maxRecDepth 20000 in
theorem ggL_numbers_X3_contains : GoodIn wsL_numbers wsX3_contains := goodIn_r _ [65, 6, 7, 8, 4, 9, 66, 11, 67, 68, 22, 69, 70, 96, 97, 98, 99, 100, 101, 102, 103, 104] (by decide +kernel) (by decide +kernel)
set_option maxRecDepth 20000 in
theorem gL_numbers_X3_contains : GoodIn wsL_numbers (wsV RL 40 RX3 yX3_contains wsX3_contains) := goodIn_app (goodIn_of _ (by decide +kernel)) ggL_numbers_X3_contains
set_option maxRecDepth 20000 in
theorem ggL_numbers_X3_rank : GoodIn wsL_numbers wsX3_rank := goodIn_r _ [74, 6, 7, 8, 4, 9, 75, 11, 76, 77, 22, 78, 79, 80, 81, 82, 83, 84, 85, 86, 87, 37, 23, 24, 25, 26, 27, 28, 29, 96, 97, 98, 99, 100, 101, 102, 103, 104] (by decide +kernel) (by decide +kernel)
set_option maxRecDepth 20000 in
theorem gL_numbers_X3_rank : GoodIn wsL_numbers (wsV RL 43 RX3 yX3_rank wsX3_rank) := goodIn_app (goodIn_of _ (by decide +kernel)) ggL_numbers_X3_rank
set_option maxRecDepth 20000 in
theorem ggL_numbers_X3_select : GoodIn wsL_numbers wsX3_select := goodIn_r _ [91, 6, 7, 8, 4, 9, 56, 11, 57, 58, 22, 23, 24, 25, 26, 27, 28, 29, 59, 60, 61, 96, 97, 98, 99, 100, 101, 102, 103, 104] (by decide +kernel) (by decide +kernel)
set_option maxRecDepth 20000 in
theorem gL_numbers_X3_select : GoodIn wsL_numbers (wsV RL 46 RX3 yX3_select wsX3_select) := goodIn_app (goodIn_of _ (by decide +kernel)) ggL_numbers_X3_select
set_option maxRecDepth 20000 in
theorem ggL_numbers_X3_near : GoodIn wsL_numbers wsX3_near := goodIn_r _ [95, 6, 7, 8, 4, 9, 75, 11, 76, 77, 22, 78, 79, 80, 81, 82, 83, 84, 85, 86, 87, 37, 23, 24, 25, 26, 27, 28, 29, 56, 57, 58, 59, 60, 61, 96, 97, 98, 99, 100, 101, 102, 103, 104] (by decide +kernel) (by decide +kernel)
set_option maxRecDepth 20000 in
theorem gL_numbers_X3_near : GoodIn wsL_numbers (wsV RL 49 RX3 yX3_near wsX3_near) := goodIn_app (goodIn_of _ (by decide +kernel)) ggL_numbers_X3_near
theorem dL_numbers_0 : decode cL_numbers 0 = .ok (.aload_n 0, 1) := by decide +kernel
theorem dL_numbers_1 : decode cL_numbers 1 = .ok (.iload_n 1, 1) := by decide +kernel
theorem dL_numbers_2 : decode cL_numbers 2 = .ok (.invokevirtual 36, 3) := by decide +kernel
theorem dL_numbers_5 : decode cL_numbers 5 = .ok (.istore_n 2, 1) := by decide +kernel
theorem dL_numbers_6 : decode cL_numbers 6 = .ok (.aload_n 0, 1) := by decide +kernel
theorem dL_numbers_7 : decode cL_numbers 7 = .ok (.iload_n 1, 1) := by decide +kernel
theorem dL_numbers_8 : decode cL_numbers 8 = .ok (.invokevirtual 53, 3) := by decide +kernel
theorem dL_numbers_11 : decode cL_numbers 11 = .ok (.istore_n 3, 1) := by decide +kernel
theorem dL_numbers_12 : decode cL_numbers 12 = .ok (.iconst 0, 1) := by decide +kernel
theorem dL_numbers_13 : decode cL_numbers 13 = .ok (.istore 4, 2) := by decide +kernel
theorem dL_numbers_15 : decode cL_numbers 15 = .ok (.bipush (-2), 2) := by decide +kernel
theorem dL_numbers_17 : decode cL_numbers 17 = .ok (.istore 5, 2) := by decide +kernel
theorem dL_numbers_19 : decode cL_numbers 19 = .ok (.iconst 0, 1) := by decide +kernel
theorem dL_numbers_20 : decode cL_numbers 20 = .ok (.istore 6, 2) := by decide +kernel
theorem dL_numbers_22 : decode cL_numbers 22 = .ok (.iload 6, 2) := by decide +kernel
theorem dL_numbers_24 : decode cL_numbers 24 = .ok (.iload_n 3, 1) := by decide +kernel
theorem dL_numbers_25 : decode cL_numbers 25 = .ok (.if_icmp .ge 179, 3) := by decide +kernel
theorem dL_numbers_28 : decode cL_numbers 28 = .ok (.aload_n 0, 1) := by decide +kernel
theorem dL_numbers_29 : decode cL_numbers 29 = .ok (.iload_n 1, 1) := by decide +kernel
theorem dL_numbers_30 : decode cL_numbers 30 = .ok (.iload 6, 2) := by decide +kernel
theorem dL_numbers_32 : decode cL_numbers 32 = .ok (.invokevirtual 56, 3) := by decide +kernel
theorem dL_numbers_35 : decode cL_numbers 35 = .ok (.sipush 4096, 3) := by decide +kernel
theorem dL_numbers_38 : decode cL_numbers 38 = .ok (.idiv, 1) := by decide +kernel
theorem dL_numbers_39 : decode cL_numbers 39 = .ok (.istore 7, 2) := by decide +kernel
theorem dL_numbers_41 : decode cL_numbers 41 = .ok (.aload_n 0, 1) := by decide +kernel
theorem dL_numbers_42 : decode cL_numbers 42 = .ok (.iload_n 1, 1) := by decide +kernel
theorem dL_numbers_43 : decode cL_numbers 43 = .ok (.iload 6, 2) := by decide +kernel
theorem dL_numbers_45 : decode cL_numbers 45 = .ok (.invokevirtual 56, 3) := by decide +kernel
theorem dL_numbers_48 : decode cL_numbers 48 = .ok (.sipush 4096, 3) := by decide +kernel
theorem dL_numbers_51 : decode cL_numbers 51 = .ok (.irem, 1) := by decide +kernel
theorem dL_numbers_52 : decode cL_numbers 52 = .ok (.istore 8, 2) := by decide +kernel
theorem dL_numbers_54 : decode cL_numbers 54 = .ok (.iload 7, 2) := by decide +kernel
theorem dL_numbers_56 : decode cL_numbers 56 = .ok (.iload 5, 2) := by decide +kernel
theorem dL_numbers_58 : decode cL_numbers 58 = .ok (.iconst 2, 1) := by decide +kernel
theorem dL_numbers_59 : decode cL_numbers 59 = .ok (.iadd, 1) := by decide +kernel
theorem dL_numbers_60 : decode cL_numbers 60 = .ok (.if_icmp .lt 120, 3) := by decide +kernel
theorem dL_numbers_63 : decode cL_numbers 63 = .ok (.iload 8, 2) := by decide +kernel
theorem dL_numbers_65 : decode cL_numbers 65 = .ok (.iload 7, 2) := by decide +kernel
theorem dL_numbers_67 : decode cL_numbers 67 = .ok (.if_icmp .lt 113, 3) := by decide +kernel
theorem dL_numbers_70 : decode cL_numbers 70 = .ok (.aload_n 0, 1) := by decide +kernel
theorem dL_numbers_71 : decode cL_numbers 71 = .ok (.iload_n 1, 1) := by decide +kernel
theorem dL_numbers_72 : decode cL_numbers 72 = .ok (.iload 7, 2) := by decide +kernel
theorem dL_numbers_74 : decode cL_numbers 74 = .ok (.invokevirtual 40, 3) := by decide +kernel
theorem dL_numbers_77 : decode cL_numbers 77 = .ok (.iconst 1, 1) := by decide +kernel
theorem dL_numbers_78 : decode cL_numbers 78 = .ok (.if_icmp .ne 102, 3) := by decide +kernel
theorem dL_numbers_81 : decode cL_numbers 81 = .ok (.aload_n 0, 1) := by decide +kernel
theorem dL_numbers_82 : decode cL_numbers 82 = .ok (.iload_n 1, 1) := by decide +kernel
