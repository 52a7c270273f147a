theorem dX1_holds_20 : decode cX1_holds 20 = .ok (.lushr, 1) := by decide +kernel
theorem dX1_holds_21 : decode cX1_holds 21 = .ok (.lconst 1, 1) := by decide +kernel
theorem dX1_holds_22 : decode cX1_holds 22 = .ok (.land, 1) := by decide +kernel
theorem dX1_holds_23 : decode cX1_holds 23 = .ok (.lconst 0, 1) := by decide +kernel
theorem dX1_holds_24 : decode cX1_holds 24 = .ok (.lcmp, 1) := by decide +kernel
theorem dX1_holds_25 : decode cX1_holds 25 = .ok (.ifCond .eq 7, 3) := by decide +kernel
theorem dX1_holds_28 : decode cX1_holds 28 = .ok (.iconst 1, 1) := by decide +kernel
theorem dX1_holds_29 : decode cX1_holds 29 = .ok (.goto 4, 3) := by decide +kernel
theorem dX1_holds_32 : decode cX1_holds 32 = .ok (.iconst 0, 1) := by decide +kernel
theorem dX1_holds_33 : decode cX1_holds 33 = .ok (.ireturn, 1) := by decide +kernel
set_option maxRecDepth 20000 in
theorem ggX1_includeAll_X1_mask : GoodIn wsX1_includeAll wsX1_mask := goodIn_r _ [5, 6, 7, 8, 9, 10, 11, 12, 13] (by decide +kernel) (by decide +kernel)
set_option maxRecDepth 20000 in
theorem gX1_includeAll_X1_mask : GoodIn wsX1_includeAll (va_wsS RX1 41 yX1_mask wsX1_mask) := goodIn_app (goodIn_of _ (by decide +kernel)) ggX1_includeAll_X1_mask
theorem dX1_includeAll_0 : decode cX1_includeAll 0 = .ok (.iconst 0, 1) := by decide +kernel
theorem dX1_includeAll_1 : decode cX1_includeAll 1 = .ok (.istore_n 3, 1) := by decide +kernel
theorem dX1_includeAll_2 : decode cX1_includeAll 2 = .ok (.iload_n 3, 1) := by decide +kernel
theorem dX1_includeAll_3 : decode cX1_includeAll 3 = .ok (.bipush 64, 2) := by decide +kernel
theorem dX1_includeAll_5 : decode cX1_includeAll 5 = .ok (.if_icmp .ge 24, 3) := by decide +kernel
theorem dX1_includeAll_8 : decode cX1_includeAll 8 = .ok (.aload_n 0, 1) := by decide +kernel
theorem dX1_includeAll_9 : decode cX1_includeAll 9 = .ok (.getfield 9, 3) := by decide +kernel
theorem dX1_includeAll_12 : decode cX1_includeAll 12 = .ok (.iload_n 3, 1) := by decide +kernel
theorem dX1_includeAll_13 : decode cX1_includeAll 13 = .ok (.dup2, 1) := by decide +kernel
theorem dX1_includeAll_14 : decode cX1_includeAll 14 = .ok (.laload, 1) := by decide +kernel
theorem dX1_includeAll_15 : decode cX1_includeAll 15 = .ok (.iload_n 3, 1) := by decide +kernel
theorem dX1_includeAll_16 : decode cX1_includeAll 16 = .ok (.iload_n 1, 1) := by decide +kernel
theorem dX1_includeAll_17 : decode cX1_includeAll 17 = .ok (.iload_n 2, 1) := by decide +kernel
theorem dX1_includeAll_18 : decode cX1_includeAll 18 = .ok (.invokestatic 41, 3) := by decide +kernel
theorem dX1_includeAll_21 : decode cX1_includeAll 21 = .ok (.lor, 1) := by decide +kernel
theorem dX1_includeAll_22 : decode cX1_includeAll 22 = .ok (.lastore, 1) := by decide +kernel
theorem dX1_includeAll_23 : decode cX1_includeAll 23 = .ok (.iinc 3 1, 3) := by decide +kernel
theorem dX1_includeAll_26 : decode cX1_includeAll 26 = .ok (.goto (-24), 3) := by decide +kernel
theorem dX1_includeAll_29 : decode cX1_includeAll 29 = .ok (.return_, 1) := by decide +kernel
set_option maxRecDepth 20000 in
theorem ggX1_excludeAll_X1_mask : GoodIn wsX1_excludeAll wsX1_mask := goodIn_r _ [6, 7, 8, 9, 10, 11, 12, 13, 2] (by decide +kernel) (by decide +kernel)
set_option maxRecDepth 20000 in
theorem gX1_excludeAll_X1_mask : GoodIn wsX1_excludeAll (va_wsS RX1 41 yX1_mask wsX1_mask) := goodIn_app (goodIn_of _ (by decide +kernel)) ggX1_excludeAll_X1_mask
theorem dX1_excludeAll_0 : decode cX1_excludeAll 0 = .ok (.iconst 0, 1) := by decide +kernel
theorem dX1_excludeAll_1 : decode cX1_excludeAll 1 = .ok (.istore_n 3, 1) := by decide +kernel
theorem dX1_excludeAll_2 : decode cX1_excludeAll 2 = .ok (.iload_n 3, 1) := by decide +kernel
theorem dX1_excludeAll_3 : decode cX1_excludeAll 3 = .ok (.bipush 64, 2) := by decide +kernel
theorem dX1_excludeAll_5 : decode cX1_excludeAll 5 = .ok (.if_icmp .ge 28, 3) := by decide +kernel
theorem dX1_excludeAll_8 : decode cX1_excludeAll 8 = .ok (.aload_n 0, 1) := by decide +kernel
theorem dX1_excludeAll_9 : decode cX1_excludeAll 9 = .ok (.getfield 9, 3) := by decide +kernel
theorem dX1_excludeAll_12 : decode cX1_excludeAll 12 = .ok (.iload_n 3, 1) := by decide +kernel
theorem dX1_excludeAll_13 : decode cX1_excludeAll 13 = .ok (.dup2, 1) := by decide +kernel
theorem dX1_excludeAll_14 : decode cX1_excludeAll 14 = .ok (.laload, 1) := by decide +kernel
theorem dX1_excludeAll_15 : decode cX1_excludeAll 15 = .ok (.iload_n 3, 1) := by decide +kernel
theorem dX1_excludeAll_16 : decode cX1_excludeAll 16 = .ok (.iload_n 1, 1) := by decide +kernel
theorem dX1_excludeAll_17 : decode cX1_excludeAll 17 = .ok (.iload_n 2, 1) := by decide +kernel
theorem dX1_excludeAll_18 : decode cX1_excludeAll 18 = .ok (.invokestatic 41, 3) := by decide +kernel
theorem dX1_excludeAll_21 : decode cX1_excludeAll 21 = .ok (.ldc2_w 31, 3) := by decide +kernel
theorem dX1_excludeAll_24 : decode cX1_excludeAll 24 = .ok (.lxor, 1) := by decide +kernel
theorem dX1_excludeAll_25 : decode cX1_excludeAll 25 = .ok (.land, 1) := by decide +kernel
theorem dX1_excludeAll_26 : decode cX1_excludeAll 26 = .ok (.lastore, 1) := by decide +kernel
theorem dX1_excludeAll_27 : decode cX1_excludeAll 27 = .ok (.iinc 3 1, 3) := by decide +kernel
theorem dX1_excludeAll_30 : decode cX1_excludeAll 30 = .ok (.goto (-28), 3) := by decide +kernel
theorem dX1_excludeAll_33 : decode cX1_excludeAll 33 = .ok (.return_, 1) := by decide +kernel
set_option maxRecDepth 20000 in
theorem ggX1_turnAll_X1_mask : GoodIn wsX1_turnAll wsX1_mask := goodIn_r _ [5, 6, 7, 8, 9, 10, 11, 12, 13] (by decide +kernel) (by decide +kernel)
set_option maxRecDepth 20000 in
theorem gX1_turnAll_X1_mask : GoodIn wsX1_turnAll (va_wsS RX1 41 yX1_mask wsX1_mask) := goodIn_app (goodIn_of _ (by decide +kernel)) ggX1_turnAll_X1_mask
theorem dX1_turnAll_0 : decode cX1_turnAll 0 = .ok (.iconst 0, 1) := by decide +kernel
theorem dX1_turnAll_1 : decode cX1_turnAll 1 = .ok (.istore_n 3, 1) := by decide +kernel
theorem dX1_turnAll_2 : decode cX1_turnAll 2 = .ok (.iload_n 3, 1) := by decide +kernel
theorem dX1_turnAll_3 : decode cX1_turnAll 3 = .ok (.bipush 64, 2) := by decide +kernel
theorem dX1_turnAll_5 : decode cX1_turnAll 5 = .ok (.if_icmp .ge 24, 3) := by decide +kernel
theorem dX1_turnAll_8 : decode cX1_turnAll 8 = .ok (.aload_n 0, 1) := by decide +kernel
theorem dX1_turnAll_9 : decode cX1_turnAll 9 = .ok (.getfield 9, 3) := by decide +kernel
theorem dX1_turnAll_12 : decode cX1_turnAll 12 = .ok (.iload_n 3, 1) := by decide +kernel
theorem dX1_turnAll_13 : decode cX1_turnAll 13 = .ok (.dup2, 1) := by decide +kernel
theorem dX1_turnAll_14 : decode cX1_turnAll 14 = .ok (.laload, 1) := by decide +kernel
theorem dX1_turnAll_15 : decode cX1_turnAll 15 = .ok (.iload_n 3, 1) := by decide +kernel
theorem dX1_turnAll_16 : decode cX1_turnAll 16 = .ok (.iload_n 1, 1) := by decide +kernel
theorem dX1_turnAll_17 : decode cX1_turnAll 17 = .ok (.iload_n 2, 1) := by decide +kernel
theorem dX1_turnAll_18 : decode cX1_turnAll 18 = .ok (.invokestatic 41, 3) := by decide +kernel
theorem dX1_turnAll_21 : decode cX1_turnAll 21 = .ok (.lxor, 1) := by decide +kernel
theorem dX1_turnAll_22 : decode cX1_turnAll 22 = .ok (.lastore, 1) := by decide +kernel
theorem dX1_turnAll_23 : decode cX1_turnAll 23 = .ok (.iinc 3 1, 3) := by decide +kernel
theorem dX1_turnAll_26 : decode cX1_turnAll 26 = .ok (.goto (-24), 3) := by decide +kernel
theorem dX1_turnAll_29 : decode cX1_turnAll 29 = .ok (.return_, 1) := by decide +kernel
theorem dX1_mask_0 : decode cX1_mask 0 = .ok (.iload_n 1, 1) := by decide +kernel
theorem dX1_mask_1 : decode cX1_mask 1 = .ok (.bipush 64, 2) := by decide +kernel
theorem dX1_mask_3 : decode cX1_mask 3 = .ok (.iload_n 0, 1) := by decide +kernel
theorem dX1_mask_4 : decode cX1_mask 4 = .ok (.imul, 1) := by decide +kernel
theorem dX1_mask_5 : decode cX1_mask 5 = .ok (.invokestatic 45, 3) := by decide +kernel
theorem dX1_mask_8 : decode cX1_mask 8 = .ok (.istore_n 3, 1) := by decide +kernel
theorem dX1_mask_9 : decode cX1_mask 9 = .ok (.iload_n 2, 1) := by decide +kernel
theorem dX1_mask_10 : decode cX1_mask 10 = .ok (.bipush 64, 2) := by decide +kernel
theorem dX1_mask_12 : decode cX1_mask 12 = .ok (.iload_n 0, 1) := by decide +kernel
theorem dX1_mask_13 : decode cX1_mask 13 = .ok (.imul, 1) := by decide +kernel
theorem dX1_mask_14 : decode cX1_mask 14 = .ok (.bipush 63, 2) := by decide +kernel
theorem dX1_mask_16 : decode cX1_mask 16 = .ok (.iadd, 1) := by decide +kernel
theorem dX1_mask_17 : decode cX1_mask 17 = .ok (.invokestatic 51, 3) := by decide +kernel
theorem dX1_mask_20 : decode cX1_mask 20 = .ok (.istore 4, 2) := by decide +kernel
theorem dX1_mask_22 : decode cX1_mask 22 = .ok (.iload_n 3, 1) := by decide +kernel
theorem dX1_mask_23 : decode cX1_mask 23 = .ok (.iload 4, 2) := by decide +kernel
theorem dX1_mask_25 : decode cX1_mask 25 = .ok (.if_icmp .le 5, 3) := by decide +kernel
theorem dX1_mask_28 : decode cX1_mask 28 = .ok (.lconst 0, 1) := by decide +kernel
theorem dX1_mask_29 : decode cX1_mask 29 = .ok (.lreturn, 1) := by decide +kernel
theorem dX1_mask_30 : decode cX1_mask 30 = .ok (.ldc2_w 31, 3) := by decide +kernel
theorem dX1_mask_33 : decode cX1_mask 33 = .ok (.iload_n 3, 1) := by decide +kernel
theorem dX1_mask_34 : decode cX1_mask 34 = .ok (.bipush 63, 2) := by decide +kernel
theorem dX1_mask_36 : decode cX1_mask 36 = .ok (.iand, 1) := by decide +kernel
theorem dX1_mask_37 : decode cX1_mask 37 = .ok (.lshl, 1) := by decide +kernel
theorem dX1_mask_38 : decode cX1_mask 38 = .ok (.ldc2_w 31, 3) := by decide +kernel
theorem dX1_mask_41 : decode cX1_mask 41 = .ok (.bipush 63, 2) := by decide +kernel
theorem dX1_mask_43 : decode cX1_mask 43 = .ok (.iload 4, 2) := by decide +kernel
theorem dX1_mask_45 : decode cX1_mask 45 = .ok (.bipush 63, 2) := by decide +kernel
theorem dX1_mask_47 : decode cX1_mask 47 = .ok (.iand, 1) := by decide +kernel
theorem dX1_mask_48 : decode cX1_mask 48 = .ok (.isub, 1) := by decide +kernel
theorem dX1_mask_49 : decode cX1_mask 49 = .ok (.lushr, 1) := by decide +kernel
theorem dX1_mask_50 : decode cX1_mask 50 = .ok (.land, 1) := by decide +kernel
theorem dX1_mask_51 : decode cX1_mask 51 = .ok (.lreturn, 1) := by decide +kernel
set_option maxRecDepth 20000 in
theorem ggX1_count_X1_countInPiece : GoodIn wsX1_count wsX1_countInPiece := goodIn_r _ [5, 6, 7, 8, 4, 9, 10, 11, 12, 13, 14, 15, 16, 17, 18] (by decide +kernel) (by decide +kernel)
set_option maxRecDepth 20000 in
theorem gX1_count_X1_countInPiece : GoodIn wsX1_count (wsV RX1 54 RX1 yX1_countInPiece wsX1_countInPiece) := goodIn_app (goodIn_of _ (by decide +kernel)) ggX1_count_X1_countInPiece
theorem dX1_count_0 : decode cX1_count 0 = .ok (.iconst 0, 1) := by decide +kernel
theorem dX1_count_1 : decode cX1_count 1 = .ok (.istore_n 1, 1) := by decide +kernel
theorem dX1_count_2 : decode cX1_count 2 = .ok (.iconst 0, 1) := by decide +kernel
theorem dX1_count_3 : decode cX1_count 3 = .ok (.istore_n 2, 1) := by decide +kernel
theorem dX1_count_4 : decode cX1_count 4 = .ok (.iload_n 2, 1) := by decide +kernel
theorem dX1_count_5 : decode cX1_count 5 = .ok (.bipush 16, 2) := by decide +kernel
theorem dX1_count_7 : decode cX1_count 7 = .ok (.if_icmp .ge 17, 3) := by decide +kernel
theorem dX1_count_10 : decode cX1_count 10 = .ok (.iload_n 1, 1) := by decide +kernel
theorem dX1_count_11 : decode cX1_count 11 = .ok (.aload_n 0, 1) := by decide +kernel
theorem dX1_count_12 : decode cX1_count 12 = .ok (.iload_n 2, 1) := by decide +kernel
theorem dX1_count_13 : decode cX1_count 13 = .ok (.invokevirtual 54, 3) := by decide +kernel
theorem dX1_count_16 : decode cX1_count 16 = .ok (.iadd, 1) := by decide +kernel
theorem dX1_count_17 : decode cX1_count 17 = .ok (.istore_n 1, 1) := by decide +kernel
theorem dX1_count_18 : decode cX1_count 18 = .ok (.iinc 2 1, 3) := by decide +kernel
theorem dX1_count_21 : decode cX1_count 21 = .ok (.goto (-17), 3) := by decide +kernel
theorem dX1_count_24 : decode cX1_count 24 = .ok (.iload_n 1, 1) := by decide +kernel
theorem dX1_count_25 : decode cX1_count 25 = .ok (.ireturn, 1) := by decide +kernel
set_option maxRecDepth 20000 in
theorem ggX1_countInPiece_X1_wordAt : GoodIn wsX1_countInPiece wsX1_wordAt := goodIn_r _ [5, 6, 14] (by decide +kernel) (by decide +kernel)
set_option maxRecDepth 20000 in
theorem gX1_countInPiece_X1_wordAt : GoodIn wsX1_countInPiece (wsV RX1 33 RX1 yX1_wordAt wsX1_wordAt) := goodIn_app (goodIn_of _ (by decide +kernel)) ggX1_countInPiece_X1_wordAt
set_option maxRecDepth 20000 in
theorem ggX1_countInPiece_J13_bitCount_95d88 : GoodIn wsX1_countInPiece wsJ13_bitCount_95d88 := goodIn_r _ [10, 11, 12, 13] (by decide +kernel) (by decide +kernel)
set_option maxRecDepth 20000 in
theorem gX1_countInPiece_J13_bitCount_95d88 : GoodIn wsX1_countInPiece (va_wsS RX1 58 yJ13_bitCount_95d88 wsJ13_bitCount_95d88) := goodIn_app (goodIn_of _ (by decide +kernel)) ggX1_countInPiece_J13_bitCount_95d88
theorem dX1_countInPiece_0 : decode cX1_countInPiece 0 = .ok (.iconst 0, 1) := by decide +kernel
theorem dX1_countInPiece_1 : decode cX1_countInPiece 1 = .ok (.istore_n 2, 1) := by decide +kernel
theorem dX1_countInPiece_2 : decode cX1_countInPiece 2 = .ok (.iconst 0, 1) := by decide +kernel
theorem dX1_countInPiece_3 : decode cX1_countInPiece 3 = .ok (.istore_n 3, 1) := by decide +kernel
theorem dX1_countInPiece_4 : decode cX1_countInPiece 4 = .ok (.iload_n 3, 1) := by decide +kernel
theorem dX1_countInPiece_5 : decode cX1_countInPiece 5 = .ok (.iconst 4, 1) := by decide +kernel
theorem dX1_countInPiece_6 : decode cX1_countInPiece 6 = .ok (.if_icmp .ge 24, 3) := by decide +kernel
theorem dX1_countInPiece_9 : decode cX1_countInPiece 9 = .ok (.iload_n 2, 1) := by decide +kernel
theorem dX1_countInPiece_10 : decode cX1_countInPiece 10 = .ok (.aload_n 0, 1) := by decide +kernel
theorem dX1_countInPiece_11 : decode cX1_countInPiece 11 = .ok (.iconst 4, 1) := by decide +kernel
theorem dX1_countInPiece_12 : decode cX1_countInPiece 12 = .ok (.iload_n 1, 1) := by decide +kernel
theorem dX1_countInPiece_13 : decode cX1_countInPiece 13 = .ok (.imul, 1) := by decide +kernel
theorem dX1_countInPiece_14 : decode cX1_countInPiece 14 = .ok (.iload_n 3, 1) := by decide +kernel
theorem dX1_countInPiece_15 : decode cX1_countInPiece 15 = .ok (.iadd, 1) := by decide +kernel
theorem dX1_countInPiece_16 : decode cX1_countInPiece 16 = .ok (.invokevirtual 33, 3) := by decide +kernel
theorem dX1_countInPiece_19 : decode cX1_countInPiece 19 = .ok (.invokestatic 58, 3) := by decide +kernel
theorem dX1_countInPiece_22 : decode cX1_countInPiece 22 = .ok (.iadd, 1) := by decide +kernel
theorem dX1_countInPiece_23 : decode cX1_countInPiece 23 = .ok (.istore_n 2, 1) := by decide +kernel
theorem dX1_countInPiece_24 : decode cX1_countInPiece 24 = .ok (.iinc 3 1, 3) := by decide +kernel
theorem dX1_countInPiece_27 : decode cX1_countInPiece 27 = .ok (.goto (-23), 3) := by decide +kernel
theorem dX1_countInPiece_30 : decode cX1_countInPiece 30 = .ok (.iload_n 2, 1) := by decide +kernel
theorem dX1_countInPiece_31 : decode cX1_countInPiece 31 = .ok (.ireturn, 1) := by decide +kernel
set_option maxRecDepth 20000 in
theorem ggX1_countIn_X1_mask : GoodIn wsX1_countIn wsX1_mask := goodIn_r _ [5, 6, 7, 8, 9, 10, 11, 12, 13] (by decide +kernel) (by decide +kernel)
set_option maxRecDepth 20000 in
theorem gX1_countIn_X1_mask : GoodIn wsX1_countIn (va_wsS RX1 41 yX1_mask wsX1_mask) := goodIn_app (goodIn_of _ (by decide +kernel)) ggX1_countIn_X1_mask
set_option maxRecDepth 20000 in
theorem ggX1_countIn_J13_bitCount_95d88 : GoodIn wsX1_countIn wsJ13_bitCount_95d88 := goodIn_r _ [17, 18, 19, 20] (by decide +kernel) (by decide +kernel)
set_option maxRecDepth 20000 in
theorem gX1_countIn_J13_bitCount_95d88 : GoodIn wsX1_countIn (va_wsS RX1 58 yJ13_bitCount_95d88 wsJ13_bitCount_95d88) := goodIn_app (goodIn_of _ (by decide +kernel)) ggX1_countIn_J13_bitCount_95d88
theorem dX1_countIn_0 : decode cX1_countIn 0 = .ok (.iconst 0, 1) := by decide +kernel
theorem dX1_countIn_1 : decode cX1_countIn 1 = .ok (.istore_n 3, 1) := by decide +kernel
theorem dX1_countIn_2 : decode cX1_countIn 2 = .ok (.iconst 0, 1) := by decide +kernel
theorem dX1_countIn_3 : decode cX1_countIn 3 = .ok (.istore 4, 2) := by decide +kernel
theorem dX1_countIn_5 : decode cX1_countIn 5 = .ok (.iload 4, 2) := by decide +kernel
theorem dX1_countIn_7 : decode cX1_countIn 7 = .ok (.bipush 64, 2) := by decide +kernel
theorem dX1_countIn_9 : decode cX1_countIn 9 = .ok (.if_icmp .ge 30, 3) := by decide +kernel
theorem dX1_countIn_12 : decode cX1_countIn 12 = .ok (.iload_n 3, 1) := by decide +kernel
theorem dX1_countIn_13 : decode cX1_countIn 13 = .ok (.aload_n 0, 1) := by decide +kernel
theorem dX1_countIn_14 : decode cX1_countIn 14 = .ok (.getfield 9, 3) := by decide +kernel
theorem dX1_countIn_17 : decode cX1_countIn 17 = .ok (.iload 4, 2) := by decide +kernel
theorem dX1_countIn_19 : decode cX1_countIn 19 = .ok (.laload, 1) := by decide +kernel
theorem dX1_countIn_20 : decode cX1_countIn 20 = .ok (.iload 4, 2) := by decide +kernel
theorem dX1_countIn_22 : decode cX1_countIn 22 = .ok (.iload_n 1, 1) := by decide +kernel
theorem dX1_countIn_23 : decode cX1_countIn 23 = .ok (.iload_n 2, 1) := by decide +kernel
theorem dX1_countIn_24 : decode cX1_countIn 24 = .ok (.invokestatic 41, 3) := by decide +kernel
theorem dX1_countIn_27 : decode cX1_countIn 27 = .ok (.land, 1) := by decide +kernel
theorem dX1_countIn_28 : decode cX1_countIn 28 = .ok (.invokestatic 58, 3) := by decide +kernel
theorem dX1_countIn_31 : decode cX1_countIn 31 = .ok (.iadd, 1) := by decide +kernel
theorem dX1_countIn_32 : decode cX1_countIn 32 = .ok (.istore_n 3, 1) := by decide +kernel
theorem dX1_countIn_33 : decode cX1_countIn 33 = .ok (.iinc 4 1, 3) := by decide +kernel
theorem dX1_countIn_36 : decode cX1_countIn 36 = .ok (.goto (-31), 3) := by decide +kernel
theorem dX1_countIn_39 : decode cX1_countIn 39 = .ok (.iload_n 3, 1) := by decide +kernel
theorem dX1_countIn_40 : decode cX1_countIn 40 = .ok (.ireturn, 1) := by decide +kernel
set_option maxRecDepth 20000 in
theorem ggX1_countRuns_X1_wordAt : GoodIn wsX1_countRuns wsX1_wordAt := goodIn_r _ [6, 7, 15] (by decide +kernel) (by decide +kernel)
set_option maxRecDepth 20000 in
theorem gX1_countRuns_X1_wordAt : GoodIn wsX1_countRuns (wsV RX1 33 RX1 yX1_wordAt wsX1_wordAt) := goodIn_app (goodIn_of _ (by decide +kernel)) ggX1_countRuns_X1_wordAt
set_option maxRecDepth 20000 in
theorem ggX1_countRuns_J13_bitCount_95d88 : GoodIn wsX1_countRuns wsJ13_bitCount_95d88 := goodIn_r _ [11, 12, 13, 14] (by decide +kernel) (by decide +kernel)
set_option maxRecDepth 20000 in
theorem gX1_countRuns_J13_bitCount_95d88 : GoodIn wsX1_countRuns (va_wsS RX1 58 yJ13_bitCount_95d88 wsJ13_bitCount_95d88) := goodIn_app (goodIn_of _ (by decide +kernel)) ggX1_countRuns_J13_bitCount_95d88
theorem dX1_countRuns_0 : decode cX1_countRuns 0 = .ok (.iconst 0, 1) := by decide +kernel
theorem dX1_countRuns_1 : decode cX1_countRuns 1 = .ok (.istore_n 3, 1) := by decide +kernel
theorem dX1_countRuns_2 : decode cX1_countRuns 2 = .ok (.lconst 0, 1) := by decide +kernel
theorem dX1_countRuns_3 : decode cX1_countRuns 3 = .ok (.lstore 4, 2) := by decide +kernel
theorem dX1_countRuns_5 : decode cX1_countRuns 5 = .ok (.iconst 0, 1) := by decide +kernel
theorem dX1_countRuns_6 : decode cX1_countRuns 6 = .ok (.istore 6, 2) := by decide +kernel
theorem dX1_countRuns_8 : decode cX1_countRuns 8 = .ok (.iload 6, 2) := by decide +kernel
theorem dX1_countRuns_10 : decode cX1_countRuns 10 = .ok (.iconst 4, 1) := by decide +kernel
theorem dX1_countRuns_11 : decode cX1_countRuns 11 = .ok (.iload_n 2, 1) := by decide +kernel
theorem dX1_countRuns_12 : decode cX1_countRuns 12 = .ok (.imul, 1) := by decide +kernel
theorem dX1_countRuns_13 : decode cX1_countRuns 13 = .ok (.if_icmp .ge 48, 3) := by decide +kernel
theorem dX1_countRuns_16 : decode cX1_countRuns 16 = .ok (.aload_n 0, 1) := by decide +kernel
theorem dX1_countRuns_17 : decode cX1_countRuns 17 = .ok (.iconst 4, 1) := by decide +kernel
theorem dX1_countRuns_18 : decode cX1_countRuns 18 = .ok (.iload_n 1, 1) := by decide +kernel
theorem dX1_countRuns_19 : decode cX1_countRuns 19 = .ok (.imul, 1) := by decide +kernel
theorem dX1_countRuns_20 : decode cX1_countRuns 20 = .ok (.iload 6, 2) := by decide +kernel
theorem dX1_countRuns_22 : decode cX1_countRuns 22 = .ok (.iadd, 1) := by decide +kernel
theorem dX1_countRuns_23 : decode cX1_countRuns 23 = .ok (.invokevirtual 33, 3) := by decide +kernel
theorem dX1_countRuns_26 : decode cX1_countRuns 26 = .ok (.lstore 7, 2) := by decide +kernel
theorem dX1_countRuns_28 : decode cX1_countRuns 28 = .ok (.iload_n 3, 1) := by decide +kernel
theorem dX1_countRuns_29 : decode cX1_countRuns 29 = .ok (.lload 7, 2) := by decide +kernel
theorem dX1_countRuns_31 : decode cX1_countRuns 31 = .ok (.lload 7, 2) := by decide +kernel
theorem dX1_countRuns_33 : decode cX1_countRuns 33 = .ok (.iconst 1, 1) := by decide +kernel
theorem dX1_countRuns_34 : decode cX1_countRuns 34 = .ok (.lshl, 1) := by decide +kernel
theorem dX1_countRuns_35 : decode cX1_countRuns 35 = .ok (.lload 4, 2) := by decide +kernel
theorem dX1_countRuns_37 : decode cX1_countRuns 37 = .ok (.lor, 1) := by decide +kernel
theorem dX1_countRuns_38 : decode cX1_countRuns 38 = .ok (.ldc2_w 31, 3) := by decide +kernel
theorem dX1_countRuns_41 : decode cX1_countRuns 41 = .ok (.lxor, 1) := by decide +kernel
theorem dX1_countRuns_42 : decode cX1_countRuns 42 = .ok (.land, 1) := by decide +kernel
theorem dX1_countRuns_43 : decode cX1_countRuns 43 = .ok (.invokestatic 58, 3) := by decide +kernel
theorem dX1_countRuns_46 : decode cX1_countRuns 46 = .ok (.iadd, 1) := by decide +kernel
theorem dX1_countRuns_47 : decode cX1_countRuns 47 = .ok (.istore_n 3, 1) := by decide +kernel
theorem dX1_countRuns_48 : decode cX1_countRuns 48 = .ok (.lload 7, 2) := by decide +kernel
theorem dX1_countRuns_50 : decode cX1_countRuns 50 = .ok (.bipush 63, 2) := by decide +kernel
theorem dX1_countRuns_52 : decode cX1_countRuns 52 = .ok (.lushr, 1) := by decide +kernel
theorem dX1_countRuns_53 : decode cX1_countRuns 53 = .ok (.lstore 4, 2) := by decide +kernel
theorem dX1_countRuns_55 : decode cX1_countRuns 55 = .ok (.iinc 6 1, 3) := by decide +kernel
theorem dX1_countRuns_58 : decode cX1_countRuns 58 = .ok (.goto (-50), 3) := by decide +kernel
theorem dX1_countRuns_61 : decode cX1_countRuns 61 = .ok (.iload_n 3, 1) := by decide +kernel
theorem dX1_countRuns_62 : decode cX1_countRuns 62 = .ok (.ireturn, 1) := by decide +kernel
set_option maxRecDepth 20000 in
theorem ggX1_nth_J13_bitCount_95d88 : GoodIn wsX1_nth wsJ13_bitCount_95d88 := goodIn_r _ [5, 6, 7, 8] (by decide +kernel) (by decide +kernel)
set_option maxRecDepth 20000 in
theorem gX1_nth_J13_bitCount_95d88 : GoodIn wsX1_nth (va_wsS RX1 58 yJ13_bitCount_95d88 wsJ13_bitCount_95d88) := goodIn_app (goodIn_of _ (by decide +kernel)) ggX1_nth_J13_bitCount_95d88
set_option maxRecDepth 20000 in
theorem ggX1_nth_X1_nthBit : GoodIn wsX1_nth wsX1_nthBit := goodIn_r _ [12] (by decide +kernel) (by decide +kernel)
set_option maxRecDepth 20000 in
theorem gX1_nth_X1_nthBit : GoodIn wsX1_nth (va_wsS RX1 64 yX1_nthBit wsX1_nthBit) := goodIn_app (goodIn_of _ (by decide +kernel)) ggX1_nth_X1_nthBit
theorem dX1_nth_0 : decode cX1_nth 0 = .ok (.iload_n 1, 1) := by decide +kernel
theorem dX1_nth_1 : decode cX1_nth 1 = .ok (.ifCond .ge 6, 3) := by decide +kernel
theorem dX1_nth_4 : decode cX1_nth 4 = .ok (.bipush (-9), 2) := by decide +kernel
theorem dX1_nth_6 : decode cX1_nth 6 = .ok (.ireturn, 1) := by decide +kernel
theorem dX1_nth_7 : decode cX1_nth 7 = .ok (.iload_n 1, 1) := by decide +kernel
theorem dX1_nth_8 : decode cX1_nth 8 = .ok (.istore_n 2, 1) := by decide +kernel
theorem dX1_nth_9 : decode cX1_nth 9 = .ok (.iconst 0, 1) := by decide +kernel
theorem dX1_nth_10 : decode cX1_nth 10 = .ok (.istore_n 3, 1) := by decide +kernel
theorem dX1_nth_11 : decode cX1_nth 11 = .ok (.iload_n 3, 1) := by decide +kernel
theorem dX1_nth_12 : decode cX1_nth 12 = .ok (.bipush 64, 2) := by decide +kernel
theorem dX1_nth_14 : decode cX1_nth 14 = .ok (.if_icmp .ge 47, 3) := by decide +kernel
theorem dX1_nth_17 : decode cX1_nth 17 = .ok (.aload_n 0, 1) := by decide +kernel
theorem dX1_nth_18 : decode cX1_nth 18 = .ok (.getfield 9, 3) := by decide +kernel
theorem dX1_nth_21 : decode cX1_nth 21 = .ok (.iload_n 3, 1) := by decide +kernel
theorem dX1_nth_22 : decode cX1_nth 22 = .ok (.laload, 1) := by decide +kernel
theorem dX1_nth_23 : decode cX1_nth 23 = .ok (.invokestatic 58, 3) := by decide +kernel
theorem dX1_nth_26 : decode cX1_nth 26 = .ok (.istore 4, 2) := by decide +kernel
theorem dX1_nth_28 : decode cX1_nth 28 = .ok (.iload_n 2, 1) := by decide +kernel
theorem dX1_nth_29 : decode cX1_nth 29 = .ok (.iload 4, 2) := by decide +kernel
theorem dX1_nth_31 : decode cX1_nth 31 = .ok (.if_icmp .ge 19, 3) := by decide +kernel
theorem dX1_nth_34 : decode cX1_nth 34 = .ok (.bipush 64, 2) := by decide +kernel
theorem dX1_nth_36 : decode cX1_nth 36 = .ok (.iload_n 3, 1) := by decide +kernel
theorem dX1_nth_37 : decode cX1_nth 37 = .ok (.imul, 1) := by decide +kernel
theorem dX1_nth_38 : decode cX1_nth 38 = .ok (.aload_n 0, 1) := by decide +kernel
theorem dX1_nth_39 : decode cX1_nth 39 = .ok (.getfield 9, 3) := by decide +kernel
theorem dX1_nth_42 : decode cX1_nth 42 = .ok (.iload_n 3, 1) := by decide +kernel
theorem dX1_nth_43 : decode cX1_nth 43 = .ok (.laload, 1) := by decide +kernel
theorem dX1_nth_44 : decode cX1_nth 44 = .ok (.iload_n 2, 1) := by decide +kernel
theorem dX1_nth_45 : decode cX1_nth 45 = .ok (.invokestatic 64, 3) := by decide +kernel
theorem dX1_nth_48 : decode cX1_nth 48 = .ok (.iadd, 1) := by decide +kernel
theorem dX1_nth_49 : decode cX1_nth 49 = .ok (.ireturn, 1) := by decide +kernel
theorem dX1_nth_50 : decode cX1_nth 50 = .ok (.iload_n 2, 1) := by decide +kernel
theorem dX1_nth_51 : decode cX1_nth 51 = .ok (.iload 4, 2) := by decide +kernel
theorem dX1_nth_53 : decode cX1_nth 53 = .ok (.isub, 1) := by decide +kernel
theorem dX1_nth_54 : decode cX1_nth 54 = .ok (.istore_n 2, 1) := by decide +kernel
theorem dX1_nth_55 : decode cX1_nth 55 = .ok (.iinc 3 1, 3) := by decide +kernel
theorem dX1_nth_58 : decode cX1_nth 58 = .ok (.goto (-47), 3) := by decide +kernel
theorem dX1_nth_61 : decode cX1_nth 61 = .ok (.bipush (-9), 2) := by decide +kernel
theorem dX1_nth_63 : decode cX1_nth 63 = .ok (.ireturn, 1) := by decide +kernel
theorem dX1_nthBit_0 : decode cX1_nthBit 0 = .ok (.iload_n 2, 1) := by decide +kernel
theorem dX1_nthBit_1 : decode cX1_nthBit 1 = .ok (.istore_n 3, 1) := by decide +kernel
theorem dX1_nthBit_2 : decode cX1_nthBit 2 = .ok (.iconst 0, 1) := by decide +kernel
theorem dX1_nthBit_3 : decode cX1_nthBit 3 = .ok (.istore 4, 2) := by decide +kernel
theorem dX1_nthBit_5 : decode cX1_nthBit 5 = .ok (.iload 4, 2) := by decide +kernel
theorem dX1_nthBit_7 : decode cX1_nthBit 7 = .ok (.bipush 64, 2) := by decide +kernel
theorem dX1_nthBit_9 : decode cX1_nthBit 9 = .ok (.if_icmp .ge 30, 3) := by decide +kernel
theorem dX1_nthBit_12 : decode cX1_nthBit 12 = .ok (.lload_n 0, 1) := by decide +kernel
theorem dX1_nthBit_13 : decode cX1_nthBit 13 = .ok (.iload 4, 2) := by decide +kernel
theorem dX1_nthBit_15 : decode cX1_nthBit 15 = .ok (.lushr, 1) := by decide +kernel
theorem dX1_nthBit_16 : decode cX1_nthBit 16 = .ok (.lconst 1, 1) := by decide +kernel
theorem dX1_nthBit_17 : decode cX1_nthBit 17 = .ok (.land, 1) := by decide +kernel
theorem dX1_nthBit_18 : decode cX1_nthBit 18 = .ok (.lconst 0, 1) := by decide +kernel
theorem dX1_nthBit_19 : decode cX1_nthBit 19 = .ok (.lcmp, 1) := by decide +kernel
theorem dX1_nthBit_20 : decode cX1_nthBit 20 = .ok (.ifCond .eq 13, 3) := by decide +kernel
theorem dX1_nthBit_23 : decode cX1_nthBit 23 = .ok (.iload_n 3, 1) := by decide +kernel
theorem dX1_nthBit_24 : decode cX1_nthBit 24 = .ok (.ifCond .ne 6, 3) := by decide +kernel
theorem dX1_nthBit_27 : decode cX1_nthBit 27 = .ok (.iload 4, 2) := by decide +kernel
theorem dX1_nthBit_29 : decode cX1_nthBit 29 = .ok (.ireturn, 1) := by decide +kernel
theorem dX1_nthBit_30 : decode cX1_nthBit 30 = .ok (.iinc 3 (-1), 3) := by decide +kernel
theorem dX1_nthBit_33 : decode cX1_nthBit 33 = .ok (.iinc 4 1, 3) := by decide +kernel
theorem dX1_nthBit_36 : decode cX1_nthBit 36 = .ok (.goto (-31), 3) := by decide +kernel
theorem dX1_nthBit_39 : decode cX1_nthBit 39 = .ok (.bipush (-9), 2) := by decide +kernel
theorem dX1_nthBit_41 : decode cX1_nthBit 41 = .ok (.ireturn, 1) := by decide +kernel
set_option maxRecDepth 20000 in
theorem ggX1_kindOf_X1_countInPiece : GoodIn wsX1_kindOf wsX1_countInPiece := goodIn_r _ [5, 6, 7, 8, 4, 9, 10, 11, 12, 13, 14, 15, 16, 17, 23] (by decide +kernel) (by decide +kernel)
set_option maxRecDepth 20000 in
theorem gX1_kindOf_X1_countInPiece : GoodIn wsX1_kindOf (wsV RX1 54 RX1 yX1_countInPiece wsX1_countInPiece) := goodIn_app (goodIn_of _ (by decide +kernel)) ggX1_kindOf_X1_countInPiece
set_option maxRecDepth 20000 in
theorem ggX1_kindOf_X1_countRuns : GoodIn wsX1_kindOf wsX1_countRuns := goodIn_r _ [21, 22, 6, 7, 8, 4, 9, 10, 11, 12, 13, 14, 15, 16, 17, 23] (by decide +kernel) (by decide +kernel)
set_option maxRecDepth 20000 in
theorem gX1_kindOf_X1_countRuns : GoodIn wsX1_kindOf (wsV RX1 68 RX1 yX1_countRuns wsX1_countRuns) := goodIn_app (goodIn_of _ (by decide +kernel)) ggX1_kindOf_X1_countRuns
theorem dX1_kindOf_0 : decode cX1_kindOf 0 = .ok (.aload_n 0, 1) := by decide +kernel
theorem dX1_kindOf_1 : decode cX1_kindOf 1 = .ok (.iload_n 1, 1) := by decide +kernel
theorem dX1_kindOf_2 : decode cX1_kindOf 2 = .ok (.invokevirtual 54, 3) := by decide +kernel
theorem dX1_kindOf_5 : decode cX1_kindOf 5 = .ok (.istore_n 2, 1) := by decide +kernel
theorem dX1_kindOf_6 : decode cX1_kindOf 6 = .ok (.iload_n 2, 1) := by decide +kernel
theorem dX1_kindOf_7 : decode cX1_kindOf 7 = .ok (.ifCond .ne 6, 3) := by decide +kernel
theorem dX1_kindOf_10 : decode cX1_kindOf 10 = .ok (.bipush (-9), 2) := by decide +kernel
theorem dX1_kindOf_12 : decode cX1_kindOf 12 = .ok (.ireturn, 1) := by decide +kernel
theorem dX1_kindOf_13 : decode cX1_kindOf 13 = .ok (.iconst 2, 1) := by decide +kernel
theorem dX1_kindOf_14 : decode cX1_kindOf 14 = .ok (.iload_n 2, 1) := by decide +kernel
theorem dX1_kindOf_15 : decode cX1_kindOf 15 = .ok (.iadd, 1) := by decide +kernel
theorem dX1_kindOf_16 : decode cX1_kindOf 16 = .ok (.istore_n 3, 1) := by decide +kernel
theorem dX1_kindOf_17 : decode cX1_kindOf 17 = .ok (.iconst 2, 1) := by decide +kernel
theorem dX1_kindOf_18 : decode cX1_kindOf 18 = .ok (.iconst 2, 1) := by decide +kernel
theorem dX1_kindOf_19 : decode cX1_kindOf 19 = .ok (.aload_n 0, 1) := by decide +kernel
theorem dX1_kindOf_20 : decode cX1_kindOf 20 = .ok (.iload_n 1, 1) := by decide +kernel
theorem dX1_kindOf_21 : decode cX1_kindOf 21 = .ok (.iconst 1, 1) := by decide +kernel
theorem dX1_kindOf_22 : decode cX1_kindOf 22 = .ok (.invokevirtual 68, 3) := by decide +kernel
theorem dX1_kindOf_25 : decode cX1_kindOf 25 = .ok (.imul, 1) := by decide +kernel
theorem dX1_kindOf_26 : decode cX1_kindOf 26 = .ok (.iadd, 1) := by decide +kernel
theorem dX1_kindOf_27 : decode cX1_kindOf 27 = .ok (.istore 4, 2) := by decide +kernel
theorem dX1_kindOf_29 : decode cX1_kindOf 29 = .ok (.iload_n 3, 1) := by decide +kernel
theorem dX1_kindOf_30 : decode cX1_kindOf 30 = .ok (.iload 4, 2) := by decide +kernel
theorem dX1_kindOf_32 : decode cX1_kindOf 32 = .ok (.if_icmp .gt 11, 3) := by decide +kernel
theorem dX1_kindOf_35 : decode cX1_kindOf 35 = .ok (.iload_n 3, 1) := by decide +kernel
theorem dX1_kindOf_36 : decode cX1_kindOf 36 = .ok (.bipush 33, 2) := by decide +kernel
theorem dX1_kindOf_38 : decode cX1_kindOf 38 = .ok (.if_icmp .gt 5, 3) := by decide +kernel
theorem dX1_kindOf_41 : decode cX1_kindOf 41 = .ok (.iconst 0, 1) := by decide +kernel
theorem dX1_kindOf_42 : decode cX1_kindOf 42 = .ok (.ireturn, 1) := by decide +kernel
theorem dX1_kindOf_43 : decode cX1_kindOf 43 = .ok (.iload 4, 2) := by decide +kernel
theorem dX1_kindOf_45 : decode cX1_kindOf 45 = .ok (.bipush 33, 2) := by decide +kernel
theorem dX1_kindOf_47 : decode cX1_kindOf 47 = .ok (.if_icmp .gt 7, 3) := by decide +kernel
theorem dX1_kindOf_50 : decode cX1_kindOf 50 = .ok (.iconst 1, 1) := by decide +kernel
theorem dX1_kindOf_51 : decode cX1_kindOf 51 = .ok (.goto 4, 3) := by decide +kernel
theorem dX1_kindOf_54 : decode cX1_kindOf 54 = .ok (.iconst 2, 1) := by decide +kernel
theorem dX1_kindOf_55 : decode cX1_kindOf 55 = .ok (.ireturn, 1) := by decide +kernel
set_option maxRecDepth 20000 in
theorem ggX1_costOf_X1_kindOf : GoodIn wsX1_costOf wsX1_kindOf := goodIn_r _ [5, 6, 7, 8, 4, 9, 10, 11, 12, 13, 14, 15, 16, 17, 18, 19, 20, 21, 22, 23, 24, 25, 26, 27] (by decide +kernel) (by decide +kernel)
set_option maxRecDepth 20000 in
theorem gX1_costOf_X1_kindOf : GoodIn wsX1_costOf (wsV RX1 71 RX1 yX1_kindOf wsX1_kindOf) := goodIn_app (goodIn_of _ (by decide +kernel)) ggX1_costOf_X1_kindOf
set_option maxRecDepth 20000 in
theorem ggX1_costOf_X1_countInPiece : GoodIn wsX1_costOf wsX1_countInPiece := goodIn_r _ [9, 10, 11, 12, 4, 13, 14, 15, 16, 17, 18, 19, 20, 21, 27] (by decide +kernel) (by decide +kernel)
set_option maxRecDepth 20000 in
theorem gX1_costOf_X1_countInPiece : GoodIn wsX1_costOf (wsV RX1 54 RX1 yX1_countInPiece wsX1_countInPiece) := goodIn_app (goodIn_of _ (by decide +kernel)) ggX1_costOf_X1_countInPiece
set_option maxRecDepth 20000 in
theorem ggX1_costOf_X1_countRuns : GoodIn wsX1_costOf wsX1_countRuns := goodIn_r _ [25, 26, 10, 11, 12, 4, 13, 14, 15, 16, 17, 18, 19, 20, 21, 27] (by decide +kernel) (by decide +kernel)
set_option maxRecDepth 20000 in
theorem gX1_costOf_X1_countRuns : GoodIn wsX1_costOf (wsV RX1 68 RX1 yX1_countRuns wsX1_countRuns) := goodIn_app (goodIn_of _ (by decide +kernel)) ggX1_costOf_X1_countRuns
theorem dX1_costOf_0 : decode cX1_costOf 0 = .ok (.aload_n 0, 1) := by decide +kernel
theorem dX1_costOf_1 : decode cX1_costOf 1 = .ok (.iload_n 1, 1) := by decide +kernel
theorem dX1_costOf_2 : decode cX1_costOf 2 = .ok (.invokevirtual 71, 3) := by decide +kernel
theorem dX1_costOf_5 : decode cX1_costOf 5 = .ok (.tableswitch 49 0 2 #[27, 35, 46], 27) := by decide +kernel
theorem dX1_costOf_32 : decode cX1_costOf 32 = .ok (.iconst 2, 1) := by decide +kernel
theorem dX1_costOf_33 : decode cX1_costOf 33 = .ok (.aload_n 0, 1) := by decide +kernel
theorem dX1_costOf_34 : decode cX1_costOf 34 = .ok (.iload_n 1, 1) := by decide +kernel
theorem dX1_costOf_35 : decode cX1_costOf 35 = .ok (.invokevirtual 54, 3) := by decide +kernel
theorem dX1_costOf_38 : decode cX1_costOf 38 = .ok (.iadd, 1) := by decide +kernel
theorem dX1_costOf_39 : decode cX1_costOf 39 = .ok (.ireturn, 1) := by decide +kernel
theorem dX1_costOf_40 : decode cX1_costOf 40 = .ok (.iconst 2, 1) := by decide +kernel
theorem dX1_costOf_41 : decode cX1_costOf 41 = .ok (.iconst 2, 1) := by decide +kernel
theorem dX1_costOf_42 : decode cX1_costOf 42 = .ok (.aload_n 0, 1) := by decide +kernel
theorem dX1_costOf_43 : decode cX1_costOf 43 = .ok (.iload_n 1, 1) := by decide +kernel
theorem dX1_costOf_44 : decode cX1_costOf 44 = .ok (.iconst 1, 1) := by decide +kernel
theorem dX1_costOf_45 : decode cX1_costOf 45 = .ok (.invokevirtual 68, 3) := by decide +kernel
theorem dX1_costOf_48 : decode cX1_costOf 48 = .ok (.imul, 1) := by decide +kernel
theorem dX1_costOf_49 : decode cX1_costOf 49 = .ok (.iadd, 1) := by decide +kernel
theorem dX1_costOf_50 : decode cX1_costOf 50 = .ok (.ireturn, 1) := by decide +kernel
theorem dX1_costOf_51 : decode cX1_costOf 51 = .ok (.bipush 33, 2) := by decide +kernel
theorem dX1_costOf_53 : decode cX1_costOf 53 = .ok (.ireturn, 1) := by decide +kernel
theorem dX1_costOf_54 : decode cX1_costOf 54 = .ok (.iconst 0, 1) := by decide +kernel
theorem dX1_costOf_55 : decode cX1_costOf 55 = .ok (.ireturn, 1) := by decide +kernel
set_option maxRecDepth 20000 in
theorem ggX1_detail_X1_kindOf : GoodIn wsX1_detail wsX1_kindOf := goodIn_r _ [5, 6, 7, 8, 4, 9, 10, 11, 12, 13, 14, 15, 16, 17, 18, 19, 20, 21, 22, 23, 24, 25, 26, 31] (by decide +kernel) (by decide +kernel)
set_option maxRecDepth 20000 in
theorem gX1_detail_X1_kindOf : GoodIn wsX1_detail (wsV RX1 71 RX1 yX1_kindOf wsX1_kindOf) := goodIn_app (goodIn_of _ (by decide +kernel)) ggX1_detail_X1_kindOf
set_option maxRecDepth 20000 in
theorem ggX1_detail_X1_countInPiece : GoodIn wsX1_detail wsX1_countInPiece := goodIn_r _ [9, 10, 11, 12, 4, 13, 14, 15, 16, 17, 18, 19, 20, 21, 31] (by decide +kernel) (by decide +kernel)
set_option maxRecDepth 20000 in
theorem gX1_detail_X1_countInPiece : GoodIn wsX1_detail (wsV RX1 54 RX1 yX1_countInPiece wsX1_countInPiece) := goodIn_app (goodIn_of _ (by decide +kernel)) ggX1_detail_X1_countInPiece
set_option maxRecDepth 20000 in
theorem ggX1_detail_X1_countRuns : GoodIn wsX1_detail wsX1_countRuns := goodIn_r _ [25, 26, 10, 11, 12, 4, 13, 14, 15, 16, 17, 18, 19, 20, 21, 31] (by decide +kernel) (by decide +kernel)
set_option maxRecDepth 20000 in
theorem gX1_detail_X1_countRuns : GoodIn wsX1_detail (wsV RX1 68 RX1 yX1_countRuns wsX1_countRuns) := goodIn_app (goodIn_of _ (by decide +kernel)) ggX1_detail_X1_countRuns
set_option maxRecDepth 20000 in
theorem ggX1_detail_X1_costOf : GoodIn wsX1_detail wsX1_costOf := goodIn_r _ [30, 1, 2, 3, 4, 5, 6, 7, 8, 9, 10, 11, 12, 13, 14, 15, 16, 17, 18, 19, 20, 21, 22, 23, 24, 25, 26, 31] (by decide +kernel) (by decide +kernel)
set_option maxRecDepth 20000 in
theorem gX1_detail_X1_costOf : GoodIn wsX1_detail (wsV RX1 74 RX1 yX1_costOf wsX1_costOf) := goodIn_app (goodIn_of _ (by decide +kernel)) ggX1_detail_X1_costOf
theorem dX1_detail_0 : decode cX1_detail 0 = .ok (.iload_n 2, 1) := by decide +kernel
theorem dX1_detail_1 : decode cX1_detail 1 = .ok (.tableswitch 56 0 3 #[31, 37, 43, 50], 31) := by decide +kernel
theorem dX1_detail_32 : decode cX1_detail 32 = .ok (.aload_n 0, 1) := by decide +kernel
theorem dX1_detail_33 : decode cX1_detail 33 = .ok (.iload_n 1, 1) := by decide +kernel
theorem dX1_detail_34 : decode cX1_detail 34 = .ok (.invokevirtual 71, 3) := by decide +kernel
theorem dX1_detail_37 : decode cX1_detail 37 = .ok (.ireturn, 1) := by decide +kernel
theorem dX1_detail_38 : decode cX1_detail 38 = .ok (.aload_n 0, 1) := by decide +kernel
theorem dX1_detail_39 : decode cX1_detail 39 = .ok (.iload_n 1, 1) := by decide +kernel
theorem dX1_detail_40 : decode cX1_detail 40 = .ok (.invokevirtual 54, 3) := by decide +kernel
theorem dX1_detail_43 : decode cX1_detail 43 = .ok (.ireturn, 1) := by decide +kernel
theorem dX1_detail_44 : decode cX1_detail 44 = .ok (.aload_n 0, 1) := by decide +kernel
theorem dX1_detail_45 : decode cX1_detail 45 = .ok (.iload_n 1, 1) := by decide +kernel
theorem dX1_detail_46 : decode cX1_detail 46 = .ok (.iconst 1, 1) := by decide +kernel
theorem dX1_detail_47 : decode cX1_detail 47 = .ok (.invokevirtual 68, 3) := by decide +kernel
theorem dX1_detail_50 : decode cX1_detail 50 = .ok (.ireturn, 1) := by decide +kernel
theorem dX1_detail_51 : decode cX1_detail 51 = .ok (.aload_n 0, 1) := by decide +kernel
theorem dX1_detail_52 : decode cX1_detail 52 = .ok (.iload_n 1, 1) := by decide +kernel
theorem dX1_detail_53 : decode cX1_detail 53 = .ok (.invokevirtual 74, 3) := by decide +kernel
theorem dX1_detail_56 : decode cX1_detail 56 = .ok (.ireturn, 1) := by decide +kernel
theorem dX1_detail_57 : decode cX1_detail 57 = .ok (.iconst (-1), 1) := by decide +kernel
theorem dX1_detail_58 : decode cX1_detail 58 = .ok (.ireturn, 1) := by decide +kernel
set_option maxRecDepth 20000 in
theorem ggX1_writtenByte_X1_kindOf : GoodIn wsX1_writtenByte wsX1_kindOf := goodIn_r _ [5, 6, 7, 8, 4, 9, 10, 11, 12, 13, 14, 15, 16, 17, 18, 19, 20, 21, 22, 23, 24, 25, 26, 68] (by decide +kernel) (by decide +kernel)
set_option maxRecDepth 20000 in
theorem gX1_writtenByte_X1_kindOf : GoodIn wsX1_writtenByte (wsV RX1 71 RX1 yX1_kindOf wsX1_kindOf) := goodIn_app (goodIn_of _ (by decide +kernel)) ggX1_writtenByte_X1_kindOf
set_option maxRecDepth 20000 in
theorem ggX1_writtenByte_X1_bitmapByte : GoodIn wsX1_writtenByte wsX1_bitmapByte := goodIn_r _ [30, 31, 10, 11, 12, 4, 13, 14, 68] (by decide +kernel) (by decide +kernel)
set_option maxRecDepth 20000 in
theorem gX1_writtenByte_X1_bitmapByte : GoodIn wsX1_writtenByte (wsV RX1 77 RX1 yX1_bitmapByte wsX1_bitmapByte) := goodIn_app (goodIn_of _ (by decide +kernel)) ggX1_writtenByte_X1_bitmapByte
set_option maxRecDepth 20000 in
theorem ggX1_writtenByte_X1_countInPiece : GoodIn wsX1_writtenByte wsX1_countInPiece := goodIn_r _ [9, 10, 11, 12, 4, 13, 14, 15, 16, 17, 18, 19, 20, 21, 68] (by decide +kernel) (by decide +kernel)
set_option maxRecDepth 20000 in
theorem gX1_writtenByte_X1_countInPiece : GoodIn wsX1_writtenByte (wsV RX1 54 RX1 yX1_countInPiece wsX1_countInPiece) := goodIn_app (goodIn_of _ (by decide +kernel)) ggX1_writtenByte_X1_countInPiece
set_option maxRecDepth 20000 in
theorem ggX1_writtenByte_X1_countRuns : GoodIn wsX1_writtenByte wsX1_countRuns := goodIn_r _ [25, 26, 10, 11, 12, 4, 13, 14, 15, 16, 17, 18, 19, 20, 21, 68] (by decide +kernel) (by decide +kernel)
set_option maxRecDepth 20000 in
theorem gX1_writtenByte_X1_countRuns : GoodIn wsX1_writtenByte (wsV RX1 68 RX1 yX1_countRuns wsX1_countRuns) := goodIn_app (goodIn_of _ (by decide +kernel)) ggX1_writtenByte_X1_countRuns
set_option maxRecDepth 20000 in
theorem ggX1_writtenByte_X1_nthPlace : GoodIn wsX1_writtenByte wsX1_nthPlace := goodIn_r _ [35, 36, 37, 38, 4, 39, 14, 40, 41, 42, 43, 44, 45, 46, 47, 48, 49, 26, 15, 16, 17, 18, 19, 20, 21, 50, 51, 52, 53, 54, 55, 56, 68] (by decide +kernel) (by decide +kernel)
set_option maxRecDepth 20000 in
theorem gX1_writtenByte_X1_nthPlace : GoodIn wsX1_writtenByte (wsV RX1 80 RX1 yX1_nthPlace wsX1_nthPlace) := goodIn_app (goodIn_of _ (by decide +kernel)) ggX1_writtenByte_X1_nthPlace
set_option maxRecDepth 20000 in
theorem ggX1_writtenByte_X1_nthBorder : GoodIn wsX1_writtenByte wsX1_nthBorder := goodIn_r _ [60, 61, 62, 63, 4, 64, 14, 65, 66, 67, 68] (by decide +kernel) (by decide +kernel)
set_option maxRecDepth 20000 in
theorem gX1_writtenByte_X1_nthBorder : GoodIn wsX1_writtenByte (wsV RX1 83 RX1 yX1_nthBorder wsX1_nthBorder) := goodIn_app (goodIn_of _ (by decide +kernel)) ggX1_writtenByte_X1_nthBorder
theorem dX1_writtenByte_0 : decode cX1_writtenByte 0 = .ok (.aload_n 0, 1) := by decide +kernel
theorem dX1_writtenByte_1 : decode cX1_writtenByte 1 = .ok (.iload_n 1, 1) := by decide +kernel
theorem dX1_writtenByte_2 : decode cX1_writtenByte 2 = .ok (.invokevirtual 71, 3) := by decide +kernel
theorem dX1_writtenByte_5 : decode cX1_writtenByte 5 = .ok (.istore_n 3, 1) := by decide +kernel
theorem dX1_writtenByte_6 : decode cX1_writtenByte 6 = .ok (.iload_n 2, 1) := by decide +kernel
theorem dX1_writtenByte_7 : decode cX1_writtenByte 7 = .ok (.ifCond .ne 9, 3) := by decide +kernel
theorem dX1_writtenByte_10 : decode cX1_writtenByte 10 = .ok (.iconst 4, 1) := by decide +kernel
theorem dX1_writtenByte_11 : decode cX1_writtenByte 11 = .ok (.iload_n 1, 1) := by decide +kernel
theorem dX1_writtenByte_12 : decode cX1_writtenByte 12 = .ok (.imul, 1) := by decide +kernel
theorem dX1_writtenByte_13 : decode cX1_writtenByte 13 = .ok (.iload_n 3, 1) := by decide +kernel
theorem dX1_writtenByte_14 : decode cX1_writtenByte 14 = .ok (.iadd, 1) := by decide +kernel
theorem dX1_writtenByte_15 : decode cX1_writtenByte 15 = .ok (.ireturn, 1) := by decide +kernel
theorem dX1_writtenByte_16 : decode cX1_writtenByte 16 = .ok (.iload_n 3, 1) := by decide +kernel
theorem dX1_writtenByte_17 : decode cX1_writtenByte 17 = .ok (.iconst 2, 1) := by decide +kernel
theorem dX1_writtenByte_18 : decode cX1_writtenByte 18 = .ok (.if_icmp .ne 12, 3) := by decide +kernel
theorem dX1_writtenByte_21 : decode cX1_writtenByte 21 = .ok (.aload_n 0, 1) := by decide +kernel
theorem dX1_writtenByte_22 : decode cX1_writtenByte 22 = .ok (.iload_n 1, 1) := by decide +kernel
theorem dX1_writtenByte_23 : decode cX1_writtenByte 23 = .ok (.iload_n 2, 1) := by decide +kernel
theorem dX1_writtenByte_24 : decode cX1_writtenByte 24 = .ok (.iconst 1, 1) := by decide +kernel
theorem dX1_writtenByte_25 : decode cX1_writtenByte 25 = .ok (.isub, 1) := by decide +kernel
theorem dX1_writtenByte_26 : decode cX1_writtenByte 26 = .ok (.invokevirtual 77, 3) := by decide +kernel
theorem dX1_writtenByte_29 : decode cX1_writtenByte 29 = .ok (.ireturn, 1) := by decide +kernel
theorem dX1_writtenByte_30 : decode cX1_writtenByte 30 = .ok (.iload_n 2, 1) := by decide +kernel
theorem dX1_writtenByte_31 : decode cX1_writtenByte 31 = .ok (.iconst 1, 1) := by decide +kernel
theorem dX1_writtenByte_32 : decode cX1_writtenByte 32 = .ok (.if_icmp .ne 22, 3) := by decide +kernel
theorem dX1_writtenByte_35 : decode cX1_writtenByte 35 = .ok (.iload_n 3, 1) := by decide +kernel
theorem dX1_writtenByte_36 : decode cX1_writtenByte 36 = .ok (.ifCond .ne 11, 3) := by decide +kernel
theorem dX1_writtenByte_39 : decode cX1_writtenByte 39 = .ok (.aload_n 0, 1) := by decide +kernel
theorem dX1_writtenByte_40 : decode cX1_writtenByte 40 = .ok (.iload_n 1, 1) := by decide +kernel
theorem dX1_writtenByte_41 : decode cX1_writtenByte 41 = .ok (.invokevirtual 54, 3) := by decide +kernel
theorem dX1_writtenByte_44 : decode cX1_writtenByte 44 = .ok (.goto 9, 3) := by decide +kernel
theorem dX1_writtenByte_47 : decode cX1_writtenByte 47 = .ok (.aload_n 0, 1) := by decide +kernel
theorem dX1_writtenByte_48 : decode cX1_writtenByte 48 = .ok (.iload_n 1, 1) := by decide +kernel
theorem dX1_writtenByte_49 : decode cX1_writtenByte 49 = .ok (.iconst 1, 1) := by decide +kernel
theorem dX1_writtenByte_50 : decode cX1_writtenByte 50 = .ok (.invokevirtual 68, 3) := by decide +kernel
theorem dX1_writtenByte_53 : decode cX1_writtenByte 53 = .ok (.ireturn, 1) := by decide +kernel
theorem dX1_writtenByte_54 : decode cX1_writtenByte 54 = .ok (.iload_n 3, 1) := by decide +kernel
theorem dX1_writtenByte_55 : decode cX1_writtenByte 55 = .ok (.ifCond .ne 14, 3) := by decide +kernel
theorem dX1_writtenByte_58 : decode cX1_writtenByte 58 = .ok (.aload_n 0, 1) := by decide +kernel
theorem dX1_writtenByte_59 : decode cX1_writtenByte 59 = .ok (.iload_n 1, 1) := by decide +kernel
theorem dX1_writtenByte_60 : decode cX1_writtenByte 60 = .ok (.iload_n 2, 1) := by decide +kernel
theorem dX1_writtenByte_61 : decode cX1_writtenByte 61 = .ok (.iconst 2, 1) := by decide +kernel
theorem dX1_writtenByte_62 : decode cX1_writtenByte 62 = .ok (.isub, 1) := by decide +kernel
theorem dX1_writtenByte_63 : decode cX1_writtenByte 63 = .ok (.invokevirtual 80, 3) := by decide +kernel
theorem dX1_writtenByte_66 : decode cX1_writtenByte 66 = .ok (.goto 11, 3) := by decide +kernel
theorem dX1_writtenByte_69 : decode cX1_writtenByte 69 = .ok (.aload_n 0, 1) := by decide +kernel
theorem dX1_writtenByte_70 : decode cX1_writtenByte 70 = .ok (.iload_n 1, 1) := by decide +kernel
theorem dX1_writtenByte_71 : decode cX1_writtenByte 71 = .ok (.iload_n 2, 1) := by decide +kernel
theorem dX1_writtenByte_72 : decode cX1_writtenByte 72 = .ok (.iconst 2, 1) := by decide +kernel
theorem dX1_writtenByte_73 : decode cX1_writtenByte 73 = .ok (.isub, 1) := by decide +kernel
theorem dX1_writtenByte_74 : decode cX1_writtenByte 74 = .ok (.invokevirtual 83, 3) := by decide +kernel
theorem dX1_writtenByte_77 : decode cX1_writtenByte 77 = .ok (.ireturn, 1) := by decide +kernel
set_option maxRecDepth 20000 in
theorem ggX1_bitmapByte_X1_wordAt : GoodIn wsX1_bitmapByte wsX1_wordAt := goodIn_r _ [6, 7, 8] (by decide +kernel) (by decide +kernel)
set_option maxRecDepth 20000 in
theorem gX1_bitmapByte_X1_wordAt : GoodIn wsX1_bitmapByte (wsV RX1 33 RX1 yX1_wordAt wsX1_wordAt) := goodIn_app (goodIn_of _ (by decide +kernel)) ggX1_bitmapByte_X1_wordAt
theorem dX1_bitmapByte_0 : decode cX1_bitmapByte 0 = .ok (.aload_n 0, 1) := by decide +kernel
theorem dX1_bitmapByte_1 : decode cX1_bitmapByte 1 = .ok (.iconst 4, 1) := by decide +kernel
theorem dX1_bitmapByte_2 : decode cX1_bitmapByte 2 = .ok (.iload_n 1, 1) := by decide +kernel
theorem dX1_bitmapByte_3 : decode cX1_bitmapByte 3 = .ok (.imul, 1) := by decide +kernel
theorem dX1_bitmapByte_4 : decode cX1_bitmapByte 4 = .ok (.iload_n 2, 1) := by decide +kernel
theorem dX1_bitmapByte_5 : decode cX1_bitmapByte 5 = .ok (.bipush 8, 2) := by decide +kernel
theorem dX1_bitmapByte_7 : decode cX1_bitmapByte 7 = .ok (.idiv, 1) := by decide +kernel
theorem dX1_bitmapByte_8 : decode cX1_bitmapByte 8 = .ok (.iadd, 1) := by decide +kernel
theorem dX1_bitmapByte_9 : decode cX1_bitmapByte 9 = .ok (.invokevirtual 33, 3) := by decide +kernel
theorem dX1_bitmapByte_12 : decode cX1_bitmapByte 12 = .ok (.bipush 8, 2) := by decide +kernel
theorem dX1_bitmapByte_14 : decode cX1_bitmapByte 14 = .ok (.iload_n 2, 1) := by decide +kernel
theorem dX1_bitmapByte_15 : decode cX1_bitmapByte 15 = .ok (.bipush 8, 2) := by decide +kernel
theorem dX1_bitmapByte_17 : decode cX1_bitmapByte 17 = .ok (.irem, 1) := by decide +kernel
theorem dX1_bitmapByte_18 : decode cX1_bitmapByte 18 = .ok (.imul, 1) := by decide +kernel
theorem dX1_bitmapByte_19 : decode cX1_bitmapByte 19 = .ok (.lushr, 1) := by decide +kernel
theorem dX1_bitmapByte_20 : decode cX1_bitmapByte 20 = .ok (.ldc2_w 86, 3) := by decide +kernel
theorem dX1_bitmapByte_23 : decode cX1_bitmapByte 23 = .ok (.land, 1) := by decide +kernel
theorem dX1_bitmapByte_24 : decode cX1_bitmapByte 24 = .ok (.l2i, 1) := by decide +kernel
theorem dX1_bitmapByte_25 : decode cX1_bitmapByte 25 = .ok (.ireturn, 1) := by decide +kernel
set_option maxRecDepth 20000 in
theorem ggX1_nthPlace_X1_countIn : GoodIn wsX1_nthPlace wsX1_countIn := goodIn_r _ [5, 6, 7, 8, 4, 9, 10, 11, 12, 13, 14, 15, 16, 17, 18, 19, 20, 21, 22, 23, 24, 32] (by decide +kernel) (by decide +kernel)
set_option maxRecDepth 20000 in
theorem gX1_nthPlace_X1_countIn : GoodIn wsX1_nthPlace (wsV RX1 88 RX1 yX1_countIn wsX1_countIn) := goodIn_app (goodIn_of _ (by decide +kernel)) ggX1_nthPlace_X1_countIn
set_option maxRecDepth 20000 in
theorem ggX1_nthPlace_X1_nth : GoodIn wsX1_nthPlace wsX1_nth := goodIn_r _ [28, 6, 18, 19, 20, 21, 22, 23, 24, 29, 30, 4, 31, 32] (by decide +kernel) (by decide +kernel)
set_option maxRecDepth 20000 in
theorem gX1_nthPlace_X1_nth : GoodIn wsX1_nthPlace (wsV RX1 91 RX1 yX1_nth wsX1_nth) := goodIn_app (goodIn_of _ (by decide +kernel)) ggX1_nthPlace_X1_nth
theorem dX1_nthPlace_0 : decode cX1_nthPlace 0 = .ok (.aload_n 0, 1) := by decide +kernel
theorem dX1_nthPlace_1 : decode cX1_nthPlace 1 = .ok (.aload_n 0, 1) := by decide +kernel
theorem dX1_nthPlace_2 : decode cX1_nthPlace 2 = .ok (.iconst 0, 1) := by decide +kernel
theorem dX1_nthPlace_3 : decode cX1_nthPlace 3 = .ok (.sipush 256, 3) := by decide +kernel
theorem dX1_nthPlace_6 : decode cX1_nthPlace 6 = .ok (.iload_n 1, 1) := by decide +kernel
theorem dX1_nthPlace_7 : decode cX1_nthPlace 7 = .ok (.imul, 1) := by decide +kernel
theorem dX1_nthPlace_8 : decode cX1_nthPlace 8 = .ok (.iconst 1, 1) := by decide +kernel
theorem dX1_nthPlace_9 : decode cX1_nthPlace 9 = .ok (.isub, 1) := by decide +kernel
theorem dX1_nthPlace_10 : decode cX1_nthPlace 10 = .ok (.invokevirtual 88, 3) := by decide +kernel
theorem dX1_nthPlace_13 : decode cX1_nthPlace 13 = .ok (.iload_n 2, 1) := by decide +kernel
theorem dX1_nthPlace_14 : decode cX1_nthPlace 14 = .ok (.iadd, 1) := by decide +kernel
theorem dX1_nthPlace_15 : decode cX1_nthPlace 15 = .ok (.invokevirtual 91, 3) := by decide +kernel
theorem dX1_nthPlace_18 : decode cX1_nthPlace 18 = .ok (.sipush 256, 3) := by decide +kernel
theorem dX1_nthPlace_21 : decode cX1_nthPlace 21 = .ok (.iload_n 1, 1) := by decide +kernel
theorem dX1_nthPlace_22 : decode cX1_nthPlace 22 = .ok (.imul, 1) := by decide +kernel
theorem dX1_nthPlace_23 : decode cX1_nthPlace 23 = .ok (.isub, 1) := by decide +kernel
theorem dX1_nthPlace_24 : decode cX1_nthPlace 24 = .ok (.ireturn, 1) := by decide +kernel
set_option maxRecDepth 20000 in
theorem ggX1_nthBorder_X1_holds : GoodIn wsX1_nthBorder wsX1_holds := goodIn_r _ [5, 6, 7, 8, 9, 10] (by decide +kernel) (by decide +kernel)
set_option maxRecDepth 20000 in
theorem gX1_nthBorder_X1_holds : GoodIn wsX1_nthBorder (wsV RX1 94 RX1 yX1_holds wsX1_holds) := goodIn_app (goodIn_of _ (by decide +kernel)) ggX1_nthBorder_X1_holds
