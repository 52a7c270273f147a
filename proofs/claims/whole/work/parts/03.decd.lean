set_option maxRecDepth 20000 in
theorem ggX3_nthEdge_X1_becomeMoved : GoodIn wsX3_nthEdge wsX1_becomeMoved := goodIn_r _ [5, 6, 7, 8, 9, 3, 10, 36] (by decide +kernel) (by decide +kernel)
set_option maxRecDepth 20000 in
theorem gX3_nthEdge_X1_becomeMoved_n88 : GoodIn wsX3_nthEdge (wsX1_becomeMoved) := ggX3_nthEdge_X1_becomeMoved
set_option maxRecDepth 20000 in
theorem ggX3_nthEdge_X1_becomeJoin : GoodIn wsX3_nthEdge wsX1_becomeJoin := goodIn_r _ [13, 6, 14, 15, 3, 16, 17, 36] (by decide +kernel) (by decide +kernel)
set_option maxRecDepth 20000 in
theorem gX3_nthEdge_X1_becomeJoin_n81 : GoodIn wsX3_nthEdge (wsX1_becomeJoin) := ggX3_nthEdge_X1_becomeJoin
set_option maxRecDepth 20000 in
theorem ggX3_nthEdge_X1_nth : GoodIn wsX3_nthEdge wsX1_nth := goodIn_r _ [20, 6, 21, 22, 23, 24, 25, 26, 27, 28, 29, 3, 30, 36] (by decide +kernel) (by decide +kernel)
set_option maxRecDepth 20000 in
theorem gX3_nthEdge_X1_nth_n95 : GoodIn wsX3_nthEdge (wsX1_nth) := ggX3_nthEdge_X1_nth
theorem dX3_nthEdge_0 : decode cX3_nthEdge 0 = .ok (.aload_n 0, 1) := by decide +kernel
theorem dX3_nthEdge_1 : decode cX3_nthEdge 1 = .ok (.getfield 34, 3) := by decide +kernel
theorem dX3_nthEdge_4 : decode cX3_nthEdge 4 = .ok (.aload_n 1, 1) := by decide +kernel
theorem dX3_nthEdge_5 : decode cX3_nthEdge 5 = .ok (.iload_n 2, 1) := by decide +kernel
theorem dX3_nthEdge_6 : decode cX3_nthEdge 6 = .ok (.invokevirtual 88, 3) := by decide +kernel
theorem dX3_nthEdge_9 : decode cX3_nthEdge 9 = .ok (.aload_n 0, 1) := by decide +kernel
theorem dX3_nthEdge_10 : decode cX3_nthEdge 10 = .ok (.getfield 34, 3) := by decide +kernel
theorem dX3_nthEdge_13 : decode cX3_nthEdge 13 = .ok (.iconst 3, 1) := by decide +kernel
theorem dX3_nthEdge_14 : decode cX3_nthEdge 14 = .ok (.aload_n 1, 1) := by decide +kernel
theorem dX3_nthEdge_15 : decode cX3_nthEdge 15 = .ok (.aload_n 0, 1) := by decide +kernel
theorem dX3_nthEdge_16 : decode cX3_nthEdge 16 = .ok (.getfield 34, 3) := by decide +kernel
theorem dX3_nthEdge_19 : decode cX3_nthEdge 19 = .ok (.invokevirtual 81, 3) := by decide +kernel
theorem dX3_nthEdge_22 : decode cX3_nthEdge 22 = .ok (.aload_n 0, 1) := by decide +kernel
theorem dX3_nthEdge_23 : decode cX3_nthEdge 23 = .ok (.getfield 34, 3) := by decide +kernel
theorem dX3_nthEdge_26 : decode cX3_nthEdge 26 = .ok (.iload_n 3, 1) := by decide +kernel
theorem dX3_nthEdge_27 : decode cX3_nthEdge 27 = .ok (.invokevirtual 95, 3) := by decide +kernel
theorem dX3_nthEdge_30 : decode cX3_nthEdge 30 = .ok (.ireturn, 1) := by decide +kernel
set_option maxRecDepth 20000 in
theorem ggX3_countJoin_X1_becomeJoin : GoodIn wsX3_countJoin wsX1_becomeJoin := goodIn_r _ [6, 7, 8, 9, 4, 10, 11, 38] (by decide +kernel) (by decide +kernel)
set_option maxRecDepth 20000 in
theorem gX3_countJoin_X1_becomeJoin_n81 : GoodIn wsX3_countJoin (wsX1_becomeJoin) := ggX3_countJoin_X1_becomeJoin
set_option maxRecDepth 20000 in
theorem ggX3_countJoin_X1_count : GoodIn wsX3_countJoin wsX1_count := goodIn_r _ [14, 15, 16, 17, 4, 18, 19, 20, 21, 22, 7, 23, 24, 25, 26, 27, 28, 29, 38] (by decide +kernel) (by decide +kernel)
set_option maxRecDepth 20000 in
theorem gX3_countJoin_X1_count_n62 : GoodIn wsX3_countJoin (wsX1_count) := ggX3_countJoin_X1_count
theorem dX3_countJoin_0 : decode cX3_countJoin 0 = .ok (.aload_n 0, 1) := by decide +kernel
theorem dX3_countJoin_1 : decode cX3_countJoin 1 = .ok (.getfield 34, 3) := by decide +kernel
theorem dX3_countJoin_4 : decode cX3_countJoin 4 = .ok (.iload_n 1, 1) := by decide +kernel
theorem dX3_countJoin_5 : decode cX3_countJoin 5 = .ok (.aload_n 0, 1) := by decide +kernel
theorem dX3_countJoin_6 : decode cX3_countJoin 6 = .ok (.getfield 10, 3) := by decide +kernel
theorem dX3_countJoin_9 : decode cX3_countJoin 9 = .ok (.getfield 50, 3) := by decide +kernel
theorem dX3_countJoin_12 : decode cX3_countJoin 12 = .ok (.iload_n 2, 1) := by decide +kernel
theorem dX3_countJoin_13 : decode cX3_countJoin 13 = .ok (.aaload, 1) := by decide +kernel
theorem dX3_countJoin_14 : decode cX3_countJoin 14 = .ok (.aload_n 0, 1) := by decide +kernel
theorem dX3_countJoin_15 : decode cX3_countJoin 15 = .ok (.getfield 10, 3) := by decide +kernel
theorem dX3_countJoin_18 : decode cX3_countJoin 18 = .ok (.getfield 50, 3) := by decide +kernel
theorem dX3_countJoin_21 : decode cX3_countJoin 21 = .ok (.iload_n 3, 1) := by decide +kernel
theorem dX3_countJoin_22 : decode cX3_countJoin 22 = .ok (.aaload, 1) := by decide +kernel
theorem dX3_countJoin_23 : decode cX3_countJoin 23 = .ok (.invokevirtual 81, 3) := by decide +kernel
theorem dX3_countJoin_26 : decode cX3_countJoin 26 = .ok (.aload_n 0, 1) := by decide +kernel
theorem dX3_countJoin_27 : decode cX3_countJoin 27 = .ok (.getfield 34, 3) := by decide +kernel
theorem dX3_countJoin_30 : decode cX3_countJoin 30 = .ok (.invokevirtual 62, 3) := by decide +kernel
theorem dX3_countJoin_33 : decode cX3_countJoin 33 = .ok (.ireturn, 1) := by decide +kernel
set_option maxRecDepth 20000 in
theorem ggX3_countSamePieces_X1_becomeJoin : GoodIn wsX3_countSamePieces wsX1_becomeJoin := goodIn_r _ [6, 7, 8, 9, 4, 10, 11, 34] (by decide +kernel) (by decide +kernel)
set_option maxRecDepth 20000 in
theorem gX3_countSamePieces_X1_becomeJoin_n81 : GoodIn wsX3_countSamePieces (wsX1_becomeJoin) := ggX3_countSamePieces_X1_becomeJoin
set_option maxRecDepth 20000 in
theorem ggX3_countSamePieces_X1_countInPiece : GoodIn wsX3_countSamePieces wsX1_countInPiece := goodIn_r _ [14, 15, 16, 17, 4, 18, 7, 19, 20, 21, 22, 23, 24, 25, 34] (by decide +kernel) (by decide +kernel)
set_option maxRecDepth 20000 in
theorem gX3_countSamePieces_X1_countInPiece_n166 : GoodIn wsX3_countSamePieces (wsX1_countInPiece) := ggX3_countSamePieces_X1_countInPiece
theorem dX3_countSamePieces_0 : decode cX3_countSamePieces 0 = .ok (.aload_n 0, 1) := by decide +kernel
theorem dX3_countSamePieces_1 : decode cX3_countSamePieces 1 = .ok (.getfield 34, 3) := by decide +kernel
theorem dX3_countSamePieces_4 : decode cX3_countSamePieces 4 = .ok (.iconst 2, 1) := by decide +kernel
theorem dX3_countSamePieces_5 : decode cX3_countSamePieces 5 = .ok (.aload_n 0, 1) := by decide +kernel
theorem dX3_countSamePieces_6 : decode cX3_countSamePieces 6 = .ok (.getfield 10, 3) := by decide +kernel
theorem dX3_countSamePieces_9 : decode cX3_countSamePieces 9 = .ok (.getfield 50, 3) := by decide +kernel
theorem dX3_countSamePieces_12 : decode cX3_countSamePieces 12 = .ok (.iload_n 1, 1) := by decide +kernel
theorem dX3_countSamePieces_13 : decode cX3_countSamePieces 13 = .ok (.aaload, 1) := by decide +kernel
theorem dX3_countSamePieces_14 : decode cX3_countSamePieces 14 = .ok (.aload_n 0, 1) := by decide +kernel
theorem dX3_countSamePieces_15 : decode cX3_countSamePieces 15 = .ok (.getfield 10, 3) := by decide +kernel
theorem dX3_countSamePieces_18 : decode cX3_countSamePieces 18 = .ok (.getfield 50, 3) := by decide +kernel
theorem dX3_countSamePieces_21 : decode cX3_countSamePieces 21 = .ok (.iload_n 2, 1) := by decide +kernel
theorem dX3_countSamePieces_22 : decode cX3_countSamePieces 22 = .ok (.aaload, 1) := by decide +kernel
theorem dX3_countSamePieces_23 : decode cX3_countSamePieces 23 = .ok (.invokevirtual 81, 3) := by decide +kernel
theorem dX3_countSamePieces_26 : decode cX3_countSamePieces 26 = .ok (.iconst 0, 1) := by decide +kernel
theorem dX3_countSamePieces_27 : decode cX3_countSamePieces 27 = .ok (.istore_n 3, 1) := by decide +kernel
theorem dX3_countSamePieces_28 : decode cX3_countSamePieces 28 = .ok (.iconst 0, 1) := by decide +kernel
theorem dX3_countSamePieces_29 : decode cX3_countSamePieces 29 = .ok (.istore 4, 2) := by decide +kernel
theorem dX3_countSamePieces_31 : decode cX3_countSamePieces 31 = .ok (.iload 4, 2) := by decide +kernel
theorem dX3_countSamePieces_33 : decode cX3_countSamePieces 33 = .ok (.bipush 16, 2) := by decide +kernel
theorem dX3_countSamePieces_35 : decode cX3_countSamePieces 35 = .ok (.if_icmp .ge 24, 3) := by decide +kernel
theorem dX3_countSamePieces_38 : decode cX3_countSamePieces 38 = .ok (.aload_n 0, 1) := by decide +kernel
theorem dX3_countSamePieces_39 : decode cX3_countSamePieces 39 = .ok (.getfield 34, 3) := by decide +kernel
theorem dX3_countSamePieces_42 : decode cX3_countSamePieces 42 = .ok (.iload 4, 2) := by decide +kernel
theorem dX3_countSamePieces_44 : decode cX3_countSamePieces 44 = .ok (.invokevirtual 166, 3) := by decide +kernel
theorem dX3_countSamePieces_47 : decode cX3_countSamePieces 47 = .ok (.ifCond .ne 6, 3) := by decide +kernel
theorem dX3_countSamePieces_50 : decode cX3_countSamePieces 50 = .ok (.iinc 3 1, 3) := by decide +kernel
theorem dX3_countSamePieces_53 : decode cX3_countSamePieces 53 = .ok (.iinc 4 1, 3) := by decide +kernel
theorem dX3_countSamePieces_56 : decode cX3_countSamePieces 56 = .ok (.goto (-25), 3) := by decide +kernel
theorem dX3_countSamePieces_59 : decode cX3_countSamePieces 59 = .ok (.iload_n 3, 1) := by decide +kernel
theorem dX3_countSamePieces_60 : decode cX3_countSamePieces 60 = .ok (.ireturn, 1) := by decide +kernel
theorem dX3_greatestDivisor_0 : decode cX3_greatestDivisor 0 = .ok (.iload_n 0, 1) := by decide +kernel
theorem dX3_greatestDivisor_1 : decode cX3_greatestDivisor 1 = .ok (.istore_n 2, 1) := by decide +kernel
theorem dX3_greatestDivisor_2 : decode cX3_greatestDivisor 2 = .ok (.iload_n 1, 1) := by decide +kernel
theorem dX3_greatestDivisor_3 : decode cX3_greatestDivisor 3 = .ok (.istore_n 3, 1) := by decide +kernel
theorem dX3_greatestDivisor_4 : decode cX3_greatestDivisor 4 = .ok (.iconst 0, 1) := by decide +kernel
theorem dX3_greatestDivisor_5 : decode cX3_greatestDivisor 5 = .ok (.istore 4, 2) := by decide +kernel
theorem dX3_greatestDivisor_7 : decode cX3_greatestDivisor 7 = .ok (.iload 4, 2) := by decide +kernel
theorem dX3_greatestDivisor_9 : decode cX3_greatestDivisor 9 = .ok (.bipush 64, 2) := by decide +kernel
theorem dX3_greatestDivisor_11 : decode cX3_greatestDivisor 11 = .ok (.if_icmp .ge 23, 3) := by decide +kernel
theorem dX3_greatestDivisor_14 : decode cX3_greatestDivisor 14 = .ok (.iload_n 3, 1) := by decide +kernel
theorem dX3_greatestDivisor_15 : decode cX3_greatestDivisor 15 = .ok (.ifCond .eq 19, 3) := by decide +kernel
theorem dX3_greatestDivisor_18 : decode cX3_greatestDivisor 18 = .ok (.iload_n 2, 1) := by decide +kernel
theorem dX3_greatestDivisor_19 : decode cX3_greatestDivisor 19 = .ok (.iload_n 3, 1) := by decide +kernel
theorem dX3_greatestDivisor_20 : decode cX3_greatestDivisor 20 = .ok (.irem, 1) := by decide +kernel
theorem dX3_greatestDivisor_21 : decode cX3_greatestDivisor 21 = .ok (.istore 5, 2) := by decide +kernel
theorem dX3_greatestDivisor_23 : decode cX3_greatestDivisor 23 = .ok (.iload_n 3, 1) := by decide +kernel
theorem dX3_greatestDivisor_24 : decode cX3_greatestDivisor 24 = .ok (.istore_n 2, 1) := by decide +kernel
theorem dX3_greatestDivisor_25 : decode cX3_greatestDivisor 25 = .ok (.iload 5, 2) := by decide +kernel
theorem dX3_greatestDivisor_27 : decode cX3_greatestDivisor 27 = .ok (.istore_n 3, 1) := by decide +kernel
theorem dX3_greatestDivisor_28 : decode cX3_greatestDivisor 28 = .ok (.iinc 4 1, 3) := by decide +kernel
theorem dX3_greatestDivisor_31 : decode cX3_greatestDivisor 31 = .ok (.goto (-24), 3) := by decide +kernel
theorem dX3_greatestDivisor_34 : decode cX3_greatestDivisor 34 = .ok (.iload_n 2, 1) := by decide +kernel
theorem dX3_greatestDivisor_35 : decode cX3_greatestDivisor 35 = .ok (.ireturn, 1) := by decide +kernel
set_option maxRecDepth 20000 in
theorem ggX3_printPieces_X1_count : GoodIn wsX3_printPieces wsX1_count := goodIn_r _ [5, 6, 7, 8, 3, 9, 10, 11, 12, 13, 14, 15, 16, 17, 18, 19, 20, 21, 38] (by decide +kernel) (by decide +kernel)
set_option maxRecDepth 20000 in
theorem gX3_printPieces_X1_count_n62 : GoodIn wsX3_printPieces (wsX1_count) := ggX3_printPieces_X1_count
set_option maxRecDepth 20000 in
theorem ggX3_printPieces_X1_countInPiece : GoodIn wsX3_printPieces wsX1_countInPiece := goodIn_r _ [9, 10, 11, 12, 3, 13, 14, 15, 16, 17, 18, 19, 20, 21, 38] (by decide +kernel) (by decide +kernel)
set_option maxRecDepth 20000 in
theorem gX3_printPieces_X1_countInPiece_n166 : GoodIn wsX3_printPieces (wsX1_countInPiece) := ggX3_printPieces_X1_countInPiece
set_option maxRecDepth 20000 in
theorem ggX3_printPieces_X1_detail : GoodIn wsX3_printPieces wsX1_detail := goodIn_r _ [24, 25, 26, 27, 3, 28, 6, 7, 8, 9, 10, 11, 12, 13, 14, 15, 16, 17, 18, 19, 20, 21, 29, 30, 31, 32, 33, 34, 35, 36, 37, 38] (by decide +kernel) (by decide +kernel)
set_option maxRecDepth 20000 in
theorem gX3_printPieces_X1_detail_n106 : GoodIn wsX3_printPieces (wsX1_detail) := ggX3_printPieces_X1_detail
theorem dX3_printPieces_0 : decode cX3_printPieces 0 = .ok (.ldc2_w 155, 3) := by decide +kernel
theorem dX3_printPieces_3 : decode cX3_printPieces 3 = .ok (.lload_n 0, 1) := by decide +kernel
theorem dX3_printPieces_4 : decode cX3_printPieces 4 = .ok (.lmul, 1) := by decide +kernel
theorem dX3_printPieces_5 : decode cX3_printPieces 5 = .ok (.aload_n 2, 1) := by decide +kernel
theorem dX3_printPieces_6 : decode cX3_printPieces 6 = .ok (.invokevirtual 62, 3) := by decide +kernel
theorem dX3_printPieces_9 : decode cX3_printPieces 9 = .ok (.i2l, 1) := by decide +kernel
theorem dX3_printPieces_10 : decode cX3_printPieces 10 = .ok (.ladd, 1) := by decide +kernel
theorem dX3_printPieces_11 : decode cX3_printPieces 11 = .ok (.lstore_n 3, 1) := by decide +kernel
theorem dX3_printPieces_12 : decode cX3_printPieces 12 = .ok (.iconst 0, 1) := by decide +kernel
theorem dX3_printPieces_13 : decode cX3_printPieces 13 = .ok (.istore 5, 2) := by decide +kernel
theorem dX3_printPieces_15 : decode cX3_printPieces 15 = .ok (.iload 5, 2) := by decide +kernel
theorem dX3_printPieces_17 : decode cX3_printPieces 17 = .ok (.bipush 16, 2) := by decide +kernel
theorem dX3_printPieces_19 : decode cX3_printPieces 19 = .ok (.if_icmp .ge 59, 3) := by decide +kernel
theorem dX3_printPieces_22 : decode cX3_printPieces 22 = .ok (.aload_n 2, 1) := by decide +kernel
theorem dX3_printPieces_23 : decode cX3_printPieces 23 = .ok (.iload 5, 2) := by decide +kernel
theorem dX3_printPieces_25 : decode cX3_printPieces 25 = .ok (.invokevirtual 166, 3) := by decide +kernel
theorem dX3_printPieces_28 : decode cX3_printPieces 28 = .ok (.ifCond .le 44, 3) := by decide +kernel
theorem dX3_printPieces_31 : decode cX3_printPieces 31 = .ok (.ldc2_w 155, 3) := by decide +kernel
theorem dX3_printPieces_34 : decode cX3_printPieces 34 = .ok (.lload_n 3, 1) := by decide +kernel
theorem dX3_printPieces_35 : decode cX3_printPieces 35 = .ok (.lmul, 1) := by decide +kernel
theorem dX3_printPieces_36 : decode cX3_printPieces 36 = .ok (.iload 5, 2) := by decide +kernel
theorem dX3_printPieces_38 : decode cX3_printPieces 38 = .ok (.i2l, 1) := by decide +kernel
theorem dX3_printPieces_39 : decode cX3_printPieces 39 = .ok (.ladd, 1) := by decide +kernel
theorem dX3_printPieces_40 : decode cX3_printPieces 40 = .ok (.lstore_n 3, 1) := by decide +kernel
theorem dX3_printPieces_41 : decode cX3_printPieces 41 = .ok (.iconst 0, 1) := by decide +kernel
theorem dX3_printPieces_42 : decode cX3_printPieces 42 = .ok (.istore 6, 2) := by decide +kernel
theorem dX3_printPieces_44 : decode cX3_printPieces 44 = .ok (.iload 6, 2) := by decide +kernel
theorem dX3_printPieces_46 : decode cX3_printPieces 46 = .ok (.iconst 4, 1) := by decide +kernel
theorem dX3_printPieces_47 : decode cX3_printPieces 47 = .ok (.if_icmp .ge 25, 3) := by decide +kernel
theorem dX3_printPieces_50 : decode cX3_printPieces 50 = .ok (.ldc2_w 155, 3) := by decide +kernel
theorem dX3_printPieces_53 : decode cX3_printPieces 53 = .ok (.lload_n 3, 1) := by decide +kernel
theorem dX3_printPieces_54 : decode cX3_printPieces 54 = .ok (.lmul, 1) := by decide +kernel
theorem dX3_printPieces_55 : decode cX3_printPieces 55 = .ok (.aload_n 2, 1) := by decide +kernel
theorem dX3_printPieces_56 : decode cX3_printPieces 56 = .ok (.iload 5, 2) := by decide +kernel
theorem dX3_printPieces_58 : decode cX3_printPieces 58 = .ok (.iload 6, 2) := by decide +kernel
theorem dX3_printPieces_60 : decode cX3_printPieces 60 = .ok (.invokevirtual 106, 3) := by decide +kernel
theorem dX3_printPieces_63 : decode cX3_printPieces 63 = .ok (.i2l, 1) := by decide +kernel
theorem dX3_printPieces_64 : decode cX3_printPieces 64 = .ok (.ladd, 1) := by decide +kernel
theorem dX3_printPieces_65 : decode cX3_printPieces 65 = .ok (.lstore_n 3, 1) := by decide +kernel
theorem dX3_printPieces_66 : decode cX3_printPieces 66 = .ok (.iinc 6 1, 3) := by decide +kernel
theorem dX3_printPieces_69 : decode cX3_printPieces 69 = .ok (.goto (-25), 3) := by decide +kernel
theorem dX3_printPieces_72 : decode cX3_printPieces 72 = .ok (.iinc 5 1, 3) := by decide +kernel
theorem dX3_printPieces_75 : decode cX3_printPieces 75 = .ok (.goto (-60), 3) := by decide +kernel
theorem dX3_printPieces_78 : decode cX3_printPieces 78 = .ok (.lload_n 3, 1) := by decide +kernel
theorem dX3_printPieces_79 : decode cX3_printPieces 79 = .ok (.lreturn, 1) := by decide +kernel
theorem dX3_printNumbers_0 : decode cX3_printNumbers 0 = .ok (.lload_n 0, 1) := by decide +kernel
theorem dX3_printNumbers_1 : decode cX3_printNumbers 1 = .ok (.lstore_n 3, 1) := by decide +kernel
theorem dX3_printNumbers_2 : decode cX3_printNumbers 2 = .ok (.iconst 0, 1) := by decide +kernel
theorem dX3_printNumbers_3 : decode cX3_printNumbers 3 = .ok (.istore 5, 2) := by decide +kernel
theorem dX3_printNumbers_5 : decode cX3_printNumbers 5 = .ok (.iload 5, 2) := by decide +kernel
theorem dX3_printNumbers_7 : decode cX3_printNumbers 7 = .ok (.bipush 64, 2) := by decide +kernel
theorem dX3_printNumbers_9 : decode cX3_printNumbers 9 = .ok (.if_icmp .ge 70, 3) := by decide +kernel
theorem dX3_printNumbers_12 : decode cX3_printNumbers 12 = .ok (.aload_n 2, 1) := by decide +kernel
theorem dX3_printNumbers_13 : decode cX3_printNumbers 13 = .ok (.getfield 169, 3) := by decide +kernel
theorem dX3_printNumbers_16 : decode cX3_printNumbers 16 = .ok (.iload 5, 2) := by decide +kernel
theorem dX3_printNumbers_18 : decode cX3_printNumbers 18 = .ok (.laload, 1) := by decide +kernel
theorem dX3_printNumbers_19 : decode cX3_printNumbers 19 = .ok (.lstore 6, 2) := by decide +kernel
theorem dX3_printNumbers_21 : decode cX3_printNumbers 21 = .ok (.iconst 0, 1) := by decide +kernel
theorem dX3_printNumbers_22 : decode cX3_printNumbers 22 = .ok (.istore 8, 2) := by decide +kernel
theorem dX3_printNumbers_24 : decode cX3_printNumbers 24 = .ok (.iload 8, 2) := by decide +kernel
theorem dX3_printNumbers_26 : decode cX3_printNumbers 26 = .ok (.bipush 64, 2) := by decide +kernel
theorem dX3_printNumbers_28 : decode cX3_printNumbers 28 = .ok (.if_icmp .ge 45, 3) := by decide +kernel
theorem dX3_printNumbers_31 : decode cX3_printNumbers 31 = .ok (.lload 6, 2) := by decide +kernel
theorem dX3_printNumbers_33 : decode cX3_printNumbers 33 = .ok (.lconst 0, 1) := by decide +kernel
theorem dX3_printNumbers_34 : decode cX3_printNumbers 34 = .ok (.lcmp, 1) := by decide +kernel
theorem dX3_printNumbers_35 : decode cX3_printNumbers 35 = .ok (.ifCond .eq 38, 3) := by decide +kernel
theorem dX3_printNumbers_38 : decode cX3_printNumbers 38 = .ok (.lload 6, 2) := by decide +kernel
theorem dX3_printNumbers_40 : decode cX3_printNumbers 40 = .ok (.iload 8, 2) := by decide +kernel
theorem dX3_printNumbers_42 : decode cX3_printNumbers 42 = .ok (.lushr, 1) := by decide +kernel
theorem dX3_printNumbers_43 : decode cX3_printNumbers 43 = .ok (.lconst 1, 1) := by decide +kernel
theorem dX3_printNumbers_44 : decode cX3_printNumbers 44 = .ok (.land, 1) := by decide +kernel
theorem dX3_printNumbers_45 : decode cX3_printNumbers 45 = .ok (.lconst 0, 1) := by decide +kernel
theorem dX3_printNumbers_46 : decode cX3_printNumbers 46 = .ok (.lcmp, 1) := by decide +kernel
theorem dX3_printNumbers_47 : decode cX3_printNumbers 47 = .ok (.ifCond .eq 20, 3) := by decide +kernel
theorem dX3_printNumbers_50 : decode cX3_printNumbers 50 = .ok (.ldc2_w 155, 3) := by decide +kernel
theorem dX3_printNumbers_53 : decode cX3_printNumbers 53 = .ok (.lload_n 3, 1) := by decide +kernel
theorem dX3_printNumbers_54 : decode cX3_printNumbers 54 = .ok (.lmul, 1) := by decide +kernel
theorem dX3_printNumbers_55 : decode cX3_printNumbers 55 = .ok (.bipush 64, 2) := by decide +kernel
theorem dX3_printNumbers_57 : decode cX3_printNumbers 57 = .ok (.iload 5, 2) := by decide +kernel
theorem dX3_printNumbers_59 : decode cX3_printNumbers 59 = .ok (.imul, 1) := by decide +kernel
theorem dX3_printNumbers_60 : decode cX3_printNumbers 60 = .ok (.i2l, 1) := by decide +kernel
theorem dX3_printNumbers_61 : decode cX3_printNumbers 61 = .ok (.ladd, 1) := by decide +kernel
theorem dX3_printNumbers_62 : decode cX3_printNumbers 62 = .ok (.iload 8, 2) := by decide +kernel
theorem dX3_printNumbers_64 : decode cX3_printNumbers 64 = .ok (.i2l, 1) := by decide +kernel
theorem dX3_printNumbers_65 : decode cX3_printNumbers 65 = .ok (.ladd, 1) := by decide +kernel
theorem dX3_printNumbers_66 : decode cX3_printNumbers 66 = .ok (.lstore_n 3, 1) := by decide +kernel
theorem dX3_printNumbers_67 : decode cX3_printNumbers 67 = .ok (.iinc 8 1, 3) := by decide +kernel
theorem dX3_printNumbers_70 : decode cX3_printNumbers 70 = .ok (.goto (-46), 3) := by decide +kernel
theorem dX3_printNumbers_73 : decode cX3_printNumbers 73 = .ok (.iinc 5 1, 3) := by decide +kernel
theorem dX3_printNumbers_76 : decode cX3_printNumbers 76 = .ok (.goto (-71), 3) := by decide +kernel
theorem dX3_printNumbers_79 : decode cX3_printNumbers 79 = .ok (.lload_n 3, 1) := by decide +kernel
theorem dX3_printNumbers_80 : decode cX3_printNumbers 80 = .ok (.lreturn, 1) := by decide +kernel
theorem dX4_init_0 : decode cX4_init 0 = .ok (.aload_n 0, 1) := by decide +kernel
theorem dX4_init_1 : decode cX4_init 1 = .ok (.invokespecial 1, 3) := by decide +kernel
theorem dX4_init_4 : decode cX4_init 4 = .ok (.aload_n 0, 1) := by decide +kernel
theorem dX4_init_5 : decode cX4_init 5 = .ok (.sipush 790, 3) := by decide +kernel
theorem dX4_init_8 : decode cX4_init 8 = .ok (.newarray .int, 2) := by decide +kernel
theorem dX4_init_10 : decode cX4_init 10 = .ok (.putfield 7, 3) := by decide +kernel
theorem dX4_init_13 : decode cX4_init 13 = .ok (.aload_n 0, 1) := by decide +kernel
theorem dX4_init_14 : decode cX4_init 14 = .ok (.sipush 790, 3) := by decide +kernel
theorem dX4_init_17 : decode cX4_init 17 = .ok (.newarray .int, 2) := by decide +kernel
theorem dX4_init_19 : decode cX4_init 19 = .ok (.putfield 13, 3) := by decide +kernel
theorem dX4_init_22 : decode cX4_init 22 = .ok (.aload_n 0, 1) := by decide +kernel
theorem dX4_init_23 : decode cX4_init 23 = .ok (.sipush 3950, 3) := by decide +kernel
theorem dX4_init_26 : decode cX4_init 26 = .ok (.newarray .int, 2) := by decide +kernel
theorem dX4_init_28 : decode cX4_init 28 = .ok (.putfield 16, 3) := by decide +kernel
theorem dX4_init_31 : decode cX4_init 31 = .ok (.aload_n 0, 1) := by decide +kernel
theorem dX4_init_32 : decode cX4_init 32 = .ok (.sipush 200, 3) := by decide +kernel
theorem dX4_init_35 : decode cX4_init 35 = .ok (.newarray .int, 2) := by decide +kernel
theorem dX4_init_37 : decode cX4_init 37 = .ok (.putfield 19, 3) := by decide +kernel
theorem dX4_init_40 : decode cX4_init 40 = .ok (.aload_n 0, 1) := by decide +kernel
theorem dX4_init_41 : decode cX4_init 41 = .ok (.sipush 128, 3) := by decide +kernel
theorem dX4_init_44 : decode cX4_init 44 = .ok (.newarray .int, 2) := by decide +kernel
theorem dX4_init_46 : decode cX4_init 46 = .ok (.putfield 22, 3) := by decide +kernel
theorem dX4_init_49 : decode cX4_init 49 = .ok (.return_, 1) := by decide +kernel
theorem dX4_in_0 : decode cX4_in 0 = .ok (.iload_n 0, 1) := by decide +kernel
theorem dX4_in_1 : decode cX4_in 1 = .ok (.iload_n 1, 1) := by decide +kernel
theorem dX4_in_2 : decode cX4_in 2 = .ok (.if_icmp .lt 12, 3) := by decide +kernel
theorem dX4_in_5 : decode cX4_in 5 = .ok (.iload_n 0, 1) := by decide +kernel
theorem dX4_in_6 : decode cX4_in 6 = .ok (.iload_n 2, 1) := by decide +kernel
theorem dX4_in_7 : decode cX4_in 7 = .ok (.if_icmp .gt 7, 3) := by decide +kernel
theorem dX4_in_10 : decode cX4_in 10 = .ok (.iconst 1, 1) := by decide +kernel
theorem dX4_in_11 : decode cX4_in 11 = .ok (.goto 4, 3) := by decide +kernel
theorem dX4_in_14 : decode cX4_in 14 = .ok (.iconst 0, 1) := by decide +kernel
theorem dX4_in_15 : decode cX4_in 15 = .ok (.ireturn, 1) := by decide +kernel
set_option maxRecDepth 20000 in
theorem ggX4_isSet_X4_in : GoodIn wsX4_isSet wsX4_in := goodIn_r _ [4] (by decide +kernel) (by decide +kernel)
set_option maxRecDepth 20000 in
theorem gX4_isSet_X4_in : GoodIn wsX4_isSet (va_wsS RX4 25 yX4_in wsX4_in) := goodIn_app (goodIn_of _ (by decide +kernel)) ggX4_isSet_X4_in
theorem dX4_isSet_0 : decode cX4_isSet 0 = .ok (.iload_n 0, 1) := by decide +kernel
theorem dX4_isSet_1 : decode cX4_isSet 1 = .ok (.iconst 0, 1) := by decide +kernel
theorem dX4_isSet_2 : decode cX4_isSet 2 = .ok (.iconst 5, 1) := by decide +kernel
theorem dX4_isSet_3 : decode cX4_isSet 3 = .ok (.invokestatic 25, 3) := by decide +kernel
theorem dX4_isSet_6 : decode cX4_isSet 6 = .ok (.ireturn, 1) := by decide +kernel
theorem dX4_bit_0 : decode cX4_bit 0 = .ok (.aload_n 0, 1) := by decide +kernel
theorem dX4_bit_1 : decode cX4_bit 1 = .ok (.sipush 128, 3) := by decide +kernel
theorem dX4_bit_4 : decode cX4_bit 4 = .ok (.iload_n 1, 1) := by decide +kernel
theorem dX4_bit_5 : decode cX4_bit 5 = .ok (.imul, 1) := by decide +kernel
theorem dX4_bit_6 : decode cX4_bit 6 = .ok (.iload_n 2, 1) := by decide +kernel
theorem dX4_bit_7 : decode cX4_bit 7 = .ok (.bipush 32, 2) := by decide +kernel
theorem dX4_bit_9 : decode cX4_bit 9 = .ok (.idiv, 1) := by decide +kernel
theorem dX4_bit_10 : decode cX4_bit 10 = .ok (.iadd, 1) := by decide +kernel
theorem dX4_bit_11 : decode cX4_bit 11 = .ok (.iaload, 1) := by decide +kernel
theorem dX4_bit_12 : decode cX4_bit 12 = .ok (.iload_n 2, 1) := by decide +kernel
theorem dX4_bit_13 : decode cX4_bit 13 = .ok (.bipush 32, 2) := by decide +kernel
theorem dX4_bit_15 : decode cX4_bit 15 = .ok (.irem, 1) := by decide +kernel
theorem dX4_bit_16 : decode cX4_bit 16 = .ok (.ishr, 1) := by decide +kernel
theorem dX4_bit_17 : decode cX4_bit 17 = .ok (.iconst 1, 1) := by decide +kernel
theorem dX4_bit_18 : decode cX4_bit 18 = .ok (.iand, 1) := by decide +kernel
theorem dX4_bit_19 : decode cX4_bit 19 = .ok (.iconst 1, 1) := by decide +kernel
theorem dX4_bit_20 : decode cX4_bit 20 = .ok (.if_icmp .ne 7, 3) := by decide +kernel
theorem dX4_bit_23 : decode cX4_bit 23 = .ok (.iconst 1, 1) := by decide +kernel
theorem dX4_bit_24 : decode cX4_bit 24 = .ok (.goto 4, 3) := by decide +kernel
theorem dX4_bit_27 : decode cX4_bit 27 = .ok (.iconst 0, 1) := by decide +kernel
theorem dX4_bit_28 : decode cX4_bit 28 = .ok (.ireturn, 1) := by decide +kernel
set_option maxRecDepth 20000 in
theorem ggX4_has_X4_bit : GoodIn wsX4_has wsX4_bit := goodIn_r _ [5] (by decide +kernel) (by decide +kernel)
set_option maxRecDepth 20000 in
theorem gX4_has_X4_bit : GoodIn wsX4_has (va_wsS RX4 29 yX4_bit wsX4_bit) := goodIn_app (goodIn_of _ (by decide +kernel)) ggX4_has_X4_bit
theorem dX4_has_0 : decode cX4_has 0 = .ok (.aload_n 0, 1) := by decide +kernel
theorem dX4_has_1 : decode cX4_has 1 = .ok (.getfield 7, 3) := by decide +kernel
theorem dX4_has_4 : decode cX4_has 4 = .ok (.iload_n 1, 1) := by decide +kernel
theorem dX4_has_5 : decode cX4_has 5 = .ok (.iload_n 2, 1) := by decide +kernel
theorem dX4_has_6 : decode cX4_has 6 = .ok (.invokestatic 29, 3) := by decide +kernel
theorem dX4_has_9 : decode cX4_has 9 = .ok (.ireturn, 1) := by decide +kernel
theorem dX4_puts_0 : decode cX4_puts 0 = .ok (.sipush 128, 3) := by decide +kernel
theorem dX4_puts_3 : decode cX4_puts 3 = .ok (.iload_n 1, 1) := by decide +kernel
theorem dX4_puts_4 : decode cX4_puts 4 = .ok (.imul, 1) := by decide +kernel
theorem dX4_puts_5 : decode cX4_puts 5 = .ok (.iload_n 2, 1) := by decide +kernel
theorem dX4_puts_6 : decode cX4_puts 6 = .ok (.bipush 32, 2) := by decide +kernel
theorem dX4_puts_8 : decode cX4_puts 8 = .ok (.idiv, 1) := by decide +kernel
theorem dX4_puts_9 : decode cX4_puts 9 = .ok (.iadd, 1) := by decide +kernel
theorem dX4_puts_10 : decode cX4_puts 10 = .ok (.istore 4, 2) := by decide +kernel
theorem dX4_puts_12 : decode cX4_puts 12 = .ok (.aload_n 0, 1) := by decide +kernel
theorem dX4_puts_13 : decode cX4_puts 13 = .ok (.getfield 7, 3) := by decide +kernel
theorem dX4_puts_16 : decode cX4_puts 16 = .ok (.iload 4, 2) := by decide +kernel
theorem dX4_puts_18 : decode cX4_puts 18 = .ok (.iload_n 3, 1) := by decide +kernel
theorem dX4_puts_19 : decode cX4_puts 19 = .ok (.ifCond .eq 20, 3) := by decide +kernel
theorem dX4_puts_22 : decode cX4_puts 22 = .ok (.aload_n 0, 1) := by decide +kernel
theorem dX4_puts_23 : decode cX4_puts 23 = .ok (.getfield 7, 3) := by decide +kernel
theorem dX4_puts_26 : decode cX4_puts 26 = .ok (.iload 4, 2) := by decide +kernel
theorem dX4_puts_28 : decode cX4_puts 28 = .ok (.iaload, 1) := by decide +kernel
theorem dX4_puts_29 : decode cX4_puts 29 = .ok (.iconst 1, 1) := by decide +kernel
theorem dX4_puts_30 : decode cX4_puts 30 = .ok (.iload_n 2, 1) := by decide +kernel
theorem dX4_puts_31 : decode cX4_puts 31 = .ok (.bipush 32, 2) := by decide +kernel
theorem dX4_puts_33 : decode cX4_puts 33 = .ok (.irem, 1) := by decide +kernel
theorem dX4_puts_34 : decode cX4_puts 34 = .ok (.ishl, 1) := by decide +kernel
theorem dX4_puts_35 : decode cX4_puts 35 = .ok (.ior, 1) := by decide +kernel
theorem dX4_puts_36 : decode cX4_puts 36 = .ok (.goto 19, 3) := by decide +kernel
theorem dX4_puts_39 : decode cX4_puts 39 = .ok (.aload_n 0, 1) := by decide +kernel
theorem dX4_puts_40 : decode cX4_puts 40 = .ok (.getfield 7, 3) := by decide +kernel
theorem dX4_puts_43 : decode cX4_puts 43 = .ok (.iload 4, 2) := by decide +kernel
theorem dX4_puts_45 : decode cX4_puts 45 = .ok (.iaload, 1) := by decide +kernel
theorem dX4_puts_46 : decode cX4_puts 46 = .ok (.iconst 1, 1) := by decide +kernel
theorem dX4_puts_47 : decode cX4_puts 47 = .ok (.iload_n 2, 1) := by decide +kernel
theorem dX4_puts_48 : decode cX4_puts 48 = .ok (.bipush 32, 2) := by decide +kernel
theorem dX4_puts_50 : decode cX4_puts 50 = .ok (.irem, 1) := by decide +kernel
theorem dX4_puts_51 : decode cX4_puts 51 = .ok (.ishl, 1) := by decide +kernel
theorem dX4_puts_52 : decode cX4_puts 52 = .ok (.iconst (-1), 1) := by decide +kernel
theorem dX4_puts_53 : decode cX4_puts 53 = .ok (.ixor, 1) := by decide +kernel
theorem dX4_puts_54 : decode cX4_puts 54 = .ok (.iand, 1) := by decide +kernel
theorem dX4_puts_55 : decode cX4_puts 55 = .ok (.iastore, 1) := by decide +kernel
theorem dX4_puts_56 : decode cX4_puts 56 = .ok (.return_, 1) := by decide +kernel
theorem dX4_act_0 : decode cX4_act 0 = .ok (.aload_n 0, 1) := by decide +kernel
theorem dX4_act_1 : decode cX4_act 1 = .ok (.getfield 33, 3) := by decide +kernel
theorem dX4_act_4 : decode cX4_act 4 = .ok (.iconst 5, 1) := by decide +kernel
theorem dX4_act_5 : decode cX4_act 5 = .ok (.if_icmp .ne 44, 3) := by decide +kernel
theorem dX4_act_8 : decode cX4_act 8 = .ok (.iconst 0, 1) := by decide +kernel
theorem dX4_act_9 : decode cX4_act 9 = .ok (.istore_n 1, 1) := by decide +kernel
theorem dX4_act_10 : decode cX4_act 10 = .ok (.iload_n 1, 1) := by decide +kernel
theorem dX4_act_11 : decode cX4_act 11 = .ok (.sipush 3160, 3) := by decide +kernel
theorem dX4_act_14 : decode cX4_act 14 = .ok (.if_icmp .ge 25, 3) := by decide +kernel
theorem dX4_act_17 : decode cX4_act 17 = .ok (.aload_n 0, 1) := by decide +kernel
theorem dX4_act_18 : decode cX4_act 18 = .ok (.getfield 16, 3) := by decide +kernel
theorem dX4_act_21 : decode cX4_act 21 = .ok (.iload_n 1, 1) := by decide +kernel
theorem dX4_act_22 : decode cX4_act 22 = .ok (.aload_n 0, 1) := by decide +kernel
theorem dX4_act_23 : decode cX4_act 23 = .ok (.getfield 16, 3) := by decide +kernel
theorem dX4_act_26 : decode cX4_act 26 = .ok (.iload_n 1, 1) := by decide +kernel
theorem dX4_act_27 : decode cX4_act 27 = .ok (.sipush 790, 3) := by decide +kernel
theorem dX4_act_30 : decode cX4_act 30 = .ok (.iadd, 1) := by decide +kernel
theorem dX4_act_31 : decode cX4_act 31 = .ok (.iaload, 1) := by decide +kernel
theorem dX4_act_32 : decode cX4_act 32 = .ok (.iastore, 1) := by decide +kernel
theorem dX4_act_33 : decode cX4_act 33 = .ok (.iinc 1 1, 3) := by decide +kernel
theorem dX4_act_36 : decode cX4_act 36 = .ok (.goto (-26), 3) := by decide +kernel
theorem dX4_act_39 : decode cX4_act 39 = .ok (.aload_n 0, 1) := by decide +kernel
theorem dX4_act_40 : decode cX4_act 40 = .ok (.dup, 1) := by decide +kernel
theorem dX4_act_41 : decode cX4_act 41 = .ok (.getfield 33, 3) := by decide +kernel
theorem dX4_act_44 : decode cX4_act 44 = .ok (.iconst 1, 1) := by decide +kernel
theorem dX4_act_45 : decode cX4_act 45 = .ok (.isub, 1) := by decide +kernel
theorem dX4_act_46 : decode cX4_act 46 = .ok (.putfield 33, 3) := by decide +kernel
theorem dX4_act_49 : decode cX4_act 49 = .ok (.iconst 0, 1) := by decide +kernel
theorem dX4_act_50 : decode cX4_act 50 = .ok (.istore_n 1, 1) := by decide +kernel
theorem dX4_act_51 : decode cX4_act 51 = .ok (.iload_n 1, 1) := by decide +kernel
theorem dX4_act_52 : decode cX4_act 52 = .ok (.sipush 790, 3) := by decide +kernel
theorem dX4_act_55 : decode cX4_act 55 = .ok (.if_icmp .ge 42, 3) := by decide +kernel
theorem dX4_act_58 : decode cX4_act 58 = .ok (.aload_n 0, 1) := by decide +kernel
theorem dX4_act_59 : decode cX4_act 59 = .ok (.getfield 16, 3) := by decide +kernel
theorem dX4_act_62 : decode cX4_act 62 = .ok (.sipush 790, 3) := by decide +kernel
theorem dX4_act_65 : decode cX4_act 65 = .ok (.aload_n 0, 1) := by decide +kernel
theorem dX4_act_66 : decode cX4_act 66 = .ok (.getfield 33, 3) := by decide +kernel
theorem dX4_act_69 : decode cX4_act 69 = .ok (.imul, 1) := by decide +kernel
theorem dX4_act_70 : decode cX4_act 70 = .ok (.iload_n 1, 1) := by decide +kernel
theorem dX4_act_71 : decode cX4_act 71 = .ok (.iadd, 1) := by decide +kernel
theorem dX4_act_72 : decode cX4_act 72 = .ok (.aload_n 0, 1) := by decide +kernel
theorem dX4_act_73 : decode cX4_act 73 = .ok (.getfield 7, 3) := by decide +kernel
theorem dX4_act_76 : decode cX4_act 76 = .ok (.iload_n 1, 1) := by decide +kernel
theorem dX4_act_77 : decode cX4_act 77 = .ok (.iaload, 1) := by decide +kernel
theorem dX4_act_78 : decode cX4_act 78 = .ok (.iastore, 1) := by decide +kernel
theorem dX4_act_79 : decode cX4_act 79 = .ok (.aload_n 0, 1) := by decide +kernel
theorem dX4_act_80 : decode cX4_act 80 = .ok (.getfield 13, 3) := by decide +kernel
theorem dX4_act_83 : decode cX4_act 83 = .ok (.iload_n 1, 1) := by decide +kernel
theorem dX4_act_84 : decode cX4_act 84 = .ok (.aload_n 0, 1) := by decide +kernel
theorem dX4_act_85 : decode cX4_act 85 = .ok (.getfield 7, 3) := by decide +kernel
theorem dX4_act_88 : decode cX4_act 88 = .ok (.iload_n 1, 1) := by decide +kernel
theorem dX4_act_89 : decode cX4_act 89 = .ok (.iaload, 1) := by decide +kernel
theorem dX4_act_90 : decode cX4_act 90 = .ok (.iastore, 1) := by decide +kernel
theorem dX4_act_91 : decode cX4_act 91 = .ok (.iinc 1 1, 3) := by decide +kernel
theorem dX4_act_94 : decode cX4_act 94 = .ok (.goto (-43), 3) := by decide +kernel
theorem dX4_act_97 : decode cX4_act 97 = .ok (.aload_n 0, 1) := by decide +kernel
theorem dX4_act_98 : decode cX4_act 98 = .ok (.dup, 1) := by decide +kernel
theorem dX4_act_99 : decode cX4_act 99 = .ok (.getfield 33, 3) := by decide +kernel
theorem dX4_act_102 : decode cX4_act 102 = .ok (.iconst 1, 1) := by decide +kernel
theorem dX4_act_103 : decode cX4_act 103 = .ok (.iadd, 1) := by decide +kernel
theorem dX4_act_104 : decode cX4_act 104 = .ok (.putfield 33, 3) := by decide +kernel
theorem dX4_act_107 : decode cX4_act 107 = .ok (.return_, 1) := by decide +kernel
set_option maxRecDepth 20000 in
theorem ggX4_manyIn_X4_bit : GoodIn wsX4_manyIn wsX4_bit := goodIn_r _ [4] (by decide +kernel) (by decide +kernel)
set_option maxRecDepth 20000 in
theorem gX4_manyIn_X4_bit : GoodIn wsX4_manyIn (va_wsS RX4 29 yX4_bit wsX4_bit) := goodIn_app (goodIn_of _ (by decide +kernel)) ggX4_manyIn_X4_bit
theorem dX4_manyIn_0 : decode cX4_manyIn 0 = .ok (.iconst 0, 1) := by decide +kernel
theorem dX4_manyIn_1 : decode cX4_manyIn 1 = .ok (.istore_n 3, 1) := by decide +kernel
theorem dX4_manyIn_2 : decode cX4_manyIn 2 = .ok (.sipush 256, 3) := by decide +kernel
theorem dX4_manyIn_5 : decode cX4_manyIn 5 = .ok (.iload_n 2, 1) := by decide +kernel
theorem dX4_manyIn_6 : decode cX4_manyIn 6 = .ok (.imul, 1) := by decide +kernel
theorem dX4_manyIn_7 : decode cX4_manyIn 7 = .ok (.istore 4, 2) := by decide +kernel
theorem dX4_manyIn_9 : decode cX4_manyIn 9 = .ok (.iload 4, 2) := by decide +kernel
theorem dX4_manyIn_11 : decode cX4_manyIn 11 = .ok (.sipush 256, 3) := by decide +kernel
theorem dX4_manyIn_14 : decode cX4_manyIn 14 = .ok (.iload_n 2, 1) := by decide +kernel
theorem dX4_manyIn_15 : decode cX4_manyIn 15 = .ok (.imul, 1) := by decide +kernel
theorem dX4_manyIn_16 : decode cX4_manyIn 16 = .ok (.sipush 256, 3) := by decide +kernel
theorem dX4_manyIn_19 : decode cX4_manyIn 19 = .ok (.iadd, 1) := by decide +kernel
theorem dX4_manyIn_20 : decode cX4_manyIn 20 = .ok (.if_icmp .ge 27, 3) := by decide +kernel
theorem dX4_manyIn_23 : decode cX4_manyIn 23 = .ok (.iload_n 3, 1) := by decide +kernel
theorem dX4_manyIn_24 : decode cX4_manyIn 24 = .ok (.aload_n 0, 1) := by decide +kernel
theorem dX4_manyIn_25 : decode cX4_manyIn 25 = .ok (.iload_n 1, 1) := by decide +kernel
theorem dX4_manyIn_26 : decode cX4_manyIn 26 = .ok (.iload 4, 2) := by decide +kernel
theorem dX4_manyIn_28 : decode cX4_manyIn 28 = .ok (.invokestatic 29, 3) := by decide +kernel
theorem dX4_manyIn_31 : decode cX4_manyIn 31 = .ok (.ifCond .eq 7, 3) := by decide +kernel
theorem dX4_manyIn_34 : decode cX4_manyIn 34 = .ok (.iconst 1, 1) := by decide +kernel
theorem dX4_manyIn_35 : decode cX4_manyIn 35 = .ok (.goto 4, 3) := by decide +kernel
theorem dX4_manyIn_38 : decode cX4_manyIn 38 = .ok (.iconst 0, 1) := by decide +kernel
theorem dX4_manyIn_39 : decode cX4_manyIn 39 = .ok (.iadd, 1) := by decide +kernel
theorem dX4_manyIn_40 : decode cX4_manyIn 40 = .ok (.istore_n 3, 1) := by decide +kernel
theorem dX4_manyIn_41 : decode cX4_manyIn 41 = .ok (.iinc 4 1, 3) := by decide +kernel
theorem dX4_manyIn_44 : decode cX4_manyIn 44 = .ok (.goto (-35), 3) := by decide +kernel
theorem dX4_manyIn_47 : decode cX4_manyIn 47 = .ok (.iload_n 3, 1) := by decide +kernel
theorem dX4_manyIn_48 : decode cX4_manyIn 48 = .ok (.ireturn, 1) := by decide +kernel
set_option maxRecDepth 20000 in
theorem ggX4_runsIn_X4_bit : GoodIn wsX4_runsIn wsX4_bit := goodIn_r _ [4] (by decide +kernel) (by decide +kernel)
set_option maxRecDepth 20000 in
theorem gX4_runsIn_X4_bit : GoodIn wsX4_runsIn (va_wsS RX4 29 yX4_bit wsX4_bit) := goodIn_app (goodIn_of _ (by decide +kernel)) ggX4_runsIn_X4_bit
theorem dX4_runsIn_0 : decode cX4_runsIn 0 = .ok (.iconst 0, 1) := by decide +kernel
theorem dX4_runsIn_1 : decode cX4_runsIn 1 = .ok (.istore_n 3, 1) := by decide +kernel
theorem dX4_runsIn_2 : decode cX4_runsIn 2 = .ok (.sipush 256, 3) := by decide +kernel
theorem dX4_runsIn_5 : decode cX4_runsIn 5 = .ok (.iload_n 2, 1) := by decide +kernel
theorem dX4_runsIn_6 : decode cX4_runsIn 6 = .ok (.imul, 1) := by decide +kernel
theorem dX4_runsIn_7 : decode cX4_runsIn 7 = .ok (.istore 4, 2) := by decide +kernel
theorem dX4_runsIn_9 : decode cX4_runsIn 9 = .ok (.iload 4, 2) := by decide +kernel
theorem dX4_runsIn_11 : decode cX4_runsIn 11 = .ok (.sipush 256, 3) := by decide +kernel
theorem dX4_runsIn_14 : decode cX4_runsIn 14 = .ok (.iload_n 2, 1) := by decide +kernel
theorem dX4_runsIn_15 : decode cX4_runsIn 15 = .ok (.imul, 1) := by decide +kernel
theorem dX4_runsIn_16 : decode cX4_runsIn 16 = .ok (.sipush 256, 3) := by decide +kernel
theorem dX4_runsIn_19 : decode cX4_runsIn 19 = .ok (.iadd, 1) := by decide +kernel
theorem dX4_runsIn_20 : decode cX4_runsIn 20 = .ok (.if_icmp .ge 48, 3) := by decide +kernel
theorem dX4_runsIn_23 : decode cX4_runsIn 23 = .ok (.iload_n 3, 1) := by decide +kernel
theorem dX4_runsIn_24 : decode cX4_runsIn 24 = .ok (.aload_n 0, 1) := by decide +kernel
theorem dX4_runsIn_25 : decode cX4_runsIn 25 = .ok (.iload_n 1, 1) := by decide +kernel
theorem dX4_runsIn_26 : decode cX4_runsIn 26 = .ok (.iload 4, 2) := by decide +kernel
theorem dX4_runsIn_28 : decode cX4_runsIn 28 = .ok (.invokestatic 29, 3) := by decide +kernel
theorem dX4_runsIn_31 : decode cX4_runsIn 31 = .ok (.ifCond .eq 28, 3) := by decide +kernel
theorem dX4_runsIn_34 : decode cX4_runsIn 34 = .ok (.iload 4, 2) := by decide +kernel
theorem dX4_runsIn_36 : decode cX4_runsIn 36 = .ok (.sipush 256, 3) := by decide +kernel
theorem dX4_runsIn_39 : decode cX4_runsIn 39 = .ok (.irem, 1) := by decide +kernel
theorem dX4_runsIn_40 : decode cX4_runsIn 40 = .ok (.ifCond .eq 15, 3) := by decide +kernel
theorem dX4_runsIn_43 : decode cX4_runsIn 43 = .ok (.aload_n 0, 1) := by decide +kernel
theorem dX4_runsIn_44 : decode cX4_runsIn 44 = .ok (.iload_n 1, 1) := by decide +kernel
theorem dX4_runsIn_45 : decode cX4_runsIn 45 = .ok (.iload 4, 2) := by decide +kernel
theorem dX4_runsIn_47 : decode cX4_runsIn 47 = .ok (.iconst 1, 1) := by decide +kernel
theorem dX4_runsIn_48 : decode cX4_runsIn 48 = .ok (.isub, 1) := by decide +kernel
theorem dX4_runsIn_49 : decode cX4_runsIn 49 = .ok (.invokestatic 29, 3) := by decide +kernel
theorem dX4_runsIn_52 : decode cX4_runsIn 52 = .ok (.ifCond .ne 7, 3) := by decide +kernel
theorem dX4_runsIn_55 : decode cX4_runsIn 55 = .ok (.iconst 1, 1) := by decide +kernel
theorem dX4_runsIn_56 : decode cX4_runsIn 56 = .ok (.goto 4, 3) := by decide +kernel
theorem dX4_runsIn_59 : decode cX4_runsIn 59 = .ok (.iconst 0, 1) := by decide +kernel
theorem dX4_runsIn_60 : decode cX4_runsIn 60 = .ok (.iadd, 1) := by decide +kernel
theorem dX4_runsIn_61 : decode cX4_runsIn 61 = .ok (.istore_n 3, 1) := by decide +kernel
theorem dX4_runsIn_62 : decode cX4_runsIn 62 = .ok (.iinc 4 1, 3) := by decide +kernel
theorem dX4_runsIn_65 : decode cX4_runsIn 65 = .ok (.goto (-56), 3) := by decide +kernel
theorem dX4_runsIn_68 : decode cX4_runsIn 68 = .ok (.iload_n 3, 1) := by decide +kernel
theorem dX4_runsIn_69 : decode cX4_runsIn 69 = .ok (.ireturn, 1) := by decide +kernel
theorem dX4_kindBy_0 : decode cX4_kindBy 0 = .ok (.iload_n 0, 1) := by decide +kernel
theorem dX4_kindBy_1 : decode cX4_kindBy 1 = .ok (.ifCond .ne 6, 3) := by decide +kernel
theorem dX4_kindBy_4 : decode cX4_kindBy 4 = .ok (.bipush (-9), 2) := by decide +kernel
theorem dX4_kindBy_6 : decode cX4_kindBy 6 = .ok (.ireturn, 1) := by decide +kernel
theorem dX4_kindBy_7 : decode cX4_kindBy 7 = .ok (.iconst 2, 1) := by decide +kernel
theorem dX4_kindBy_8 : decode cX4_kindBy 8 = .ok (.iconst 2, 1) := by decide +kernel
theorem dX4_kindBy_9 : decode cX4_kindBy 9 = .ok (.iload_n 1, 1) := by decide +kernel
theorem dX4_kindBy_10 : decode cX4_kindBy 10 = .ok (.imul, 1) := by decide +kernel
theorem dX4_kindBy_11 : decode cX4_kindBy 11 = .ok (.iadd, 1) := by decide +kernel
theorem dX4_kindBy_12 : decode cX4_kindBy 12 = .ok (.iconst 2, 1) := by decide +kernel
theorem dX4_kindBy_13 : decode cX4_kindBy 13 = .ok (.iload_n 0, 1) := by decide +kernel
theorem dX4_kindBy_14 : decode cX4_kindBy 14 = .ok (.iadd, 1) := by decide +kernel
theorem dX4_kindBy_15 : decode cX4_kindBy 15 = .ok (.if_icmp .ge 7, 3) := by decide +kernel
theorem dX4_kindBy_18 : decode cX4_kindBy 18 = .ok (.iconst 1, 1) := by decide +kernel
theorem dX4_kindBy_19 : decode cX4_kindBy 19 = .ok (.goto 4, 3) := by decide +kernel
theorem dX4_kindBy_22 : decode cX4_kindBy 22 = .ok (.iconst 0, 1) := by decide +kernel
theorem dX4_kindBy_23 : decode cX4_kindBy 23 = .ok (.istore_n 2, 1) := by decide +kernel
theorem dX4_kindBy_24 : decode cX4_kindBy 24 = .ok (.iload_n 2, 1) := by decide +kernel
theorem dX4_kindBy_25 : decode cX4_kindBy 25 = .ok (.iconst 1, 1) := by decide +kernel
theorem dX4_kindBy_26 : decode cX4_kindBy 26 = .ok (.if_icmp .ne 11, 3) := by decide +kernel
theorem dX4_kindBy_29 : decode cX4_kindBy 29 = .ok (.iconst 2, 1) := by decide +kernel
theorem dX4_kindBy_30 : decode cX4_kindBy 30 = .ok (.iconst 2, 1) := by decide +kernel
theorem dX4_kindBy_31 : decode cX4_kindBy 31 = .ok (.iload_n 1, 1) := by decide +kernel
theorem dX4_kindBy_32 : decode cX4_kindBy 32 = .ok (.imul, 1) := by decide +kernel
theorem dX4_kindBy_33 : decode cX4_kindBy 33 = .ok (.iadd, 1) := by decide +kernel
theorem dX4_kindBy_34 : decode cX4_kindBy 34 = .ok (.goto 6, 3) := by decide +kernel
theorem dX4_kindBy_37 : decode cX4_kindBy 37 = .ok (.iconst 2, 1) := by decide +kernel
theorem dX4_kindBy_38 : decode cX4_kindBy 38 = .ok (.iload_n 0, 1) := by decide +kernel
theorem dX4_kindBy_39 : decode cX4_kindBy 39 = .ok (.iadd, 1) := by decide +kernel
theorem dX4_kindBy_40 : decode cX4_kindBy 40 = .ok (.istore_n 3, 1) := by decide +kernel
theorem dX4_kindBy_41 : decode cX4_kindBy 41 = .ok (.bipush 33, 2) := by decide +kernel
theorem dX4_kindBy_43 : decode cX4_kindBy 43 = .ok (.iload_n 3, 1) := by decide +kernel
theorem dX4_kindBy_44 : decode cX4_kindBy 44 = .ok (.if_icmp .ge 7, 3) := by decide +kernel
theorem dX4_kindBy_47 : decode cX4_kindBy 47 = .ok (.iconst 2, 1) := by decide +kernel
theorem dX4_kindBy_48 : decode cX4_kindBy 48 = .ok (.goto 4, 3) := by decide +kernel
theorem dX4_kindBy_51 : decode cX4_kindBy 51 = .ok (.iload_n 2, 1) := by decide +kernel
theorem dX4_kindBy_52 : decode cX4_kindBy 52 = .ok (.ireturn, 1) := by decide +kernel
set_option maxRecDepth 20000 in
theorem ggX4_bytesBy_X4_kindBy : GoodIn wsX4_bytesBy wsX4_kindBy := goodIn_r _ [4] (by decide +kernel) (by decide +kernel)
set_option maxRecDepth 20000 in
theorem gX4_bytesBy_X4_kindBy : GoodIn wsX4_bytesBy (va_wsS RX4 37 yX4_kindBy wsX4_kindBy) := goodIn_app (goodIn_of _ (by decide +kernel)) ggX4_bytesBy_X4_kindBy
theorem dX4_bytesBy_0 : decode cX4_bytesBy 0 = .ok (.iload_n 0, 1) := by decide +kernel
theorem dX4_bytesBy_1 : decode cX4_bytesBy 1 = .ok (.iload_n 1, 1) := by decide +kernel
theorem dX4_bytesBy_2 : decode cX4_bytesBy 2 = .ok (.invokestatic 37, 3) := by decide +kernel
theorem dX4_bytesBy_5 : decode cX4_bytesBy 5 = .ok (.istore_n 2, 1) := by decide +kernel
theorem dX4_bytesBy_6 : decode cX4_bytesBy 6 = .ok (.iload_n 2, 1) := by decide +kernel
theorem dX4_bytesBy_7 : decode cX4_bytesBy 7 = .ok (.ifCond .ge 7, 3) := by decide +kernel
theorem dX4_bytesBy_10 : decode cX4_bytesBy 10 = .ok (.iconst 0, 1) := by decide +kernel
theorem dX4_bytesBy_11 : decode cX4_bytesBy 11 = .ok (.goto 28, 3) := by decide +kernel
theorem dX4_bytesBy_14 : decode cX4_bytesBy 14 = .ok (.iload_n 2, 1) := by decide +kernel
theorem dX4_bytesBy_15 : decode cX4_bytesBy 15 = .ok (.ifCond .ne 9, 3) := by decide +kernel
theorem dX4_bytesBy_18 : decode cX4_bytesBy 18 = .ok (.iconst 2, 1) := by decide +kernel
theorem dX4_bytesBy_19 : decode cX4_bytesBy 19 = .ok (.iload_n 0, 1) := by decide +kernel
theorem dX4_bytesBy_20 : decode cX4_bytesBy 20 = .ok (.iadd, 1) := by decide +kernel
theorem dX4_bytesBy_21 : decode cX4_bytesBy 21 = .ok (.goto 18, 3) := by decide +kernel
theorem dX4_bytesBy_24 : decode cX4_bytesBy 24 = .ok (.iload_n 2, 1) := by decide +kernel
theorem dX4_bytesBy_25 : decode cX4_bytesBy 25 = .ok (.iconst 1, 1) := by decide +kernel
theorem dX4_bytesBy_26 : decode cX4_bytesBy 26 = .ok (.if_icmp .ne 11, 3) := by decide +kernel
theorem dX4_bytesBy_29 : decode cX4_bytesBy 29 = .ok (.iconst 2, 1) := by decide +kernel
theorem dX4_bytesBy_30 : decode cX4_bytesBy 30 = .ok (.iconst 2, 1) := by decide +kernel
theorem dX4_bytesBy_31 : decode cX4_bytesBy 31 = .ok (.iload_n 1, 1) := by decide +kernel
theorem dX4_bytesBy_32 : decode cX4_bytesBy 32 = .ok (.imul, 1) := by decide +kernel
theorem dX4_bytesBy_33 : decode cX4_bytesBy 33 = .ok (.iadd, 1) := by decide +kernel
theorem dX4_bytesBy_34 : decode cX4_bytesBy 34 = .ok (.goto 5, 3) := by decide +kernel
theorem dX4_bytesBy_37 : decode cX4_bytesBy 37 = .ok (.bipush 33, 2) := by decide +kernel
theorem dX4_bytesBy_39 : decode cX4_bytesBy 39 = .ok (.ireturn, 1) := by decide +kernel
set_option maxRecDepth 20000 in
theorem ggX4_kindIn_X4_manyIn : GoodIn wsX4_kindIn wsX4_manyIn := goodIn_r _ [4, 5, 6, 3, 7] (by decide +kernel) (by decide +kernel)
set_option maxRecDepth 20000 in
theorem gX4_kindIn_X4_manyIn : GoodIn wsX4_kindIn (va_wsS RX4 41 yX4_manyIn wsX4_manyIn) := goodIn_app (goodIn_of _ (by decide +kernel)) ggX4_kindIn_X4_manyIn
set_option maxRecDepth 20000 in
theorem ggX4_kindIn_X4_runsIn : GoodIn wsX4_kindIn wsX4_runsIn := goodIn_r _ [10, 5, 6, 3, 7] (by decide +kernel) (by decide +kernel)
set_option maxRecDepth 20000 in
theorem gX4_kindIn_X4_runsIn : GoodIn wsX4_kindIn (va_wsS RX4 45 yX4_runsIn wsX4_runsIn) := goodIn_app (goodIn_of _ (by decide +kernel)) ggX4_kindIn_X4_runsIn
set_option maxRecDepth 20000 in
theorem ggX4_kindIn_X4_kindBy : GoodIn wsX4_kindIn wsX4_kindBy := goodIn_r _ [13] (by decide +kernel) (by decide +kernel)
set_option maxRecDepth 20000 in
theorem gX4_kindIn_X4_kindBy : GoodIn wsX4_kindIn (va_wsS RX4 37 yX4_kindBy wsX4_kindBy) := goodIn_app (goodIn_of _ (by decide +kernel)) ggX4_kindIn_X4_kindBy
theorem dX4_kindIn_0 : decode cX4_kindIn 0 = .ok (.aload_n 0, 1) := by decide +kernel
theorem dX4_kindIn_1 : decode cX4_kindIn 1 = .ok (.iload_n 1, 1) := by decide +kernel
theorem dX4_kindIn_2 : decode cX4_kindIn 2 = .ok (.iload_n 2, 1) := by decide +kernel
theorem dX4_kindIn_3 : decode cX4_kindIn 3 = .ok (.invokestatic 41, 3) := by decide +kernel
theorem dX4_kindIn_6 : decode cX4_kindIn 6 = .ok (.aload_n 0, 1) := by decide +kernel
theorem dX4_kindIn_7 : decode cX4_kindIn 7 = .ok (.iload_n 1, 1) := by decide +kernel
theorem dX4_kindIn_8 : decode cX4_kindIn 8 = .ok (.iload_n 2, 1) := by decide +kernel
theorem dX4_kindIn_9 : decode cX4_kindIn 9 = .ok (.invokestatic 45, 3) := by decide +kernel
theorem dX4_kindIn_12 : decode cX4_kindIn 12 = .ok (.invokestatic 37, 3) := by decide +kernel
theorem dX4_kindIn_15 : decode cX4_kindIn 15 = .ok (.ireturn, 1) := by decide +kernel
set_option maxRecDepth 20000 in
theorem ggX4_converts_X4_kindIn : GoodIn wsX4_converts wsX4_kindIn := goodIn_r _ [6, 7, 8, 5, 9, 10, 11, 12, 13, 14, 15, 16, 17, 18] (by decide +kernel) (by decide +kernel)
set_option maxRecDepth 20000 in
theorem gX4_converts_X4_kindIn : GoodIn wsX4_converts (va_wsS RX4 48 yX4_kindIn wsX4_kindIn) := goodIn_app (goodIn_of _ (by decide +kernel)) ggX4_converts_X4_kindIn
theorem dX4_converts_0 : decode cX4_converts 0 = .ok (.iconst 0, 1) := by decide +kernel
theorem dX4_converts_1 : decode cX4_converts 1 = .ok (.istore_n 2, 1) := by decide +kernel
theorem dX4_converts_2 : decode cX4_converts 2 = .ok (.iload_n 2, 1) := by decide +kernel
theorem dX4_converts_3 : decode cX4_converts 3 = .ok (.bipush 16, 2) := by decide +kernel
theorem dX4_converts_5 : decode cX4_converts 5 = .ok (.if_icmp .ge 64, 3) := by decide +kernel
theorem dX4_converts_8 : decode cX4_converts 8 = .ok (.aload_n 0, 1) := by decide +kernel
theorem dX4_converts_9 : decode cX4_converts 9 = .ok (.getfield 13, 3) := by decide +kernel
theorem dX4_converts_12 : decode cX4_converts 12 = .ok (.iload_n 1, 1) := by decide +kernel
theorem dX4_converts_13 : decode cX4_converts 13 = .ok (.iload_n 2, 1) := by decide +kernel
theorem dX4_converts_14 : decode cX4_converts 14 = .ok (.invokestatic 48, 3) := by decide +kernel
theorem dX4_converts_17 : decode cX4_converts 17 = .ok (.istore_n 3, 1) := by decide +kernel
theorem dX4_converts_18 : decode cX4_converts 18 = .ok (.aload_n 0, 1) := by decide +kernel
theorem dX4_converts_19 : decode cX4_converts 19 = .ok (.getfield 7, 3) := by decide +kernel
theorem dX4_converts_22 : decode cX4_converts 22 = .ok (.iload_n 1, 1) := by decide +kernel
theorem dX4_converts_23 : decode cX4_converts 23 = .ok (.iload_n 2, 1) := by decide +kernel
theorem dX4_converts_24 : decode cX4_converts 24 = .ok (.invokestatic 48, 3) := by decide +kernel
theorem dX4_converts_27 : decode cX4_converts 27 = .ok (.istore 4, 2) := by decide +kernel
theorem dX4_converts_29 : decode cX4_converts 29 = .ok (.iload_n 3, 1) := by decide +kernel
theorem dX4_converts_30 : decode cX4_converts 30 = .ok (.ifCond .lt 33, 3) := by decide +kernel
theorem dX4_converts_33 : decode cX4_converts 33 = .ok (.iload 4, 2) := by decide +kernel
theorem dX4_converts_35 : decode cX4_converts 35 = .ok (.ifCond .lt 28, 3) := by decide +kernel
theorem dX4_converts_38 : decode cX4_converts 38 = .ok (.iload_n 3, 1) := by decide +kernel
theorem dX4_converts_39 : decode cX4_converts 39 = .ok (.iload 4, 2) := by decide +kernel
theorem dX4_converts_41 : decode cX4_converts 41 = .ok (.if_icmp .eq 22, 3) := by decide +kernel
theorem dX4_converts_44 : decode cX4_converts 44 = .ok (.aload_n 0, 1) := by decide +kernel
theorem dX4_converts_45 : decode cX4_converts 45 = .ok (.getfield 7, 3) := by decide +kernel
theorem dX4_converts_48 : decode cX4_converts 48 = .ok (.sipush 777, 3) := by decide +kernel
theorem dX4_converts_51 : decode cX4_converts 51 = .ok (.iconst 3, 1) := by decide +kernel
theorem dX4_converts_52 : decode cX4_converts 52 = .ok (.iload_n 3, 1) := by decide +kernel
theorem dX4_converts_53 : decode cX4_converts 53 = .ok (.imul, 1) := by decide +kernel
theorem dX4_converts_54 : decode cX4_converts 54 = .ok (.iadd, 1) := by decide +kernel
theorem dX4_converts_55 : decode cX4_converts 55 = .ok (.iload 4, 2) := by decide +kernel
theorem dX4_converts_57 : decode cX4_converts 57 = .ok (.iadd, 1) := by decide +kernel
theorem dX4_converts_58 : decode cX4_converts 58 = .ok (.dup2, 1) := by decide +kernel
theorem dX4_converts_59 : decode cX4_converts 59 = .ok (.iaload, 1) := by decide +kernel
theorem dX4_converts_60 : decode cX4_converts 60 = .ok (.iconst 1, 1) := by decide +kernel
theorem dX4_converts_61 : decode cX4_converts 61 = .ok (.iadd, 1) := by decide +kernel
theorem dX4_converts_62 : decode cX4_converts 62 = .ok (.iastore, 1) := by decide +kernel
theorem dX4_converts_63 : decode cX4_converts 63 = .ok (.iinc 2 1, 3) := by decide +kernel
theorem dX4_converts_66 : decode cX4_converts 66 = .ok (.goto (-64), 3) := by decide +kernel
theorem dX4_converts_69 : decode cX4_converts 69 = .ok (.return_, 1) := by decide +kernel
set_option maxRecDepth 20000 in
theorem ggX4_sizeOf_X4_has : GoodIn wsX4_sizeOf wsX4_has := goodIn_r _ [5, 6, 7, 8, 4, 9, 10, 11, 12, 13, 14, 15, 16, 17] (by decide +kernel) (by decide +kernel)
set_option maxRecDepth 20000 in
theorem gX4_sizeOf_X4_has : GoodIn wsX4_sizeOf (wsV RX4 51 RX4 yX4_has wsX4_has) := goodIn_app (goodIn_of _ (by decide +kernel)) ggX4_sizeOf_X4_has
theorem dX4_sizeOf_0 : decode cX4_sizeOf 0 = .ok (.iconst 0, 1) := by decide +kernel
theorem dX4_sizeOf_1 : decode cX4_sizeOf 1 = .ok (.istore_n 2, 1) := by decide +kernel
theorem dX4_sizeOf_2 : decode cX4_sizeOf 2 = .ok (.iconst 0, 1) := by decide +kernel
theorem dX4_sizeOf_3 : decode cX4_sizeOf 3 = .ok (.istore_n 3, 1) := by decide +kernel
theorem dX4_sizeOf_4 : decode cX4_sizeOf 4 = .ok (.iload_n 3, 1) := by decide +kernel
theorem dX4_sizeOf_5 : decode cX4_sizeOf 5 = .ok (.sipush 4096, 3) := by decide +kernel
theorem dX4_sizeOf_8 : decode cX4_sizeOf 8 = .ok (.if_icmp .ge 26, 3) := by decide +kernel
theorem dX4_sizeOf_11 : decode cX4_sizeOf 11 = .ok (.iload_n 2, 1) := by decide +kernel
theorem dX4_sizeOf_12 : decode cX4_sizeOf 12 = .ok (.aload_n 0, 1) := by decide +kernel
theorem dX4_sizeOf_13 : decode cX4_sizeOf 13 = .ok (.iload_n 1, 1) := by decide +kernel
theorem dX4_sizeOf_14 : decode cX4_sizeOf 14 = .ok (.iload_n 3, 1) := by decide +kernel
theorem dX4_sizeOf_15 : decode cX4_sizeOf 15 = .ok (.invokevirtual 51, 3) := by decide +kernel
theorem dX4_sizeOf_18 : decode cX4_sizeOf 18 = .ok (.ifCond .eq 7, 3) := by decide +kernel
theorem dX4_sizeOf_21 : decode cX4_sizeOf 21 = .ok (.iconst 1, 1) := by decide +kernel
theorem dX4_sizeOf_22 : decode cX4_sizeOf 22 = .ok (.goto 4, 3) := by decide +kernel
theorem dX4_sizeOf_25 : decode cX4_sizeOf 25 = .ok (.iconst 0, 1) := by decide +kernel
theorem dX4_sizeOf_26 : decode cX4_sizeOf 26 = .ok (.iadd, 1) := by decide +kernel
theorem dX4_sizeOf_27 : decode cX4_sizeOf 27 = .ok (.istore_n 2, 1) := by decide +kernel
theorem dX4_sizeOf_28 : decode cX4_sizeOf 28 = .ok (.iinc 3 1, 3) := by decide +kernel
theorem dX4_sizeOf_31 : decode cX4_sizeOf 31 = .ok (.goto (-27), 3) := by decide +kernel
theorem dX4_sizeOf_34 : decode cX4_sizeOf 34 = .ok (.iload_n 2, 1) := by decide +kernel
theorem dX4_sizeOf_35 : decode cX4_sizeOf 35 = .ok (.ireturn, 1) := by decide +kernel
set_option maxRecDepth 20000 in
theorem ggX4_isRange_X4_isSet : GoodIn wsX4_isRange wsX4_isSet := goodIn_r _ [4, 5, 6, 3, 7] (by decide +kernel) (by decide +kernel)
set_option maxRecDepth 20000 in
theorem gX4_isRange_X4_isSet : GoodIn wsX4_isRange (va_wsS RX4 55 yX4_isSet wsX4_isSet) := goodIn_app (goodIn_of _ (by decide +kernel)) ggX4_isRange_X4_isSet
set_option maxRecDepth 20000 in
theorem ggX4_isRange_X4_in : GoodIn wsX4_isRange wsX4_in := goodIn_r _ [7] (by decide +kernel) (by decide +kernel)
set_option maxRecDepth 20000 in
theorem gX4_isRange_X4_in : GoodIn wsX4_isRange (va_wsS RX4 25 yX4_in wsX4_in) := goodIn_app (goodIn_of _ (by decide +kernel)) ggX4_isRange_X4_in
theorem dX4_isRange_0 : decode cX4_isRange 0 = .ok (.iload_n 0, 1) := by decide +kernel
theorem dX4_isRange_1 : decode cX4_isRange 1 = .ok (.invokestatic 55, 3) := by decide +kernel
theorem dX4_isRange_4 : decode cX4_isRange 4 = .ok (.ifCond .eq 29, 3) := by decide +kernel
theorem dX4_isRange_7 : decode cX4_isRange 7 = .ok (.iload_n 1, 1) := by decide +kernel
theorem dX4_isRange_8 : decode cX4_isRange 8 = .ok (.iconst 0, 1) := by decide +kernel
theorem dX4_isRange_9 : decode cX4_isRange 9 = .ok (.sipush 4095, 3) := by decide +kernel
theorem dX4_isRange_12 : decode cX4_isRange 12 = .ok (.invokestatic 25, 3) := by decide +kernel
theorem dX4_isRange_15 : decode cX4_isRange 15 = .ok (.ifCond .eq 18, 3) := by decide +kernel
theorem dX4_isRange_18 : decode cX4_isRange 18 = .ok (.iload_n 2, 1) := by decide +kernel
theorem dX4_isRange_19 : decode cX4_isRange 19 = .ok (.iload_n 1, 1) := by decide +kernel
theorem dX4_isRange_20 : decode cX4_isRange 20 = .ok (.sipush 4095, 3) := by decide +kernel
theorem dX4_isRange_23 : decode cX4_isRange 23 = .ok (.invokestatic 25, 3) := by decide +kernel
theorem dX4_isRange_26 : decode cX4_isRange 26 = .ok (.ifCond .eq 7, 3) := by decide +kernel
theorem dX4_isRange_29 : decode cX4_isRange 29 = .ok (.iconst 1, 1) := by decide +kernel
theorem dX4_isRange_30 : decode cX4_isRange 30 = .ok (.goto 4, 3) := by decide +kernel
theorem dX4_isRange_33 : decode cX4_isRange 33 = .ok (.iconst 0, 1) := by decide +kernel
theorem dX4_isRange_34 : decode cX4_isRange 34 = .ok (.ireturn, 1) := by decide +kernel
set_option maxRecDepth 20000 in
theorem ggX4_turns_X4_act : GoodIn wsX4_turns wsX4_act := goodIn_r _ [5, 6, 7, 8, 9, 37, 38, 39, 40, 41, 42, 43, 44] (by decide +kernel) (by decide +kernel)
set_option maxRecDepth 20000 in
theorem gX4_turns_X4_act : GoodIn wsX4_turns (wsV RX4 59 RX4 yX4_act wsX4_act) := goodIn_app (goodIn_of _ (by decide +kernel)) ggX4_turns_X4_act
set_option maxRecDepth 20000 in
theorem ggX4_turns_X4_has : GoodIn wsX4_turns wsX4_has := goodIn_r _ [13, 8, 14, 15, 4, 16, 37, 38, 39, 40, 41, 42, 43, 44] (by decide +kernel) (by decide +kernel)
set_option maxRecDepth 20000 in
theorem gX4_turns_X4_has : GoodIn wsX4_turns (wsV RX4 51 RX4 yX4_has wsX4_has) := goodIn_app (goodIn_of _ (by decide +kernel)) ggX4_turns_X4_has
set_option maxRecDepth 20000 in
theorem ggX4_turns_X4_puts : GoodIn wsX4_turns wsX4_puts := goodIn_r _ [20, 8, 37, 38, 39, 40, 41, 42, 43, 44] (by decide +kernel) (by decide +kernel)
set_option maxRecDepth 20000 in
theorem gX4_turns_X4_puts : GoodIn wsX4_turns (wsV RX4 62 RX4 yX4_puts wsX4_puts) := goodIn_app (goodIn_of _ (by decide +kernel)) ggX4_turns_X4_puts
set_option maxRecDepth 20000 in
theorem ggX4_turns_X4_converts : GoodIn wsX4_turns wsX4_converts := goodIn_r _ [24, 9, 8, 25, 26, 4, 27, 28, 29, 30, 14, 15, 16, 31, 32, 33, 34, 35, 36, 37, 38, 39, 40, 41, 42, 43, 44] (by decide +kernel) (by decide +kernel)
set_option maxRecDepth 20000 in
theorem gX4_turns_X4_converts : GoodIn wsX4_turns (wsV RX4 66 RX4 yX4_converts wsX4_converts) := goodIn_app (goodIn_of _ (by decide +kernel)) ggX4_turns_X4_converts
theorem dX4_turns_0 : decode cX4_turns 0 = .ok (.aload_n 0, 1) := by decide +kernel
theorem dX4_turns_1 : decode cX4_turns 1 = .ok (.invokevirtual 59, 3) := by decide +kernel
theorem dX4_turns_4 : decode cX4_turns 4 = .ok (.iconst 0, 1) := by decide +kernel
theorem dX4_turns_5 : decode cX4_turns 5 = .ok (.istore 5, 2) := by decide +kernel
theorem dX4_turns_7 : decode cX4_turns 7 = .ok (.iload_n 2, 1) := by decide +kernel
theorem dX4_turns_8 : decode cX4_turns 8 = .ok (.istore 6, 2) := by decide +kernel
theorem dX4_turns_10 : decode cX4_turns 10 = .ok (.iload 6, 2) := by decide +kernel
theorem dX4_turns_12 : decode cX4_turns 12 = .ok (.iload_n 3, 1) := by decide +kernel
theorem dX4_turns_13 : decode cX4_turns 13 = .ok (.if_icmp .gt 71, 3) := by decide +kernel
theorem dX4_turns_16 : decode cX4_turns 16 = .ok (.iload 5, 2) := by decide +kernel
theorem dX4_turns_18 : decode cX4_turns 18 = .ok (.aload_n 0, 1) := by decide +kernel
theorem dX4_turns_19 : decode cX4_turns 19 = .ok (.iload_n 1, 1) := by decide +kernel
theorem dX4_turns_20 : decode cX4_turns 20 = .ok (.iload 6, 2) := by decide +kernel
theorem dX4_turns_22 : decode cX4_turns 22 = .ok (.invokevirtual 51, 3) := by decide +kernel
theorem dX4_turns_25 : decode cX4_turns 25 = .ok (.ifCond .eq 7, 3) := by decide +kernel
theorem dX4_turns_28 : decode cX4_turns 28 = .ok (.iconst 1, 1) := by decide +kernel
theorem dX4_turns_29 : decode cX4_turns 29 = .ok (.goto 4, 3) := by decide +kernel
theorem dX4_turns_32 : decode cX4_turns 32 = .ok (.iconst 0, 1) := by decide +kernel
theorem dX4_turns_33 : decode cX4_turns 33 = .ok (.iadd, 1) := by decide +kernel
theorem dX4_turns_34 : decode cX4_turns 34 = .ok (.istore 5, 2) := by decide +kernel
theorem dX4_turns_36 : decode cX4_turns 36 = .ok (.aload_n 0, 1) := by decide +kernel
theorem dX4_turns_37 : decode cX4_turns 37 = .ok (.iload_n 1, 1) := by decide +kernel
theorem dX4_turns_38 : decode cX4_turns 38 = .ok (.iload 6, 2) := by decide +kernel
theorem dX4_turns_40 : decode cX4_turns 40 = .ok (.iload 4, 2) := by decide +kernel
theorem dX4_turns_42 : decode cX4_turns 42 = .ok (.iconst 2, 1) := by decide +kernel
theorem dX4_turns_43 : decode cX4_turns 43 = .ok (.if_icmp .ne 21, 3) := by decide +kernel
theorem dX4_turns_46 : decode cX4_turns 46 = .ok (.aload_n 0, 1) := by decide +kernel
theorem dX4_turns_47 : decode cX4_turns 47 = .ok (.iload_n 1, 1) := by decide +kernel
theorem dX4_turns_48 : decode cX4_turns 48 = .ok (.iload 6, 2) := by decide +kernel
theorem dX4_turns_50 : decode cX4_turns 50 = .ok (.invokevirtual 51, 3) := by decide +kernel
theorem dX4_turns_53 : decode cX4_turns 53 = .ok (.ifCond .ne 7, 3) := by decide +kernel
theorem dX4_turns_56 : decode cX4_turns 56 = .ok (.iconst 1, 1) := by decide +kernel
theorem dX4_turns_57 : decode cX4_turns 57 = .ok (.goto 18, 3) := by decide +kernel
theorem dX4_turns_60 : decode cX4_turns 60 = .ok (.iconst 0, 1) := by decide +kernel
theorem dX4_turns_61 : decode cX4_turns 61 = .ok (.goto 14, 3) := by decide +kernel
theorem dX4_turns_64 : decode cX4_turns 64 = .ok (.iload 4, 2) := by decide +kernel
theorem dX4_turns_66 : decode cX4_turns 66 = .ok (.iconst 1, 1) := by decide +kernel
theorem dX4_turns_67 : decode cX4_turns 67 = .ok (.if_icmp .ne 7, 3) := by decide +kernel
theorem dX4_turns_70 : decode cX4_turns 70 = .ok (.iconst 1, 1) := by decide +kernel
theorem dX4_turns_71 : decode cX4_turns 71 = .ok (.goto 4, 3) := by decide +kernel
theorem dX4_turns_74 : decode cX4_turns 74 = .ok (.iconst 0, 1) := by decide +kernel
theorem dX4_turns_75 : decode cX4_turns 75 = .ok (.invokevirtual 62, 3) := by decide +kernel
theorem dX4_turns_78 : decode cX4_turns 78 = .ok (.iinc 6 1, 3) := by decide +kernel
theorem dX4_turns_81 : decode cX4_turns 81 = .ok (.goto (-71), 3) := by decide +kernel
theorem dX4_turns_84 : decode cX4_turns 84 = .ok (.aload_n 0, 1) := by decide +kernel
theorem dX4_turns_85 : decode cX4_turns 85 = .ok (.iload_n 1, 1) := by decide +kernel
theorem dX4_turns_86 : decode cX4_turns 86 = .ok (.invokevirtual 66, 3) := by decide +kernel
theorem dX4_turns_89 : decode cX4_turns 89 = .ok (.iload 5, 2) := by decide +kernel
theorem dX4_turns_91 : decode cX4_turns 91 = .ok (.ireturn, 1) := by decide +kernel
set_option maxRecDepth 20000 in
theorem ggX4_add_X4_isRange : GoodIn wsX4_add wsX4_isRange := goodIn_r _ [4, 5, 6, 3, 7, 8, 9, 10] (by decide +kernel) (by decide +kernel)
set_option maxRecDepth 20000 in
theorem gX4_add_X4_isRange : GoodIn wsX4_add (va_wsS RX4 70 yX4_isRange wsX4_isRange) := goodIn_app (goodIn_of _ (by decide +kernel)) ggX4_add_X4_isRange
set_option maxRecDepth 20000 in
theorem ggX4_add_X4_turns : GoodIn wsX4_add wsX4_turns := goodIn_r _ [14, 15, 16, 17, 3, 18, 19, 20, 21, 22, 23, 24, 25, 26, 27, 28, 29, 30, 31, 32, 33, 34, 35, 36, 37, 38, 39, 40, 41, 42, 43, 44, 45, 46, 47, 48, 49, 50, 51, 52, 53, 54, 55, 56, 57] (by decide +kernel) (by decide +kernel)
set_option maxRecDepth 20000 in
theorem gX4_add_X4_turns : GoodIn wsX4_add (wsV RX4 73 RX4 yX4_turns wsX4_turns) := goodIn_app (goodIn_of _ (by decide +kernel)) ggX4_add_X4_turns
theorem dX4_add_0 : decode cX4_add 0 = .ok (.iload_n 1, 1) := by decide +kernel
theorem dX4_add_1 : decode cX4_add 1 = .ok (.iload_n 2, 1) := by decide +kernel
theorem dX4_add_2 : decode cX4_add 2 = .ok (.iload_n 3, 1) := by decide +kernel
theorem dX4_add_3 : decode cX4_add 3 = .ok (.invokestatic 70, 3) := by decide +kernel
theorem dX4_add_6 : decode cX4_add 6 = .ok (.ifCond .eq 20, 3) := by decide +kernel
theorem dX4_add_9 : decode cX4_add 9 = .ok (.iload_n 3, 1) := by decide +kernel
theorem dX4_add_10 : decode cX4_add 10 = .ok (.iload_n 2, 1) := by decide +kernel
theorem dX4_add_11 : decode cX4_add 11 = .ok (.isub, 1) := by decide +kernel
theorem dX4_add_12 : decode cX4_add 12 = .ok (.iconst 1, 1) := by decide +kernel
theorem dX4_add_13 : decode cX4_add 13 = .ok (.iadd, 1) := by decide +kernel
theorem dX4_add_14 : decode cX4_add 14 = .ok (.aload_n 0, 1) := by decide +kernel
theorem dX4_add_15 : decode cX4_add 15 = .ok (.iload_n 1, 1) := by decide +kernel
theorem dX4_add_16 : decode cX4_add 16 = .ok (.iload_n 2, 1) := by decide +kernel
theorem dX4_add_17 : decode cX4_add 17 = .ok (.iload_n 3, 1) := by decide +kernel
theorem dX4_add_18 : decode cX4_add 18 = .ok (.iconst 1, 1) := by decide +kernel
theorem dX4_add_19 : decode cX4_add 19 = .ok (.invokevirtual 73, 3) := by decide +kernel
theorem dX4_add_22 : decode cX4_add 22 = .ok (.isub, 1) := by decide +kernel
theorem dX4_add_23 : decode cX4_add 23 = .ok (.goto 4, 3) := by decide +kernel
theorem dX4_add_26 : decode cX4_add 26 = .ok (.iconst (-1), 1) := by decide +kernel
theorem dX4_add_27 : decode cX4_add 27 = .ok (.ireturn, 1) := by decide +kernel
set_option maxRecDepth 20000 in
theorem ggX4_remove_X4_isRange : GoodIn wsX4_remove wsX4_isRange := goodIn_r _ [4, 5, 6, 3, 7, 8, 9, 10] (by decide +kernel) (by decide +kernel)
set_option maxRecDepth 20000 in
theorem gX4_remove_X4_isRange : GoodIn wsX4_remove (va_wsS RX4 70 yX4_isRange wsX4_isRange) := goodIn_app (goodIn_of _ (by decide +kernel)) ggX4_remove_X4_isRange
set_option maxRecDepth 20000 in
theorem ggX4_remove_X4_turns : GoodIn wsX4_remove wsX4_turns := goodIn_r _ [14, 15, 16, 17, 3, 18, 19, 20, 21, 22, 23, 24, 25, 26, 27, 28, 29, 30, 31, 32, 33, 34, 35, 36, 37, 38, 39, 40, 41, 42, 43, 44, 45, 46, 47, 48, 49, 50, 51, 52, 53, 54, 55, 56, 57] (by decide +kernel) (by decide +kernel)
set_option maxRecDepth 20000 in
theorem gX4_remove_X4_turns : GoodIn wsX4_remove (wsV RX4 73 RX4 yX4_turns wsX4_turns) := goodIn_app (goodIn_of _ (by decide +kernel)) ggX4_remove_X4_turns
theorem dX4_remove_0 : decode cX4_remove 0 = .ok (.iload_n 1, 1) := by decide +kernel
theorem dX4_remove_1 : decode cX4_remove 1 = .ok (.iload_n 2, 1) := by decide +kernel
theorem dX4_remove_2 : decode cX4_remove 2 = .ok (.iload_n 3, 1) := by decide +kernel
theorem dX4_remove_3 : decode cX4_remove 3 = .ok (.invokestatic 70, 3) := by decide +kernel
theorem dX4_remove_6 : decode cX4_remove 6 = .ok (.ifCond .eq 14, 3) := by decide +kernel
theorem dX4_remove_9 : decode cX4_remove 9 = .ok (.aload_n 0, 1) := by decide +kernel
theorem dX4_remove_10 : decode cX4_remove 10 = .ok (.iload_n 1, 1) := by decide +kernel
theorem dX4_remove_11 : decode cX4_remove 11 = .ok (.iload_n 2, 1) := by decide +kernel
theorem dX4_remove_12 : decode cX4_remove 12 = .ok (.iload_n 3, 1) := by decide +kernel
theorem dX4_remove_13 : decode cX4_remove 13 = .ok (.iconst 0, 1) := by decide +kernel
theorem dX4_remove_14 : decode cX4_remove 14 = .ok (.invokevirtual 73, 3) := by decide +kernel
theorem dX4_remove_17 : decode cX4_remove 17 = .ok (.goto 4, 3) := by decide +kernel
theorem dX4_remove_20 : decode cX4_remove 20 = .ok (.iconst (-1), 1) := by decide +kernel
theorem dX4_remove_21 : decode cX4_remove 21 = .ok (.ireturn, 1) := by decide +kernel
set_option maxRecDepth 20000 in
theorem ggX4_flip_X4_isRange : GoodIn wsX4_flip wsX4_isRange := goodIn_r _ [4, 5, 6, 3, 7, 8, 9, 10] (by decide +kernel) (by decide +kernel)
set_option maxRecDepth 20000 in
theorem gX4_flip_X4_isRange : GoodIn wsX4_flip (va_wsS RX4 70 yX4_isRange wsX4_isRange) := goodIn_app (goodIn_of _ (by decide +kernel)) ggX4_flip_X4_isRange
set_option maxRecDepth 20000 in
theorem ggX4_flip_X4_turns : GoodIn wsX4_flip wsX4_turns := goodIn_r _ [14, 15, 16, 17, 3, 18, 19, 20, 21, 22, 23, 24, 25, 26, 27, 28, 29, 30, 31, 32, 33, 34, 35, 36, 37, 38, 39, 40, 41, 42, 43, 44, 45, 46, 47, 48, 49, 50, 51, 52, 53, 54, 55, 56, 57] (by decide +kernel) (by decide +kernel)
set_option maxRecDepth 20000 in
theorem gX4_flip_X4_turns : GoodIn wsX4_flip (wsV RX4 73 RX4 yX4_turns wsX4_turns) := goodIn_app (goodIn_of _ (by decide +kernel)) ggX4_flip_X4_turns
theorem dX4_flip_0 : decode cX4_flip 0 = .ok (.iload_n 1, 1) := by decide +kernel
theorem dX4_flip_1 : decode cX4_flip 1 = .ok (.iload_n 2, 1) := by decide +kernel
theorem dX4_flip_2 : decode cX4_flip 2 = .ok (.iload_n 3, 1) := by decide +kernel
theorem dX4_flip_3 : decode cX4_flip 3 = .ok (.invokestatic 70, 3) := by decide +kernel
theorem dX4_flip_6 : decode cX4_flip 6 = .ok (.ifCond .eq 20, 3) := by decide +kernel
theorem dX4_flip_9 : decode cX4_flip 9 = .ok (.iload_n 3, 1) := by decide +kernel
theorem dX4_flip_10 : decode cX4_flip 10 = .ok (.iload_n 2, 1) := by decide +kernel
theorem dX4_flip_11 : decode cX4_flip 11 = .ok (.isub, 1) := by decide +kernel
theorem dX4_flip_12 : decode cX4_flip 12 = .ok (.iconst 1, 1) := by decide +kernel
theorem dX4_flip_13 : decode cX4_flip 13 = .ok (.iadd, 1) := by decide +kernel
theorem dX4_flip_14 : decode cX4_flip 14 = .ok (.aload_n 0, 1) := by decide +kernel
theorem dX4_flip_15 : decode cX4_flip 15 = .ok (.iload_n 1, 1) := by decide +kernel
theorem dX4_flip_16 : decode cX4_flip 16 = .ok (.iload_n 2, 1) := by decide +kernel
theorem dX4_flip_17 : decode cX4_flip 17 = .ok (.iload_n 3, 1) := by decide +kernel
theorem dX4_flip_18 : decode cX4_flip 18 = .ok (.iconst 2, 1) := by decide +kernel
theorem dX4_flip_19 : decode cX4_flip 19 = .ok (.invokevirtual 73, 3) := by decide +kernel
theorem dX4_flip_22 : decode cX4_flip 22 = .ok (.isub, 1) := by decide +kernel
theorem dX4_flip_23 : decode cX4_flip 23 = .ok (.goto 4, 3) := by decide +kernel
theorem dX4_flip_26 : decode cX4_flip 26 = .ok (.iconst (-1), 1) := by decide +kernel
theorem dX4_flip_27 : decode cX4_flip 27 = .ok (.ireturn, 1) := by decide +kernel
set_option maxRecDepth 20000 in
theorem ggX4_scatter_X4_isSet : GoodIn wsX4_scatter wsX4_isSet := goodIn_r _ [5, 6, 7, 4, 8] (by decide +kernel) (by decide +kernel)
set_option maxRecDepth 20000 in
theorem gX4_scatter_X4_isSet : GoodIn wsX4_scatter (va_wsS RX4 55 yX4_isSet wsX4_isSet) := goodIn_app (goodIn_of _ (by decide +kernel)) ggX4_scatter_X4_isSet
set_option maxRecDepth 20000 in
theorem ggX4_scatter_X4_in : GoodIn wsX4_scatter wsX4_in := goodIn_r _ [8] (by decide +kernel) (by decide +kernel)
set_option maxRecDepth 20000 in
theorem gX4_scatter_X4_in : GoodIn wsX4_scatter (va_wsS RX4 25 yX4_in wsX4_in) := goodIn_app (goodIn_of _ (by decide +kernel)) ggX4_scatter_X4_in
set_option maxRecDepth 20000 in
theorem ggX4_scatter_X4_act : GoodIn wsX4_scatter wsX4_act := goodIn_r _ [12, 13, 14, 15, 16, 48, 49, 50, 51, 52, 53, 54, 55] (by decide +kernel) (by decide +kernel)
set_option maxRecDepth 20000 in
theorem gX4_scatter_X4_act : GoodIn wsX4_scatter (wsV RX4 59 RX4 yX4_act wsX4_act) := goodIn_app (goodIn_of _ (by decide +kernel)) ggX4_scatter_X4_act
set_option maxRecDepth 20000 in
theorem ggX4_scatter_X4_puts : GoodIn wsX4_scatter wsX4_puts := goodIn_r _ [20, 15, 48, 49, 50, 51, 52, 53, 54, 55] (by decide +kernel) (by decide +kernel)
set_option maxRecDepth 20000 in
theorem gX4_scatter_X4_puts : GoodIn wsX4_scatter (wsV RX4 62 RX4 yX4_puts wsX4_puts) := goodIn_app (goodIn_of _ (by decide +kernel)) ggX4_scatter_X4_puts
set_option maxRecDepth 20000 in
theorem ggX4_scatter_X4_converts : GoodIn wsX4_scatter wsX4_converts := goodIn_r _ [24, 16, 15, 25, 26, 4, 27, 28, 29, 30, 31, 32, 33, 34, 35, 36, 37, 38, 39, 48, 49, 50, 51, 52, 53, 54, 55] (by decide +kernel) (by decide +kernel)
set_option maxRecDepth 20000 in
theorem gX4_scatter_X4_converts : GoodIn wsX4_scatter (wsV RX4 66 RX4 yX4_converts wsX4_converts) := goodIn_app (goodIn_of _ (by decide +kernel)) ggX4_scatter_X4_converts
set_option maxRecDepth 20000 in
theorem ggX4_scatter_X4_sizeOf : GoodIn wsX4_scatter wsX4_sizeOf := goodIn_r _ [43, 44, 45, 46, 4, 47, 15, 31, 32, 33, 48, 49, 50, 51, 52, 53, 54, 55] (by decide +kernel) (by decide +kernel)
set_option maxRecDepth 20000 in
theorem gX4_scatter_X4_sizeOf : GoodIn wsX4_scatter (wsV RX4 78 RX4 yX4_sizeOf wsX4_sizeOf) := goodIn_app (goodIn_of _ (by decide +kernel)) ggX4_scatter_X4_sizeOf
theorem dX4_scatter_0 : decode cX4_scatter 0 = .ok (.iload_n 1, 1) := by decide +kernel
theorem dX4_scatter_1 : decode cX4_scatter 1 = .ok (.invokestatic 55, 3) := by decide +kernel
theorem dX4_scatter_4 : decode cX4_scatter 4 = .ok (.ifCond .eq 14, 3) := by decide +kernel
theorem dX4_scatter_7 : decode cX4_scatter 7 = .ok (.iload_n 3, 1) := by decide +kernel
theorem dX4_scatter_8 : decode cX4_scatter 8 = .ok (.iconst 1, 1) := by decide +kernel
theorem dX4_scatter_9 : decode cX4_scatter 9 = .ok (.sipush 300, 3) := by decide +kernel
theorem dX4_scatter_12 : decode cX4_scatter 12 = .ok (.invokestatic 25, 3) := by decide +kernel
theorem dX4_scatter_15 : decode cX4_scatter 15 = .ok (.ifCond .ne 5, 3) := by decide +kernel
theorem dX4_scatter_18 : decode cX4_scatter 18 = .ok (.iconst (-1), 1) := by decide +kernel
theorem dX4_scatter_19 : decode cX4_scatter 19 = .ok (.ireturn, 1) := by decide +kernel
theorem dX4_scatter_20 : decode cX4_scatter 20 = .ok (.aload_n 0, 1) := by decide +kernel
theorem dX4_scatter_21 : decode cX4_scatter 21 = .ok (.invokevirtual 59, 3) := by decide +kernel
theorem dX4_scatter_24 : decode cX4_scatter 24 = .ok (.iload_n 2, 1) := by decide +kernel
theorem dX4_scatter_25 : decode cX4_scatter 25 = .ok (.istore 4, 2) := by decide +kernel
theorem dX4_scatter_27 : decode cX4_scatter 27 = .ok (.iconst 0, 1) := by decide +kernel
theorem dX4_scatter_28 : decode cX4_scatter 28 = .ok (.istore 5, 2) := by decide +kernel
theorem dX4_scatter_30 : decode cX4_scatter 30 = .ok (.iload 5, 2) := by decide +kernel
theorem dX4_scatter_32 : decode cX4_scatter 32 = .ok (.iload_n 3, 1) := by decide +kernel
theorem dX4_scatter_33 : decode cX4_scatter 33 = .ok (.if_icmp .ge 35, 3) := by decide +kernel
theorem dX4_scatter_36 : decode cX4_scatter 36 = .ok (.ldc 77, 2) := by decide +kernel
theorem dX4_scatter_38 : decode cX4_scatter 38 = .ok (.iload 4, 2) := by decide +kernel
theorem dX4_scatter_40 : decode cX4_scatter 40 = .ok (.imul, 1) := by decide +kernel
theorem dX4_scatter_41 : decode cX4_scatter 41 = .ok (.sipush 12345, 3) := by decide +kernel
theorem dX4_scatter_44 : decode cX4_scatter 44 = .ok (.iadd, 1) := by decide +kernel
theorem dX4_scatter_45 : decode cX4_scatter 45 = .ok (.istore 4, 2) := by decide +kernel
theorem dX4_scatter_47 : decode cX4_scatter 47 = .ok (.aload_n 0, 1) := by decide +kernel
theorem dX4_scatter_48 : decode cX4_scatter 48 = .ok (.iload_n 1, 1) := by decide +kernel
theorem dX4_scatter_49 : decode cX4_scatter 49 = .ok (.iload 4, 2) := by decide +kernel
theorem dX4_scatter_51 : decode cX4_scatter 51 = .ok (.bipush 16, 2) := by decide +kernel
theorem dX4_scatter_53 : decode cX4_scatter 53 = .ok (.iushr, 1) := by decide +kernel
theorem dX4_scatter_54 : decode cX4_scatter 54 = .ok (.sipush 4096, 3) := by decide +kernel
theorem dX4_scatter_57 : decode cX4_scatter 57 = .ok (.irem, 1) := by decide +kernel
theorem dX4_scatter_58 : decode cX4_scatter 58 = .ok (.iconst 1, 1) := by decide +kernel
theorem dX4_scatter_59 : decode cX4_scatter 59 = .ok (.invokevirtual 62, 3) := by decide +kernel
theorem dX4_scatter_62 : decode cX4_scatter 62 = .ok (.iinc 5 1, 3) := by decide +kernel
theorem dX4_scatter_65 : decode cX4_scatter 65 = .ok (.goto (-35), 3) := by decide +kernel
theorem dX4_scatter_68 : decode cX4_scatter 68 = .ok (.aload_n 0, 1) := by decide +kernel
theorem dX4_scatter_69 : decode cX4_scatter 69 = .ok (.iload_n 1, 1) := by decide +kernel
theorem dX4_scatter_70 : decode cX4_scatter 70 = .ok (.invokevirtual 66, 3) := by decide +kernel
theorem dX4_scatter_73 : decode cX4_scatter 73 = .ok (.aload_n 0, 1) := by decide +kernel
theorem dX4_scatter_74 : decode cX4_scatter 74 = .ok (.iload_n 1, 1) := by decide +kernel
theorem dX4_scatter_75 : decode cX4_scatter 75 = .ok (.invokevirtual 78, 3) := by decide +kernel
theorem dX4_scatter_78 : decode cX4_scatter 78 = .ok (.ireturn, 1) := by decide +kernel
