theorem dX3_compare_82 : decode cX3_compare 82 = .ok (.iconst 0, 1) := by decide +kernel
theorem dX3_compare_83 : decode cX3_compare 83 = .ok (.ireturn, 1) := by decide +kernel
theorem dX3_compare_84 : decode cX3_compare 84 = .ok (.aload_n 0, 1) := by decide +kernel
theorem dX3_compare_85 : decode cX3_compare 85 = .ok (.iload_n 1, 1) := by decide +kernel
theorem dX3_compare_86 : decode cX3_compare 86 = .ok (.iload_n 2, 1) := by decide +kernel
theorem dX3_compare_87 : decode cX3_compare 87 = .ok (.invokevirtual 133, 3) := by decide +kernel
theorem dX3_compare_90 : decode cX3_compare 90 = .ok (.ireturn, 1) := by decide +kernel
theorem dX3_compare_91 : decode cX3_compare 91 = .ok (.aload_n 0, 1) := by decide +kernel
theorem dX3_compare_92 : decode cX3_compare 92 = .ok (.getfield 34, 3) := by decide +kernel
theorem dX3_compare_95 : decode cX3_compare 95 = .ok (.iconst 2, 1) := by decide +kernel
theorem dX3_compare_96 : decode cX3_compare 96 = .ok (.aload_n 0, 1) := by decide +kernel
theorem dX3_compare_97 : decode cX3_compare 97 = .ok (.getfield 10, 3) := by decide +kernel
theorem dX3_compare_100 : decode cX3_compare 100 = .ok (.getfield 50, 3) := by decide +kernel
theorem dX3_compare_103 : decode cX3_compare 103 = .ok (.iload_n 1, 1) := by decide +kernel
theorem dX3_compare_104 : decode cX3_compare 104 = .ok (.aaload, 1) := by decide +kernel
theorem dX3_compare_105 : decode cX3_compare 105 = .ok (.aload_n 0, 1) := by decide +kernel
theorem dX3_compare_106 : decode cX3_compare 106 = .ok (.getfield 10, 3) := by decide +kernel
theorem dX3_compare_109 : decode cX3_compare 109 = .ok (.getfield 50, 3) := by decide +kernel
theorem dX3_compare_112 : decode cX3_compare 112 = .ok (.iload_n 2, 1) := by decide +kernel
theorem dX3_compare_113 : decode cX3_compare 113 = .ok (.aaload, 1) := by decide +kernel
theorem dX3_compare_114 : decode cX3_compare 114 = .ok (.invokevirtual 81, 3) := by decide +kernel
theorem dX3_compare_117 : decode cX3_compare 117 = .ok (.aload_n 0, 1) := by decide +kernel
theorem dX3_compare_118 : decode cX3_compare 118 = .ok (.getfield 34, 3) := by decide +kernel
theorem dX3_compare_121 : decode cX3_compare 121 = .ok (.iconst 0, 1) := by decide +kernel
theorem dX3_compare_122 : decode cX3_compare 122 = .ok (.invokevirtual 95, 3) := by decide +kernel
theorem dX3_compare_125 : decode cX3_compare 125 = .ok (.ireturn, 1) := by decide +kernel
theorem dX3_compare_126 : decode cX3_compare 126 = .ok (.iconst (-1), 1) := by decide +kernel
theorem dX3_compare_127 : decode cX3_compare 127 = .ok (.ireturn, 1) := by decide +kernel
set_option maxRecDepth 20000 in
theorem ggX3_alike_X3_isSet : GoodIn wsX3_alike wsX3_isSet := goodIn_r _ [4] (by decide +kernel) (by decide +kernel)
set_option maxRecDepth 20000 in
theorem gX3_alike_X3_isSet : GoodIn wsX3_alike (va_wsS RX3 38 yX3_isSet wsX3_isSet) := goodIn_app (goodIn_of _ (by decide +kernel)) ggX3_alike_X3_isSet
set_option maxRecDepth 20000 in
theorem ggX3_alike_X3_countJoin : GoodIn wsX3_alike wsX3_countJoin := goodIn_r _ [8, 9, 10, 11, 12, 13, 14, 15, 16, 17, 18, 19, 20, 21, 22, 23, 24, 25, 26, 27, 28, 29, 30, 31, 32, 33, 34, 35, 36, 37, 41, 42, 43, 44, 45, 46, 47, 48, 49] (by decide +kernel) (by decide +kernel)
set_option maxRecDepth 20000 in
theorem gX3_alike_X3_countJoin : GoodIn wsX3_alike (wsV RX3 129 RX3 yX3_countJoin wsX3_countJoin) := goodIn_app (goodIn_of _ (by decide +kernel)) ggX3_alike_X3_countJoin
set_option maxRecDepth 20000 in
theorem ggX3_alike_X3_greatestDivisor : GoodIn wsX3_alike wsX3_greatestDivisor := goodIn_r _ [40] (by decide +kernel) (by decide +kernel)
set_option maxRecDepth 20000 in
theorem gX3_alike_X3_greatestDivisor : GoodIn wsX3_alike (va_wsS RX3 136 yX3_greatestDivisor wsX3_greatestDivisor) := goodIn_app (goodIn_of _ (by decide +kernel)) ggX3_alike_X3_greatestDivisor
theorem dX3_alike_0 : decode cX3_alike 0 = .ok (.iload_n 1, 1) := by decide +kernel
theorem dX3_alike_1 : decode cX3_alike 1 = .ok (.invokestatic 38, 3) := by decide +kernel
theorem dX3_alike_4 : decode cX3_alike 4 = .ok (.ifCond .eq 10, 3) := by decide +kernel
theorem dX3_alike_7 : decode cX3_alike 7 = .ok (.iload_n 2, 1) := by decide +kernel
theorem dX3_alike_8 : decode cX3_alike 8 = .ok (.invokestatic 38, 3) := by decide +kernel
theorem dX3_alike_11 : decode cX3_alike 11 = .ok (.ifCond .ne 5, 3) := by decide +kernel
theorem dX3_alike_14 : decode cX3_alike 14 = .ok (.iconst (-1), 1) := by decide +kernel
theorem dX3_alike_15 : decode cX3_alike 15 = .ok (.ireturn, 1) := by decide +kernel
theorem dX3_alike_16 : decode cX3_alike 16 = .ok (.aload_n 0, 1) := by decide +kernel
theorem dX3_alike_17 : decode cX3_alike 17 = .ok (.iconst 0, 1) := by decide +kernel
theorem dX3_alike_18 : decode cX3_alike 18 = .ok (.iload_n 1, 1) := by decide +kernel
theorem dX3_alike_19 : decode cX3_alike 19 = .ok (.iload_n 2, 1) := by decide +kernel
theorem dX3_alike_20 : decode cX3_alike 20 = .ok (.invokevirtual 129, 3) := by decide +kernel
theorem dX3_alike_23 : decode cX3_alike 23 = .ok (.istore 4, 2) := by decide +kernel
theorem dX3_alike_25 : decode cX3_alike 25 = .ok (.aload_n 0, 1) := by decide +kernel
theorem dX3_alike_26 : decode cX3_alike 26 = .ok (.iconst 1, 1) := by decide +kernel
theorem dX3_alike_27 : decode cX3_alike 27 = .ok (.iload_n 1, 1) := by decide +kernel
theorem dX3_alike_28 : decode cX3_alike 28 = .ok (.iload_n 2, 1) := by decide +kernel
theorem dX3_alike_29 : decode cX3_alike 29 = .ok (.invokevirtual 129, 3) := by decide +kernel
theorem dX3_alike_32 : decode cX3_alike 32 = .ok (.istore 5, 2) := by decide +kernel
theorem dX3_alike_34 : decode cX3_alike 34 = .ok (.iload 5, 2) := by decide +kernel
theorem dX3_alike_36 : decode cX3_alike 36 = .ok (.iload 4, 2) := by decide +kernel
theorem dX3_alike_38 : decode cX3_alike 38 = .ok (.invokestatic 136, 3) := by decide +kernel
theorem dX3_alike_41 : decode cX3_alike 41 = .ok (.istore 6, 2) := by decide +kernel
theorem dX3_alike_43 : decode cX3_alike 43 = .ok (.iload 6, 2) := by decide +kernel
theorem dX3_alike_45 : decode cX3_alike 45 = .ok (.ifCond .ne 5, 3) := by decide +kernel
theorem dX3_alike_48 : decode cX3_alike 48 = .ok (.iconst 1, 1) := by decide +kernel
theorem dX3_alike_49 : decode cX3_alike 49 = .ok (.ireturn, 1) := by decide +kernel
theorem dX3_alike_50 : decode cX3_alike 50 = .ok (.iload_n 3, 1) := by decide +kernel
theorem dX3_alike_51 : decode cX3_alike 51 = .ok (.ifCond .eq 8, 3) := by decide +kernel
theorem dX3_alike_54 : decode cX3_alike 54 = .ok (.iload 5, 2) := by decide +kernel
theorem dX3_alike_56 : decode cX3_alike 56 = .ok (.goto 5, 3) := by decide +kernel
theorem dX3_alike_59 : decode cX3_alike 59 = .ok (.iload 4, 2) := by decide +kernel
theorem dX3_alike_61 : decode cX3_alike 61 = .ok (.iload 6, 2) := by decide +kernel
theorem dX3_alike_63 : decode cX3_alike 63 = .ok (.idiv, 1) := by decide +kernel
theorem dX3_alike_64 : decode cX3_alike 64 = .ok (.ireturn, 1) := by decide +kernel
set_option maxRecDepth 20000 in
theorem ggX3_met_X3_isKind : GoodIn wsX3_met wsX3_isKind := goodIn_r _ [5] (by decide +kernel) (by decide +kernel)
set_option maxRecDepth 20000 in
theorem gX3_met_X3_isKind : GoodIn wsX3_met (va_wsS RX3 139 yX3_isKind wsX3_isKind) := goodIn_app (goodIn_of _ (by decide +kernel)) ggX3_met_X3_isKind
theorem dX3_met_0 : decode cX3_met 0 = .ok (.iload_n 1, 1) := by decide +kernel
theorem dX3_met_1 : decode cX3_met 1 = .ok (.invokestatic 139, 3) := by decide +kernel
theorem dX3_met_4 : decode cX3_met 4 = .ok (.ifCond .eq 10, 3) := by decide +kernel
theorem dX3_met_7 : decode cX3_met 7 = .ok (.iload_n 2, 1) := by decide +kernel
theorem dX3_met_8 : decode cX3_met 8 = .ok (.invokestatic 139, 3) := by decide +kernel
theorem dX3_met_11 : decode cX3_met 11 = .ok (.ifCond .ne 5, 3) := by decide +kernel
theorem dX3_met_14 : decode cX3_met 14 = .ok (.iconst (-1), 1) := by decide +kernel
theorem dX3_met_15 : decode cX3_met 15 = .ok (.ireturn, 1) := by decide +kernel
theorem dX3_met_16 : decode cX3_met 16 = .ok (.aload_n 0, 1) := by decide +kernel
theorem dX3_met_17 : decode cX3_met 17 = .ok (.getfield 10, 3) := by decide +kernel
theorem dX3_met_20 : decode cX3_met 20 = .ok (.getfield 142, 3) := by decide +kernel
theorem dX3_met_23 : decode cX3_met 23 = .ok (.iconst 3, 1) := by decide +kernel
theorem dX3_met_24 : decode cX3_met 24 = .ok (.iload_n 1, 1) := by decide +kernel
theorem dX3_met_25 : decode cX3_met 25 = .ok (.imul, 1) := by decide +kernel
theorem dX3_met_26 : decode cX3_met 26 = .ok (.iload_n 2, 1) := by decide +kernel
theorem dX3_met_27 : decode cX3_met 27 = .ok (.iadd, 1) := by decide +kernel
theorem dX3_met_28 : decode cX3_met 28 = .ok (.iaload, 1) := by decide +kernel
theorem dX3_met_29 : decode cX3_met 29 = .ok (.ireturn, 1) := by decide +kernel
set_option maxRecDepth 20000 in
theorem ggX3_converted_X3_isKind : GoodIn wsX3_converted wsX3_isKind := goodIn_r _ [5] (by decide +kernel) (by decide +kernel)
set_option maxRecDepth 20000 in
theorem gX3_converted_X3_isKind : GoodIn wsX3_converted (va_wsS RX3 139 yX3_isKind wsX3_isKind) := goodIn_app (goodIn_of _ (by decide +kernel)) ggX3_converted_X3_isKind
theorem dX3_converted_0 : decode cX3_converted 0 = .ok (.iload_n 1, 1) := by decide +kernel
theorem dX3_converted_1 : decode cX3_converted 1 = .ok (.invokestatic 139, 3) := by decide +kernel
theorem dX3_converted_4 : decode cX3_converted 4 = .ok (.ifCond .eq 15, 3) := by decide +kernel
theorem dX3_converted_7 : decode cX3_converted 7 = .ok (.iload_n 2, 1) := by decide +kernel
theorem dX3_converted_8 : decode cX3_converted 8 = .ok (.invokestatic 139, 3) := by decide +kernel
theorem dX3_converted_11 : decode cX3_converted 11 = .ok (.ifCond .eq 8, 3) := by decide +kernel
theorem dX3_converted_14 : decode cX3_converted 14 = .ok (.iload_n 1, 1) := by decide +kernel
theorem dX3_converted_15 : decode cX3_converted 15 = .ok (.iload_n 2, 1) := by decide +kernel
theorem dX3_converted_16 : decode cX3_converted 16 = .ok (.if_icmp .ne 5, 3) := by decide +kernel
theorem dX3_converted_19 : decode cX3_converted 19 = .ok (.iconst (-1), 1) := by decide +kernel
theorem dX3_converted_20 : decode cX3_converted 20 = .ok (.ireturn, 1) := by decide +kernel
theorem dX3_converted_21 : decode cX3_converted 21 = .ok (.aload_n 0, 1) := by decide +kernel
theorem dX3_converted_22 : decode cX3_converted 22 = .ok (.getfield 10, 3) := by decide +kernel
theorem dX3_converted_25 : decode cX3_converted 25 = .ok (.getfield 146, 3) := by decide +kernel
theorem dX3_converted_28 : decode cX3_converted 28 = .ok (.iconst 3, 1) := by decide +kernel
theorem dX3_converted_29 : decode cX3_converted 29 = .ok (.iload_n 1, 1) := by decide +kernel
theorem dX3_converted_30 : decode cX3_converted 30 = .ok (.imul, 1) := by decide +kernel
theorem dX3_converted_31 : decode cX3_converted 31 = .ok (.iload_n 2, 1) := by decide +kernel
theorem dX3_converted_32 : decode cX3_converted 32 = .ok (.iadd, 1) := by decide +kernel
theorem dX3_converted_33 : decode cX3_converted 33 = .ok (.iaload, 1) := by decide +kernel
theorem dX3_converted_34 : decode cX3_converted 34 = .ok (.ireturn, 1) := by decide +kernel
theorem dX3_undo_0 : decode cX3_undo 0 = .ok (.aload_n 0, 1) := by decide +kernel
theorem dX3_undo_1 : decode cX3_undo 1 = .ok (.getfield 20, 3) := by decide +kernel
theorem dX3_undo_4 : decode cX3_undo 4 = .ok (.iconst 1, 1) := by decide +kernel
theorem dX3_undo_5 : decode cX3_undo 5 = .ok (.if_icmp .lt 11, 3) := by decide +kernel
theorem dX3_undo_8 : decode cX3_undo 8 = .ok (.aload_n 0, 1) := by decide +kernel
theorem dX3_undo_9 : decode cX3_undo 9 = .ok (.getfield 20, 3) := by decide +kernel
theorem dX3_undo_12 : decode cX3_undo 12 = .ok (.iconst 5, 1) := by decide +kernel
theorem dX3_undo_13 : decode cX3_undo 13 = .ok (.if_icmp .le 6, 3) := by decide +kernel
theorem dX3_undo_16 : decode cX3_undo 16 = .ok (.bipush (-9), 2) := by decide +kernel
theorem dX3_undo_18 : decode cX3_undo 18 = .ok (.ireturn, 1) := by decide +kernel
theorem dX3_undo_19 : decode cX3_undo 19 = .ok (.aload_n 0, 1) := by decide +kernel
theorem dX3_undo_20 : decode cX3_undo 20 = .ok (.dup, 1) := by decide +kernel
theorem dX3_undo_21 : decode cX3_undo 21 = .ok (.getfield 20, 3) := by decide +kernel
theorem dX3_undo_24 : decode cX3_undo 24 = .ok (.iconst 1, 1) := by decide +kernel
theorem dX3_undo_25 : decode cX3_undo 25 = .ok (.isub, 1) := by decide +kernel
theorem dX3_undo_26 : decode cX3_undo 26 = .ok (.putfield 20, 3) := by decide +kernel
theorem dX3_undo_29 : decode cX3_undo 29 = .ok (.aload_n 0, 1) := by decide +kernel
theorem dX3_undo_30 : decode cX3_undo 30 = .ok (.getfield 10, 3) := by decide +kernel
theorem dX3_undo_33 : decode cX3_undo 33 = .ok (.astore_n 1, 1) := by decide +kernel
theorem dX3_undo_34 : decode cX3_undo 34 = .ok (.aload_n 0, 1) := by decide +kernel
theorem dX3_undo_35 : decode cX3_undo 35 = .ok (.aload_n 0, 1) := by decide +kernel
theorem dX3_undo_36 : decode cX3_undo 36 = .ok (.getfield 16, 3) := by decide +kernel
theorem dX3_undo_39 : decode cX3_undo 39 = .ok (.aload_n 0, 1) := by decide +kernel
theorem dX3_undo_40 : decode cX3_undo 40 = .ok (.getfield 20, 3) := by decide +kernel
theorem dX3_undo_43 : decode cX3_undo 43 = .ok (.aaload, 1) := by decide +kernel
theorem dX3_undo_44 : decode cX3_undo 44 = .ok (.putfield 10, 3) := by decide +kernel
theorem dX3_undo_47 : decode cX3_undo 47 = .ok (.aload_n 0, 1) := by decide +kernel
theorem dX3_undo_48 : decode cX3_undo 48 = .ok (.getfield 16, 3) := by decide +kernel
theorem dX3_undo_51 : decode cX3_undo 51 = .ok (.aload_n 0, 1) := by decide +kernel
theorem dX3_undo_52 : decode cX3_undo 52 = .ok (.getfield 20, 3) := by decide +kernel
theorem dX3_undo_55 : decode cX3_undo 55 = .ok (.aload_n 1, 1) := by decide +kernel
theorem dX3_undo_56 : decode cX3_undo 56 = .ok (.aastore, 1) := by decide +kernel
theorem dX3_undo_57 : decode cX3_undo 57 = .ok (.aload_n 0, 1) := by decide +kernel
theorem dX3_undo_58 : decode cX3_undo 58 = .ok (.getfield 20, 3) := by decide +kernel
theorem dX3_undo_61 : decode cX3_undo 61 = .ok (.ireturn, 1) := by decide +kernel
set_option maxRecDepth 20000 in
theorem ggX3_fingerprint_X3_printPieces : GoodIn wsX3_fingerprint wsX3_printPieces := goodIn_r _ [7, 3, 8, 9, 10, 11, 12, 13, 14, 15, 16, 17, 18, 19, 20, 21, 22, 23, 24, 25, 26, 27, 28, 29, 30, 31, 32, 33, 34, 35, 36, 37, 38, 39, 40, 41, 42, 43, 55] (by decide +kernel) (by decide +kernel)
set_option maxRecDepth 20000 in
theorem gX3_fingerprint_X3_printPieces : GoodIn wsX3_fingerprint (va_wsS RX3 151 yX3_printPieces wsX3_printPieces) := goodIn_app (goodIn_of _ (by decide +kernel)) ggX3_fingerprint_X3_printPieces
set_option maxRecDepth 20000 in
theorem ggX3_fingerprint_X3_printNumbers : GoodIn wsX3_fingerprint wsX3_printNumbers := goodIn_r _ [46, 3, 55] (by decide +kernel) (by decide +kernel)
set_option maxRecDepth 20000 in
theorem gX3_fingerprint_X3_printNumbers : GoodIn wsX3_fingerprint (va_wsS RX3 157 yX3_printNumbers wsX3_printNumbers) := goodIn_app (goodIn_of _ (by decide +kernel)) ggX3_fingerprint_X3_printNumbers
theorem dX3_fingerprint_0 : decode cX3_fingerprint 0 = .ok (.ldc2_w 149, 3) := by decide +kernel
theorem dX3_fingerprint_3 : decode cX3_fingerprint 3 = .ok (.lstore_n 1, 1) := by decide +kernel
theorem dX3_fingerprint_4 : decode cX3_fingerprint 4 = .ok (.iconst 0, 1) := by decide +kernel
theorem dX3_fingerprint_5 : decode cX3_fingerprint 5 = .ok (.istore_n 3, 1) := by decide +kernel
theorem dX3_fingerprint_6 : decode cX3_fingerprint 6 = .ok (.iload_n 3, 1) := by decide +kernel
theorem dX3_fingerprint_7 : decode cX3_fingerprint 7 = .ok (.bipush 6, 2) := by decide +kernel
theorem dX3_fingerprint_9 : decode cX3_fingerprint 9 = .ok (.if_icmp .ge 23, 3) := by decide +kernel
theorem dX3_fingerprint_12 : decode cX3_fingerprint 12 = .ok (.lload_n 1, 1) := by decide +kernel
theorem dX3_fingerprint_13 : decode cX3_fingerprint 13 = .ok (.aload_n 0, 1) := by decide +kernel
theorem dX3_fingerprint_14 : decode cX3_fingerprint 14 = .ok (.getfield 10, 3) := by decide +kernel
theorem dX3_fingerprint_17 : decode cX3_fingerprint 17 = .ok (.getfield 50, 3) := by decide +kernel
theorem dX3_fingerprint_20 : decode cX3_fingerprint 20 = .ok (.iload_n 3, 1) := by decide +kernel
theorem dX3_fingerprint_21 : decode cX3_fingerprint 21 = .ok (.aaload, 1) := by decide +kernel
theorem dX3_fingerprint_22 : decode cX3_fingerprint 22 = .ok (.invokestatic 151, 3) := by decide +kernel
theorem dX3_fingerprint_25 : decode cX3_fingerprint 25 = .ok (.lstore_n 1, 1) := by decide +kernel
theorem dX3_fingerprint_26 : decode cX3_fingerprint 26 = .ok (.iinc 3 1, 3) := by decide +kernel
theorem dX3_fingerprint_29 : decode cX3_fingerprint 29 = .ok (.goto (-23), 3) := by decide +kernel
theorem dX3_fingerprint_32 : decode cX3_fingerprint 32 = .ok (.iconst 0, 1) := by decide +kernel
theorem dX3_fingerprint_33 : decode cX3_fingerprint 33 = .ok (.istore_n 3, 1) := by decide +kernel
theorem dX3_fingerprint_34 : decode cX3_fingerprint 34 = .ok (.iload_n 3, 1) := by decide +kernel
theorem dX3_fingerprint_35 : decode cX3_fingerprint 35 = .ok (.bipush 9, 2) := by decide +kernel
theorem dX3_fingerprint_37 : decode cX3_fingerprint 37 = .ok (.if_icmp .ge 26, 3) := by decide +kernel
theorem dX3_fingerprint_40 : decode cX3_fingerprint 40 = .ok (.ldc2_w 155, 3) := by decide +kernel
theorem dX3_fingerprint_43 : decode cX3_fingerprint 43 = .ok (.lload_n 1, 1) := by decide +kernel
theorem dX3_fingerprint_44 : decode cX3_fingerprint 44 = .ok (.lmul, 1) := by decide +kernel
theorem dX3_fingerprint_45 : decode cX3_fingerprint 45 = .ok (.aload_n 0, 1) := by decide +kernel
theorem dX3_fingerprint_46 : decode cX3_fingerprint 46 = .ok (.getfield 10, 3) := by decide +kernel
theorem dX3_fingerprint_49 : decode cX3_fingerprint 49 = .ok (.getfield 142, 3) := by decide +kernel
theorem dX3_fingerprint_52 : decode cX3_fingerprint 52 = .ok (.iload_n 3, 1) := by decide +kernel
theorem dX3_fingerprint_53 : decode cX3_fingerprint 53 = .ok (.iaload, 1) := by decide +kernel
theorem dX3_fingerprint_54 : decode cX3_fingerprint 54 = .ok (.i2l, 1) := by decide +kernel
theorem dX3_fingerprint_55 : decode cX3_fingerprint 55 = .ok (.ladd, 1) := by decide +kernel
theorem dX3_fingerprint_56 : decode cX3_fingerprint 56 = .ok (.lstore_n 1, 1) := by decide +kernel
theorem dX3_fingerprint_57 : decode cX3_fingerprint 57 = .ok (.iinc 3 1, 3) := by decide +kernel
theorem dX3_fingerprint_60 : decode cX3_fingerprint 60 = .ok (.goto (-26), 3) := by decide +kernel
theorem dX3_fingerprint_63 : decode cX3_fingerprint 63 = .ok (.iconst 0, 1) := by decide +kernel
theorem dX3_fingerprint_64 : decode cX3_fingerprint 64 = .ok (.istore_n 3, 1) := by decide +kernel
theorem dX3_fingerprint_65 : decode cX3_fingerprint 65 = .ok (.iload_n 3, 1) := by decide +kernel
theorem dX3_fingerprint_66 : decode cX3_fingerprint 66 = .ok (.bipush 9, 2) := by decide +kernel
theorem dX3_fingerprint_68 : decode cX3_fingerprint 68 = .ok (.if_icmp .ge 35, 3) := by decide +kernel
theorem dX3_fingerprint_71 : decode cX3_fingerprint 71 = .ok (.iload_n 3, 1) := by decide +kernel
theorem dX3_fingerprint_72 : decode cX3_fingerprint 72 = .ok (.iconst 3, 1) := by decide +kernel
theorem dX3_fingerprint_73 : decode cX3_fingerprint 73 = .ok (.idiv, 1) := by decide +kernel
theorem dX3_fingerprint_74 : decode cX3_fingerprint 74 = .ok (.iload_n 3, 1) := by decide +kernel
theorem dX3_fingerprint_75 : decode cX3_fingerprint 75 = .ok (.iconst 3, 1) := by decide +kernel
theorem dX3_fingerprint_76 : decode cX3_fingerprint 76 = .ok (.irem, 1) := by decide +kernel
theorem dX3_fingerprint_77 : decode cX3_fingerprint 77 = .ok (.if_icmp .eq 20, 3) := by decide +kernel
theorem dX3_fingerprint_80 : decode cX3_fingerprint 80 = .ok (.ldc2_w 155, 3) := by decide +kernel
theorem dX3_fingerprint_83 : decode cX3_fingerprint 83 = .ok (.lload_n 1, 1) := by decide +kernel
theorem dX3_fingerprint_84 : decode cX3_fingerprint 84 = .ok (.lmul, 1) := by decide +kernel
theorem dX3_fingerprint_85 : decode cX3_fingerprint 85 = .ok (.aload_n 0, 1) := by decide +kernel
theorem dX3_fingerprint_86 : decode cX3_fingerprint 86 = .ok (.getfield 10, 3) := by decide +kernel
theorem dX3_fingerprint_89 : decode cX3_fingerprint 89 = .ok (.getfield 146, 3) := by decide +kernel
theorem dX3_fingerprint_92 : decode cX3_fingerprint 92 = .ok (.iload_n 3, 1) := by decide +kernel
theorem dX3_fingerprint_93 : decode cX3_fingerprint 93 = .ok (.iaload, 1) := by decide +kernel
theorem dX3_fingerprint_94 : decode cX3_fingerprint 94 = .ok (.i2l, 1) := by decide +kernel
theorem dX3_fingerprint_95 : decode cX3_fingerprint 95 = .ok (.ladd, 1) := by decide +kernel
theorem dX3_fingerprint_96 : decode cX3_fingerprint 96 = .ok (.lstore_n 1, 1) := by decide +kernel
theorem dX3_fingerprint_97 : decode cX3_fingerprint 97 = .ok (.iinc 3 1, 3) := by decide +kernel
theorem dX3_fingerprint_100 : decode cX3_fingerprint 100 = .ok (.goto (-35), 3) := by decide +kernel
theorem dX3_fingerprint_103 : decode cX3_fingerprint 103 = .ok (.iconst 0, 1) := by decide +kernel
theorem dX3_fingerprint_104 : decode cX3_fingerprint 104 = .ok (.istore_n 3, 1) := by decide +kernel
theorem dX3_fingerprint_105 : decode cX3_fingerprint 105 = .ok (.iload_n 3, 1) := by decide +kernel
theorem dX3_fingerprint_106 : decode cX3_fingerprint 106 = .ok (.bipush 6, 2) := by decide +kernel
theorem dX3_fingerprint_108 : decode cX3_fingerprint 108 = .ok (.if_icmp .ge 23, 3) := by decide +kernel
theorem dX3_fingerprint_111 : decode cX3_fingerprint 111 = .ok (.lload_n 1, 1) := by decide +kernel
theorem dX3_fingerprint_112 : decode cX3_fingerprint 112 = .ok (.aload_n 0, 1) := by decide +kernel
theorem dX3_fingerprint_113 : decode cX3_fingerprint 113 = .ok (.getfield 10, 3) := by decide +kernel
theorem dX3_fingerprint_116 : decode cX3_fingerprint 116 = .ok (.getfield 50, 3) := by decide +kernel
theorem dX3_fingerprint_119 : decode cX3_fingerprint 119 = .ok (.iload_n 3, 1) := by decide +kernel
theorem dX3_fingerprint_120 : decode cX3_fingerprint 120 = .ok (.aaload, 1) := by decide +kernel
theorem dX3_fingerprint_121 : decode cX3_fingerprint 121 = .ok (.invokestatic 157, 3) := by decide +kernel
theorem dX3_fingerprint_124 : decode cX3_fingerprint 124 = .ok (.lstore_n 1, 1) := by decide +kernel
theorem dX3_fingerprint_125 : decode cX3_fingerprint 125 = .ok (.iinc 3 1, 3) := by decide +kernel
theorem dX3_fingerprint_128 : decode cX3_fingerprint 128 = .ok (.goto (-23), 3) := by decide +kernel
theorem dX3_fingerprint_131 : decode cX3_fingerprint 131 = .ok (.lload_n 1, 1) := by decide +kernel
theorem dX3_fingerprint_132 : decode cX3_fingerprint 132 = .ok (.lreturn, 1) := by decide +kernel
theorem dX3_isSet_0 : decode cX3_isSet 0 = .ok (.iload_n 0, 1) := by decide +kernel
theorem dX3_isSet_1 : decode cX3_isSet 1 = .ok (.ifCond .lt 13, 3) := by decide +kernel
theorem dX3_isSet_4 : decode cX3_isSet 4 = .ok (.iload_n 0, 1) := by decide +kernel
theorem dX3_isSet_5 : decode cX3_isSet 5 = .ok (.bipush 6, 2) := by decide +kernel
theorem dX3_isSet_7 : decode cX3_isSet 7 = .ok (.if_icmp .ge 7, 3) := by decide +kernel
theorem dX3_isSet_10 : decode cX3_isSet 10 = .ok (.iconst 1, 1) := by decide +kernel
theorem dX3_isSet_11 : decode cX3_isSet 11 = .ok (.goto 4, 3) := by decide +kernel
theorem dX3_isSet_14 : decode cX3_isSet 14 = .ok (.iconst 0, 1) := by decide +kernel
theorem dX3_isSet_15 : decode cX3_isSet 15 = .ok (.ireturn, 1) := by decide +kernel
theorem dX3_isNumber_0 : decode cX3_isNumber 0 = .ok (.iload_n 0, 1) := by decide +kernel
theorem dX3_isNumber_1 : decode cX3_isNumber 1 = .ok (.ifCond .lt 14, 3) := by decide +kernel
theorem dX3_isNumber_4 : decode cX3_isNumber 4 = .ok (.iload_n 0, 1) := by decide +kernel
theorem dX3_isNumber_5 : decode cX3_isNumber 5 = .ok (.sipush 4096, 3) := by decide +kernel
theorem dX3_isNumber_8 : decode cX3_isNumber 8 = .ok (.if_icmp .ge 7, 3) := by decide +kernel
theorem dX3_isNumber_11 : decode cX3_isNumber 11 = .ok (.iconst 1, 1) := by decide +kernel
theorem dX3_isNumber_12 : decode cX3_isNumber 12 = .ok (.goto 4, 3) := by decide +kernel
theorem dX3_isNumber_15 : decode cX3_isNumber 15 = .ok (.iconst 0, 1) := by decide +kernel
theorem dX3_isNumber_16 : decode cX3_isNumber 16 = .ok (.ireturn, 1) := by decide +kernel
set_option maxRecDepth 20000 in
theorem ggX3_isRange_X3_isNumber : GoodIn wsX3_isRange wsX3_isNumber := goodIn_r _ [4] (by decide +kernel) (by decide +kernel)
set_option maxRecDepth 20000 in
theorem gX3_isRange_X3_isNumber : GoodIn wsX3_isRange (va_wsS RX3 160 yX3_isNumber wsX3_isNumber) := goodIn_app (goodIn_of _ (by decide +kernel)) ggX3_isRange_X3_isNumber
theorem dX3_isRange_0 : decode cX3_isRange 0 = .ok (.iload_n 0, 1) := by decide +kernel
theorem dX3_isRange_1 : decode cX3_isRange 1 = .ok (.invokestatic 160, 3) := by decide +kernel
theorem dX3_isRange_4 : decode cX3_isRange 4 = .ok (.ifCond .eq 19, 3) := by decide +kernel
theorem dX3_isRange_7 : decode cX3_isRange 7 = .ok (.iload_n 1, 1) := by decide +kernel
theorem dX3_isRange_8 : decode cX3_isRange 8 = .ok (.invokestatic 160, 3) := by decide +kernel
theorem dX3_isRange_11 : decode cX3_isRange 11 = .ok (.ifCond .eq 12, 3) := by decide +kernel
theorem dX3_isRange_14 : decode cX3_isRange 14 = .ok (.iload_n 0, 1) := by decide +kernel
theorem dX3_isRange_15 : decode cX3_isRange 15 = .ok (.iload_n 1, 1) := by decide +kernel
theorem dX3_isRange_16 : decode cX3_isRange 16 = .ok (.if_icmp .gt 7, 3) := by decide +kernel
theorem dX3_isRange_19 : decode cX3_isRange 19 = .ok (.iconst 1, 1) := by decide +kernel
theorem dX3_isRange_20 : decode cX3_isRange 20 = .ok (.goto 4, 3) := by decide +kernel
theorem dX3_isRange_23 : decode cX3_isRange 23 = .ok (.iconst 0, 1) := by decide +kernel
theorem dX3_isRange_24 : decode cX3_isRange 24 = .ok (.ireturn, 1) := by decide +kernel
theorem dX3_isKind_0 : decode cX3_isKind 0 = .ok (.iload_n 0, 1) := by decide +kernel
theorem dX3_isKind_1 : decode cX3_isKind 1 = .ok (.ifCond .lt 12, 3) := by decide +kernel
theorem dX3_isKind_4 : decode cX3_isKind 4 = .ok (.iload_n 0, 1) := by decide +kernel
theorem dX3_isKind_5 : decode cX3_isKind 5 = .ok (.iconst 3, 1) := by decide +kernel
theorem dX3_isKind_6 : decode cX3_isKind 6 = .ok (.if_icmp .ge 7, 3) := by decide +kernel
theorem dX3_isKind_9 : decode cX3_isKind 9 = .ok (.iconst 1, 1) := by decide +kernel
theorem dX3_isKind_10 : decode cX3_isKind 10 = .ok (.goto 4, 3) := by decide +kernel
theorem dX3_isKind_13 : decode cX3_isKind 13 = .ok (.iconst 0, 1) := by decide +kernel
theorem dX3_isKind_14 : decode cX3_isKind 14 = .ok (.ireturn, 1) := by decide +kernel
set_option maxRecDepth 20000 in
theorem ggX3_keepState_X2_become : GoodIn wsX3_keepState wsX2_become := goodIn_r _ [7, 8, 9, 10, 11, 12, 13, 14, 15, 16, 17, 18, 19, 20, 26, 27, 28, 29] (by decide +kernel) (by decide +kernel)
set_option maxRecDepth 20000 in
theorem gX3_keepState_X2_become_n163 : GoodIn wsX3_keepState (wsX2_become) := ggX3_keepState_X2_become
theorem dX3_keepState_0 : decode cX3_keepState 0 = .ok (.aload_n 0, 1) := by decide +kernel
theorem dX3_keepState_1 : decode cX3_keepState 1 = .ok (.getfield 20, 3) := by decide +kernel
theorem dX3_keepState_4 : decode cX3_keepState 4 = .ok (.iconst 5, 1) := by decide +kernel
theorem dX3_keepState_5 : decode cX3_keepState 5 = .ok (.if_icmp .lt 49, 3) := by decide +kernel
theorem dX3_keepState_8 : decode cX3_keepState 8 = .ok (.aload_n 0, 1) := by decide +kernel
theorem dX3_keepState_9 : decode cX3_keepState 9 = .ok (.getfield 16, 3) := by decide +kernel
theorem dX3_keepState_12 : decode cX3_keepState 12 = .ok (.iconst 0, 1) := by decide +kernel
theorem dX3_keepState_13 : decode cX3_keepState 13 = .ok (.aaload, 1) := by decide +kernel
theorem dX3_keepState_14 : decode cX3_keepState 14 = .ok (.astore_n 1, 1) := by decide +kernel
theorem dX3_keepState_15 : decode cX3_keepState 15 = .ok (.iconst 1, 1) := by decide +kernel
theorem dX3_keepState_16 : decode cX3_keepState 16 = .ok (.istore_n 2, 1) := by decide +kernel
theorem dX3_keepState_17 : decode cX3_keepState 17 = .ok (.iload_n 2, 1) := by decide +kernel
theorem dX3_keepState_18 : decode cX3_keepState 18 = .ok (.iconst 5, 1) := by decide +kernel
theorem dX3_keepState_19 : decode cX3_keepState 19 = .ok (.if_icmp .ge 23, 3) := by decide +kernel
theorem dX3_keepState_22 : decode cX3_keepState 22 = .ok (.aload_n 0, 1) := by decide +kernel
theorem dX3_keepState_23 : decode cX3_keepState 23 = .ok (.getfield 16, 3) := by decide +kernel
theorem dX3_keepState_26 : decode cX3_keepState 26 = .ok (.iload_n 2, 1) := by decide +kernel
theorem dX3_keepState_27 : decode cX3_keepState 27 = .ok (.iconst 1, 1) := by decide +kernel
theorem dX3_keepState_28 : decode cX3_keepState 28 = .ok (.isub, 1) := by decide +kernel
theorem dX3_keepState_29 : decode cX3_keepState 29 = .ok (.aload_n 0, 1) := by decide +kernel
theorem dX3_keepState_30 : decode cX3_keepState 30 = .ok (.getfield 16, 3) := by decide +kernel
theorem dX3_keepState_33 : decode cX3_keepState 33 = .ok (.iload_n 2, 1) := by decide +kernel
theorem dX3_keepState_34 : decode cX3_keepState 34 = .ok (.aaload, 1) := by decide +kernel
theorem dX3_keepState_35 : decode cX3_keepState 35 = .ok (.aastore, 1) := by decide +kernel
theorem dX3_keepState_36 : decode cX3_keepState 36 = .ok (.iinc 2 1, 3) := by decide +kernel
theorem dX3_keepState_39 : decode cX3_keepState 39 = .ok (.goto (-22), 3) := by decide +kernel
theorem dX3_keepState_42 : decode cX3_keepState 42 = .ok (.aload_n 0, 1) := by decide +kernel
theorem dX3_keepState_43 : decode cX3_keepState 43 = .ok (.getfield 16, 3) := by decide +kernel
theorem dX3_keepState_46 : decode cX3_keepState 46 = .ok (.iconst 4, 1) := by decide +kernel
theorem dX3_keepState_47 : decode cX3_keepState 47 = .ok (.aload_n 1, 1) := by decide +kernel
theorem dX3_keepState_48 : decode cX3_keepState 48 = .ok (.aastore, 1) := by decide +kernel
theorem dX3_keepState_49 : decode cX3_keepState 49 = .ok (.aload_n 0, 1) := by decide +kernel
theorem dX3_keepState_50 : decode cX3_keepState 50 = .ok (.iconst 4, 1) := by decide +kernel
theorem dX3_keepState_51 : decode cX3_keepState 51 = .ok (.putfield 20, 3) := by decide +kernel
theorem dX3_keepState_54 : decode cX3_keepState 54 = .ok (.aload_n 0, 1) := by decide +kernel
theorem dX3_keepState_55 : decode cX3_keepState 55 = .ok (.getfield 16, 3) := by decide +kernel
theorem dX3_keepState_58 : decode cX3_keepState 58 = .ok (.aload_n 0, 1) := by decide +kernel
theorem dX3_keepState_59 : decode cX3_keepState 59 = .ok (.getfield 20, 3) := by decide +kernel
theorem dX3_keepState_62 : decode cX3_keepState 62 = .ok (.aaload, 1) := by decide +kernel
theorem dX3_keepState_63 : decode cX3_keepState 63 = .ok (.astore_n 1, 1) := by decide +kernel
theorem dX3_keepState_64 : decode cX3_keepState 64 = .ok (.aload_n 1, 1) := by decide +kernel
theorem dX3_keepState_65 : decode cX3_keepState 65 = .ok (.aload_n 0, 1) := by decide +kernel
theorem dX3_keepState_66 : decode cX3_keepState 66 = .ok (.getfield 10, 3) := by decide +kernel
theorem dX3_keepState_69 : decode cX3_keepState 69 = .ok (.invokevirtual 163, 3) := by decide +kernel
theorem dX3_keepState_72 : decode cX3_keepState 72 = .ok (.aload_n 0, 1) := by decide +kernel
theorem dX3_keepState_73 : decode cX3_keepState 73 = .ok (.dup, 1) := by decide +kernel
theorem dX3_keepState_74 : decode cX3_keepState 74 = .ok (.getfield 20, 3) := by decide +kernel
theorem dX3_keepState_77 : decode cX3_keepState 77 = .ok (.iconst 1, 1) := by decide +kernel
theorem dX3_keepState_78 : decode cX3_keepState 78 = .ok (.iadd, 1) := by decide +kernel
theorem dX3_keepState_79 : decode cX3_keepState 79 = .ok (.putfield 20, 3) := by decide +kernel
theorem dX3_keepState_82 : decode cX3_keepState 82 = .ok (.aload_n 1, 1) := by decide +kernel
theorem dX3_keepState_83 : decode cX3_keepState 83 = .ok (.areturn, 1) := by decide +kernel
set_option maxRecDepth 20000 in
theorem ggX3_nthEdge_X1_becomeMoved : GoodIn wsX3_nthEdge wsX1_becomeMoved := goodIn_r _ [5, 6, 7, 8, 9, 3, 10, 36] (by decide +kernel) (by decide +kernel)
set_option maxRecDepth 20000 in
theorem gX3_nthEdge_X1_becomeMoved_n88 : GoodIn wsX3_nthEdge (wsX1_becomeMoved) := ggX3_nthEdge_X1_becomeMoved
set_option maxRecDepth 20000 in
theorem ggX3_nthEdge_X1_becomeJoin : GoodIn wsX3_nthEdge wsX1_becomeJoin := goodIn_r _ [13, 6, 14, 15, 3, 16, 17, 36] (by decide +kernel) (by decide +kernel)
set_option maxRecDepth 20000 in
theorem gX3_nthEdge_X1_becomeJoin_n81 : GoodIn wsX3_nthEdge (wsX1_becomeJoin) := ggX3_nthEdge_X1_becomeJoin
set_option maxRecDepth 20000 in
theorem ggX3_nthEdge_X1_nth : GoodIn wsX3_nthEdge wsX1_nth := goodIn_r _ [20, 6, 21, 22, 23, 24, 25, 26, 27, 28, 29, 3, 30, 36] (by decide +kernel) (by decide +kernel)
set_option maxRecDepth 20000 in
theorem gX3_nthEdge_X1_nth_n95 : GoodIn wsX3_nthEdge (wsX1_nth) := ggX3_nthEdge_X1_nth
theorem dX3_nthEdge_0 : decode cX3_nthEdge 0 = .ok (.aload_n 0, 1) := by decide +kernel
theorem dX3_nthEdge_1 : decode cX3_nthEdge 1 = .ok (.getfield 34, 3) := by decide +kernel
theorem dX3_nthEdge_4 : decode cX3_nthEdge 4 = .ok (.aload_n 1, 1) := by decide +kernel
theorem dX3_nthEdge_5 : decode cX3_nthEdge 5 = .ok (.iload_n 2, 1) := by decide +kernel
theorem dX3_nthEdge_6 : decode cX3_nthEdge 6 = .ok (.invokevirtual 88, 3) := by decide +kernel
theorem dX3_nthEdge_9 : decode cX3_nthEdge 9 = .ok (.aload_n 0, 1) := by decide +kernel
theorem dX3_nthEdge_10 : decode cX3_nthEdge 10 = .ok (.getfield 34, 3) := by decide +kernel
theorem dX3_nthEdge_13 : decode cX3_nthEdge 13 = .ok (.iconst 3, 1) := by decide +kernel
theorem dX3_nthEdge_14 : decode cX3_nthEdge 14 = .ok (.aload_n 1, 1) := by decide +kernel
theorem dX3_nthEdge_15 : decode cX3_nthEdge 15 = .ok (.aload_n 0, 1) := by decide +kernel
theorem dX3_nthEdge_16 : decode cX3_nthEdge 16 = .ok (.getfield 34, 3) := by decide +kernel
theorem dX3_nthEdge_19 : decode cX3_nthEdge 19 = .ok (.invokevirtual 81, 3) := by decide +kernel
theorem dX3_nthEdge_22 : decode cX3_nthEdge 22 = .ok (.aload_n 0, 1) := by decide +kernel
theorem dX3_nthEdge_23 : decode cX3_nthEdge 23 = .ok (.getfield 34, 3) := by decide +kernel
theorem dX3_nthEdge_26 : decode cX3_nthEdge 26 = .ok (.iload_n 3, 1) := by decide +kernel
theorem dX3_nthEdge_27 : decode cX3_nthEdge 27 = .ok (.invokevirtual 95, 3) := by decide +kernel
theorem dX3_nthEdge_30 : decode cX3_nthEdge 30 = .ok (.ireturn, 1) := by decide +kernel
set_option maxRecDepth 20000 in
theorem ggX3_countJoin_X1_becomeJoin : GoodIn wsX3_countJoin wsX1_becomeJoin := goodIn_r _ [6, 7, 8, 9, 4, 10, 11, 38] (by decide +kernel) (by decide +kernel)
set_option maxRecDepth 20000 in
theorem gX3_countJoin_X1_becomeJoin_n81 : GoodIn wsX3_countJoin (wsX1_becomeJoin) := ggX3_countJoin_X1_becomeJoin
set_option maxRecDepth 20000 in
theorem ggX3_countJoin_X1_count : GoodIn wsX3_countJoin wsX1_count := goodIn_r _ [14, 15, 16, 17, 4, 18, 19, 20, 21, 22, 7, 23, 24, 25, 26, 27, 28, 29, 38] (by decide +kernel) (by decide +kernel)
set_option maxRecDepth 20000 in
theorem gX3_countJoin_X1_count_n62 : GoodIn wsX3_countJoin (wsX1_count) := ggX3_countJoin_X1_count
theorem dX3_countJoin_0 : decode cX3_countJoin 0 = .ok (.aload_n 0, 1) := by decide +kernel
theorem dX3_countJoin_1 : decode cX3_countJoin 1 = .ok (.getfield 34, 3) := by decide +kernel
theorem dX3_countJoin_4 : decode cX3_countJoin 4 = .ok (.iload_n 1, 1) := by decide +kernel
theorem dX3_countJoin_5 : decode cX3_countJoin 5 = .ok (.aload_n 0, 1) := by decide +kernel
theorem dX3_countJoin_6 : decode cX3_countJoin 6 = .ok (.getfield 10, 3) := by decide +kernel
theorem dX3_countJoin_9 : decode cX3_countJoin 9 = .ok (.getfield 50, 3) := by decide +kernel
theorem dX3_countJoin_12 : decode cX3_countJoin 12 = .ok (.iload_n 2, 1) := by decide +kernel
theorem dX3_countJoin_13 : decode cX3_countJoin 13 = .ok (.aaload, 1) := by decide +kernel
theorem dX3_countJoin_14 : decode cX3_countJoin 14 = .ok (.aload_n 0, 1) := by decide +kernel
theorem dX3_countJoin_15 : decode cX3_countJoin 15 = .ok (.getfield 10, 3) := by decide +kernel
theorem dX3_countJoin_18 : decode cX3_countJoin 18 = .ok (.getfield 50, 3) := by decide +kernel
theorem dX3_countJoin_21 : decode cX3_countJoin 21 = .ok (.iload_n 3, 1) := by decide +kernel
theorem dX3_countJoin_22 : decode cX3_countJoin 22 = .ok (.aaload, 1) := by decide +kernel
theorem dX3_countJoin_23 : decode cX3_countJoin 23 = .ok (.invokevirtual 81, 3) := by decide +kernel
theorem dX3_countJoin_26 : decode cX3_countJoin 26 = .ok (.aload_n 0, 1) := by decide +kernel
theorem dX3_countJoin_27 : decode cX3_countJoin 27 = .ok (.getfield 34, 3) := by decide +kernel
theorem dX3_countJoin_30 : decode cX3_countJoin 30 = .ok (.invokevirtual 62, 3) := by decide +kernel
theorem dX3_countJoin_33 : decode cX3_countJoin 33 = .ok (.ireturn, 1) := by decide +kernel
set_option maxRecDepth 20000 in
theorem ggX3_countSamePieces_X1_becomeJoin : GoodIn wsX3_countSamePieces wsX1_becomeJoin := goodIn_r _ [6, 7, 8, 9, 4, 10, 11, 34] (by decide +kernel) (by decide +kernel)
set_option maxRecDepth 20000 in
theorem gX3_countSamePieces_X1_becomeJoin_n81 : GoodIn wsX3_countSamePieces (wsX1_becomeJoin) := ggX3_countSamePieces_X1_becomeJoin
set_option maxRecDepth 20000 in
theorem ggX3_countSamePieces_X1_countInPiece : GoodIn wsX3_countSamePieces wsX1_countInPiece := goodIn_r _ [14, 15, 16, 17, 4, 18, 7, 19, 20, 21, 22, 23, 24, 25, 34] (by decide +kernel) (by decide +kernel)
set_option maxRecDepth 20000 in
theorem gX3_countSamePieces_X1_countInPiece_n166 : GoodIn wsX3_countSamePieces (wsX1_countInPiece) := ggX3_countSamePieces_X1_countInPiece
theorem dX3_countSamePieces_0 : decode cX3_countSamePieces 0 = .ok (.aload_n 0, 1) := by decide +kernel
theorem dX3_countSamePieces_1 : decode cX3_countSamePieces 1 = .ok (.getfield 34, 3) := by decide +kernel
theorem dX3_countSamePieces_4 : decode cX3_countSamePieces 4 = .ok (.iconst 2, 1) := by decide +kernel
theorem dX3_countSamePieces_5 : decode cX3_countSamePieces 5 = .ok (.aload_n 0, 1) := by decide +kernel
theorem dX3_countSamePieces_6 : decode cX3_countSamePieces 6 = .ok (.getfield 10, 3) := by decide +kernel
theorem dX3_countSamePieces_9 : decode cX3_countSamePieces 9 = .ok (.getfield 50, 3) := by decide +kernel
theorem dX3_countSamePieces_12 : decode cX3_countSamePieces 12 = .ok (.iload_n 1, 1) := by decide +kernel
theorem dX3_countSamePieces_13 : decode cX3_countSamePieces 13 = .ok (.aaload, 1) := by decide +kernel
theorem dX3_countSamePieces_14 : decode cX3_countSamePieces 14 = .ok (.aload_n 0, 1) := by decide +kernel
theorem dX3_countSamePieces_15 : decode cX3_countSamePieces 15 = .ok (.getfield 10, 3) := by decide +kernel
theorem dX3_countSamePieces_18 : decode cX3_countSamePieces 18 = .ok (.getfield 50, 3) := by decide +kernel
theorem dX3_countSamePieces_21 : decode cX3_countSamePieces 21 = .ok (.iload_n 2, 1) := by decide +kernel
theorem dX3_countSamePieces_22 : decode cX3_countSamePieces 22 = .ok (.aaload, 1) := by decide +kernel
theorem dX3_countSamePieces_23 : decode cX3_countSamePieces 23 = .ok (.invokevirtual 81, 3) := by decide +kernel
theorem dX3_countSamePieces_26 : decode cX3_countSamePieces 26 = .ok (.iconst 0, 1) := by decide +kernel
theorem dX3_countSamePieces_27 : decode cX3_countSamePieces 27 = .ok (.istore_n 3, 1) := by decide +kernel
theorem dX3_countSamePieces_28 : decode cX3_countSamePieces 28 = .ok (.iconst 0, 1) := by decide +kernel
theorem dX3_countSamePieces_29 : decode cX3_countSamePieces 29 = .ok (.istore 4, 2) := by decide +kernel
theorem dX3_countSamePieces_31 : decode cX3_countSamePieces 31 = .ok (.iload 4, 2) := by decide +kernel
theorem dX3_countSamePieces_33 : decode cX3_countSamePieces 33 = .ok (.bipush 16, 2) := by decide +kernel
theorem dX3_countSamePieces_35 : decode cX3_countSamePieces 35 = .ok (.if_icmp .ge 24, 3) := by decide +kernel
theorem dX3_countSamePieces_38 : decode cX3_countSamePieces 38 = .ok (.aload_n 0, 1) := by decide +kernel
theorem dX3_countSamePieces_39 : decode cX3_countSamePieces 39 = .ok (.getfield 34, 3) := by decide +kernel
theorem dX3_countSamePieces_42 : decode cX3_countSamePieces 42 = .ok (.iload 4, 2) := by decide +kernel
theorem dX3_countSamePieces_44 : decode cX3_countSamePieces 44 = .ok (.invokevirtual 166, 3) := by decide +kernel
theorem dX3_countSamePieces_47 : decode cX3_countSamePieces 47 = .ok (.ifCond .ne 6, 3) := by decide +kernel
theorem dX3_countSamePieces_50 : decode cX3_countSamePieces 50 = .ok (.iinc 3 1, 3) := by decide +kernel
theorem dX3_countSamePieces_53 : decode cX3_countSamePieces 53 = .ok (.iinc 4 1, 3) := by decide +kernel
theorem dX3_countSamePieces_56 : decode cX3_countSamePieces 56 = .ok (.goto (-25), 3) := by decide +kernel
theorem dX3_countSamePieces_59 : decode cX3_countSamePieces 59 = .ok (.iload_n 3, 1) := by decide +kernel
theorem dX3_countSamePieces_60 : decode cX3_countSamePieces 60 = .ok (.ireturn, 1) := by decide +kernel
theorem dX3_greatestDivisor_0 : decode cX3_greatestDivisor 0 = .ok (.iload_n 0, 1) := by decide +kernel
theorem dX3_greatestDivisor_1 : decode cX3_greatestDivisor 1 = .ok (.istore_n 2, 1) := by decide +kernel
theorem dX3_greatestDivisor_2 : decode cX3_greatestDivisor 2 = .ok (.iload_n 1, 1) := by decide +kernel
theorem dX3_greatestDivisor_3 : decode cX3_greatestDivisor 3 = .ok (.istore_n 3, 1) := by decide +kernel
theorem dX3_greatestDivisor_4 : decode cX3_greatestDivisor 4 = .ok (.iconst 0, 1) := by decide +kernel
theorem dX3_greatestDivisor_5 : decode cX3_greatestDivisor 5 = .ok (.istore 4, 2) := by decide +kernel
theorem dX3_greatestDivisor_7 : decode cX3_greatestDivisor 7 = .ok (.iload 4, 2) := by decide +kernel
theorem dX3_greatestDivisor_9 : decode cX3_greatestDivisor 9 = .ok (.bipush 64, 2) := by decide +kernel
theorem dX3_greatestDivisor_11 : decode cX3_greatestDivisor 11 = .ok (.if_icmp .ge 23, 3) := by decide +kernel
theorem dX3_greatestDivisor_14 : decode cX3_greatestDivisor 14 = .ok (.iload_n 3, 1) := by decide +kernel
theorem dX3_greatestDivisor_15 : decode cX3_greatestDivisor 15 = .ok (.ifCond .eq 19, 3) := by decide +kernel
theorem dX3_greatestDivisor_18 : decode cX3_greatestDivisor 18 = .ok (.iload_n 2, 1) := by decide +kernel
theorem dX3_greatestDivisor_19 : decode cX3_greatestDivisor 19 = .ok (.iload_n 3, 1) := by decide +kernel
theorem dX3_greatestDivisor_20 : decode cX3_greatestDivisor 20 = .ok (.irem, 1) := by decide +kernel
theorem dX3_greatestDivisor_21 : decode cX3_greatestDivisor 21 = .ok (.istore 5, 2) := by decide +kernel
theorem dX3_greatestDivisor_23 : decode cX3_greatestDivisor 23 = .ok (.iload_n 3, 1) := by decide +kernel
theorem dX3_greatestDivisor_24 : decode cX3_greatestDivisor 24 = .ok (.istore_n 2, 1) := by decide +kernel
theorem dX3_greatestDivisor_25 : decode cX3_greatestDivisor 25 = .ok (.iload 5, 2) := by decide +kernel
theorem dX3_greatestDivisor_27 : decode cX3_greatestDivisor 27 = .ok (.istore_n 3, 1) := by decide +kernel
theorem dX3_greatestDivisor_28 : decode cX3_greatestDivisor 28 = .ok (.iinc 4 1, 3) := by decide +kernel
theorem dX3_greatestDivisor_31 : decode cX3_greatestDivisor 31 = .ok (.goto (-24), 3) := by decide +kernel
theorem dX3_greatestDivisor_34 : decode cX3_greatestDivisor 34 = .ok (.iload_n 2, 1) := by decide +kernel
theorem dX3_greatestDivisor_35 : decode cX3_greatestDivisor 35 = .ok (.ireturn, 1) := by decide +kernel
set_option maxRecDepth 20000 in
theorem ggX3_printPieces_X1_count : GoodIn wsX3_printPieces wsX1_count := goodIn_r _ [5, 6, 7, 8, 3, 9, 10, 11, 12, 13, 14, 15, 16, 17, 18, 19, 20, 21, 38] (by decide +kernel) (by decide +kernel)
set_option maxRecDepth 20000 in
theorem gX3_printPieces_X1_count_n62 : GoodIn wsX3_printPieces (wsX1_count) := ggX3_printPieces_X1_count
set_option maxRecDepth 20000 in
theorem ggX3_printPieces_X1_countInPiece : GoodIn wsX3_printPieces wsX1_countInPiece := goodIn_r _ [9, 10, 11, 12, 3, 13, 14, 15, 16, 17, 18, 19, 20, 21, 38] (by decide +kernel) (by decide +kernel)
set_option maxRecDepth 20000 in
theorem gX3_printPieces_X1_countInPiece_n166 : GoodIn wsX3_printPieces (wsX1_countInPiece) := ggX3_printPieces_X1_countInPiece
set_option maxRecDepth 20000 in
theorem ggX3_printPieces_X1_detail : GoodIn wsX3_printPieces wsX1_detail := goodIn_r _ [24, 25, 26, 27, 3, 28, 6, 7, 8, 9, 10, 11, 12, 13, 14, 15, 16, 17, 18, 19, 20, 21, 29, 30, 31, 32, 33, 34, 35, 36, 37, 38] (by decide +kernel) (by decide +kernel)
set_option maxRecDepth 20000 in
theorem gX3_printPieces_X1_detail_n106 : GoodIn wsX3_printPieces (wsX1_detail) := ggX3_printPieces_X1_detail
theorem dX3_printPieces_0 : decode cX3_printPieces 0 = .ok (.ldc2_w 155, 3) := by decide +kernel
theorem dX3_printPieces_3 : decode cX3_printPieces 3 = .ok (.lload_n 0, 1) := by decide +kernel
theorem dX3_printPieces_4 : decode cX3_printPieces 4 = .ok (.lmul, 1) := by decide +kernel
theorem dX3_printPieces_5 : decode cX3_printPieces 5 = .ok (.aload_n 2, 1) := by decide +kernel
theorem dX3_printPieces_6 : decode cX3_printPieces 6 = .ok (.invokevirtual 62, 3) := by decide +kernel
theorem dX3_printPieces_9 : decode cX3_printPieces 9 = .ok (.i2l, 1) := by decide +kernel
theorem dX3_printPieces_10 : decode cX3_printPieces 10 = .ok (.ladd, 1) := by decide +kernel
theorem dX3_printPieces_11 : decode cX3_printPieces 11 = .ok (.lstore_n 3, 1) := by decide +kernel
theorem dX3_printPieces_12 : decode cX3_printPieces 12 = .ok (.iconst 0, 1) := by decide +kernel
theorem dX3_printPieces_13 : decode cX3_printPieces 13 = .ok (.istore 5, 2) := by decide +kernel
theorem dX3_printPieces_15 : decode cX3_printPieces 15 = .ok (.iload 5, 2) := by decide +kernel
theorem dX3_printPieces_17 : decode cX3_printPieces 17 = .ok (.bipush 16, 2) := by decide +kernel
theorem dX3_printPieces_19 : decode cX3_printPieces 19 = .ok (.if_icmp .ge 59, 3) := by decide +kernel
theorem dX3_printPieces_22 : decode cX3_printPieces 22 = .ok (.aload_n 2, 1) := by decide +kernel
theorem dX3_printPieces_23 : decode cX3_printPieces 23 = .ok (.iload 5, 2) := by decide +kernel
theorem dX3_printPieces_25 : decode cX3_printPieces 25 = .ok (.invokevirtual 166, 3) := by decide +kernel
theorem dX3_printPieces_28 : decode cX3_printPieces 28 = .ok (.ifCond .le 44, 3) := by decide +kernel
theorem dX3_printPieces_31 : decode cX3_printPieces 31 = .ok (.ldc2_w 155, 3) := by decide +kernel
theorem dX3_printPieces_34 : decode cX3_printPieces 34 = .ok (.lload_n 3, 1) := by decide +kernel
theorem dX3_printPieces_35 : decode cX3_printPieces 35 = .ok (.lmul, 1) := by decide +kernel
theorem dX3_printPieces_36 : decode cX3_printPieces 36 = .ok (.iload 5, 2) := by decide +kernel
theorem dX3_printPieces_38 : decode cX3_printPieces 38 = .ok (.i2l, 1) := by decide +kernel
theorem dX3_printPieces_39 : decode cX3_printPieces 39 = .ok (.ladd, 1) := by decide +kernel
theorem dX3_printPieces_40 : decode cX3_printPieces 40 = .ok (.lstore_n 3, 1) := by decide +kernel
theorem dX3_printPieces_41 : decode cX3_printPieces 41 = .ok (.iconst 0, 1) := by decide +kernel
theorem dX3_printPieces_42 : decode cX3_printPieces 42 = .ok (.istore 6, 2) := by decide +kernel
theorem dX3_printPieces_44 : decode cX3_printPieces 44 = .ok (.iload 6, 2) := by decide +kernel
theorem dX3_printPieces_46 : decode cX3_printPieces 46 = .ok (.iconst 4, 1) := by decide +kernel
theorem dX3_printPieces_47 : decode cX3_printPieces 47 = .ok (.if_icmp .ge 25, 3) := by decide +kernel
theorem dX3_printPieces_50 : decode cX3_printPieces 50 = .ok (.ldc2_w 155, 3) := by decide +kernel
theorem dX3_printPieces_53 : decode cX3_printPieces 53 = .ok (.lload_n 3, 1) := by decide +kernel
theorem dX3_printPieces_54 : decode cX3_printPieces 54 = .ok (.lmul, 1) := by decide +kernel
theorem dX3_printPieces_55 : decode cX3_printPieces 55 = .ok (.aload_n 2, 1) := by decide +kernel
theorem dX3_printPieces_56 : decode cX3_printPieces 56 = .ok (.iload 5, 2) := by decide +kernel
theorem dX3_printPieces_58 : decode cX3_printPieces 58 = .ok (.iload 6, 2) := by decide +kernel
theorem dX3_printPieces_60 : decode cX3_printPieces 60 = .ok (.invokevirtual 106, 3) := by decide +kernel
theorem dX3_printPieces_63 : decode cX3_printPieces 63 = .ok (.i2l, 1) := by decide +kernel
theorem dX3_printPieces_64 : decode cX3_printPieces 64 = .ok (.ladd, 1) := by decide +kernel
theorem dX3_printPieces_65 : decode cX3_printPieces 65 = .ok (.lstore_n 3, 1) := by decide +kernel
theorem dX3_printPieces_66 : decode cX3_printPieces 66 = .ok (.iinc 6 1, 3) := by decide +kernel
theorem dX3_printPieces_69 : decode cX3_printPieces 69 = .ok (.goto (-25), 3) := by decide +kernel
theorem dX3_printPieces_72 : decode cX3_printPieces 72 = .ok (.iinc 5 1, 3) := by decide +kernel
theorem dX3_printPieces_75 : decode cX3_printPieces 75 = .ok (.goto (-60), 3) := by decide +kernel
theorem dX3_printPieces_78 : decode cX3_printPieces 78 = .ok (.lload_n 3, 1) := by decide +kernel
theorem dX3_printPieces_79 : decode cX3_printPieces 79 = .ok (.lreturn, 1) := by decide +kernel
theorem dX3_printNumbers_0 : decode cX3_printNumbers 0 = .ok (.lload_n 0, 1) := by decide +kernel
theorem dX3_printNumbers_1 : decode cX3_printNumbers 1 = .ok (.lstore_n 3, 1) := by decide +kernel
theorem dX3_printNumbers_2 : decode cX3_printNumbers 2 = .ok (.iconst 0, 1) := by decide +kernel
theorem dX3_printNumbers_3 : decode cX3_printNumbers 3 = .ok (.istore 5, 2) := by decide +kernel
theorem dX3_printNumbers_5 : decode cX3_printNumbers 5 = .ok (.iload 5, 2) := by decide +kernel
theorem dX3_printNumbers_7 : decode cX3_printNumbers 7 = .ok (.bipush 64, 2) := by decide +kernel
theorem dX3_printNumbers_9 : decode cX3_printNumbers 9 = .ok (.if_icmp .ge 70, 3) := by decide +kernel
theorem dX3_printNumbers_12 : decode cX3_printNumbers 12 = .ok (.aload_n 2, 1) := by decide +kernel
theorem dX3_printNumbers_13 : decode cX3_printNumbers 13 = .ok (.getfield 169, 3) := by decide +kernel
theorem dX3_printNumbers_16 : decode cX3_printNumbers 16 = .ok (.iload 5, 2) := by decide +kernel
theorem dX3_printNumbers_18 : decode cX3_printNumbers 18 = .ok (.laload, 1) := by decide +kernel
theorem dX3_printNumbers_19 : decode cX3_printNumbers 19 = .ok (.lstore 6, 2) := by decide +kernel
theorem dX3_printNumbers_21 : decode cX3_printNumbers 21 = .ok (.iconst 0, 1) := by decide +kernel
theorem dX3_printNumbers_22 : decode cX3_printNumbers 22 = .ok (.istore 8, 2) := by decide +kernel
theorem dX3_printNumbers_24 : decode cX3_printNumbers 24 = .ok (.iload 8, 2) := by decide +kernel
theorem dX3_printNumbers_26 : decode cX3_printNumbers 26 = .ok (.bipush 64, 2) := by decide +kernel
theorem dX3_printNumbers_28 : decode cX3_printNumbers 28 = .ok (.if_icmp .ge 45, 3) := by decide +kernel
theorem dX3_printNumbers_31 : decode cX3_printNumbers 31 = .ok (.lload 6, 2) := by decide +kernel
theorem dX3_printNumbers_33 : decode cX3_printNumbers 33 = .ok (.lconst 0, 1) := by decide +kernel
theorem dX3_printNumbers_34 : decode cX3_printNumbers 34 = .ok (.lcmp, 1) := by decide +kernel
theorem dX3_printNumbers_35 : decode cX3_printNumbers 35 = .ok (.ifCond .eq 38, 3) := by decide +kernel
theorem dX3_printNumbers_38 : decode cX3_printNumbers 38 = .ok (.lload 6, 2) := by decide +kernel
theorem dX3_printNumbers_40 : decode cX3_printNumbers 40 = .ok (.iload 8, 2) := by decide +kernel
theorem dX3_printNumbers_42 : decode cX3_printNumbers 42 = .ok (.lushr, 1) := by decide +kernel
theorem dX3_printNumbers_43 : decode cX3_printNumbers 43 = .ok (.lconst 1, 1) := by decide +kernel
theorem dX3_printNumbers_44 : decode cX3_printNumbers 44 = .ok (.land, 1) := by decide +kernel
theorem dX3_printNumbers_45 : decode cX3_printNumbers 45 = .ok (.lconst 0, 1) := by decide +kernel
theorem dX3_printNumbers_46 : decode cX3_printNumbers 46 = .ok (.lcmp, 1) := by decide +kernel
theorem dX3_printNumbers_47 : decode cX3_printNumbers 47 = .ok (.ifCond .eq 20, 3) := by decide +kernel
theorem dX3_printNumbers_50 : decode cX3_printNumbers 50 = .ok (.ldc2_w 155, 3) := by decide +kernel
theorem dX3_printNumbers_53 : decode cX3_printNumbers 53 = .ok (.lload_n 3, 1) := by decide +kernel
theorem dX3_printNumbers_54 : decode cX3_printNumbers 54 = .ok (.lmul, 1) := by decide +kernel
theorem dX3_printNumbers_55 : decode cX3_printNumbers 55 = .ok (.bipush 64, 2) := by decide +kernel
theorem dX3_printNumbers_57 : decode cX3_printNumbers 57 = .ok (.iload 5, 2) := by decide +kernel
theorem dX3_printNumbers_59 : decode cX3_printNumbers 59 = .ok (.imul, 1) := by decide +kernel
theorem dX3_printNumbers_60 : decode cX3_printNumbers 60 = .ok (.i2l, 1) := by decide +kernel
theorem dX3_printNumbers_61 : decode cX3_printNumbers 61 = .ok (.ladd, 1) := by decide +kernel
theorem dX3_printNumbers_62 : decode cX3_printNumbers 62 = .ok (.iload 8, 2) := by decide +kernel
theorem dX3_printNumbers_64 : decode cX3_printNumbers 64 = .ok (.i2l, 1) := by decide +kernel
theorem dX3_printNumbers_65 : decode cX3_printNumbers 65 = .ok (.ladd, 1) := by decide +kernel
theorem dX3_printNumbers_66 : decode cX3_printNumbers 66 = .ok (.lstore_n 3, 1) := by decide +kernel
theorem dX3_printNumbers_67 : decode cX3_printNumbers 67 = .ok (.iinc 8 1, 3) := by decide +kernel
theorem dX3_printNumbers_70 : decode cX3_printNumbers 70 = .ok (.goto (-46), 3) := by decide +kernel
