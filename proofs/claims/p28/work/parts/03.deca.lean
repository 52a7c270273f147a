theorem dX0_init_0 : decode cX0_init 0 = .ok (.aload_n 0, 1) := by decide +kernel
theorem dX0_init_1 : decode cX0_init 1 = .ok (.invokespecial 3, 3) := by decide +kernel
theorem dX0_init_4 : decode cX0_init 4 = .ok (.aload_n 0, 1) := by decide +kernel
theorem dX0_init_5 : decode cX0_init 5 = .ok (.sipush 200, 3) := by decide +kernel
theorem dX0_init_8 : decode cX0_init 8 = .ok (.newarray .int, 2) := by decide +kernel
theorem dX0_init_10 : decode cX0_init 10 = .ok (.putfield 9, 3) := by decide +kernel
theorem dX0_init_13 : decode cX0_init 13 = .ok (.aload_n 0, 1) := by decide +kernel
theorem dX0_init_14 : decode cX0_init 14 = .ok (.iconst 0, 1) := by decide +kernel
theorem dX0_init_15 : decode cX0_init 15 = .ok (.putfield 15, 3) := by decide +kernel
theorem dX0_init_18 : decode cX0_init 18 = .ok (.return_, 1) := by decide +kernel
theorem dX0_append_0 : decode cX0_append 0 = .ok (.aload_n 0, 1) := by decide +kernel
theorem dX0_append_1 : decode cX0_append 1 = .ok (.getfield 15, 3) := by decide +kernel
theorem dX0_append_4 : decode cX0_append 4 = .ok (.ifCond .lt 13, 3) := by decide +kernel
theorem dX0_append_7 : decode cX0_append 7 = .ok (.aload_n 0, 1) := by decide +kernel
theorem dX0_append_8 : decode cX0_append 8 = .ok (.getfield 15, 3) := by decide +kernel
theorem dX0_append_11 : decode cX0_append 11 = .ok (.sipush 200, 3) := by decide +kernel
theorem dX0_append_14 : decode cX0_append 14 = .ok (.if_icmp .lt 5, 3) := by decide +kernel
theorem dX0_append_17 : decode cX0_append 17 = .ok (.iconst 0, 1) := by decide +kernel
theorem dX0_append_18 : decode cX0_append 18 = .ok (.ireturn, 1) := by decide +kernel
theorem dX0_append_19 : decode cX0_append 19 = .ok (.aload_n 0, 1) := by decide +kernel
theorem dX0_append_20 : decode cX0_append 20 = .ok (.getfield 9, 3) := by decide +kernel
theorem dX0_append_23 : decode cX0_append 23 = .ok (.aload_n 0, 1) := by decide +kernel
theorem dX0_append_24 : decode cX0_append 24 = .ok (.getfield 15, 3) := by decide +kernel
theorem dX0_append_27 : decode cX0_append 27 = .ok (.iload_n 1, 1) := by decide +kernel
theorem dX0_append_28 : decode cX0_append 28 = .ok (.iastore, 1) := by decide +kernel
theorem dX0_append_29 : decode cX0_append 29 = .ok (.aload_n 0, 1) := by decide +kernel
theorem dX0_append_30 : decode cX0_append 30 = .ok (.dup, 1) := by decide +kernel
theorem dX0_append_31 : decode cX0_append 31 = .ok (.getfield 15, 3) := by decide +kernel
theorem dX0_append_34 : decode cX0_append 34 = .ok (.iconst 1, 1) := by decide +kernel
theorem dX0_append_35 : decode cX0_append 35 = .ok (.iadd, 1) := by decide +kernel
theorem dX0_append_36 : decode cX0_append 36 = .ok (.putfield 15, 3) := by decide +kernel
theorem dX0_append_39 : decode cX0_append 39 = .ok (.iconst 1, 1) := by decide +kernel
theorem dX0_append_40 : decode cX0_append 40 = .ok (.ireturn, 1) := by decide +kernel
set_option maxRecDepth 20000 in
theorem ggX0_parse_X1_becomeEmpty : GoodIn wsX0_parse wsX1_becomeEmpty := goodIn_r _ [6, 7, 8, 9, 10, 11, 75] (by decide +kernel) (by decide +kernel)
set_option maxRecDepth 20000 in
theorem gX0_parse_X1_becomeEmpty_n19 : GoodIn wsX0_parse (wsX1_becomeEmpty) := ggX0_parse_X1_becomeEmpty
set_option maxRecDepth 20000 in
theorem ggX0_parse_X3_isKind : GoodIn wsX0_parse wsX3_isKind := goodIn_r _ [14] (by decide +kernel) (by decide +kernel)
set_option maxRecDepth 20000 in
theorem gX0_parse_X3_isKind_n24 : GoodIn wsX0_parse (wsX3_isKind) := ggX0_parse_X3_isKind
set_option maxRecDepth 20000 in
theorem ggX0_parse_X0_parsePiece : GoodIn wsX0_parse wsX0_parsePiece := goodIn_r _ [19, 1, 2, 20, 21, 22, 18, 23, 24, 4, 25, 26, 7, 27, 13, 28, 29, 30, 31, 32, 33, 34, 35, 36, 37, 38, 39, 40, 41, 42, 43, 44, 45, 46, 47, 48, 49, 50, 73, 74, 75] (by decide +kernel) (by decide +kernel)
set_option maxRecDepth 20000 in
theorem gX0_parse_X0_parsePiece : GoodIn wsX0_parse (wsV RX0 28 RX0 yX0_parsePiece wsX0_parsePiece) := goodIn_app (goodIn_of _ (by decide +kernel)) ggX0_parse_X0_parsePiece
set_option maxRecDepth 20000 in
theorem ggX0_parse_X1_kindOf : GoodIn wsX0_parse wsX1_kindOf := goodIn_r _ [53, 54, 55, 56, 4, 57, 58, 59, 60, 61, 7, 62, 63, 64, 65, 66, 67, 68, 69, 70, 71, 72, 50, 75] (by decide +kernel) (by decide +kernel)
set_option maxRecDepth 20000 in
theorem gX0_parse_X1_kindOf_n32 : GoodIn wsX0_parse (wsX1_kindOf) := ggX0_parse_X1_kindOf
theorem dX0_parse_0 : decode cX0_parse 0 = .ok (.aload_n 1, 1) := by decide +kernel
theorem dX0_parse_1 : decode cX0_parse 1 = .ok (.invokevirtual 19, 3) := by decide +kernel
theorem dX0_parse_4 : decode cX0_parse 4 = .ok (.iconst 0, 1) := by decide +kernel
theorem dX0_parse_5 : decode cX0_parse 5 = .ok (.istore_n 2, 1) := by decide +kernel
theorem dX0_parse_6 : decode cX0_parse 6 = .ok (.iconst (-1), 1) := by decide +kernel
theorem dX0_parse_7 : decode cX0_parse 7 = .ok (.istore_n 3, 1) := by decide +kernel
theorem dX0_parse_8 : decode cX0_parse 8 = .ok (.iconst 0, 1) := by decide +kernel
theorem dX0_parse_9 : decode cX0_parse 9 = .ok (.istore 4, 2) := by decide +kernel
theorem dX0_parse_11 : decode cX0_parse 11 = .ok (.iload 4, 2) := by decide +kernel
theorem dX0_parse_13 : decode cX0_parse 13 = .ok (.bipush 16, 2) := by decide +kernel
theorem dX0_parse_15 : decode cX0_parse 15 = .ok (.if_icmp .gt 103, 3) := by decide +kernel
theorem dX0_parse_18 : decode cX0_parse 18 = .ok (.iload_n 2, 1) := by decide +kernel
theorem dX0_parse_19 : decode cX0_parse 19 = .ok (.aload_n 0, 1) := by decide +kernel
theorem dX0_parse_20 : decode cX0_parse 20 = .ok (.getfield 15, 3) := by decide +kernel
theorem dX0_parse_23 : decode cX0_parse 23 = .ok (.if_icmp .ge 95, 3) := by decide +kernel
theorem dX0_parse_26 : decode cX0_parse 26 = .ok (.aload_n 0, 1) := by decide +kernel
theorem dX0_parse_27 : decode cX0_parse 27 = .ok (.getfield 9, 3) := by decide +kernel
theorem dX0_parse_30 : decode cX0_parse 30 = .ok (.iload_n 2, 1) := by decide +kernel
theorem dX0_parse_31 : decode cX0_parse 31 = .ok (.iaload, 1) := by decide +kernel
theorem dX0_parse_32 : decode cX0_parse 32 = .ok (.iconst 4, 1) := by decide +kernel
theorem dX0_parse_33 : decode cX0_parse 33 = .ok (.idiv, 1) := by decide +kernel
theorem dX0_parse_34 : decode cX0_parse 34 = .ok (.istore 5, 2) := by decide +kernel
theorem dX0_parse_36 : decode cX0_parse 36 = .ok (.aload_n 0, 1) := by decide +kernel
theorem dX0_parse_37 : decode cX0_parse 37 = .ok (.getfield 9, 3) := by decide +kernel
theorem dX0_parse_40 : decode cX0_parse 40 = .ok (.iload_n 2, 1) := by decide +kernel
theorem dX0_parse_41 : decode cX0_parse 41 = .ok (.iaload, 1) := by decide +kernel
theorem dX0_parse_42 : decode cX0_parse 42 = .ok (.iconst 4, 1) := by decide +kernel
theorem dX0_parse_43 : decode cX0_parse 43 = .ok (.irem, 1) := by decide +kernel
theorem dX0_parse_44 : decode cX0_parse 44 = .ok (.istore 6, 2) := by decide +kernel
theorem dX0_parse_46 : decode cX0_parse 46 = .ok (.iload 5, 2) := by decide +kernel
theorem dX0_parse_48 : decode cX0_parse 48 = .ok (.bipush 16, 2) := by decide +kernel
theorem dX0_parse_50 : decode cX0_parse 50 = .ok (.if_icmp .ge 17, 3) := by decide +kernel
theorem dX0_parse_53 : decode cX0_parse 53 = .ok (.iload 6, 2) := by decide +kernel
theorem dX0_parse_55 : decode cX0_parse 55 = .ok (.invokestatic 24, 3) := by decide +kernel
theorem dX0_parse_58 : decode cX0_parse 58 = .ok (.ifCond .eq 9, 3) := by decide +kernel
theorem dX0_parse_61 : decode cX0_parse 61 = .ok (.iload 5, 2) := by decide +kernel
theorem dX0_parse_63 : decode cX0_parse 63 = .ok (.iload_n 3, 1) := by decide +kernel
theorem dX0_parse_64 : decode cX0_parse 64 = .ok (.if_icmp .gt 5, 3) := by decide +kernel
theorem dX0_parse_67 : decode cX0_parse 67 = .ok (.iload_n 2, 1) := by decide +kernel
theorem dX0_parse_68 : decode cX0_parse 68 = .ok (.ireturn, 1) := by decide +kernel
theorem dX0_parse_69 : decode cX0_parse 69 = .ok (.aload_n 0, 1) := by decide +kernel
theorem dX0_parse_70 : decode cX0_parse 70 = .ok (.iload 5, 2) := by decide +kernel
theorem dX0_parse_72 : decode cX0_parse 72 = .ok (.iload 6, 2) := by decide +kernel
theorem dX0_parse_74 : decode cX0_parse 74 = .ok (.iload_n 2, 1) := by decide +kernel
theorem dX0_parse_75 : decode cX0_parse 75 = .ok (.iconst 1, 1) := by decide +kernel
theorem dX0_parse_76 : decode cX0_parse 76 = .ok (.iadd, 1) := by decide +kernel
theorem dX0_parse_77 : decode cX0_parse 77 = .ok (.aload_n 1, 1) := by decide +kernel
theorem dX0_parse_78 : decode cX0_parse 78 = .ok (.invokevirtual 28, 3) := by decide +kernel
theorem dX0_parse_81 : decode cX0_parse 81 = .ok (.istore 7, 2) := by decide +kernel
theorem dX0_parse_83 : decode cX0_parse 83 = .ok (.iload 7, 2) := by decide +kernel
theorem dX0_parse_85 : decode cX0_parse 85 = .ok (.ifCond .ge 8, 3) := by decide +kernel
theorem dX0_parse_88 : decode cX0_parse 88 = .ok (.iconst (-1), 1) := by decide +kernel
theorem dX0_parse_89 : decode cX0_parse 89 = .ok (.iload 7, 2) := by decide +kernel
theorem dX0_parse_91 : decode cX0_parse 91 = .ok (.isub, 1) := by decide +kernel
theorem dX0_parse_92 : decode cX0_parse 92 = .ok (.ireturn, 1) := by decide +kernel
theorem dX0_parse_93 : decode cX0_parse 93 = .ok (.aload_n 1, 1) := by decide +kernel
theorem dX0_parse_94 : decode cX0_parse 94 = .ok (.iload 5, 2) := by decide +kernel
theorem dX0_parse_96 : decode cX0_parse 96 = .ok (.invokevirtual 32, 3) := by decide +kernel
theorem dX0_parse_99 : decode cX0_parse 99 = .ok (.iload 6, 2) := by decide +kernel
theorem dX0_parse_101 : decode cX0_parse 101 = .ok (.if_icmp .eq 5, 3) := by decide +kernel
theorem dX0_parse_104 : decode cX0_parse 104 = .ok (.iload_n 2, 1) := by decide +kernel
theorem dX0_parse_105 : decode cX0_parse 105 = .ok (.ireturn, 1) := by decide +kernel
theorem dX0_parse_106 : decode cX0_parse 106 = .ok (.iload 5, 2) := by decide +kernel
theorem dX0_parse_108 : decode cX0_parse 108 = .ok (.istore_n 3, 1) := by decide +kernel
theorem dX0_parse_109 : decode cX0_parse 109 = .ok (.iload 7, 2) := by decide +kernel
theorem dX0_parse_111 : decode cX0_parse 111 = .ok (.istore_n 2, 1) := by decide +kernel
theorem dX0_parse_112 : decode cX0_parse 112 = .ok (.iinc 4 1, 3) := by decide +kernel
theorem dX0_parse_115 : decode cX0_parse 115 = .ok (.goto (-104), 3) := by decide +kernel
theorem dX0_parse_118 : decode cX0_parse 118 = .ok (.bipush (-9), 2) := by decide +kernel
theorem dX0_parse_120 : decode cX0_parse 120 = .ok (.ireturn, 1) := by decide +kernel
set_option maxRecDepth 20000 in
theorem ggX0_parsePiece_X0_parseBitmap : GoodIn wsX0_parsePiece wsX0_parseBitmap := goodIn_r _ [7, 1, 2, 8, 9, 10, 11, 12, 13, 14, 15, 38, 39, 40] (by decide +kernel) (by decide +kernel)
set_option maxRecDepth 20000 in
theorem gX0_parsePiece_X0_parseBitmap : GoodIn wsX0_parsePiece (wsV RX0 36 RX0 yX0_parseBitmap wsX0_parseBitmap) := goodIn_app (goodIn_of _ (by decide +kernel)) ggX0_parsePiece_X0_parseBitmap
set_option maxRecDepth 20000 in
theorem ggX0_parsePiece_X0_parseArray : GoodIn wsX0_parsePiece wsX0_parseArray := goodIn_r _ [19, 1, 2, 8, 9, 10, 11, 12, 13, 14, 15, 38, 39, 40] (by decide +kernel) (by decide +kernel)
set_option maxRecDepth 20000 in
theorem gX0_parsePiece_X0_parseArray : GoodIn wsX0_parsePiece (wsV RX0 40 RX0 yX0_parseArray wsX0_parseArray) := goodIn_app (goodIn_of _ (by decide +kernel)) ggX0_parsePiece_X0_parseArray
set_option maxRecDepth 20000 in
theorem ggX0_parsePiece_X0_parseRuns : GoodIn wsX0_parsePiece wsX0_parseRuns := goodIn_r _ [23, 1, 2, 24, 9, 25, 26, 12, 27, 28, 29, 30, 31, 32, 33, 34, 35, 36, 37, 38, 39, 40] (by decide +kernel) (by decide +kernel)
set_option maxRecDepth 20000 in
theorem gX0_parsePiece_X0_parseRuns : GoodIn wsX0_parsePiece (wsV RX0 43 RX0 yX0_parseRuns wsX0_parseRuns) := goodIn_app (goodIn_of _ (by decide +kernel)) ggX0_parsePiece_X0_parseRuns
theorem dX0_parsePiece_0 : decode cX0_parsePiece 0 = .ok (.iload_n 2, 1) := by decide +kernel
theorem dX0_parsePiece_1 : decode cX0_parsePiece 1 = .ok (.iconst 2, 1) := by decide +kernel
theorem dX0_parsePiece_2 : decode cX0_parsePiece 2 = .ok (.if_icmp .ne 12, 3) := by decide +kernel
theorem dX0_parsePiece_5 : decode cX0_parsePiece 5 = .ok (.aload_n 0, 1) := by decide +kernel
theorem dX0_parsePiece_6 : decode cX0_parsePiece 6 = .ok (.iload_n 1, 1) := by decide +kernel
theorem dX0_parsePiece_7 : decode cX0_parsePiece 7 = .ok (.iload_n 3, 1) := by decide +kernel
theorem dX0_parsePiece_8 : decode cX0_parsePiece 8 = .ok (.aload 4, 2) := by decide +kernel
theorem dX0_parsePiece_10 : decode cX0_parsePiece 10 = .ok (.invokevirtual 36, 3) := by decide +kernel
theorem dX0_parsePiece_13 : decode cX0_parsePiece 13 = .ok (.ireturn, 1) := by decide +kernel
theorem dX0_parsePiece_14 : decode cX0_parsePiece 14 = .ok (.iload_n 3, 1) := by decide +kernel
theorem dX0_parsePiece_15 : decode cX0_parsePiece 15 = .ok (.aload_n 0, 1) := by decide +kernel
theorem dX0_parsePiece_16 : decode cX0_parsePiece 16 = .ok (.getfield 15, 3) := by decide +kernel
theorem dX0_parsePiece_19 : decode cX0_parsePiece 19 = .ok (.if_icmp .lt 10, 3) := by decide +kernel
theorem dX0_parsePiece_22 : decode cX0_parsePiece 22 = .ok (.iconst (-1), 1) := by decide +kernel
theorem dX0_parsePiece_23 : decode cX0_parsePiece 23 = .ok (.aload_n 0, 1) := by decide +kernel
theorem dX0_parsePiece_24 : decode cX0_parsePiece 24 = .ok (.getfield 15, 3) := by decide +kernel
theorem dX0_parsePiece_27 : decode cX0_parsePiece 27 = .ok (.isub, 1) := by decide +kernel
theorem dX0_parsePiece_28 : decode cX0_parsePiece 28 = .ok (.ireturn, 1) := by decide +kernel
theorem dX0_parsePiece_29 : decode cX0_parsePiece 29 = .ok (.aload_n 0, 1) := by decide +kernel
theorem dX0_parsePiece_30 : decode cX0_parsePiece 30 = .ok (.getfield 9, 3) := by decide +kernel
theorem dX0_parsePiece_33 : decode cX0_parsePiece 33 = .ok (.iload_n 3, 1) := by decide +kernel
theorem dX0_parsePiece_34 : decode cX0_parsePiece 34 = .ok (.iaload, 1) := by decide +kernel
theorem dX0_parsePiece_35 : decode cX0_parsePiece 35 = .ok (.iconst 1, 1) := by decide +kernel
theorem dX0_parsePiece_36 : decode cX0_parsePiece 36 = .ok (.if_icmp .ge 7, 3) := by decide +kernel
theorem dX0_parsePiece_39 : decode cX0_parsePiece 39 = .ok (.iconst (-1), 1) := by decide +kernel
theorem dX0_parsePiece_40 : decode cX0_parsePiece 40 = .ok (.iload_n 3, 1) := by decide +kernel
theorem dX0_parsePiece_41 : decode cX0_parsePiece 41 = .ok (.isub, 1) := by decide +kernel
theorem dX0_parsePiece_42 : decode cX0_parsePiece 42 = .ok (.ireturn, 1) := by decide +kernel
theorem dX0_parsePiece_43 : decode cX0_parsePiece 43 = .ok (.iload_n 2, 1) := by decide +kernel
theorem dX0_parsePiece_44 : decode cX0_parsePiece 44 = .ok (.ifCond .ne 22, 3) := by decide +kernel
theorem dX0_parsePiece_47 : decode cX0_parsePiece 47 = .ok (.aload_n 0, 1) := by decide +kernel
theorem dX0_parsePiece_48 : decode cX0_parsePiece 48 = .ok (.iload_n 1, 1) := by decide +kernel
theorem dX0_parsePiece_49 : decode cX0_parsePiece 49 = .ok (.aload_n 0, 1) := by decide +kernel
theorem dX0_parsePiece_50 : decode cX0_parsePiece 50 = .ok (.getfield 9, 3) := by decide +kernel
theorem dX0_parsePiece_53 : decode cX0_parsePiece 53 = .ok (.iload_n 3, 1) := by decide +kernel
theorem dX0_parsePiece_54 : decode cX0_parsePiece 54 = .ok (.iaload, 1) := by decide +kernel
theorem dX0_parsePiece_55 : decode cX0_parsePiece 55 = .ok (.iload_n 3, 1) := by decide +kernel
theorem dX0_parsePiece_56 : decode cX0_parsePiece 56 = .ok (.iconst 1, 1) := by decide +kernel
theorem dX0_parsePiece_57 : decode cX0_parsePiece 57 = .ok (.iadd, 1) := by decide +kernel
theorem dX0_parsePiece_58 : decode cX0_parsePiece 58 = .ok (.aload 4, 2) := by decide +kernel
theorem dX0_parsePiece_60 : decode cX0_parsePiece 60 = .ok (.invokevirtual 40, 3) := by decide +kernel
theorem dX0_parsePiece_63 : decode cX0_parsePiece 63 = .ok (.goto 19, 3) := by decide +kernel
theorem dX0_parsePiece_66 : decode cX0_parsePiece 66 = .ok (.aload_n 0, 1) := by decide +kernel
theorem dX0_parsePiece_67 : decode cX0_parsePiece 67 = .ok (.iload_n 1, 1) := by decide +kernel
theorem dX0_parsePiece_68 : decode cX0_parsePiece 68 = .ok (.aload_n 0, 1) := by decide +kernel
theorem dX0_parsePiece_69 : decode cX0_parsePiece 69 = .ok (.getfield 9, 3) := by decide +kernel
theorem dX0_parsePiece_72 : decode cX0_parsePiece 72 = .ok (.iload_n 3, 1) := by decide +kernel
theorem dX0_parsePiece_73 : decode cX0_parsePiece 73 = .ok (.iaload, 1) := by decide +kernel
theorem dX0_parsePiece_74 : decode cX0_parsePiece 74 = .ok (.iload_n 3, 1) := by decide +kernel
theorem dX0_parsePiece_75 : decode cX0_parsePiece 75 = .ok (.iconst 1, 1) := by decide +kernel
theorem dX0_parsePiece_76 : decode cX0_parsePiece 76 = .ok (.iadd, 1) := by decide +kernel
theorem dX0_parsePiece_77 : decode cX0_parsePiece 77 = .ok (.aload 4, 2) := by decide +kernel
theorem dX0_parsePiece_79 : decode cX0_parsePiece 79 = .ok (.invokevirtual 43, 3) := by decide +kernel
theorem dX0_parsePiece_82 : decode cX0_parsePiece 82 = .ok (.ireturn, 1) := by decide +kernel
set_option maxRecDepth 20000 in
theorem ggX0_parseArray_X1_include : GoodIn wsX0_parseArray wsX1_include := goodIn_r _ [6, 7, 8, 9, 10, 13] (by decide +kernel) (by decide +kernel)
set_option maxRecDepth 20000 in
theorem gX0_parseArray_X1_include_n46 : GoodIn wsX0_parseArray (wsX1_include) := ggX0_parseArray_X1_include
theorem dX0_parseArray_0 : decode cX0_parseArray 0 = .ok (.iconst 0, 1) := by decide +kernel
theorem dX0_parseArray_1 : decode cX0_parseArray 1 = .ok (.istore 5, 2) := by decide +kernel
theorem dX0_parseArray_3 : decode cX0_parseArray 3 = .ok (.iload_n 3, 1) := by decide +kernel
theorem dX0_parseArray_4 : decode cX0_parseArray 4 = .ok (.istore 6, 2) := by decide +kernel
theorem dX0_parseArray_6 : decode cX0_parseArray 6 = .ok (.iload 6, 2) := by decide +kernel
theorem dX0_parseArray_8 : decode cX0_parseArray 8 = .ok (.iload_n 3, 1) := by decide +kernel
theorem dX0_parseArray_9 : decode cX0_parseArray 9 = .ok (.iload_n 2, 1) := by decide +kernel
theorem dX0_parseArray_10 : decode cX0_parseArray 10 = .ok (.iadd, 1) := by decide +kernel
theorem dX0_parseArray_11 : decode cX0_parseArray 11 = .ok (.if_icmp .ge 71, 3) := by decide +kernel
theorem dX0_parseArray_14 : decode cX0_parseArray 14 = .ok (.iload 6, 2) := by decide +kernel
theorem dX0_parseArray_16 : decode cX0_parseArray 16 = .ok (.aload_n 0, 1) := by decide +kernel
theorem dX0_parseArray_17 : decode cX0_parseArray 17 = .ok (.getfield 15, 3) := by decide +kernel
theorem dX0_parseArray_20 : decode cX0_parseArray 20 = .ok (.if_icmp .lt 10, 3) := by decide +kernel
theorem dX0_parseArray_23 : decode cX0_parseArray 23 = .ok (.iconst (-1), 1) := by decide +kernel
theorem dX0_parseArray_24 : decode cX0_parseArray 24 = .ok (.aload_n 0, 1) := by decide +kernel
theorem dX0_parseArray_25 : decode cX0_parseArray 25 = .ok (.getfield 15, 3) := by decide +kernel
theorem dX0_parseArray_28 : decode cX0_parseArray 28 = .ok (.isub, 1) := by decide +kernel
theorem dX0_parseArray_29 : decode cX0_parseArray 29 = .ok (.ireturn, 1) := by decide +kernel
theorem dX0_parseArray_30 : decode cX0_parseArray 30 = .ok (.aload_n 0, 1) := by decide +kernel
theorem dX0_parseArray_31 : decode cX0_parseArray 31 = .ok (.getfield 9, 3) := by decide +kernel
theorem dX0_parseArray_34 : decode cX0_parseArray 34 = .ok (.iload 6, 2) := by decide +kernel
theorem dX0_parseArray_36 : decode cX0_parseArray 36 = .ok (.iaload, 1) := by decide +kernel
theorem dX0_parseArray_37 : decode cX0_parseArray 37 = .ok (.iload 5, 2) := by decide +kernel
theorem dX0_parseArray_39 : decode cX0_parseArray 39 = .ok (.if_icmp .ge 8, 3) := by decide +kernel
theorem dX0_parseArray_42 : decode cX0_parseArray 42 = .ok (.iconst (-1), 1) := by decide +kernel
theorem dX0_parseArray_43 : decode cX0_parseArray 43 = .ok (.iload 6, 2) := by decide +kernel
theorem dX0_parseArray_45 : decode cX0_parseArray 45 = .ok (.isub, 1) := by decide +kernel
theorem dX0_parseArray_46 : decode cX0_parseArray 46 = .ok (.ireturn, 1) := by decide +kernel
theorem dX0_parseArray_47 : decode cX0_parseArray 47 = .ok (.aload 4, 2) := by decide +kernel
theorem dX0_parseArray_49 : decode cX0_parseArray 49 = .ok (.sipush 256, 3) := by decide +kernel
theorem dX0_parseArray_52 : decode cX0_parseArray 52 = .ok (.iload_n 1, 1) := by decide +kernel
theorem dX0_parseArray_53 : decode cX0_parseArray 53 = .ok (.imul, 1) := by decide +kernel
theorem dX0_parseArray_54 : decode cX0_parseArray 54 = .ok (.aload_n 0, 1) := by decide +kernel
theorem dX0_parseArray_55 : decode cX0_parseArray 55 = .ok (.getfield 9, 3) := by decide +kernel
theorem dX0_parseArray_58 : decode cX0_parseArray 58 = .ok (.iload 6, 2) := by decide +kernel
theorem dX0_parseArray_60 : decode cX0_parseArray 60 = .ok (.iaload, 1) := by decide +kernel
theorem dX0_parseArray_61 : decode cX0_parseArray 61 = .ok (.iadd, 1) := by decide +kernel
theorem dX0_parseArray_62 : decode cX0_parseArray 62 = .ok (.invokevirtual 46, 3) := by decide +kernel
theorem dX0_parseArray_65 : decode cX0_parseArray 65 = .ok (.aload_n 0, 1) := by decide +kernel
theorem dX0_parseArray_66 : decode cX0_parseArray 66 = .ok (.getfield 9, 3) := by decide +kernel
theorem dX0_parseArray_69 : decode cX0_parseArray 69 = .ok (.iload 6, 2) := by decide +kernel
theorem dX0_parseArray_71 : decode cX0_parseArray 71 = .ok (.iaload, 1) := by decide +kernel
theorem dX0_parseArray_72 : decode cX0_parseArray 72 = .ok (.iconst 1, 1) := by decide +kernel
theorem dX0_parseArray_73 : decode cX0_parseArray 73 = .ok (.iadd, 1) := by decide +kernel
theorem dX0_parseArray_74 : decode cX0_parseArray 74 = .ok (.istore 5, 2) := by decide +kernel
theorem dX0_parseArray_76 : decode cX0_parseArray 76 = .ok (.iinc 6 1, 3) := by decide +kernel
theorem dX0_parseArray_79 : decode cX0_parseArray 79 = .ok (.goto (-73), 3) := by decide +kernel
theorem dX0_parseArray_82 : decode cX0_parseArray 82 = .ok (.iload_n 3, 1) := by decide +kernel
theorem dX0_parseArray_83 : decode cX0_parseArray 83 = .ok (.iload_n 2, 1) := by decide +kernel
theorem dX0_parseArray_84 : decode cX0_parseArray 84 = .ok (.iadd, 1) := by decide +kernel
theorem dX0_parseArray_85 : decode cX0_parseArray 85 = .ok (.ireturn, 1) := by decide +kernel
set_option maxRecDepth 20000 in
theorem ggX0_parseRuns_X1_includeAll : GoodIn wsX0_parseRuns wsX1_includeAll := goodIn_r _ [6, 7, 8, 9, 4, 10, 11, 12, 13, 14, 15, 16, 17, 18, 21] (by decide +kernel) (by decide +kernel)
set_option maxRecDepth 20000 in
theorem gX0_parseRuns_X1_includeAll_n50 : GoodIn wsX0_parseRuns (wsX1_includeAll) := ggX0_parseRuns_X1_includeAll
theorem dX0_parseRuns_0 : decode cX0_parseRuns 0 = .ok (.iconst 0, 1) := by decide +kernel
theorem dX0_parseRuns_1 : decode cX0_parseRuns 1 = .ok (.istore 5, 2) := by decide +kernel
theorem dX0_parseRuns_3 : decode cX0_parseRuns 3 = .ok (.iload_n 3, 1) := by decide +kernel
theorem dX0_parseRuns_4 : decode cX0_parseRuns 4 = .ok (.istore 6, 2) := by decide +kernel
theorem dX0_parseRuns_6 : decode cX0_parseRuns 6 = .ok (.iload 6, 2) := by decide +kernel
theorem dX0_parseRuns_8 : decode cX0_parseRuns 8 = .ok (.iload_n 3, 1) := by decide +kernel
theorem dX0_parseRuns_9 : decode cX0_parseRuns 9 = .ok (.iconst 2, 1) := by decide +kernel
theorem dX0_parseRuns_10 : decode cX0_parseRuns 10 = .ok (.iload_n 2, 1) := by decide +kernel
theorem dX0_parseRuns_11 : decode cX0_parseRuns 11 = .ok (.imul, 1) := by decide +kernel
theorem dX0_parseRuns_12 : decode cX0_parseRuns 12 = .ok (.iadd, 1) := by decide +kernel
theorem dX0_parseRuns_13 : decode cX0_parseRuns 13 = .ok (.if_icmp .ge 123, 3) := by decide +kernel
theorem dX0_parseRuns_16 : decode cX0_parseRuns 16 = .ok (.iload 6, 2) := by decide +kernel
theorem dX0_parseRuns_18 : decode cX0_parseRuns 18 = .ok (.aload_n 0, 1) := by decide +kernel
theorem dX0_parseRuns_19 : decode cX0_parseRuns 19 = .ok (.getfield 15, 3) := by decide +kernel
theorem dX0_parseRuns_22 : decode cX0_parseRuns 22 = .ok (.if_icmp .lt 10, 3) := by decide +kernel
theorem dX0_parseRuns_25 : decode cX0_parseRuns 25 = .ok (.iconst (-1), 1) := by decide +kernel
theorem dX0_parseRuns_26 : decode cX0_parseRuns 26 = .ok (.aload_n 0, 1) := by decide +kernel
theorem dX0_parseRuns_27 : decode cX0_parseRuns 27 = .ok (.getfield 15, 3) := by decide +kernel
theorem dX0_parseRuns_30 : decode cX0_parseRuns 30 = .ok (.isub, 1) := by decide +kernel
theorem dX0_parseRuns_31 : decode cX0_parseRuns 31 = .ok (.ireturn, 1) := by decide +kernel
theorem dX0_parseRuns_32 : decode cX0_parseRuns 32 = .ok (.aload_n 0, 1) := by decide +kernel
theorem dX0_parseRuns_33 : decode cX0_parseRuns 33 = .ok (.getfield 9, 3) := by decide +kernel
theorem dX0_parseRuns_36 : decode cX0_parseRuns 36 = .ok (.iload 6, 2) := by decide +kernel
theorem dX0_parseRuns_38 : decode cX0_parseRuns 38 = .ok (.iaload, 1) := by decide +kernel
theorem dX0_parseRuns_39 : decode cX0_parseRuns 39 = .ok (.iload 5, 2) := by decide +kernel
theorem dX0_parseRuns_41 : decode cX0_parseRuns 41 = .ok (.if_icmp .ge 8, 3) := by decide +kernel
theorem dX0_parseRuns_44 : decode cX0_parseRuns 44 = .ok (.iconst (-1), 1) := by decide +kernel
theorem dX0_parseRuns_45 : decode cX0_parseRuns 45 = .ok (.iload 6, 2) := by decide +kernel
theorem dX0_parseRuns_47 : decode cX0_parseRuns 47 = .ok (.isub, 1) := by decide +kernel
theorem dX0_parseRuns_48 : decode cX0_parseRuns 48 = .ok (.ireturn, 1) := by decide +kernel
theorem dX0_parseRuns_49 : decode cX0_parseRuns 49 = .ok (.iload 6, 2) := by decide +kernel
theorem dX0_parseRuns_51 : decode cX0_parseRuns 51 = .ok (.iload_n 3, 1) := by decide +kernel
theorem dX0_parseRuns_52 : decode cX0_parseRuns 52 = .ok (.isub, 1) := by decide +kernel
theorem dX0_parseRuns_53 : decode cX0_parseRuns 53 = .ok (.iconst 2, 1) := by decide +kernel
theorem dX0_parseRuns_54 : decode cX0_parseRuns 54 = .ok (.irem, 1) := by decide +kernel
theorem dX0_parseRuns_55 : decode cX0_parseRuns 55 = .ok (.iconst 1, 1) := by decide +kernel
theorem dX0_parseRuns_56 : decode cX0_parseRuns 56 = .ok (.if_icmp .ne 7, 3) := by decide +kernel
theorem dX0_parseRuns_59 : decode cX0_parseRuns 59 = .ok (.iconst 1, 1) := by decide +kernel
theorem dX0_parseRuns_60 : decode cX0_parseRuns 60 = .ok (.goto 4, 3) := by decide +kernel
theorem dX0_parseRuns_63 : decode cX0_parseRuns 63 = .ok (.iconst 0, 1) := by decide +kernel
theorem dX0_parseRuns_64 : decode cX0_parseRuns 64 = .ok (.istore 7, 2) := by decide +kernel
theorem dX0_parseRuns_66 : decode cX0_parseRuns 66 = .ok (.iload 7, 2) := by decide +kernel
theorem dX0_parseRuns_68 : decode cX0_parseRuns 68 = .ok (.ifCond .eq 36, 3) := by decide +kernel
theorem dX0_parseRuns_71 : decode cX0_parseRuns 71 = .ok (.aload 4, 2) := by decide +kernel
theorem dX0_parseRuns_73 : decode cX0_parseRuns 73 = .ok (.sipush 256, 3) := by decide +kernel
theorem dX0_parseRuns_76 : decode cX0_parseRuns 76 = .ok (.iload_n 1, 1) := by decide +kernel
theorem dX0_parseRuns_77 : decode cX0_parseRuns 77 = .ok (.imul, 1) := by decide +kernel
theorem dX0_parseRuns_78 : decode cX0_parseRuns 78 = .ok (.aload_n 0, 1) := by decide +kernel
theorem dX0_parseRuns_79 : decode cX0_parseRuns 79 = .ok (.getfield 9, 3) := by decide +kernel
theorem dX0_parseRuns_82 : decode cX0_parseRuns 82 = .ok (.iload 6, 2) := by decide +kernel
theorem dX0_parseRuns_84 : decode cX0_parseRuns 84 = .ok (.iconst 1, 1) := by decide +kernel
theorem dX0_parseRuns_85 : decode cX0_parseRuns 85 = .ok (.isub, 1) := by decide +kernel
theorem dX0_parseRuns_86 : decode cX0_parseRuns 86 = .ok (.iaload, 1) := by decide +kernel
theorem dX0_parseRuns_87 : decode cX0_parseRuns 87 = .ok (.iadd, 1) := by decide +kernel
theorem dX0_parseRuns_88 : decode cX0_parseRuns 88 = .ok (.sipush 256, 3) := by decide +kernel
theorem dX0_parseRuns_91 : decode cX0_parseRuns 91 = .ok (.iload_n 1, 1) := by decide +kernel
theorem dX0_parseRuns_92 : decode cX0_parseRuns 92 = .ok (.imul, 1) := by decide +kernel
theorem dX0_parseRuns_93 : decode cX0_parseRuns 93 = .ok (.aload_n 0, 1) := by decide +kernel
theorem dX0_parseRuns_94 : decode cX0_parseRuns 94 = .ok (.getfield 9, 3) := by decide +kernel
theorem dX0_parseRuns_97 : decode cX0_parseRuns 97 = .ok (.iload 6, 2) := by decide +kernel
theorem dX0_parseRuns_99 : decode cX0_parseRuns 99 = .ok (.iaload, 1) := by decide +kernel
theorem dX0_parseRuns_100 : decode cX0_parseRuns 100 = .ok (.iadd, 1) := by decide +kernel
theorem dX0_parseRuns_101 : decode cX0_parseRuns 101 = .ok (.invokevirtual 50, 3) := by decide +kernel
theorem dX0_parseRuns_104 : decode cX0_parseRuns 104 = .ok (.iload 7, 2) := by decide +kernel
theorem dX0_parseRuns_106 : decode cX0_parseRuns 106 = .ok (.ifCond .eq 15, 3) := by decide +kernel
theorem dX0_parseRuns_109 : decode cX0_parseRuns 109 = .ok (.aload_n 0, 1) := by decide +kernel
theorem dX0_parseRuns_110 : decode cX0_parseRuns 110 = .ok (.getfield 9, 3) := by decide +kernel
theorem dX0_parseRuns_113 : decode cX0_parseRuns 113 = .ok (.iload 6, 2) := by decide +kernel
theorem dX0_parseRuns_115 : decode cX0_parseRuns 115 = .ok (.iaload, 1) := by decide +kernel
theorem dX0_parseRuns_116 : decode cX0_parseRuns 116 = .ok (.iconst 2, 1) := by decide +kernel
theorem dX0_parseRuns_117 : decode cX0_parseRuns 117 = .ok (.iadd, 1) := by decide +kernel
theorem dX0_parseRuns_118 : decode cX0_parseRuns 118 = .ok (.goto 10, 3) := by decide +kernel
theorem dX0_parseRuns_121 : decode cX0_parseRuns 121 = .ok (.aload_n 0, 1) := by decide +kernel
theorem dX0_parseRuns_122 : decode cX0_parseRuns 122 = .ok (.getfield 9, 3) := by decide +kernel
theorem dX0_parseRuns_125 : decode cX0_parseRuns 125 = .ok (.iload 6, 2) := by decide +kernel
theorem dX0_parseRuns_127 : decode cX0_parseRuns 127 = .ok (.iaload, 1) := by decide +kernel
theorem dX0_parseRuns_128 : decode cX0_parseRuns 128 = .ok (.istore 5, 2) := by decide +kernel
theorem dX0_parseRuns_130 : decode cX0_parseRuns 130 = .ok (.iinc 6 1, 3) := by decide +kernel
theorem dX0_parseRuns_133 : decode cX0_parseRuns 133 = .ok (.goto (-127), 3) := by decide +kernel
theorem dX0_parseRuns_136 : decode cX0_parseRuns 136 = .ok (.iload_n 3, 1) := by decide +kernel
theorem dX0_parseRuns_137 : decode cX0_parseRuns 137 = .ok (.iconst 2, 1) := by decide +kernel
theorem dX0_parseRuns_138 : decode cX0_parseRuns 138 = .ok (.iload_n 2, 1) := by decide +kernel
theorem dX0_parseRuns_139 : decode cX0_parseRuns 139 = .ok (.imul, 1) := by decide +kernel
theorem dX0_parseRuns_140 : decode cX0_parseRuns 140 = .ok (.iadd, 1) := by decide +kernel
theorem dX0_parseRuns_141 : decode cX0_parseRuns 141 = .ok (.ireturn, 1) := by decide +kernel
set_option maxRecDepth 20000 in
theorem ggX0_parseBitmap_X1_include : GoodIn wsX0_parseBitmap wsX1_include := goodIn_r _ [6, 7, 8, 9, 10, 13] (by decide +kernel) (by decide +kernel)
set_option maxRecDepth 20000 in
theorem gX0_parseBitmap_X1_include_n46 : GoodIn wsX0_parseBitmap (wsX1_include) := ggX0_parseBitmap_X1_include
theorem dX0_parseBitmap_0 : decode cX0_parseBitmap 0 = .ok (.iconst 0, 1) := by decide +kernel
theorem dX0_parseBitmap_1 : decode cX0_parseBitmap 1 = .ok (.istore 4, 2) := by decide +kernel
theorem dX0_parseBitmap_3 : decode cX0_parseBitmap 3 = .ok (.iload 4, 2) := by decide +kernel
theorem dX0_parseBitmap_5 : decode cX0_parseBitmap 5 = .ok (.bipush 32, 2) := by decide +kernel
theorem dX0_parseBitmap_7 : decode cX0_parseBitmap 7 = .ok (.if_icmp .ge 78, 3) := by decide +kernel
theorem dX0_parseBitmap_10 : decode cX0_parseBitmap 10 = .ok (.iload_n 2, 1) := by decide +kernel
theorem dX0_parseBitmap_11 : decode cX0_parseBitmap 11 = .ok (.iload 4, 2) := by decide +kernel
theorem dX0_parseBitmap_13 : decode cX0_parseBitmap 13 = .ok (.iadd, 1) := by decide +kernel
theorem dX0_parseBitmap_14 : decode cX0_parseBitmap 14 = .ok (.aload_n 0, 1) := by decide +kernel
theorem dX0_parseBitmap_15 : decode cX0_parseBitmap 15 = .ok (.getfield 15, 3) := by decide +kernel
theorem dX0_parseBitmap_18 : decode cX0_parseBitmap 18 = .ok (.if_icmp .lt 10, 3) := by decide +kernel
theorem dX0_parseBitmap_21 : decode cX0_parseBitmap 21 = .ok (.iconst (-1), 1) := by decide +kernel
theorem dX0_parseBitmap_22 : decode cX0_parseBitmap 22 = .ok (.aload_n 0, 1) := by decide +kernel
theorem dX0_parseBitmap_23 : decode cX0_parseBitmap 23 = .ok (.getfield 15, 3) := by decide +kernel
theorem dX0_parseBitmap_26 : decode cX0_parseBitmap 26 = .ok (.isub, 1) := by decide +kernel
theorem dX0_parseBitmap_27 : decode cX0_parseBitmap 27 = .ok (.ireturn, 1) := by decide +kernel
theorem dX0_parseBitmap_28 : decode cX0_parseBitmap 28 = .ok (.iconst 0, 1) := by decide +kernel
theorem dX0_parseBitmap_29 : decode cX0_parseBitmap 29 = .ok (.istore 5, 2) := by decide +kernel
theorem dX0_parseBitmap_31 : decode cX0_parseBitmap 31 = .ok (.iload 5, 2) := by decide +kernel
theorem dX0_parseBitmap_33 : decode cX0_parseBitmap 33 = .ok (.bipush 8, 2) := by decide +kernel
theorem dX0_parseBitmap_35 : decode cX0_parseBitmap 35 = .ok (.if_icmp .ge 44, 3) := by decide +kernel
theorem dX0_parseBitmap_38 : decode cX0_parseBitmap 38 = .ok (.aload_n 0, 1) := by decide +kernel
theorem dX0_parseBitmap_39 : decode cX0_parseBitmap 39 = .ok (.getfield 9, 3) := by decide +kernel
theorem dX0_parseBitmap_42 : decode cX0_parseBitmap 42 = .ok (.iload_n 2, 1) := by decide +kernel
theorem dX0_parseBitmap_43 : decode cX0_parseBitmap 43 = .ok (.iload 4, 2) := by decide +kernel
theorem dX0_parseBitmap_45 : decode cX0_parseBitmap 45 = .ok (.iadd, 1) := by decide +kernel
theorem dX0_parseBitmap_46 : decode cX0_parseBitmap 46 = .ok (.iaload, 1) := by decide +kernel
theorem dX0_parseBitmap_47 : decode cX0_parseBitmap 47 = .ok (.iload 5, 2) := by decide +kernel
theorem dX0_parseBitmap_49 : decode cX0_parseBitmap 49 = .ok (.ishr, 1) := by decide +kernel
theorem dX0_parseBitmap_50 : decode cX0_parseBitmap 50 = .ok (.iconst 1, 1) := by decide +kernel
theorem dX0_parseBitmap_51 : decode cX0_parseBitmap 51 = .ok (.iand, 1) := by decide +kernel
theorem dX0_parseBitmap_52 : decode cX0_parseBitmap 52 = .ok (.ifCond .eq 21, 3) := by decide +kernel
theorem dX0_parseBitmap_55 : decode cX0_parseBitmap 55 = .ok (.aload_n 3, 1) := by decide +kernel
theorem dX0_parseBitmap_56 : decode cX0_parseBitmap 56 = .ok (.sipush 256, 3) := by decide +kernel
theorem dX0_parseBitmap_59 : decode cX0_parseBitmap 59 = .ok (.iload_n 1, 1) := by decide +kernel
theorem dX0_parseBitmap_60 : decode cX0_parseBitmap 60 = .ok (.imul, 1) := by decide +kernel
theorem dX0_parseBitmap_61 : decode cX0_parseBitmap 61 = .ok (.bipush 8, 2) := by decide +kernel
theorem dX0_parseBitmap_63 : decode cX0_parseBitmap 63 = .ok (.iload 4, 2) := by decide +kernel
theorem dX0_parseBitmap_65 : decode cX0_parseBitmap 65 = .ok (.imul, 1) := by decide +kernel
theorem dX0_parseBitmap_66 : decode cX0_parseBitmap 66 = .ok (.iadd, 1) := by decide +kernel
theorem dX0_parseBitmap_67 : decode cX0_parseBitmap 67 = .ok (.iload 5, 2) := by decide +kernel
theorem dX0_parseBitmap_69 : decode cX0_parseBitmap 69 = .ok (.iadd, 1) := by decide +kernel
theorem dX0_parseBitmap_70 : decode cX0_parseBitmap 70 = .ok (.invokevirtual 46, 3) := by decide +kernel
theorem dX0_parseBitmap_73 : decode cX0_parseBitmap 73 = .ok (.iinc 5 1, 3) := by decide +kernel
theorem dX0_parseBitmap_76 : decode cX0_parseBitmap 76 = .ok (.goto (-45), 3) := by decide +kernel
theorem dX0_parseBitmap_79 : decode cX0_parseBitmap 79 = .ok (.iinc 4 1, 3) := by decide +kernel
theorem dX0_parseBitmap_82 : decode cX0_parseBitmap 82 = .ok (.goto (-79), 3) := by decide +kernel
theorem dX0_parseBitmap_85 : decode cX0_parseBitmap 85 = .ok (.iload_n 2, 1) := by decide +kernel
theorem dX0_parseBitmap_86 : decode cX0_parseBitmap 86 = .ok (.bipush 33, 2) := by decide +kernel
theorem dX0_parseBitmap_88 : decode cX0_parseBitmap 88 = .ok (.iadd, 1) := by decide +kernel
theorem dX0_parseBitmap_89 : decode cX0_parseBitmap 89 = .ok (.iconst 1, 1) := by decide +kernel
theorem dX0_parseBitmap_90 : decode cX0_parseBitmap 90 = .ok (.isub, 1) := by decide +kernel
theorem dX0_parseBitmap_91 : decode cX0_parseBitmap 91 = .ok (.ireturn, 1) := by decide +kernel
theorem dX1_init_0 : decode cX1_init 0 = .ok (.aload_n 0, 1) := by decide +kernel
theorem dX1_init_1 : decode cX1_init 1 = .ok (.invokespecial 3, 3) := by decide +kernel
theorem dX1_init_4 : decode cX1_init 4 = .ok (.aload_n 0, 1) := by decide +kernel
theorem dX1_init_5 : decode cX1_init 5 = .ok (.bipush 64, 2) := by decide +kernel
theorem dX1_init_7 : decode cX1_init 7 = .ok (.newarray .long, 2) := by decide +kernel
theorem dX1_init_9 : decode cX1_init 9 = .ok (.putfield 9, 3) := by decide +kernel
theorem dX1_init_12 : decode cX1_init 12 = .ok (.return_, 1) := by decide +kernel
theorem dX1_become_0 : decode cX1_become 0 = .ok (.aload_n 1, 1) := by decide +kernel
theorem dX1_become_1 : decode cX1_become 1 = .ok (.getfield 9, 3) := by decide +kernel
theorem dX1_become_4 : decode cX1_become 4 = .ok (.iconst 0, 1) := by decide +kernel
theorem dX1_become_5 : decode cX1_become 5 = .ok (.aload_n 0, 1) := by decide +kernel
theorem dX1_become_6 : decode cX1_become 6 = .ok (.getfield 9, 3) := by decide +kernel
theorem dX1_become_9 : decode cX1_become 9 = .ok (.iconst 0, 1) := by decide +kernel
theorem dX1_become_10 : decode cX1_become 10 = .ok (.bipush 64, 2) := by decide +kernel
theorem dX1_become_12 : decode cX1_become 12 = .ok (.invokestatic 15, 3) := by decide +kernel
theorem dX1_become_15 : decode cX1_become 15 = .ok (.return_, 1) := by decide +kernel
set_option maxRecDepth 20000 in
theorem ggX1_becomeEmpty_J7_fill_d0a16 : GoodIn wsX1_becomeEmpty wsJ7_fill_d0a16 := goodIn_r _ [5] (by decide +kernel) (by decide +kernel)
set_option maxRecDepth 20000 in
theorem gX1_becomeEmpty_J7_fill_d0a16 : GoodIn wsX1_becomeEmpty (va_wsS RX1 21 yJ7_fill_d0a16 wsJ7_fill_d0a16) := goodIn_app (goodIn_of _ (by decide +kernel)) ggX1_becomeEmpty_J7_fill_d0a16
theorem dX1_becomeEmpty_0 : decode cX1_becomeEmpty 0 = .ok (.aload_n 0, 1) := by decide +kernel
theorem dX1_becomeEmpty_1 : decode cX1_becomeEmpty 1 = .ok (.getfield 9, 3) := by decide +kernel
theorem dX1_becomeEmpty_4 : decode cX1_becomeEmpty 4 = .ok (.lconst 0, 1) := by decide +kernel
theorem dX1_becomeEmpty_5 : decode cX1_becomeEmpty 5 = .ok (.invokestatic 21, 3) := by decide +kernel
theorem dX1_becomeEmpty_8 : decode cX1_becomeEmpty 8 = .ok (.return_, 1) := by decide +kernel
set_option maxRecDepth 20000 in
theorem ggX1_becomeJoin_X1_join : GoodIn wsX1_becomeJoin wsX1_join := goodIn_r _ [5, 6] (by decide +kernel) (by decide +kernel)
set_option maxRecDepth 20000 in
theorem gX1_becomeJoin_X1_join : GoodIn wsX1_becomeJoin (va_wsS RX1 27 yX1_join wsX1_join) := goodIn_app (goodIn_of _ (by decide +kernel)) ggX1_becomeJoin_X1_join
theorem dX1_becomeJoin_0 : decode cX1_becomeJoin 0 = .ok (.iconst 0, 1) := by decide +kernel
theorem dX1_becomeJoin_1 : decode cX1_becomeJoin 1 = .ok (.istore 4, 2) := by decide +kernel
theorem dX1_becomeJoin_3 : decode cX1_becomeJoin 3 = .ok (.iload 4, 2) := by decide +kernel
theorem dX1_becomeJoin_5 : decode cX1_becomeJoin 5 = .ok (.bipush 64, 2) := by decide +kernel
theorem dX1_becomeJoin_7 : decode cX1_becomeJoin 7 = .ok (.if_icmp .ge 34, 3) := by decide +kernel
theorem dX1_becomeJoin_10 : decode cX1_becomeJoin 10 = .ok (.aload_n 0, 1) := by decide +kernel
theorem dX1_becomeJoin_11 : decode cX1_becomeJoin 11 = .ok (.getfield 9, 3) := by decide +kernel
theorem dX1_becomeJoin_14 : decode cX1_becomeJoin 14 = .ok (.iload 4, 2) := by decide +kernel
theorem dX1_becomeJoin_16 : decode cX1_becomeJoin 16 = .ok (.iload_n 1, 1) := by decide +kernel
theorem dX1_becomeJoin_17 : decode cX1_becomeJoin 17 = .ok (.aload_n 2, 1) := by decide +kernel
theorem dX1_becomeJoin_18 : decode cX1_becomeJoin 18 = .ok (.getfield 9, 3) := by decide +kernel
theorem dX1_becomeJoin_21 : decode cX1_becomeJoin 21 = .ok (.iload 4, 2) := by decide +kernel
theorem dX1_becomeJoin_23 : decode cX1_becomeJoin 23 = .ok (.laload, 1) := by decide +kernel
theorem dX1_becomeJoin_24 : decode cX1_becomeJoin 24 = .ok (.aload_n 3, 1) := by decide +kernel
theorem dX1_becomeJoin_25 : decode cX1_becomeJoin 25 = .ok (.getfield 9, 3) := by decide +kernel
theorem dX1_becomeJoin_28 : decode cX1_becomeJoin 28 = .ok (.iload 4, 2) := by decide +kernel
theorem dX1_becomeJoin_30 : decode cX1_becomeJoin 30 = .ok (.laload, 1) := by decide +kernel
theorem dX1_becomeJoin_31 : decode cX1_becomeJoin 31 = .ok (.invokestatic 27, 3) := by decide +kernel
theorem dX1_becomeJoin_34 : decode cX1_becomeJoin 34 = .ok (.lastore, 1) := by decide +kernel
theorem dX1_becomeJoin_35 : decode cX1_becomeJoin 35 = .ok (.iinc 4 1, 3) := by decide +kernel
theorem dX1_becomeJoin_38 : decode cX1_becomeJoin 38 = .ok (.goto (-35), 3) := by decide +kernel
theorem dX1_becomeJoin_41 : decode cX1_becomeJoin 41 = .ok (.return_, 1) := by decide +kernel
theorem dX1_join_0 : decode cX1_join 0 = .ok (.iload_n 0, 1) := by decide +kernel
theorem dX1_join_1 : decode cX1_join 1 = .ok (.tableswitch 39 0 2 #[27, 31, 35], 27) := by decide +kernel
theorem dX1_join_28 : decode cX1_join 28 = .ok (.lload_n 1, 1) := by decide +kernel
theorem dX1_join_29 : decode cX1_join 29 = .ok (.lload_n 3, 1) := by decide +kernel
theorem dX1_join_30 : decode cX1_join 30 = .ok (.land, 1) := by decide +kernel
theorem dX1_join_31 : decode cX1_join 31 = .ok (.lreturn, 1) := by decide +kernel
theorem dX1_join_32 : decode cX1_join 32 = .ok (.lload_n 1, 1) := by decide +kernel
theorem dX1_join_33 : decode cX1_join 33 = .ok (.lload_n 3, 1) := by decide +kernel
theorem dX1_join_34 : decode cX1_join 34 = .ok (.lor, 1) := by decide +kernel
theorem dX1_join_35 : decode cX1_join 35 = .ok (.lreturn, 1) := by decide +kernel
theorem dX1_join_36 : decode cX1_join 36 = .ok (.lload_n 1, 1) := by decide +kernel
theorem dX1_join_37 : decode cX1_join 37 = .ok (.lload_n 3, 1) := by decide +kernel
theorem dX1_join_38 : decode cX1_join 38 = .ok (.lxor, 1) := by decide +kernel
theorem dX1_join_39 : decode cX1_join 39 = .ok (.lreturn, 1) := by decide +kernel
theorem dX1_join_40 : decode cX1_join 40 = .ok (.lload_n 1, 1) := by decide +kernel
theorem dX1_join_41 : decode cX1_join 41 = .ok (.lload_n 3, 1) := by decide +kernel
theorem dX1_join_42 : decode cX1_join 42 = .ok (.ldc2_w 31, 3) := by decide +kernel
theorem dX1_join_45 : decode cX1_join 45 = .ok (.lxor, 1) := by decide +kernel
theorem dX1_join_46 : decode cX1_join 46 = .ok (.land, 1) := by decide +kernel
theorem dX1_join_47 : decode cX1_join 47 = .ok (.lreturn, 1) := by decide +kernel
set_option maxRecDepth 20000 in
theorem ggX1_becomeMoved_X1_wordAt : GoodIn wsX1_becomeMoved wsX1_wordAt := goodIn_r _ [6, 1, 7] (by decide +kernel) (by decide +kernel)
set_option maxRecDepth 20000 in
theorem gX1_becomeMoved_X1_wordAt : GoodIn wsX1_becomeMoved (wsV RX1 33 RX1 yX1_wordAt wsX1_wordAt) := goodIn_app (goodIn_of _ (by decide +kernel)) ggX1_becomeMoved_X1_wordAt
theorem dX1_becomeMoved_0 : decode cX1_becomeMoved 0 = .ok (.iconst 0, 1) := by decide +kernel
theorem dX1_becomeMoved_1 : decode cX1_becomeMoved 1 = .ok (.istore_n 3, 1) := by decide +kernel
theorem dX1_becomeMoved_2 : decode cX1_becomeMoved 2 = .ok (.iload_n 3, 1) := by decide +kernel
theorem dX1_becomeMoved_3 : decode cX1_becomeMoved 3 = .ok (.bipush 64, 2) := by decide +kernel
theorem dX1_becomeMoved_5 : decode cX1_becomeMoved 5 = .ok (.if_icmp .ge 77, 3) := by decide +kernel
theorem dX1_becomeMoved_8 : decode cX1_becomeMoved 8 = .ok (.bipush 64, 2) := by decide +kernel
theorem dX1_becomeMoved_10 : decode cX1_becomeMoved 10 = .ok (.iload_n 3, 1) := by decide +kernel
theorem dX1_becomeMoved_11 : decode cX1_becomeMoved 11 = .ok (.imul, 1) := by decide +kernel
theorem dX1_becomeMoved_12 : decode cX1_becomeMoved 12 = .ok (.iload_n 2, 1) := by decide +kernel
theorem dX1_becomeMoved_13 : decode cX1_becomeMoved 13 = .ok (.isub, 1) := by decide +kernel
theorem dX1_becomeMoved_14 : decode cX1_becomeMoved 14 = .ok (.istore 4, 2) := by decide +kernel
theorem dX1_becomeMoved_16 : decode cX1_becomeMoved 16 = .ok (.iload 4, 2) := by decide +kernel
theorem dX1_becomeMoved_18 : decode cX1_becomeMoved 18 = .ok (.bipush 63, 2) := by decide +kernel
theorem dX1_becomeMoved_20 : decode cX1_becomeMoved 20 = .ok (.iand, 1) := by decide +kernel
theorem dX1_becomeMoved_21 : decode cX1_becomeMoved 21 = .ok (.istore 5, 2) := by decide +kernel
theorem dX1_becomeMoved_23 : decode cX1_becomeMoved 23 = .ok (.aload_n 1, 1) := by decide +kernel
theorem dX1_becomeMoved_24 : decode cX1_becomeMoved 24 = .ok (.iload 4, 2) := by decide +kernel
theorem dX1_becomeMoved_26 : decode cX1_becomeMoved 26 = .ok (.bipush 6, 2) := by decide +kernel
theorem dX1_becomeMoved_28 : decode cX1_becomeMoved 28 = .ok (.ishr, 1) := by decide +kernel
theorem dX1_becomeMoved_29 : decode cX1_becomeMoved 29 = .ok (.invokevirtual 33, 3) := by decide +kernel
theorem dX1_becomeMoved_32 : decode cX1_becomeMoved 32 = .ok (.iload 5, 2) := by decide +kernel
theorem dX1_becomeMoved_34 : decode cX1_becomeMoved 34 = .ok (.lushr, 1) := by decide +kernel
theorem dX1_becomeMoved_35 : decode cX1_becomeMoved 35 = .ok (.lstore 6, 2) := by decide +kernel
theorem dX1_becomeMoved_37 : decode cX1_becomeMoved 37 = .ok (.iload 5, 2) := by decide +kernel
theorem dX1_becomeMoved_39 : decode cX1_becomeMoved 39 = .ok (.ifCond .ne 7, 3) := by decide +kernel
theorem dX1_becomeMoved_42 : decode cX1_becomeMoved 42 = .ok (.lconst 0, 1) := by decide +kernel
theorem dX1_becomeMoved_43 : decode cX1_becomeMoved 43 = .ok (.goto 20, 3) := by decide +kernel
theorem dX1_becomeMoved_46 : decode cX1_becomeMoved 46 = .ok (.aload_n 1, 1) := by decide +kernel
theorem dX1_becomeMoved_47 : decode cX1_becomeMoved 47 = .ok (.iload 4, 2) := by decide +kernel
theorem dX1_becomeMoved_49 : decode cX1_becomeMoved 49 = .ok (.bipush 6, 2) := by decide +kernel
theorem dX1_becomeMoved_51 : decode cX1_becomeMoved 51 = .ok (.ishr, 1) := by decide +kernel
theorem dX1_becomeMoved_52 : decode cX1_becomeMoved 52 = .ok (.iconst 1, 1) := by decide +kernel
theorem dX1_becomeMoved_53 : decode cX1_becomeMoved 53 = .ok (.iadd, 1) := by decide +kernel
theorem dX1_becomeMoved_54 : decode cX1_becomeMoved 54 = .ok (.invokevirtual 33, 3) := by decide +kernel
theorem dX1_becomeMoved_57 : decode cX1_becomeMoved 57 = .ok (.bipush 64, 2) := by decide +kernel
theorem dX1_becomeMoved_59 : decode cX1_becomeMoved 59 = .ok (.iload 5, 2) := by decide +kernel
theorem dX1_becomeMoved_61 : decode cX1_becomeMoved 61 = .ok (.isub, 1) := by decide +kernel
theorem dX1_becomeMoved_62 : decode cX1_becomeMoved 62 = .ok (.lshl, 1) := by decide +kernel
theorem dX1_becomeMoved_63 : decode cX1_becomeMoved 63 = .ok (.lstore 8, 2) := by decide +kernel
theorem dX1_becomeMoved_65 : decode cX1_becomeMoved 65 = .ok (.aload_n 0, 1) := by decide +kernel
theorem dX1_becomeMoved_66 : decode cX1_becomeMoved 66 = .ok (.getfield 9, 3) := by decide +kernel
theorem dX1_becomeMoved_69 : decode cX1_becomeMoved 69 = .ok (.iload_n 3, 1) := by decide +kernel
theorem dX1_becomeMoved_70 : decode cX1_becomeMoved 70 = .ok (.lload 6, 2) := by decide +kernel
theorem dX1_becomeMoved_72 : decode cX1_becomeMoved 72 = .ok (.lload 8, 2) := by decide +kernel
theorem dX1_becomeMoved_74 : decode cX1_becomeMoved 74 = .ok (.lor, 1) := by decide +kernel
theorem dX1_becomeMoved_75 : decode cX1_becomeMoved 75 = .ok (.lastore, 1) := by decide +kernel
theorem dX1_becomeMoved_76 : decode cX1_becomeMoved 76 = .ok (.iinc 3 1, 3) := by decide +kernel
theorem dX1_becomeMoved_79 : decode cX1_becomeMoved 79 = .ok (.goto (-77), 3) := by decide +kernel
theorem dX1_becomeMoved_82 : decode cX1_becomeMoved 82 = .ok (.return_, 1) := by decide +kernel
theorem dX1_wordAt_0 : decode cX1_wordAt 0 = .ok (.iload_n 1, 1) := by decide +kernel
theorem dX1_wordAt_1 : decode cX1_wordAt 1 = .ok (.ifCond .lt 18, 3) := by decide +kernel
theorem dX1_wordAt_4 : decode cX1_wordAt 4 = .ok (.iload_n 1, 1) := by decide +kernel
theorem dX1_wordAt_5 : decode cX1_wordAt 5 = .ok (.bipush 64, 2) := by decide +kernel
theorem dX1_wordAt_7 : decode cX1_wordAt 7 = .ok (.if_icmp .ge 12, 3) := by decide +kernel
theorem dX1_wordAt_10 : decode cX1_wordAt 10 = .ok (.aload_n 0, 1) := by decide +kernel
theorem dX1_wordAt_11 : decode cX1_wordAt 11 = .ok (.getfield 9, 3) := by decide +kernel
theorem dX1_wordAt_14 : decode cX1_wordAt 14 = .ok (.iload_n 1, 1) := by decide +kernel
theorem dX1_wordAt_15 : decode cX1_wordAt 15 = .ok (.laload, 1) := by decide +kernel
theorem dX1_wordAt_16 : decode cX1_wordAt 16 = .ok (.goto 4, 3) := by decide +kernel
theorem dX1_wordAt_19 : decode cX1_wordAt 19 = .ok (.lconst 0, 1) := by decide +kernel
theorem dX1_wordAt_20 : decode cX1_wordAt 20 = .ok (.lreturn, 1) := by decide +kernel
set_option maxRecDepth 20000 in
theorem ggX1_include_X3_isNumber : GoodIn wsX1_include wsX3_isNumber := goodIn_r _ [4] (by decide +kernel) (by decide +kernel)
set_option maxRecDepth 20000 in
theorem gX1_include_X3_isNumber_n37 : GoodIn wsX1_include (wsX3_isNumber) := ggX1_include_X3_isNumber
theorem dX1_include_0 : decode cX1_include 0 = .ok (.iload_n 1, 1) := by decide +kernel
theorem dX1_include_1 : decode cX1_include 1 = .ok (.invokestatic 37, 3) := by decide +kernel
theorem dX1_include_4 : decode cX1_include 4 = .ok (.ifCond .eq 21, 3) := by decide +kernel
theorem dX1_include_7 : decode cX1_include 7 = .ok (.aload_n 0, 1) := by decide +kernel
theorem dX1_include_8 : decode cX1_include 8 = .ok (.getfield 9, 3) := by decide +kernel
theorem dX1_include_11 : decode cX1_include 11 = .ok (.iload_n 1, 1) := by decide +kernel
theorem dX1_include_12 : decode cX1_include 12 = .ok (.bipush 6, 2) := by decide +kernel
theorem dX1_include_14 : decode cX1_include 14 = .ok (.ishr, 1) := by decide +kernel
theorem dX1_include_15 : decode cX1_include 15 = .ok (.dup2, 1) := by decide +kernel
theorem dX1_include_16 : decode cX1_include 16 = .ok (.laload, 1) := by decide +kernel
theorem dX1_include_17 : decode cX1_include 17 = .ok (.lconst 1, 1) := by decide +kernel
theorem dX1_include_18 : decode cX1_include 18 = .ok (.iload_n 1, 1) := by decide +kernel
theorem dX1_include_19 : decode cX1_include 19 = .ok (.bipush 63, 2) := by decide +kernel
theorem dX1_include_21 : decode cX1_include 21 = .ok (.iand, 1) := by decide +kernel
theorem dX1_include_22 : decode cX1_include 22 = .ok (.lshl, 1) := by decide +kernel
theorem dX1_include_23 : decode cX1_include 23 = .ok (.lor, 1) := by decide +kernel
theorem dX1_include_24 : decode cX1_include 24 = .ok (.lastore, 1) := by decide +kernel
theorem dX1_include_25 : decode cX1_include 25 = .ok (.return_, 1) := by decide +kernel
set_option maxRecDepth 20000 in
theorem ggX1_holds_X3_isNumber : GoodIn wsX1_holds wsX3_isNumber := goodIn_r _ [4] (by decide +kernel) (by decide +kernel)
set_option maxRecDepth 20000 in
theorem gX1_holds_X3_isNumber_n37 : GoodIn wsX1_holds (wsX3_isNumber) := ggX1_holds_X3_isNumber
theorem dX1_holds_0 : decode cX1_holds 0 = .ok (.iload_n 1, 1) := by decide +kernel
theorem dX1_holds_1 : decode cX1_holds 1 = .ok (.invokestatic 37, 3) := by decide +kernel
theorem dX1_holds_4 : decode cX1_holds 4 = .ok (.ifCond .eq 28, 3) := by decide +kernel
theorem dX1_holds_7 : decode cX1_holds 7 = .ok (.aload_n 0, 1) := by decide +kernel
theorem dX1_holds_8 : decode cX1_holds 8 = .ok (.getfield 9, 3) := by decide +kernel
theorem dX1_holds_11 : decode cX1_holds 11 = .ok (.iload_n 1, 1) := by decide +kernel
theorem dX1_holds_12 : decode cX1_holds 12 = .ok (.bipush 6, 2) := by decide +kernel
theorem dX1_holds_14 : decode cX1_holds 14 = .ok (.ishr, 1) := by decide +kernel
theorem dX1_holds_15 : decode cX1_holds 15 = .ok (.laload, 1) := by decide +kernel
theorem dX1_holds_16 : decode cX1_holds 16 = .ok (.iload_n 1, 1) := by decide +kernel
theorem dX1_holds_17 : decode cX1_holds 17 = .ok (.bipush 63, 2) := by decide +kernel
theorem dX1_holds_19 : decode cX1_holds 19 = .ok (.iand, 1) := by decide +kernel
