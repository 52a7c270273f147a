theorem dX3_combine_56 : decode cX3_combine 56 = .ok (.getfield 50, 3) := by decide +kernel
theorem dX3_combine_59 : decode cX3_combine 59 = .ok (.iload_n 2, 1) := by decide +kernel
theorem dX3_combine_60 : decode cX3_combine 60 = .ok (.aaload, 1) := by decide +kernel
theorem dX3_combine_61 : decode cX3_combine 61 = .ok (.aload 5, 2) := by decide +kernel
theorem dX3_combine_63 : decode cX3_combine 63 = .ok (.getfield 50, 3) := by decide +kernel
theorem dX3_combine_66 : decode cX3_combine 66 = .ok (.iload_n 3, 1) := by decide +kernel
theorem dX3_combine_67 : decode cX3_combine 67 = .ok (.aaload, 1) := by decide +kernel
theorem dX3_combine_68 : decode cX3_combine 68 = .ok (.invokevirtual 81, 3) := by decide +kernel
theorem dX3_combine_71 : decode cX3_combine 71 = .ok (.aload_n 0, 1) := by decide +kernel
theorem dX3_combine_72 : decode cX3_combine 72 = .ok (.getfield 10, 3) := by decide +kernel
theorem dX3_combine_75 : decode cX3_combine 75 = .ok (.aload 5, 2) := by decide +kernel
theorem dX3_combine_77 : decode cX3_combine 77 = .ok (.getfield 50, 3) := by decide +kernel
theorem dX3_combine_80 : decode cX3_combine 80 = .ok (.iload_n 2, 1) := by decide +kernel
theorem dX3_combine_81 : decode cX3_combine 81 = .ok (.aaload, 1) := by decide +kernel
theorem dX3_combine_82 : decode cX3_combine 82 = .ok (.aload 5, 2) := by decide +kernel
theorem dX3_combine_84 : decode cX3_combine 84 = .ok (.getfield 50, 3) := by decide +kernel
theorem dX3_combine_87 : decode cX3_combine 87 = .ok (.iload_n 3, 1) := by decide +kernel
theorem dX3_combine_88 : decode cX3_combine 88 = .ok (.aaload, 1) := by decide +kernel
theorem dX3_combine_89 : decode cX3_combine 89 = .ok (.invokevirtual 85, 3) := by decide +kernel
theorem dX3_combine_92 : decode cX3_combine 92 = .ok (.aload_n 0, 1) := by decide +kernel
theorem dX3_combine_93 : decode cX3_combine 93 = .ok (.getfield 10, 3) := by decide +kernel
theorem dX3_combine_96 : decode cX3_combine 96 = .ok (.aload 5, 2) := by decide +kernel
theorem dX3_combine_98 : decode cX3_combine 98 = .ok (.getfield 50, 3) := by decide +kernel
theorem dX3_combine_101 : decode cX3_combine 101 = .ok (.iload 4, 2) := by decide +kernel
theorem dX3_combine_103 : decode cX3_combine 103 = .ok (.aaload, 1) := by decide +kernel
theorem dX3_combine_104 : decode cX3_combine 104 = .ok (.aload 6, 2) := by decide +kernel
theorem dX3_combine_106 : decode cX3_combine 106 = .ok (.invokevirtual 58, 3) := by decide +kernel
theorem dX3_combine_109 : decode cX3_combine 109 = .ok (.aload 6, 2) := by decide +kernel
theorem dX3_combine_111 : decode cX3_combine 111 = .ok (.invokevirtual 62, 3) := by decide +kernel
theorem dX3_combine_114 : decode cX3_combine 114 = .ok (.ireturn, 1) := by decide +kernel
set_option maxRecDepth 20000 in
theorem ggX3_shift_X3_isSet : GoodIn wsX3_shift wsX3_isSet := goodIn_r _ [5] (by decide +kernel) (by decide +kernel)
set_option maxRecDepth 20000 in
theorem gX3_shift_X3_isSet : GoodIn wsX3_shift (va_wsS RX3 38 yX3_isSet wsX3_isSet) := goodIn_app (goodIn_of _ (by decide +kernel)) ggX3_shift_X3_isSet
set_option maxRecDepth 20000 in
theorem ggX3_shift_X3_keepState : GoodIn wsX3_shift wsX3_keepState := goodIn_r _ [9, 10, 11, 1, 12, 13, 14, 15, 16, 17, 18, 19, 20, 21, 22, 23, 24, 25, 26, 27, 28, 66, 67, 68, 69, 70, 63, 64, 65, 71] (by decide +kernel) (by decide +kernel)
set_option maxRecDepth 20000 in
theorem gX3_shift_X3_keepState : GoodIn wsX3_shift (wsV RX3 46 RX3 yX3_keepState wsX3_keepState) := goodIn_app (goodIn_of _ (by decide +kernel)) ggX3_shift_X3_keepState
set_option maxRecDepth 20000 in
theorem ggX3_shift_X1_becomeMoved : GoodIn wsX3_shift wsX1_becomeMoved := goodIn_r _ [31, 27, 32, 33, 34, 24, 35, 71] (by decide +kernel) (by decide +kernel)
set_option maxRecDepth 20000 in
theorem gX3_shift_X1_becomeMoved_n88 : GoodIn wsX3_shift (wsX1_becomeMoved) := ggX3_shift_X1_becomeMoved
set_option maxRecDepth 20000 in
theorem ggX3_shift_X2_countConversions : GoodIn wsX3_shift wsX2_countConversions := goodIn_r _ [38, 22, 39, 24, 40, 41, 42, 43, 44, 45, 32, 33, 34, 35, 27, 46, 47, 48, 49, 50, 51, 52, 53, 54, 55, 56, 57, 58, 4, 59, 63, 64, 65, 71] (by decide +kernel) (by decide +kernel)
set_option maxRecDepth 20000 in
theorem gX3_shift_X2_countConversions_n58 : GoodIn wsX3_shift (wsX2_countConversions) := ggX3_shift_X2_countConversions
set_option maxRecDepth 20000 in
theorem ggX3_shift_X1_count : GoodIn wsX3_shift wsX1_count := goodIn_r _ [62, 42, 43, 44, 24, 45, 32, 33, 34, 35, 27, 46, 47, 48, 49, 50, 51, 52, 71] (by decide +kernel) (by decide +kernel)
set_option maxRecDepth 20000 in
theorem gX3_shift_X1_count_n62 : GoodIn wsX3_shift (wsX1_count) := ggX3_shift_X1_count
theorem dX3_shift_0 : decode cX3_shift 0 = .ok (.iload_n 1, 1) := by decide +kernel
theorem dX3_shift_1 : decode cX3_shift 1 = .ok (.invokestatic 38, 3) := by decide +kernel
theorem dX3_shift_4 : decode cX3_shift 4 = .ok (.ifCond .eq 17, 3) := by decide +kernel
theorem dX3_shift_7 : decode cX3_shift 7 = .ok (.iload_n 2, 1) := by decide +kernel
theorem dX3_shift_8 : decode cX3_shift 8 = .ok (.sipush (-4096), 3) := by decide +kernel
theorem dX3_shift_11 : decode cX3_shift 11 = .ok (.if_icmp .le 10, 3) := by decide +kernel
theorem dX3_shift_14 : decode cX3_shift 14 = .ok (.iload_n 2, 1) := by decide +kernel
theorem dX3_shift_15 : decode cX3_shift 15 = .ok (.sipush 4096, 3) := by decide +kernel
theorem dX3_shift_18 : decode cX3_shift 18 = .ok (.if_icmp .lt 5, 3) := by decide +kernel
theorem dX3_shift_21 : decode cX3_shift 21 = .ok (.iconst (-1), 1) := by decide +kernel
theorem dX3_shift_22 : decode cX3_shift 22 = .ok (.ireturn, 1) := by decide +kernel
theorem dX3_shift_23 : decode cX3_shift 23 = .ok (.aload_n 0, 1) := by decide +kernel
theorem dX3_shift_24 : decode cX3_shift 24 = .ok (.invokevirtual 46, 3) := by decide +kernel
theorem dX3_shift_27 : decode cX3_shift 27 = .ok (.getfield 50, 3) := by decide +kernel
theorem dX3_shift_30 : decode cX3_shift 30 = .ok (.iload_n 1, 1) := by decide +kernel
theorem dX3_shift_31 : decode cX3_shift 31 = .ok (.aaload, 1) := by decide +kernel
theorem dX3_shift_32 : decode cX3_shift 32 = .ok (.astore_n 3, 1) := by decide +kernel
theorem dX3_shift_33 : decode cX3_shift 33 = .ok (.aload_n 0, 1) := by decide +kernel
theorem dX3_shift_34 : decode cX3_shift 34 = .ok (.getfield 10, 3) := by decide +kernel
theorem dX3_shift_37 : decode cX3_shift 37 = .ok (.getfield 50, 3) := by decide +kernel
theorem dX3_shift_40 : decode cX3_shift 40 = .ok (.iload_n 1, 1) := by decide +kernel
theorem dX3_shift_41 : decode cX3_shift 41 = .ok (.aaload, 1) := by decide +kernel
theorem dX3_shift_42 : decode cX3_shift 42 = .ok (.astore 4, 2) := by decide +kernel
theorem dX3_shift_44 : decode cX3_shift 44 = .ok (.aload 4, 2) := by decide +kernel
theorem dX3_shift_46 : decode cX3_shift 46 = .ok (.aload_n 3, 1) := by decide +kernel
theorem dX3_shift_47 : decode cX3_shift 47 = .ok (.iload_n 2, 1) := by decide +kernel
theorem dX3_shift_48 : decode cX3_shift 48 = .ok (.invokevirtual 88, 3) := by decide +kernel
theorem dX3_shift_51 : decode cX3_shift 51 = .ok (.aload_n 0, 1) := by decide +kernel
theorem dX3_shift_52 : decode cX3_shift 52 = .ok (.getfield 10, 3) := by decide +kernel
theorem dX3_shift_55 : decode cX3_shift 55 = .ok (.aload_n 3, 1) := by decide +kernel
theorem dX3_shift_56 : decode cX3_shift 56 = .ok (.aload 4, 2) := by decide +kernel
theorem dX3_shift_58 : decode cX3_shift 58 = .ok (.invokevirtual 58, 3) := by decide +kernel
theorem dX3_shift_61 : decode cX3_shift 61 = .ok (.aload_n 3, 1) := by decide +kernel
theorem dX3_shift_62 : decode cX3_shift 62 = .ok (.invokevirtual 62, 3) := by decide +kernel
theorem dX3_shift_65 : decode cX3_shift 65 = .ok (.aload 4, 2) := by decide +kernel
theorem dX3_shift_67 : decode cX3_shift 67 = .ok (.invokevirtual 62, 3) := by decide +kernel
theorem dX3_shift_70 : decode cX3_shift 70 = .ok (.isub, 1) := by decide +kernel
theorem dX3_shift_71 : decode cX3_shift 71 = .ok (.ireturn, 1) := by decide +kernel
set_option maxRecDepth 20000 in
theorem ggX3_size_X3_isSet : GoodIn wsX3_size wsX3_isSet := goodIn_r _ [5] (by decide +kernel) (by decide +kernel)
set_option maxRecDepth 20000 in
theorem gX3_size_X3_isSet : GoodIn wsX3_size (va_wsS RX3 38 yX3_isSet wsX3_isSet) := goodIn_app (goodIn_of _ (by decide +kernel)) ggX3_size_X3_isSet
set_option maxRecDepth 20000 in
theorem ggX3_size_X1_count : GoodIn wsX3_size wsX1_count := goodIn_r _ [9, 10, 11, 12, 7, 13, 14, 15, 16, 17, 18, 19, 20, 21, 22, 23, 24, 25, 34] (by decide +kernel) (by decide +kernel)
set_option maxRecDepth 20000 in
theorem gX3_size_X1_count_n62 : GoodIn wsX3_size (wsX1_count) := ggX3_size_X1_count
theorem dX3_size_0 : decode cX3_size 0 = .ok (.iload_n 1, 1) := by decide +kernel
theorem dX3_size_1 : decode cX3_size 1 = .ok (.invokestatic 38, 3) := by decide +kernel
theorem dX3_size_4 : decode cX3_size 4 = .ok (.ifCond .ne 5, 3) := by decide +kernel
theorem dX3_size_7 : decode cX3_size 7 = .ok (.iconst (-1), 1) := by decide +kernel
theorem dX3_size_8 : decode cX3_size 8 = .ok (.ireturn, 1) := by decide +kernel
theorem dX3_size_9 : decode cX3_size 9 = .ok (.aload_n 0, 1) := by decide +kernel
theorem dX3_size_10 : decode cX3_size 10 = .ok (.getfield 10, 3) := by decide +kernel
theorem dX3_size_13 : decode cX3_size 13 = .ok (.getfield 50, 3) := by decide +kernel
theorem dX3_size_16 : decode cX3_size 16 = .ok (.iload_n 1, 1) := by decide +kernel
theorem dX3_size_17 : decode cX3_size 17 = .ok (.aaload, 1) := by decide +kernel
theorem dX3_size_18 : decode cX3_size 18 = .ok (.invokevirtual 62, 3) := by decide +kernel
theorem dX3_size_21 : decode cX3_size 21 = .ok (.ireturn, 1) := by decide +kernel
set_option maxRecDepth 20000 in
theorem ggX3_contains_X3_isSet : GoodIn wsX3_contains wsX3_isSet := goodIn_r _ [5] (by decide +kernel) (by decide +kernel)
set_option maxRecDepth 20000 in
theorem gX3_contains_X3_isSet : GoodIn wsX3_contains (va_wsS RX3 38 yX3_isSet wsX3_isSet) := goodIn_app (goodIn_of _ (by decide +kernel)) ggX3_contains_X3_isSet
set_option maxRecDepth 20000 in
theorem ggX3_contains_X1_holds : GoodIn wsX3_contains wsX1_holds := goodIn_r _ [9, 10, 11, 4, 12, 21] (by decide +kernel) (by decide +kernel)
set_option maxRecDepth 20000 in
theorem gX3_contains_X1_holds_n92 : GoodIn wsX3_contains (wsX1_holds) := ggX3_contains_X1_holds
theorem dX3_contains_0 : decode cX3_contains 0 = .ok (.iload_n 1, 1) := by decide +kernel
theorem dX3_contains_1 : decode cX3_contains 1 = .ok (.invokestatic 38, 3) := by decide +kernel
theorem dX3_contains_4 : decode cX3_contains 4 = .ok (.ifCond .ne 5, 3) := by decide +kernel
theorem dX3_contains_7 : decode cX3_contains 7 = .ok (.iconst (-1), 1) := by decide +kernel
theorem dX3_contains_8 : decode cX3_contains 8 = .ok (.ireturn, 1) := by decide +kernel
theorem dX3_contains_9 : decode cX3_contains 9 = .ok (.aload_n 0, 1) := by decide +kernel
theorem dX3_contains_10 : decode cX3_contains 10 = .ok (.getfield 10, 3) := by decide +kernel
theorem dX3_contains_13 : decode cX3_contains 13 = .ok (.getfield 50, 3) := by decide +kernel
theorem dX3_contains_16 : decode cX3_contains 16 = .ok (.iload_n 1, 1) := by decide +kernel
theorem dX3_contains_17 : decode cX3_contains 17 = .ok (.aaload, 1) := by decide +kernel
theorem dX3_contains_18 : decode cX3_contains 18 = .ok (.iload_n 2, 1) := by decide +kernel
theorem dX3_contains_19 : decode cX3_contains 19 = .ok (.invokevirtual 92, 3) := by decide +kernel
theorem dX3_contains_22 : decode cX3_contains 22 = .ok (.ifCond .eq 7, 3) := by decide +kernel
theorem dX3_contains_25 : decode cX3_contains 25 = .ok (.iconst 1, 1) := by decide +kernel
theorem dX3_contains_26 : decode cX3_contains 26 = .ok (.goto 4, 3) := by decide +kernel
theorem dX3_contains_29 : decode cX3_contains 29 = .ok (.iconst 0, 1) := by decide +kernel
theorem dX3_contains_30 : decode cX3_contains 30 = .ok (.ireturn, 1) := by decide +kernel
set_option maxRecDepth 20000 in
theorem ggX3_rank_X3_isSet : GoodIn wsX3_rank wsX3_isSet := goodIn_r _ [5] (by decide +kernel) (by decide +kernel)
set_option maxRecDepth 20000 in
theorem gX3_rank_X3_isSet : GoodIn wsX3_rank (va_wsS RX3 38 yX3_isSet wsX3_isSet) := goodIn_app (goodIn_of _ (by decide +kernel)) ggX3_rank_X3_isSet
set_option maxRecDepth 20000 in
theorem ggX3_rank_X1_countIn : GoodIn wsX3_rank wsX1_countIn := goodIn_r _ [9, 10, 11, 12, 7, 13, 14, 15, 16, 17, 18, 19, 20, 21, 22, 23, 24, 25, 26, 27, 28, 37] (by decide +kernel) (by decide +kernel)
set_option maxRecDepth 20000 in
theorem gX3_rank_X1_countIn_n72 : GoodIn wsX3_rank (wsX1_countIn) := ggX3_rank_X1_countIn
theorem dX3_rank_0 : decode cX3_rank 0 = .ok (.iload_n 1, 1) := by decide +kernel
theorem dX3_rank_1 : decode cX3_rank 1 = .ok (.invokestatic 38, 3) := by decide +kernel
theorem dX3_rank_4 : decode cX3_rank 4 = .ok (.ifCond .ne 5, 3) := by decide +kernel
theorem dX3_rank_7 : decode cX3_rank 7 = .ok (.iconst (-1), 1) := by decide +kernel
theorem dX3_rank_8 : decode cX3_rank 8 = .ok (.ireturn, 1) := by decide +kernel
theorem dX3_rank_9 : decode cX3_rank 9 = .ok (.aload_n 0, 1) := by decide +kernel
theorem dX3_rank_10 : decode cX3_rank 10 = .ok (.getfield 10, 3) := by decide +kernel
theorem dX3_rank_13 : decode cX3_rank 13 = .ok (.getfield 50, 3) := by decide +kernel
theorem dX3_rank_16 : decode cX3_rank 16 = .ok (.iload_n 1, 1) := by decide +kernel
theorem dX3_rank_17 : decode cX3_rank 17 = .ok (.aaload, 1) := by decide +kernel
theorem dX3_rank_18 : decode cX3_rank 18 = .ok (.iconst 0, 1) := by decide +kernel
theorem dX3_rank_19 : decode cX3_rank 19 = .ok (.iload_n 2, 1) := by decide +kernel
theorem dX3_rank_20 : decode cX3_rank 20 = .ok (.invokevirtual 72, 3) := by decide +kernel
theorem dX3_rank_23 : decode cX3_rank 23 = .ok (.ireturn, 1) := by decide +kernel
set_option maxRecDepth 20000 in
theorem ggX3_select_X3_isSet : GoodIn wsX3_select wsX3_isSet := goodIn_r _ [5] (by decide +kernel) (by decide +kernel)
set_option maxRecDepth 20000 in
theorem gX3_select_X3_isSet : GoodIn wsX3_select (va_wsS RX3 38 yX3_isSet wsX3_isSet) := goodIn_app (goodIn_of _ (by decide +kernel)) ggX3_select_X3_isSet
set_option maxRecDepth 20000 in
theorem ggX3_select_X1_nth : GoodIn wsX3_select wsX1_nth := goodIn_r _ [9, 10, 11, 12, 13, 14, 15, 16, 17, 18, 19, 7, 20, 29] (by decide +kernel) (by decide +kernel)
set_option maxRecDepth 20000 in
theorem gX3_select_X1_nth_n95 : GoodIn wsX3_select (wsX1_nth) := ggX3_select_X1_nth
theorem dX3_select_0 : decode cX3_select 0 = .ok (.iload_n 1, 1) := by decide +kernel
theorem dX3_select_1 : decode cX3_select 1 = .ok (.invokestatic 38, 3) := by decide +kernel
theorem dX3_select_4 : decode cX3_select 4 = .ok (.ifCond .eq 7, 3) := by decide +kernel
theorem dX3_select_7 : decode cX3_select 7 = .ok (.iload_n 2, 1) := by decide +kernel
theorem dX3_select_8 : decode cX3_select 8 = .ok (.ifCond .ge 5, 3) := by decide +kernel
theorem dX3_select_11 : decode cX3_select 11 = .ok (.iconst (-1), 1) := by decide +kernel
theorem dX3_select_12 : decode cX3_select 12 = .ok (.ireturn, 1) := by decide +kernel
theorem dX3_select_13 : decode cX3_select 13 = .ok (.aload_n 0, 1) := by decide +kernel
theorem dX3_select_14 : decode cX3_select 14 = .ok (.getfield 10, 3) := by decide +kernel
theorem dX3_select_17 : decode cX3_select 17 = .ok (.getfield 50, 3) := by decide +kernel
theorem dX3_select_20 : decode cX3_select 20 = .ok (.iload_n 1, 1) := by decide +kernel
theorem dX3_select_21 : decode cX3_select 21 = .ok (.aaload, 1) := by decide +kernel
theorem dX3_select_22 : decode cX3_select 22 = .ok (.iload_n 2, 1) := by decide +kernel
theorem dX3_select_23 : decode cX3_select 23 = .ok (.invokevirtual 95, 3) := by decide +kernel
theorem dX3_select_26 : decode cX3_select 26 = .ok (.ireturn, 1) := by decide +kernel
set_option maxRecDepth 20000 in
theorem ggX3_near_X3_isSet : GoodIn wsX3_near wsX3_isSet := goodIn_r _ [5] (by decide +kernel) (by decide +kernel)
set_option maxRecDepth 20000 in
theorem gX3_near_X3_isSet : GoodIn wsX3_near (va_wsS RX3 38 yX3_isSet wsX3_isSet) := goodIn_app (goodIn_of _ (by decide +kernel)) ggX3_near_X3_isSet
set_option maxRecDepth 20000 in
theorem ggX3_near_X1_countIn : GoodIn wsX3_near wsX1_countIn := goodIn_r _ [9, 10, 11, 12, 7, 13, 14, 15, 16, 17, 18, 19, 20, 21, 22, 23, 24, 25, 26, 27, 28, 43] (by decide +kernel) (by decide +kernel)
set_option maxRecDepth 20000 in
theorem gX3_near_X1_countIn_n72 : GoodIn wsX3_near (wsX1_countIn) := ggX3_near_X1_countIn
set_option maxRecDepth 20000 in
theorem ggX3_near_X1_nth : GoodIn wsX3_near wsX1_nth := goodIn_r _ [31, 10, 22, 23, 24, 25, 26, 27, 28, 32, 33, 7, 34, 43] (by decide +kernel) (by decide +kernel)
set_option maxRecDepth 20000 in
theorem gX3_near_X1_nth_n95 : GoodIn wsX3_near (wsX1_nth) := ggX3_near_X1_nth
theorem dX3_near_0 : decode cX3_near 0 = .ok (.iload_n 1, 1) := by decide +kernel
theorem dX3_near_1 : decode cX3_near 1 = .ok (.invokestatic 38, 3) := by decide +kernel
theorem dX3_near_4 : decode cX3_near 4 = .ok (.ifCond .ne 5, 3) := by decide +kernel
theorem dX3_near_7 : decode cX3_near 7 = .ok (.iconst (-1), 1) := by decide +kernel
theorem dX3_near_8 : decode cX3_near 8 = .ok (.ireturn, 1) := by decide +kernel
theorem dX3_near_9 : decode cX3_near 9 = .ok (.aload_n 0, 1) := by decide +kernel
theorem dX3_near_10 : decode cX3_near 10 = .ok (.getfield 10, 3) := by decide +kernel
theorem dX3_near_13 : decode cX3_near 13 = .ok (.getfield 50, 3) := by decide +kernel
theorem dX3_near_16 : decode cX3_near 16 = .ok (.iload_n 1, 1) := by decide +kernel
theorem dX3_near_17 : decode cX3_near 17 = .ok (.aaload, 1) := by decide +kernel
theorem dX3_near_18 : decode cX3_near 18 = .ok (.astore 4, 2) := by decide +kernel
theorem dX3_near_20 : decode cX3_near 20 = .ok (.iload_n 3, 1) := by decide +kernel
theorem dX3_near_21 : decode cX3_near 21 = .ok (.ifCond .ne 18, 3) := by decide +kernel
theorem dX3_near_24 : decode cX3_near 24 = .ok (.aload 4, 2) := by decide +kernel
theorem dX3_near_26 : decode cX3_near 26 = .ok (.aload 4, 2) := by decide +kernel
theorem dX3_near_28 : decode cX3_near 28 = .ok (.iconst 0, 1) := by decide +kernel
theorem dX3_near_29 : decode cX3_near 29 = .ok (.iload_n 2, 1) := by decide +kernel
theorem dX3_near_30 : decode cX3_near 30 = .ok (.invokevirtual 72, 3) := by decide +kernel
theorem dX3_near_33 : decode cX3_near 33 = .ok (.iconst 1, 1) := by decide +kernel
theorem dX3_near_34 : decode cX3_near 34 = .ok (.isub, 1) := by decide +kernel
theorem dX3_near_35 : decode cX3_near 35 = .ok (.invokevirtual 95, 3) := by decide +kernel
theorem dX3_near_38 : decode cX3_near 38 = .ok (.ireturn, 1) := by decide +kernel
theorem dX3_near_39 : decode cX3_near 39 = .ok (.aload 4, 2) := by decide +kernel
theorem dX3_near_41 : decode cX3_near 41 = .ok (.iload_n 2, 1) := by decide +kernel
theorem dX3_near_42 : decode cX3_near 42 = .ok (.ifCond .gt 7, 3) := by decide +kernel
theorem dX3_near_45 : decode cX3_near 45 = .ok (.iconst 0, 1) := by decide +kernel
theorem dX3_near_46 : decode cX3_near 46 = .ok (.goto 12, 3) := by decide +kernel
theorem dX3_near_49 : decode cX3_near 49 = .ok (.aload 4, 2) := by decide +kernel
theorem dX3_near_51 : decode cX3_near 51 = .ok (.iconst 0, 1) := by decide +kernel
theorem dX3_near_52 : decode cX3_near 52 = .ok (.iload_n 2, 1) := by decide +kernel
theorem dX3_near_53 : decode cX3_near 53 = .ok (.iconst 1, 1) := by decide +kernel
theorem dX3_near_54 : decode cX3_near 54 = .ok (.isub, 1) := by decide +kernel
theorem dX3_near_55 : decode cX3_near 55 = .ok (.invokevirtual 72, 3) := by decide +kernel
theorem dX3_near_58 : decode cX3_near 58 = .ok (.invokevirtual 95, 3) := by decide +kernel
theorem dX3_near_61 : decode cX3_near 61 = .ok (.ireturn, 1) := by decide +kernel
set_option maxRecDepth 20000 in
theorem ggX3_runs_X3_isSet : GoodIn wsX3_runs wsX3_isSet := goodIn_r _ [5] (by decide +kernel) (by decide +kernel)
set_option maxRecDepth 20000 in
theorem gX3_runs_X3_isSet : GoodIn wsX3_runs (va_wsS RX3 38 yX3_isSet wsX3_isSet) := goodIn_app (goodIn_of _ (by decide +kernel)) ggX3_runs_X3_isSet
set_option maxRecDepth 20000 in
theorem ggX3_runs_X1_countRuns : GoodIn wsX3_runs wsX1_countRuns := goodIn_r _ [9, 10, 11, 12, 13, 7, 14, 15, 16, 17, 18, 19, 20, 21, 22, 31] (by decide +kernel) (by decide +kernel)
set_option maxRecDepth 20000 in
theorem gX3_runs_X1_countRuns_n99 : GoodIn wsX3_runs (wsX1_countRuns) := ggX3_runs_X1_countRuns
theorem dX3_runs_0 : decode cX3_runs 0 = .ok (.iload_n 1, 1) := by decide +kernel
theorem dX3_runs_1 : decode cX3_runs 1 = .ok (.invokestatic 38, 3) := by decide +kernel
theorem dX3_runs_4 : decode cX3_runs 4 = .ok (.ifCond .ne 5, 3) := by decide +kernel
theorem dX3_runs_7 : decode cX3_runs 7 = .ok (.iconst (-1), 1) := by decide +kernel
theorem dX3_runs_8 : decode cX3_runs 8 = .ok (.ireturn, 1) := by decide +kernel
theorem dX3_runs_9 : decode cX3_runs 9 = .ok (.aload_n 0, 1) := by decide +kernel
theorem dX3_runs_10 : decode cX3_runs 10 = .ok (.getfield 10, 3) := by decide +kernel
theorem dX3_runs_13 : decode cX3_runs 13 = .ok (.getfield 50, 3) := by decide +kernel
theorem dX3_runs_16 : decode cX3_runs 16 = .ok (.iload_n 1, 1) := by decide +kernel
theorem dX3_runs_17 : decode cX3_runs 17 = .ok (.aaload, 1) := by decide +kernel
theorem dX3_runs_18 : decode cX3_runs 18 = .ok (.iconst 0, 1) := by decide +kernel
theorem dX3_runs_19 : decode cX3_runs 19 = .ok (.bipush 16, 2) := by decide +kernel
theorem dX3_runs_21 : decode cX3_runs 21 = .ok (.invokevirtual 99, 3) := by decide +kernel
theorem dX3_runs_24 : decode cX3_runs 24 = .ok (.ireturn, 1) := by decide +kernel
set_option maxRecDepth 20000 in
theorem ggX3_run_X3_isSet : GoodIn wsX3_run wsX3_isSet := goodIn_r _ [5] (by decide +kernel) (by decide +kernel)
set_option maxRecDepth 20000 in
theorem gX3_run_X3_isSet : GoodIn wsX3_run (va_wsS RX3 38 yX3_isSet wsX3_isSet) := goodIn_app (goodIn_of _ (by decide +kernel)) ggX3_run_X3_isSet
set_option maxRecDepth 20000 in
theorem ggX3_run_X3_nthEdge : GoodIn wsX3_run wsX3_nthEdge := goodIn_r _ [9, 10, 11, 12, 13, 14, 15, 16, 17, 18, 19, 20, 21, 22, 23, 24, 25, 26, 27, 28, 29, 30, 31, 32, 33, 34, 35, 36, 37, 38, 39, 40, 41, 42, 43, 44, 48] (by decide +kernel) (by decide +kernel)
set_option maxRecDepth 20000 in
theorem gX3_run_X3_nthEdge : GoodIn wsX3_run (wsV RX3 102 RX3 yX3_nthEdge wsX3_nthEdge) := goodIn_app (goodIn_of _ (by decide +kernel)) ggX3_run_X3_nthEdge
theorem dX3_run_0 : decode cX3_run 0 = .ok (.iload_n 1, 1) := by decide +kernel
theorem dX3_run_1 : decode cX3_run 1 = .ok (.invokestatic 38, 3) := by decide +kernel
theorem dX3_run_4 : decode cX3_run 4 = .ok (.ifCond .eq 7, 3) := by decide +kernel
theorem dX3_run_7 : decode cX3_run 7 = .ok (.iload_n 2, 1) := by decide +kernel
theorem dX3_run_8 : decode cX3_run 8 = .ok (.ifCond .ge 5, 3) := by decide +kernel
theorem dX3_run_11 : decode cX3_run 11 = .ok (.iconst (-1), 1) := by decide +kernel
theorem dX3_run_12 : decode cX3_run 12 = .ok (.ireturn, 1) := by decide +kernel
theorem dX3_run_13 : decode cX3_run 13 = .ok (.aload_n 0, 1) := by decide +kernel
theorem dX3_run_14 : decode cX3_run 14 = .ok (.aload_n 0, 1) := by decide +kernel
theorem dX3_run_15 : decode cX3_run 15 = .ok (.getfield 10, 3) := by decide +kernel
theorem dX3_run_18 : decode cX3_run 18 = .ok (.getfield 50, 3) := by decide +kernel
theorem dX3_run_21 : decode cX3_run 21 = .ok (.iload_n 1, 1) := by decide +kernel
theorem dX3_run_22 : decode cX3_run 22 = .ok (.aaload, 1) := by decide +kernel
theorem dX3_run_23 : decode cX3_run 23 = .ok (.iconst 1, 1) := by decide +kernel
theorem dX3_run_24 : decode cX3_run 24 = .ok (.iload_n 2, 1) := by decide +kernel
theorem dX3_run_25 : decode cX3_run 25 = .ok (.invokevirtual 102, 3) := by decide +kernel
theorem dX3_run_28 : decode cX3_run 28 = .ok (.istore_n 3, 1) := by decide +kernel
theorem dX3_run_29 : decode cX3_run 29 = .ok (.aload_n 0, 1) := by decide +kernel
theorem dX3_run_30 : decode cX3_run 30 = .ok (.aload_n 0, 1) := by decide +kernel
theorem dX3_run_31 : decode cX3_run 31 = .ok (.getfield 10, 3) := by decide +kernel
theorem dX3_run_34 : decode cX3_run 34 = .ok (.getfield 50, 3) := by decide +kernel
theorem dX3_run_37 : decode cX3_run 37 = .ok (.iload_n 1, 1) := by decide +kernel
theorem dX3_run_38 : decode cX3_run 38 = .ok (.aaload, 1) := by decide +kernel
theorem dX3_run_39 : decode cX3_run 39 = .ok (.iconst (-1), 1) := by decide +kernel
theorem dX3_run_40 : decode cX3_run 40 = .ok (.iload_n 2, 1) := by decide +kernel
theorem dX3_run_41 : decode cX3_run 41 = .ok (.invokevirtual 102, 3) := by decide +kernel
theorem dX3_run_44 : decode cX3_run 44 = .ok (.istore 4, 2) := by decide +kernel
theorem dX3_run_46 : decode cX3_run 46 = .ok (.iload_n 3, 1) := by decide +kernel
theorem dX3_run_47 : decode cX3_run 47 = .ok (.bipush (-9), 2) := by decide +kernel
theorem dX3_run_49 : decode cX3_run 49 = .ok (.if_icmp .eq 10, 3) := by decide +kernel
theorem dX3_run_52 : decode cX3_run 52 = .ok (.iload 4, 2) := by decide +kernel
theorem dX3_run_54 : decode cX3_run 54 = .ok (.bipush (-9), 2) := by decide +kernel
theorem dX3_run_56 : decode cX3_run 56 = .ok (.if_icmp .ne 6, 3) := by decide +kernel
theorem dX3_run_59 : decode cX3_run 59 = .ok (.bipush (-9), 2) := by decide +kernel
theorem dX3_run_61 : decode cX3_run 61 = .ok (.ireturn, 1) := by decide +kernel
theorem dX3_run_62 : decode cX3_run 62 = .ok (.sipush 4096, 3) := by decide +kernel
theorem dX3_run_65 : decode cX3_run 65 = .ok (.iload_n 3, 1) := by decide +kernel
theorem dX3_run_66 : decode cX3_run 66 = .ok (.imul, 1) := by decide +kernel
theorem dX3_run_67 : decode cX3_run 67 = .ok (.iload 4, 2) := by decide +kernel
theorem dX3_run_69 : decode cX3_run 69 = .ok (.iadd, 1) := by decide +kernel
theorem dX3_run_70 : decode cX3_run 70 = .ok (.ireturn, 1) := by decide +kernel
set_option maxRecDepth 20000 in
theorem ggX3_piece_X3_isSet : GoodIn wsX3_piece wsX3_isSet := goodIn_r _ [5] (by decide +kernel) (by decide +kernel)
set_option maxRecDepth 20000 in
theorem gX3_piece_X3_isSet : GoodIn wsX3_piece (va_wsS RX3 38 yX3_isSet wsX3_isSet) := goodIn_app (goodIn_of _ (by decide +kernel)) ggX3_piece_X3_isSet
set_option maxRecDepth 20000 in
theorem ggX3_piece_X1_detail : GoodIn wsX3_piece wsX1_detail := goodIn_r _ [9, 10, 11, 12, 7, 13, 14, 15, 16, 17, 18, 19, 20, 21, 22, 23, 24, 25, 26, 27, 28, 29, 30, 31, 32, 33, 34, 35, 36, 37, 38, 47] (by decide +kernel) (by decide +kernel)
set_option maxRecDepth 20000 in
theorem gX3_piece_X1_detail_n106 : GoodIn wsX3_piece (wsX1_detail) := ggX3_piece_X1_detail
theorem dX3_piece_0 : decode cX3_piece 0 = .ok (.iload_n 1, 1) := by decide +kernel
theorem dX3_piece_1 : decode cX3_piece 1 = .ok (.invokestatic 38, 3) := by decide +kernel
theorem dX3_piece_4 : decode cX3_piece 4 = .ok (.ifCond .eq 13, 3) := by decide +kernel
theorem dX3_piece_7 : decode cX3_piece 7 = .ok (.iload_n 2, 1) := by decide +kernel
theorem dX3_piece_8 : decode cX3_piece 8 = .ok (.ifCond .lt 9, 3) := by decide +kernel
theorem dX3_piece_11 : decode cX3_piece 11 = .ok (.iload_n 2, 1) := by decide +kernel
theorem dX3_piece_12 : decode cX3_piece 12 = .ok (.bipush 16, 2) := by decide +kernel
theorem dX3_piece_14 : decode cX3_piece 14 = .ok (.if_icmp .lt 5, 3) := by decide +kernel
theorem dX3_piece_17 : decode cX3_piece 17 = .ok (.iconst (-1), 1) := by decide +kernel
theorem dX3_piece_18 : decode cX3_piece 18 = .ok (.ireturn, 1) := by decide +kernel
theorem dX3_piece_19 : decode cX3_piece 19 = .ok (.aload_n 0, 1) := by decide +kernel
theorem dX3_piece_20 : decode cX3_piece 20 = .ok (.getfield 10, 3) := by decide +kernel
theorem dX3_piece_23 : decode cX3_piece 23 = .ok (.getfield 50, 3) := by decide +kernel
theorem dX3_piece_26 : decode cX3_piece 26 = .ok (.iload_n 1, 1) := by decide +kernel
theorem dX3_piece_27 : decode cX3_piece 27 = .ok (.aaload, 1) := by decide +kernel
theorem dX3_piece_28 : decode cX3_piece 28 = .ok (.iload_n 2, 1) := by decide +kernel
theorem dX3_piece_29 : decode cX3_piece 29 = .ok (.iload_n 3, 1) := by decide +kernel
theorem dX3_piece_30 : decode cX3_piece 30 = .ok (.invokevirtual 106, 3) := by decide +kernel
theorem dX3_piece_33 : decode cX3_piece 33 = .ok (.ireturn, 1) := by decide +kernel
set_option maxRecDepth 20000 in
theorem ggX3_bytes_X3_isSet : GoodIn wsX3_bytes wsX3_isSet := goodIn_r _ [5] (by decide +kernel) (by decide +kernel)
set_option maxRecDepth 20000 in
theorem gX3_bytes_X3_isSet : GoodIn wsX3_bytes (va_wsS RX3 38 yX3_isSet wsX3_isSet) := goodIn_app (goodIn_of _ (by decide +kernel)) ggX3_bytes_X3_isSet
set_option maxRecDepth 20000 in
theorem ggX3_bytes_X1_costOf : GoodIn wsX3_bytes wsX1_costOf := goodIn_r _ [9, 10, 11, 12, 7, 13, 14, 15, 16, 17, 18, 19, 20, 21, 22, 23, 24, 25, 26, 27, 28, 29, 30, 31, 32, 33, 34, 43] (by decide +kernel) (by decide +kernel)
set_option maxRecDepth 20000 in
theorem gX3_bytes_X1_costOf_n109 : GoodIn wsX3_bytes (wsX1_costOf) := ggX3_bytes_X1_costOf
theorem dX3_bytes_0 : decode cX3_bytes 0 = .ok (.iload_n 1, 1) := by decide +kernel
theorem dX3_bytes_1 : decode cX3_bytes 1 = .ok (.invokestatic 38, 3) := by decide +kernel
theorem dX3_bytes_4 : decode cX3_bytes 4 = .ok (.ifCond .ne 5, 3) := by decide +kernel
theorem dX3_bytes_7 : decode cX3_bytes 7 = .ok (.iconst (-1), 1) := by decide +kernel
theorem dX3_bytes_8 : decode cX3_bytes 8 = .ok (.ireturn, 1) := by decide +kernel
theorem dX3_bytes_9 : decode cX3_bytes 9 = .ok (.iconst 0, 1) := by decide +kernel
theorem dX3_bytes_10 : decode cX3_bytes 10 = .ok (.istore_n 2, 1) := by decide +kernel
theorem dX3_bytes_11 : decode cX3_bytes 11 = .ok (.iconst 0, 1) := by decide +kernel
theorem dX3_bytes_12 : decode cX3_bytes 12 = .ok (.istore_n 3, 1) := by decide +kernel
theorem dX3_bytes_13 : decode cX3_bytes 13 = .ok (.iload_n 3, 1) := by decide +kernel
theorem dX3_bytes_14 : decode cX3_bytes 14 = .ok (.bipush 16, 2) := by decide +kernel
theorem dX3_bytes_16 : decode cX3_bytes 16 = .ok (.if_icmp .ge 25, 3) := by decide +kernel
theorem dX3_bytes_19 : decode cX3_bytes 19 = .ok (.iload_n 2, 1) := by decide +kernel
theorem dX3_bytes_20 : decode cX3_bytes 20 = .ok (.aload_n 0, 1) := by decide +kernel
theorem dX3_bytes_21 : decode cX3_bytes 21 = .ok (.getfield 10, 3) := by decide +kernel
theorem dX3_bytes_24 : decode cX3_bytes 24 = .ok (.getfield 50, 3) := by decide +kernel
theorem dX3_bytes_27 : decode cX3_bytes 27 = .ok (.iload_n 1, 1) := by decide +kernel
theorem dX3_bytes_28 : decode cX3_bytes 28 = .ok (.aaload, 1) := by decide +kernel
theorem dX3_bytes_29 : decode cX3_bytes 29 = .ok (.iload_n 3, 1) := by decide +kernel
theorem dX3_bytes_30 : decode cX3_bytes 30 = .ok (.invokevirtual 109, 3) := by decide +kernel
theorem dX3_bytes_33 : decode cX3_bytes 33 = .ok (.iadd, 1) := by decide +kernel
theorem dX3_bytes_34 : decode cX3_bytes 34 = .ok (.istore_n 2, 1) := by decide +kernel
theorem dX3_bytes_35 : decode cX3_bytes 35 = .ok (.iinc 3 1, 3) := by decide +kernel
theorem dX3_bytes_38 : decode cX3_bytes 38 = .ok (.goto (-25), 3) := by decide +kernel
theorem dX3_bytes_41 : decode cX3_bytes 41 = .ok (.iload_n 2, 1) := by decide +kernel
theorem dX3_bytes_42 : decode cX3_bytes 42 = .ok (.ireturn, 1) := by decide +kernel
set_option maxRecDepth 20000 in
theorem ggX3_byteAt_X3_isSet : GoodIn wsX3_byteAt wsX3_isSet := goodIn_r _ [5] (by decide +kernel) (by decide +kernel)
set_option maxRecDepth 20000 in
theorem gX3_byteAt_X3_isSet : GoodIn wsX3_byteAt (va_wsS RX3 38 yX3_isSet wsX3_isSet) := goodIn_app (goodIn_of _ (by decide +kernel)) ggX3_byteAt_X3_isSet
set_option maxRecDepth 20000 in
theorem ggX3_byteAt_X1_costOf : GoodIn wsX3_byteAt wsX1_costOf := goodIn_r _ [9, 10, 11, 12, 7, 13, 14, 15, 16, 17, 18, 19, 20, 21, 22, 23, 24, 25, 26, 27, 28, 29, 30, 31, 32, 33, 34, 86] (by decide +kernel) (by decide +kernel)
set_option maxRecDepth 20000 in
theorem gX3_byteAt_X1_costOf_n109 : GoodIn wsX3_byteAt (wsX1_costOf) := ggX3_byteAt_X1_costOf
set_option maxRecDepth 20000 in
theorem ggX3_byteAt_X1_writtenByte : GoodIn wsX3_byteAt wsX1_writtenByte := goodIn_r _ [37, 10, 11, 12, 7, 13, 14, 15, 16, 17, 18, 19, 20, 21, 22, 23, 24, 25, 26, 27, 28, 29, 30, 31, 32, 33, 34, 38, 39, 40, 41, 42, 43, 44, 45, 46, 47, 48, 49, 50, 51, 52, 53, 54, 55, 56, 57, 58, 59, 60, 61, 62, 63, 64, 65, 66, 67, 68, 69, 70, 71, 72, 73, 74, 75, 76, 4, 77, 86] (by decide +kernel) (by decide +kernel)
set_option maxRecDepth 20000 in
theorem gX3_byteAt_X1_writtenByte_n112 : GoodIn wsX3_byteAt (wsX1_writtenByte) := ggX3_byteAt_X1_writtenByte
theorem dX3_byteAt_0 : decode cX3_byteAt 0 = .ok (.iload_n 1, 1) := by decide +kernel
theorem dX3_byteAt_1 : decode cX3_byteAt 1 = .ok (.invokestatic 38, 3) := by decide +kernel
theorem dX3_byteAt_4 : decode cX3_byteAt 4 = .ok (.ifCond .eq 7, 3) := by decide +kernel
theorem dX3_byteAt_7 : decode cX3_byteAt 7 = .ok (.iload_n 2, 1) := by decide +kernel
theorem dX3_byteAt_8 : decode cX3_byteAt 8 = .ok (.ifCond .ge 5, 3) := by decide +kernel
theorem dX3_byteAt_11 : decode cX3_byteAt 11 = .ok (.iconst (-1), 1) := by decide +kernel
theorem dX3_byteAt_12 : decode cX3_byteAt 12 = .ok (.ireturn, 1) := by decide +kernel
theorem dX3_byteAt_13 : decode cX3_byteAt 13 = .ok (.aload_n 0, 1) := by decide +kernel
theorem dX3_byteAt_14 : decode cX3_byteAt 14 = .ok (.getfield 10, 3) := by decide +kernel
theorem dX3_byteAt_17 : decode cX3_byteAt 17 = .ok (.getfield 50, 3) := by decide +kernel
theorem dX3_byteAt_20 : decode cX3_byteAt 20 = .ok (.iload_n 1, 1) := by decide +kernel
theorem dX3_byteAt_21 : decode cX3_byteAt 21 = .ok (.aaload, 1) := by decide +kernel
theorem dX3_byteAt_22 : decode cX3_byteAt 22 = .ok (.astore_n 3, 1) := by decide +kernel
theorem dX3_byteAt_23 : decode cX3_byteAt 23 = .ok (.iload_n 2, 1) := by decide +kernel
theorem dX3_byteAt_24 : decode cX3_byteAt 24 = .ok (.istore 4, 2) := by decide +kernel
theorem dX3_byteAt_26 : decode cX3_byteAt 26 = .ok (.iconst 0, 1) := by decide +kernel
theorem dX3_byteAt_27 : decode cX3_byteAt 27 = .ok (.istore 5, 2) := by decide +kernel
theorem dX3_byteAt_29 : decode cX3_byteAt 29 = .ok (.iload 5, 2) := by decide +kernel
theorem dX3_byteAt_31 : decode cX3_byteAt 31 = .ok (.bipush 16, 2) := by decide +kernel
theorem dX3_byteAt_33 : decode cX3_byteAt 33 = .ok (.if_icmp .ge 40, 3) := by decide +kernel
theorem dX3_byteAt_36 : decode cX3_byteAt 36 = .ok (.aload_n 3, 1) := by decide +kernel
theorem dX3_byteAt_37 : decode cX3_byteAt 37 = .ok (.iload 5, 2) := by decide +kernel
theorem dX3_byteAt_39 : decode cX3_byteAt 39 = .ok (.invokevirtual 109, 3) := by decide +kernel
theorem dX3_byteAt_42 : decode cX3_byteAt 42 = .ok (.istore 6, 2) := by decide +kernel
theorem dX3_byteAt_44 : decode cX3_byteAt 44 = .ok (.iload 4, 2) := by decide +kernel
theorem dX3_byteAt_46 : decode cX3_byteAt 46 = .ok (.iload 6, 2) := by decide +kernel
theorem dX3_byteAt_48 : decode cX3_byteAt 48 = .ok (.if_icmp .ge 12, 3) := by decide +kernel
theorem dX3_byteAt_51 : decode cX3_byteAt 51 = .ok (.aload_n 3, 1) := by decide +kernel
theorem dX3_byteAt_52 : decode cX3_byteAt 52 = .ok (.iload 5, 2) := by decide +kernel
theorem dX3_byteAt_54 : decode cX3_byteAt 54 = .ok (.iload 4, 2) := by decide +kernel
theorem dX3_byteAt_56 : decode cX3_byteAt 56 = .ok (.invokevirtual 112, 3) := by decide +kernel
theorem dX3_byteAt_59 : decode cX3_byteAt 59 = .ok (.ireturn, 1) := by decide +kernel
theorem dX3_byteAt_60 : decode cX3_byteAt 60 = .ok (.iload 4, 2) := by decide +kernel
theorem dX3_byteAt_62 : decode cX3_byteAt 62 = .ok (.iload 6, 2) := by decide +kernel
theorem dX3_byteAt_64 : decode cX3_byteAt 64 = .ok (.isub, 1) := by decide +kernel
theorem dX3_byteAt_65 : decode cX3_byteAt 65 = .ok (.istore 4, 2) := by decide +kernel
theorem dX3_byteAt_67 : decode cX3_byteAt 67 = .ok (.iinc 5 1, 3) := by decide +kernel
theorem dX3_byteAt_70 : decode cX3_byteAt 70 = .ok (.goto (-41), 3) := by decide +kernel
theorem dX3_byteAt_73 : decode cX3_byteAt 73 = .ok (.bipush (-9), 2) := by decide +kernel
theorem dX3_byteAt_75 : decode cX3_byteAt 75 = .ok (.ireturn, 1) := by decide +kernel
set_option maxRecDepth 20000 in
theorem ggX3_put_X0_append : GoodIn wsX3_put wsX0_append := goodIn_r _ [5, 6, 7, 13, 14] (by decide +kernel) (by decide +kernel)
set_option maxRecDepth 20000 in
theorem gX3_put_X0_append_n115 : GoodIn wsX3_put (wsX0_append) := ggX3_put_X0_append
theorem dX3_put_0 : decode cX3_put 0 = .ok (.iload_n 1, 1) := by decide +kernel
theorem dX3_put_1 : decode cX3_put 1 = .ok (.ifCond .lt 10, 3) := by decide +kernel
theorem dX3_put_4 : decode cX3_put 4 = .ok (.iload_n 1, 1) := by decide +kernel
theorem dX3_put_5 : decode cX3_put 5 = .ok (.sipush 255, 3) := by decide +kernel
theorem dX3_put_8 : decode cX3_put 8 = .ok (.if_icmp .le 5, 3) := by decide +kernel
theorem dX3_put_11 : decode cX3_put 11 = .ok (.iconst (-1), 1) := by decide +kernel
theorem dX3_put_12 : decode cX3_put 12 = .ok (.ireturn, 1) := by decide +kernel
theorem dX3_put_13 : decode cX3_put 13 = .ok (.aload_n 0, 1) := by decide +kernel
theorem dX3_put_14 : decode cX3_put 14 = .ok (.getfield 27, 3) := by decide +kernel
theorem dX3_put_17 : decode cX3_put 17 = .ok (.iload_n 1, 1) := by decide +kernel
theorem dX3_put_18 : decode cX3_put 18 = .ok (.invokevirtual 115, 3) := by decide +kernel
theorem dX3_put_21 : decode cX3_put 21 = .ok (.ifCond .eq 13, 3) := by decide +kernel
theorem dX3_put_24 : decode cX3_put 24 = .ok (.aload_n 0, 1) := by decide +kernel
theorem dX3_put_25 : decode cX3_put 25 = .ok (.getfield 27, 3) := by decide +kernel
theorem dX3_put_28 : decode cX3_put 28 = .ok (.getfield 118, 3) := by decide +kernel
theorem dX3_put_31 : decode cX3_put 31 = .ok (.goto 5, 3) := by decide +kernel
theorem dX3_put_34 : decode cX3_put 34 = .ok (.bipush (-3), 2) := by decide +kernel
theorem dX3_put_36 : decode cX3_put 36 = .ok (.ireturn, 1) := by decide +kernel
theorem dX3_clear_0 : decode cX3_clear 0 = .ok (.aload_n 0, 1) := by decide +kernel
theorem dX3_clear_1 : decode cX3_clear 1 = .ok (.getfield 27, 3) := by decide +kernel
theorem dX3_clear_4 : decode cX3_clear 4 = .ok (.getfield 118, 3) := by decide +kernel
theorem dX3_clear_7 : decode cX3_clear 7 = .ok (.istore_n 1, 1) := by decide +kernel
theorem dX3_clear_8 : decode cX3_clear 8 = .ok (.aload_n 0, 1) := by decide +kernel
theorem dX3_clear_9 : decode cX3_clear 9 = .ok (.getfield 27, 3) := by decide +kernel
theorem dX3_clear_12 : decode cX3_clear 12 = .ok (.iconst 0, 1) := by decide +kernel
theorem dX3_clear_13 : decode cX3_clear 13 = .ok (.putfield 118, 3) := by decide +kernel
theorem dX3_clear_16 : decode cX3_clear 16 = .ok (.iload_n 1, 1) := by decide +kernel
theorem dX3_clear_17 : decode cX3_clear 17 = .ok (.ireturn, 1) := by decide +kernel
set_option maxRecDepth 20000 in
theorem ggX3_read_X3_isSet : GoodIn wsX3_read wsX3_isSet := goodIn_r _ [7] (by decide +kernel) (by decide +kernel)
set_option maxRecDepth 20000 in
theorem gX3_read_X3_isSet : GoodIn wsX3_read (va_wsS RX3 38 yX3_isSet wsX3_isSet) := goodIn_app (goodIn_of _ (by decide +kernel)) ggX3_read_X3_isSet
set_option maxRecDepth 20000 in
theorem ggX3_read_X0_parse : GoodIn wsX3_read wsX0_parse := goodIn_r _ [11, 12, 13, 14, 15, 16, 17, 18, 19, 20, 21, 22, 23, 6, 24, 25, 26, 27, 9, 28, 29, 30, 31, 32, 33, 34, 35, 36, 37, 38, 39, 40, 41, 42, 43, 44, 45, 46, 47, 48, 49, 50, 51, 52, 53, 54, 55, 56, 57, 58, 59, 60, 61, 62, 63, 64, 65, 66, 67, 68, 69, 70, 71, 72, 73, 74, 75, 76, 77, 78, 79, 80, 81, 117, 118, 119] (by decide +kernel) (by decide +kernel)
set_option maxRecDepth 20000 in
theorem gX3_read_X0_parse_n121 : GoodIn wsX3_read (wsX0_parse) := ggX3_read_X0_parse
set_option maxRecDepth 20000 in
theorem ggX3_read_X3_keepState : GoodIn wsX3_read wsX3_keepState := goodIn_r _ [85, 86, 87, 3, 88, 89, 90, 91, 92, 93, 94, 95, 96, 97, 98, 99, 15, 100, 101, 18, 102, 109, 110, 111, 112, 113, 114, 115, 116, 119] (by decide +kernel) (by decide +kernel)
set_option maxRecDepth 20000 in
theorem gX3_read_X3_keepState : GoodIn wsX3_read (wsV RX3 46 RX3 yX3_keepState wsX3_keepState) := goodIn_app (goodIn_of _ (by decide +kernel)) ggX3_read_X3_keepState
set_option maxRecDepth 20000 in
theorem ggX3_read_X1_become : GoodIn wsX3_read wsX1_become := goodIn_r _ [101, 18, 102, 95, 96, 97, 119] (by decide +kernel) (by decide +kernel)
set_option maxRecDepth 20000 in
theorem gX3_read_X1_become_n125 : GoodIn wsX3_read (wsX1_become) := ggX3_read_X1_become
set_option maxRecDepth 20000 in
theorem ggX3_read_X2_countConversions : GoodIn wsX3_read wsX2_countConversions := goodIn_r _ [105, 98, 60, 15, 61, 62, 63, 64, 65, 66, 67, 68, 69, 70, 18, 71, 72, 73, 74, 75, 76, 77, 78, 79, 80, 81, 59, 23, 6, 24, 114, 115, 116, 119] (by decide +kernel) (by decide +kernel)
set_option maxRecDepth 20000 in
theorem gX3_read_X2_countConversions_n58 : GoodIn wsX3_read (wsX2_countConversions) := ggX3_read_X2_countConversions
set_option maxRecDepth 20000 in
theorem ggX3_read_X1_count : GoodIn wsX3_read wsX1_count := goodIn_r _ [108, 63, 64, 65, 15, 66, 67, 68, 69, 70, 18, 71, 72, 73, 74, 75, 76, 77, 119] (by decide +kernel) (by decide +kernel)
set_option maxRecDepth 20000 in
theorem gX3_read_X1_count_n62 : GoodIn wsX3_read (wsX1_count) := ggX3_read_X1_count
theorem dX3_read_0 : decode cX3_read 0 = .ok (.iload_n 1, 1) := by decide +kernel
theorem dX3_read_1 : decode cX3_read 1 = .ok (.invokestatic 38, 3) := by decide +kernel
theorem dX3_read_4 : decode cX3_read 4 = .ok (.ifCond .ne 5, 3) := by decide +kernel
theorem dX3_read_7 : decode cX3_read 7 = .ok (.iconst (-1), 1) := by decide +kernel
theorem dX3_read_8 : decode cX3_read 8 = .ok (.ireturn, 1) := by decide +kernel
theorem dX3_read_9 : decode cX3_read 9 = .ok (.aload_n 0, 1) := by decide +kernel
theorem dX3_read_10 : decode cX3_read 10 = .ok (.getfield 27, 3) := by decide +kernel
theorem dX3_read_13 : decode cX3_read 13 = .ok (.aload_n 0, 1) := by decide +kernel
theorem dX3_read_14 : decode cX3_read 14 = .ok (.getfield 34, 3) := by decide +kernel
theorem dX3_read_17 : decode cX3_read 17 = .ok (.invokevirtual 121, 3) := by decide +kernel
theorem dX3_read_20 : decode cX3_read 20 = .ok (.istore_n 2, 1) := by decide +kernel
theorem dX3_read_21 : decode cX3_read 21 = .ok (.iload_n 2, 1) := by decide +kernel
theorem dX3_read_22 : decode cX3_read 22 = .ok (.ifCond .lt 8, 3) := by decide +kernel
theorem dX3_read_25 : decode cX3_read 25 = .ok (.bipush (-100), 2) := by decide +kernel
theorem dX3_read_27 : decode cX3_read 27 = .ok (.iload_n 2, 1) := by decide +kernel
theorem dX3_read_28 : decode cX3_read 28 = .ok (.isub, 1) := by decide +kernel
theorem dX3_read_29 : decode cX3_read 29 = .ok (.ireturn, 1) := by decide +kernel
theorem dX3_read_30 : decode cX3_read 30 = .ok (.aload_n 0, 1) := by decide +kernel
theorem dX3_read_31 : decode cX3_read 31 = .ok (.invokevirtual 46, 3) := by decide +kernel
theorem dX3_read_34 : decode cX3_read 34 = .ok (.getfield 50, 3) := by decide +kernel
theorem dX3_read_37 : decode cX3_read 37 = .ok (.iload_n 1, 1) := by decide +kernel
theorem dX3_read_38 : decode cX3_read 38 = .ok (.aaload, 1) := by decide +kernel
theorem dX3_read_39 : decode cX3_read 39 = .ok (.astore_n 3, 1) := by decide +kernel
theorem dX3_read_40 : decode cX3_read 40 = .ok (.aload_n 0, 1) := by decide +kernel
theorem dX3_read_41 : decode cX3_read 41 = .ok (.getfield 10, 3) := by decide +kernel
theorem dX3_read_44 : decode cX3_read 44 = .ok (.getfield 50, 3) := by decide +kernel
theorem dX3_read_47 : decode cX3_read 47 = .ok (.iload_n 1, 1) := by decide +kernel
theorem dX3_read_48 : decode cX3_read 48 = .ok (.aaload, 1) := by decide +kernel
theorem dX3_read_49 : decode cX3_read 49 = .ok (.astore 4, 2) := by decide +kernel
theorem dX3_read_51 : decode cX3_read 51 = .ok (.aload 4, 2) := by decide +kernel
theorem dX3_read_53 : decode cX3_read 53 = .ok (.aload_n 0, 1) := by decide +kernel
theorem dX3_read_54 : decode cX3_read 54 = .ok (.getfield 34, 3) := by decide +kernel
theorem dX3_read_57 : decode cX3_read 57 = .ok (.invokevirtual 125, 3) := by decide +kernel
theorem dX3_read_60 : decode cX3_read 60 = .ok (.aload_n 0, 1) := by decide +kernel
theorem dX3_read_61 : decode cX3_read 61 = .ok (.getfield 10, 3) := by decide +kernel
theorem dX3_read_64 : decode cX3_read 64 = .ok (.aload_n 3, 1) := by decide +kernel
theorem dX3_read_65 : decode cX3_read 65 = .ok (.aload 4, 2) := by decide +kernel
theorem dX3_read_67 : decode cX3_read 67 = .ok (.invokevirtual 58, 3) := by decide +kernel
theorem dX3_read_70 : decode cX3_read 70 = .ok (.aload_n 0, 1) := by decide +kernel
theorem dX3_read_71 : decode cX3_read 71 = .ok (.getfield 27, 3) := by decide +kernel
theorem dX3_read_74 : decode cX3_read 74 = .ok (.iconst 0, 1) := by decide +kernel
theorem dX3_read_75 : decode cX3_read 75 = .ok (.putfield 118, 3) := by decide +kernel
theorem dX3_read_78 : decode cX3_read 78 = .ok (.aload 4, 2) := by decide +kernel
theorem dX3_read_80 : decode cX3_read 80 = .ok (.invokevirtual 62, 3) := by decide +kernel
theorem dX3_read_83 : decode cX3_read 83 = .ok (.ireturn, 1) := by decide +kernel
set_option maxRecDepth 20000 in
theorem ggX3_compare_X3_isSet : GoodIn wsX3_compare wsX3_isSet := goodIn_r _ [6] (by decide +kernel) (by decide +kernel)
set_option maxRecDepth 20000 in
theorem gX3_compare_X3_isSet : GoodIn wsX3_compare (va_wsS RX3 38 yX3_isSet wsX3_isSet) := goodIn_app (goodIn_of _ (by decide +kernel)) ggX3_compare_X3_isSet
set_option maxRecDepth 20000 in
theorem ggX3_compare_X3_countJoin : GoodIn wsX3_compare wsX3_countJoin := goodIn_r _ [10, 1, 2, 11, 12, 13, 14, 15, 16, 17, 18, 19, 20, 21, 22, 23, 24, 25, 26, 27, 28, 29, 30, 31, 32, 33, 34, 35, 36, 37, 48, 49, 50, 51, 52, 53, 54, 55, 56] (by decide +kernel) (by decide +kernel)
set_option maxRecDepth 20000 in
theorem gX3_compare_X3_countJoin : GoodIn wsX3_compare (wsV RX3 129 RX3 yX3_countJoin wsX3_countJoin) := goodIn_app (goodIn_of _ (by decide +kernel)) ggX3_compare_X3_countJoin
set_option maxRecDepth 20000 in
theorem ggX3_compare_X3_countSamePieces : GoodIn wsX3_compare wsX3_countSamePieces := goodIn_r _ [41, 1, 2, 11, 12, 13, 14, 15, 16, 17, 18, 19, 24, 25, 26, 27, 28, 29, 30, 31, 32, 33, 34, 35, 36, 37, 48, 49, 50, 51, 52, 53, 54, 55, 56] (by decide +kernel) (by decide +kernel)
set_option maxRecDepth 20000 in
theorem gX3_compare_X3_countSamePieces : GoodIn wsX3_compare (wsV RX3 133 RX3 yX3_countSamePieces wsX3_countSamePieces) := goodIn_app (goodIn_of _ (by decide +kernel)) ggX3_compare_X3_countSamePieces
set_option maxRecDepth 20000 in
theorem ggX3_compare_X1_becomeJoin : GoodIn wsX3_compare wsX1_becomeJoin := goodIn_r _ [14, 15, 16, 17, 12, 18, 19, 56] (by decide +kernel) (by decide +kernel)
set_option maxRecDepth 20000 in
theorem gX3_compare_X1_becomeJoin_n81 : GoodIn wsX3_compare (wsX1_becomeJoin) := ggX3_compare_X1_becomeJoin
set_option maxRecDepth 20000 in
theorem ggX3_compare_X1_nth : GoodIn wsX3_compare wsX1_nth := goodIn_r _ [44, 15, 31, 32, 33, 34, 35, 36, 37, 45, 46, 12, 47, 56] (by decide +kernel) (by decide +kernel)
set_option maxRecDepth 20000 in
theorem gX3_compare_X1_nth_n95 : GoodIn wsX3_compare (wsX1_nth) := ggX3_compare_X1_nth
theorem dX3_compare_0 : decode cX3_compare 0 = .ok (.iload_n 1, 1) := by decide +kernel
theorem dX3_compare_1 : decode cX3_compare 1 = .ok (.invokestatic 38, 3) := by decide +kernel
theorem dX3_compare_4 : decode cX3_compare 4 = .ok (.ifCond .eq 10, 3) := by decide +kernel
theorem dX3_compare_7 : decode cX3_compare 7 = .ok (.iload_n 2, 1) := by decide +kernel
theorem dX3_compare_8 : decode cX3_compare 8 = .ok (.invokestatic 38, 3) := by decide +kernel
theorem dX3_compare_11 : decode cX3_compare 11 = .ok (.ifCond .ne 5, 3) := by decide +kernel
theorem dX3_compare_14 : decode cX3_compare 14 = .ok (.iconst (-1), 1) := by decide +kernel
theorem dX3_compare_15 : decode cX3_compare 15 = .ok (.ireturn, 1) := by decide +kernel
theorem dX3_compare_16 : decode cX3_compare 16 = .ok (.iload_n 3, 1) := by decide +kernel
theorem dX3_compare_17 : decode cX3_compare 17 = .ok (.tableswitch 109 0 4 #[35, 43, 51, 67, 74], 35) := by decide +kernel
theorem dX3_compare_52 : decode cX3_compare 52 = .ok (.aload_n 0, 1) := by decide +kernel
theorem dX3_compare_53 : decode cX3_compare 53 = .ok (.iconst 0, 1) := by decide +kernel
theorem dX3_compare_54 : decode cX3_compare 54 = .ok (.iload_n 1, 1) := by decide +kernel
theorem dX3_compare_55 : decode cX3_compare 55 = .ok (.iload_n 2, 1) := by decide +kernel
theorem dX3_compare_56 : decode cX3_compare 56 = .ok (.invokevirtual 129, 3) := by decide +kernel
theorem dX3_compare_59 : decode cX3_compare 59 = .ok (.ireturn, 1) := by decide +kernel
theorem dX3_compare_60 : decode cX3_compare 60 = .ok (.aload_n 0, 1) := by decide +kernel
theorem dX3_compare_61 : decode cX3_compare 61 = .ok (.iconst 2, 1) := by decide +kernel
theorem dX3_compare_62 : decode cX3_compare 62 = .ok (.iload_n 1, 1) := by decide +kernel
theorem dX3_compare_63 : decode cX3_compare 63 = .ok (.iload_n 2, 1) := by decide +kernel
theorem dX3_compare_64 : decode cX3_compare 64 = .ok (.invokevirtual 129, 3) := by decide +kernel
theorem dX3_compare_67 : decode cX3_compare 67 = .ok (.ireturn, 1) := by decide +kernel
theorem dX3_compare_68 : decode cX3_compare 68 = .ok (.aload_n 0, 1) := by decide +kernel
theorem dX3_compare_69 : decode cX3_compare 69 = .ok (.iconst 3, 1) := by decide +kernel
theorem dX3_compare_70 : decode cX3_compare 70 = .ok (.iload_n 1, 1) := by decide +kernel
theorem dX3_compare_71 : decode cX3_compare 71 = .ok (.iload_n 2, 1) := by decide +kernel
theorem dX3_compare_72 : decode cX3_compare 72 = .ok (.invokevirtual 129, 3) := by decide +kernel
theorem dX3_compare_75 : decode cX3_compare 75 = .ok (.ifCond .ne 7, 3) := by decide +kernel
theorem dX3_compare_78 : decode cX3_compare 78 = .ok (.iconst 1, 1) := by decide +kernel
theorem dX3_compare_79 : decode cX3_compare 79 = .ok (.goto 4, 3) := by decide +kernel
