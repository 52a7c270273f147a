theorem dX1_nthBorder_0 : decode cX1_nthBorder 0 = .ok (.iload_n 2, 1) := by decide +kernel
theorem dX1_nthBorder_1 : decode cX1_nthBorder 1 = .ok (.istore_n 3, 1) := by decide +kernel
theorem dX1_nthBorder_2 : decode cX1_nthBorder 2 = .ok (.iconst 0, 1) := by decide +kernel
theorem dX1_nthBorder_3 : decode cX1_nthBorder 3 = .ok (.istore 4, 2) := by decide +kernel
theorem dX1_nthBorder_5 : decode cX1_nthBorder 5 = .ok (.iload 4, 2) := by decide +kernel
theorem dX1_nthBorder_7 : decode cX1_nthBorder 7 = .ok (.sipush 256, 3) := by decide +kernel
theorem dX1_nthBorder_10 : decode cX1_nthBorder 10 = .ok (.if_icmp .ge 83, 3) := by decide +kernel
theorem dX1_nthBorder_13 : decode cX1_nthBorder 13 = .ok (.sipush 256, 3) := by decide +kernel
theorem dX1_nthBorder_16 : decode cX1_nthBorder 16 = .ok (.iload_n 1, 1) := by decide +kernel
theorem dX1_nthBorder_17 : decode cX1_nthBorder 17 = .ok (.imul, 1) := by decide +kernel
theorem dX1_nthBorder_18 : decode cX1_nthBorder 18 = .ok (.iload 4, 2) := by decide +kernel
theorem dX1_nthBorder_20 : decode cX1_nthBorder 20 = .ok (.iadd, 1) := by decide +kernel
theorem dX1_nthBorder_21 : decode cX1_nthBorder 21 = .ok (.istore 5, 2) := by decide +kernel
theorem dX1_nthBorder_23 : decode cX1_nthBorder 23 = .ok (.aload_n 0, 1) := by decide +kernel
theorem dX1_nthBorder_24 : decode cX1_nthBorder 24 = .ok (.iload 5, 2) := by decide +kernel
theorem dX1_nthBorder_26 : decode cX1_nthBorder 26 = .ok (.invokevirtual 94, 3) := by decide +kernel
theorem dX1_nthBorder_29 : decode cX1_nthBorder 29 = .ok (.ifCond .eq 58, 3) := by decide +kernel
theorem dX1_nthBorder_32 : decode cX1_nthBorder 32 = .ok (.iload 4, 2) := by decide +kernel
theorem dX1_nthBorder_34 : decode cX1_nthBorder 34 = .ok (.ifCond .eq 14, 3) := by decide +kernel
theorem dX1_nthBorder_37 : decode cX1_nthBorder 37 = .ok (.aload_n 0, 1) := by decide +kernel
theorem dX1_nthBorder_38 : decode cX1_nthBorder 38 = .ok (.iload 5, 2) := by decide +kernel
theorem dX1_nthBorder_40 : decode cX1_nthBorder 40 = .ok (.iconst 1, 1) := by decide +kernel
theorem dX1_nthBorder_41 : decode cX1_nthBorder 41 = .ok (.isub, 1) := by decide +kernel
theorem dX1_nthBorder_42 : decode cX1_nthBorder 42 = .ok (.invokevirtual 94, 3) := by decide +kernel
theorem dX1_nthBorder_45 : decode cX1_nthBorder 45 = .ok (.ifCond .ne 13, 3) := by decide +kernel
theorem dX1_nthBorder_48 : decode cX1_nthBorder 48 = .ok (.iload_n 3, 1) := by decide +kernel
theorem dX1_nthBorder_49 : decode cX1_nthBorder 49 = .ok (.ifCond .ne 6, 3) := by decide +kernel
theorem dX1_nthBorder_52 : decode cX1_nthBorder 52 = .ok (.iload 4, 2) := by decide +kernel
theorem dX1_nthBorder_54 : decode cX1_nthBorder 54 = .ok (.ireturn, 1) := by decide +kernel
theorem dX1_nthBorder_55 : decode cX1_nthBorder 55 = .ok (.iinc 3 (-1), 3) := by decide +kernel
theorem dX1_nthBorder_58 : decode cX1_nthBorder 58 = .ok (.iload 4, 2) := by decide +kernel
theorem dX1_nthBorder_60 : decode cX1_nthBorder 60 = .ok (.sipush 255, 3) := by decide +kernel
theorem dX1_nthBorder_63 : decode cX1_nthBorder 63 = .ok (.if_icmp .eq 14, 3) := by decide +kernel
theorem dX1_nthBorder_66 : decode cX1_nthBorder 66 = .ok (.aload_n 0, 1) := by decide +kernel
theorem dX1_nthBorder_67 : decode cX1_nthBorder 67 = .ok (.iload 5, 2) := by decide +kernel
theorem dX1_nthBorder_69 : decode cX1_nthBorder 69 = .ok (.iconst 1, 1) := by decide +kernel
theorem dX1_nthBorder_70 : decode cX1_nthBorder 70 = .ok (.iadd, 1) := by decide +kernel
theorem dX1_nthBorder_71 : decode cX1_nthBorder 71 = .ok (.invokevirtual 94, 3) := by decide +kernel
theorem dX1_nthBorder_74 : decode cX1_nthBorder 74 = .ok (.ifCond .ne 13, 3) := by decide +kernel
theorem dX1_nthBorder_77 : decode cX1_nthBorder 77 = .ok (.iload_n 3, 1) := by decide +kernel
theorem dX1_nthBorder_78 : decode cX1_nthBorder 78 = .ok (.ifCond .ne 6, 3) := by decide +kernel
theorem dX1_nthBorder_81 : decode cX1_nthBorder 81 = .ok (.iload 4, 2) := by decide +kernel
theorem dX1_nthBorder_83 : decode cX1_nthBorder 83 = .ok (.ireturn, 1) := by decide +kernel
theorem dX1_nthBorder_84 : decode cX1_nthBorder 84 = .ok (.iinc 3 (-1), 3) := by decide +kernel
theorem dX1_nthBorder_87 : decode cX1_nthBorder 87 = .ok (.iinc 4 1, 3) := by decide +kernel
theorem dX1_nthBorder_90 : decode cX1_nthBorder 90 = .ok (.goto (-85), 3) := by decide +kernel
theorem dX1_nthBorder_93 : decode cX1_nthBorder 93 = .ok (.bipush (-9), 2) := by decide +kernel
theorem dX1_nthBorder_95 : decode cX1_nthBorder 95 = .ok (.ireturn, 1) := by decide +kernel
set_option maxRecDepth 20000 in
theorem ggX2_init_X1_init : GoodIn wsX2_init wsX1_init := goodIn_r _ [12, 13, 2, 3, 14, 15, 19] (by decide +kernel) (by decide +kernel)
set_option maxRecDepth 20000 in
theorem gX2_init_X1_init_n17 : GoodIn wsX2_init (wsX1_init) := ggX2_init_X1_init
theorem dX2_init_0 : decode cX2_init 0 = .ok (.aload_n 0, 1) := by decide +kernel
theorem dX2_init_1 : decode cX2_init 1 = .ok (.invokespecial 3, 3) := by decide +kernel
theorem dX2_init_4 : decode cX2_init 4 = .ok (.aload_n 0, 1) := by decide +kernel
theorem dX2_init_5 : decode cX2_init 5 = .ok (.bipush 6, 2) := by decide +kernel
theorem dX2_init_7 : decode cX2_init 7 = .ok (.anewarray 9, 3) := by decide +kernel
theorem dX2_init_10 : decode cX2_init 10 = .ok (.putfield 11, 3) := by decide +kernel
theorem dX2_init_13 : decode cX2_init 13 = .ok (.iconst 0, 1) := by decide +kernel
theorem dX2_init_14 : decode cX2_init 14 = .ok (.istore_n 1, 1) := by decide +kernel
theorem dX2_init_15 : decode cX2_init 15 = .ok (.iload_n 1, 1) := by decide +kernel
theorem dX2_init_16 : decode cX2_init 16 = .ok (.bipush 6, 2) := by decide +kernel
theorem dX2_init_18 : decode cX2_init 18 = .ok (.if_icmp .ge 22, 3) := by decide +kernel
theorem dX2_init_21 : decode cX2_init 21 = .ok (.aload_n 0, 1) := by decide +kernel
theorem dX2_init_22 : decode cX2_init 22 = .ok (.getfield 11, 3) := by decide +kernel
theorem dX2_init_25 : decode cX2_init 25 = .ok (.iload_n 1, 1) := by decide +kernel
theorem dX2_init_26 : decode cX2_init 26 = .ok (.new 9, 3) := by decide +kernel
theorem dX2_init_29 : decode cX2_init 29 = .ok (.dup, 1) := by decide +kernel
theorem dX2_init_30 : decode cX2_init 30 = .ok (.invokespecial 17, 3) := by decide +kernel
theorem dX2_init_33 : decode cX2_init 33 = .ok (.aastore, 1) := by decide +kernel
theorem dX2_init_34 : decode cX2_init 34 = .ok (.iinc 1 1, 3) := by decide +kernel
theorem dX2_init_37 : decode cX2_init 37 = .ok (.goto (-22), 3) := by decide +kernel
theorem dX2_init_40 : decode cX2_init 40 = .ok (.aload_n 0, 1) := by decide +kernel
theorem dX2_init_41 : decode cX2_init 41 = .ok (.bipush 9, 2) := by decide +kernel
theorem dX2_init_43 : decode cX2_init 43 = .ok (.newarray .int, 2) := by decide +kernel
theorem dX2_init_45 : decode cX2_init 45 = .ok (.putfield 18, 3) := by decide +kernel
theorem dX2_init_48 : decode cX2_init 48 = .ok (.aload_n 0, 1) := by decide +kernel
theorem dX2_init_49 : decode cX2_init 49 = .ok (.bipush 9, 2) := by decide +kernel
theorem dX2_init_51 : decode cX2_init 51 = .ok (.newarray .int, 2) := by decide +kernel
theorem dX2_init_53 : decode cX2_init 53 = .ok (.putfield 22, 3) := by decide +kernel
theorem dX2_init_56 : decode cX2_init 56 = .ok (.return_, 1) := by decide +kernel
set_option maxRecDepth 20000 in
theorem ggX2_become_X1_become : GoodIn wsX2_become wsX1_become := goodIn_r _ [11, 12, 13, 4, 5, 6, 17] (by decide +kernel) (by decide +kernel)
set_option maxRecDepth 20000 in
theorem gX2_become_X1_become_n25 : GoodIn wsX2_become (wsX1_become) := ggX2_become_X1_become
theorem dX2_become_0 : decode cX2_become 0 = .ok (.iconst 0, 1) := by decide +kernel
theorem dX2_become_1 : decode cX2_become 1 = .ok (.istore_n 2, 1) := by decide +kernel
theorem dX2_become_2 : decode cX2_become 2 = .ok (.iload_n 2, 1) := by decide +kernel
theorem dX2_become_3 : decode cX2_become 3 = .ok (.bipush 6, 2) := by decide +kernel
theorem dX2_become_5 : decode cX2_become 5 = .ok (.if_icmp .ge 24, 3) := by decide +kernel
theorem dX2_become_8 : decode cX2_become 8 = .ok (.aload_n 0, 1) := by decide +kernel
theorem dX2_become_9 : decode cX2_become 9 = .ok (.getfield 11, 3) := by decide +kernel
theorem dX2_become_12 : decode cX2_become 12 = .ok (.iload_n 2, 1) := by decide +kernel
theorem dX2_become_13 : decode cX2_become 13 = .ok (.aaload, 1) := by decide +kernel
theorem dX2_become_14 : decode cX2_become 14 = .ok (.aload_n 1, 1) := by decide +kernel
theorem dX2_become_15 : decode cX2_become 15 = .ok (.getfield 11, 3) := by decide +kernel
theorem dX2_become_18 : decode cX2_become 18 = .ok (.iload_n 2, 1) := by decide +kernel
theorem dX2_become_19 : decode cX2_become 19 = .ok (.aaload, 1) := by decide +kernel
theorem dX2_become_20 : decode cX2_become 20 = .ok (.invokevirtual 25, 3) := by decide +kernel
theorem dX2_become_23 : decode cX2_become 23 = .ok (.iinc 2 1, 3) := by decide +kernel
theorem dX2_become_26 : decode cX2_become 26 = .ok (.goto (-24), 3) := by decide +kernel
theorem dX2_become_29 : decode cX2_become 29 = .ok (.aload_n 1, 1) := by decide +kernel
theorem dX2_become_30 : decode cX2_become 30 = .ok (.getfield 18, 3) := by decide +kernel
theorem dX2_become_33 : decode cX2_become 33 = .ok (.iconst 0, 1) := by decide +kernel
theorem dX2_become_34 : decode cX2_become 34 = .ok (.aload_n 0, 1) := by decide +kernel
theorem dX2_become_35 : decode cX2_become 35 = .ok (.getfield 18, 3) := by decide +kernel
theorem dX2_become_38 : decode cX2_become 38 = .ok (.iconst 0, 1) := by decide +kernel
theorem dX2_become_39 : decode cX2_become 39 = .ok (.bipush 9, 2) := by decide +kernel
theorem dX2_become_41 : decode cX2_become 41 = .ok (.invokestatic 29, 3) := by decide +kernel
theorem dX2_become_44 : decode cX2_become 44 = .ok (.aload_n 1, 1) := by decide +kernel
theorem dX2_become_45 : decode cX2_become 45 = .ok (.getfield 22, 3) := by decide +kernel
theorem dX2_become_48 : decode cX2_become 48 = .ok (.iconst 0, 1) := by decide +kernel
theorem dX2_become_49 : decode cX2_become 49 = .ok (.aload_n 0, 1) := by decide +kernel
theorem dX2_become_50 : decode cX2_become 50 = .ok (.getfield 22, 3) := by decide +kernel
theorem dX2_become_53 : decode cX2_become 53 = .ok (.iconst 0, 1) := by decide +kernel
theorem dX2_become_54 : decode cX2_become 54 = .ok (.bipush 9, 2) := by decide +kernel
theorem dX2_become_56 : decode cX2_become 56 = .ok (.invokestatic 29, 3) := by decide +kernel
theorem dX2_become_59 : decode cX2_become 59 = .ok (.return_, 1) := by decide +kernel
set_option maxRecDepth 20000 in
theorem ggX2_countMeetings_X1_kindOf : GoodIn wsX2_countMeetings wsX1_kindOf := goodIn_r _ [5, 6, 7, 8, 3, 9, 10, 11, 12, 13, 14, 15, 16, 17, 18, 19, 20, 21, 22, 23, 24, 25, 26, 33] (by decide +kernel) (by decide +kernel)
set_option maxRecDepth 20000 in
theorem gX2_countMeetings_X1_kindOf_n35 : GoodIn wsX2_countMeetings (wsX1_kindOf) := ggX2_countMeetings_X1_kindOf
set_option maxRecDepth 20000 in
theorem ggX2_countMeetings_X3_isKind : GoodIn wsX2_countMeetings wsX3_isKind := goodIn_r _ [29] (by decide +kernel) (by decide +kernel)
set_option maxRecDepth 20000 in
theorem gX2_countMeetings_X3_isKind_n39 : GoodIn wsX2_countMeetings (wsX3_isKind) := ggX2_countMeetings_X3_isKind
theorem dX2_countMeetings_0 : decode cX2_countMeetings 0 = .ok (.iconst 0, 1) := by decide +kernel
theorem dX2_countMeetings_1 : decode cX2_countMeetings 1 = .ok (.istore_n 3, 1) := by decide +kernel
theorem dX2_countMeetings_2 : decode cX2_countMeetings 2 = .ok (.iload_n 3, 1) := by decide +kernel
theorem dX2_countMeetings_3 : decode cX2_countMeetings 3 = .ok (.bipush 16, 2) := by decide +kernel
theorem dX2_countMeetings_5 : decode cX2_countMeetings 5 = .ok (.if_icmp .ge 55, 3) := by decide +kernel
theorem dX2_countMeetings_8 : decode cX2_countMeetings 8 = .ok (.aload_n 1, 1) := by decide +kernel
theorem dX2_countMeetings_9 : decode cX2_countMeetings 9 = .ok (.iload_n 3, 1) := by decide +kernel
theorem dX2_countMeetings_10 : decode cX2_countMeetings 10 = .ok (.invokevirtual 35, 3) := by decide +kernel
theorem dX2_countMeetings_13 : decode cX2_countMeetings 13 = .ok (.istore 4, 2) := by decide +kernel
theorem dX2_countMeetings_15 : decode cX2_countMeetings 15 = .ok (.aload_n 2, 1) := by decide +kernel
theorem dX2_countMeetings_16 : decode cX2_countMeetings 16 = .ok (.iload_n 3, 1) := by decide +kernel
theorem dX2_countMeetings_17 : decode cX2_countMeetings 17 = .ok (.invokevirtual 35, 3) := by decide +kernel
theorem dX2_countMeetings_20 : decode cX2_countMeetings 20 = .ok (.istore 5, 2) := by decide +kernel
theorem dX2_countMeetings_22 : decode cX2_countMeetings 22 = .ok (.iload 4, 2) := by decide +kernel
theorem dX2_countMeetings_24 : decode cX2_countMeetings 24 = .ok (.invokestatic 39, 3) := by decide +kernel
theorem dX2_countMeetings_27 : decode cX2_countMeetings 27 = .ok (.ifCond .eq 27, 3) := by decide +kernel
theorem dX2_countMeetings_30 : decode cX2_countMeetings 30 = .ok (.iload 5, 2) := by decide +kernel
theorem dX2_countMeetings_32 : decode cX2_countMeetings 32 = .ok (.invokestatic 39, 3) := by decide +kernel
theorem dX2_countMeetings_35 : decode cX2_countMeetings 35 = .ok (.ifCond .eq 19, 3) := by decide +kernel
theorem dX2_countMeetings_38 : decode cX2_countMeetings 38 = .ok (.aload_n 0, 1) := by decide +kernel
theorem dX2_countMeetings_39 : decode cX2_countMeetings 39 = .ok (.getfield 18, 3) := by decide +kernel
theorem dX2_countMeetings_42 : decode cX2_countMeetings 42 = .ok (.iconst 3, 1) := by decide +kernel
theorem dX2_countMeetings_43 : decode cX2_countMeetings 43 = .ok (.iload 4, 2) := by decide +kernel
theorem dX2_countMeetings_45 : decode cX2_countMeetings 45 = .ok (.imul, 1) := by decide +kernel
theorem dX2_countMeetings_46 : decode cX2_countMeetings 46 = .ok (.iload 5, 2) := by decide +kernel
theorem dX2_countMeetings_48 : decode cX2_countMeetings 48 = .ok (.iadd, 1) := by decide +kernel
theorem dX2_countMeetings_49 : decode cX2_countMeetings 49 = .ok (.dup2, 1) := by decide +kernel
theorem dX2_countMeetings_50 : decode cX2_countMeetings 50 = .ok (.iaload, 1) := by decide +kernel
theorem dX2_countMeetings_51 : decode cX2_countMeetings 51 = .ok (.iconst 1, 1) := by decide +kernel
theorem dX2_countMeetings_52 : decode cX2_countMeetings 52 = .ok (.iadd, 1) := by decide +kernel
theorem dX2_countMeetings_53 : decode cX2_countMeetings 53 = .ok (.iastore, 1) := by decide +kernel
theorem dX2_countMeetings_54 : decode cX2_countMeetings 54 = .ok (.iinc 3 1, 3) := by decide +kernel
theorem dX2_countMeetings_57 : decode cX2_countMeetings 57 = .ok (.goto (-55), 3) := by decide +kernel
theorem dX2_countMeetings_60 : decode cX2_countMeetings 60 = .ok (.return_, 1) := by decide +kernel
set_option maxRecDepth 20000 in
theorem ggX2_countConversions_X1_kindOf : GoodIn wsX2_countConversions wsX1_kindOf := goodIn_r _ [5, 6, 7, 8, 3, 9, 10, 11, 12, 13, 14, 15, 16, 17, 18, 19, 20, 21, 22, 23, 24, 25, 26, 33] (by decide +kernel) (by decide +kernel)
set_option maxRecDepth 20000 in
theorem gX2_countConversions_X1_kindOf_n35 : GoodIn wsX2_countConversions (wsX1_kindOf) := ggX2_countConversions_X1_kindOf
set_option maxRecDepth 20000 in
theorem ggX2_countConversions_X3_isKind : GoodIn wsX2_countConversions wsX3_isKind := goodIn_r _ [29] (by decide +kernel) (by decide +kernel)
set_option maxRecDepth 20000 in
theorem gX2_countConversions_X3_isKind_n39 : GoodIn wsX2_countConversions (wsX3_isKind) := ggX2_countConversions_X3_isKind
theorem dX2_countConversions_0 : decode cX2_countConversions 0 = .ok (.iconst 0, 1) := by decide +kernel
theorem dX2_countConversions_1 : decode cX2_countConversions 1 = .ok (.istore_n 3, 1) := by decide +kernel
theorem dX2_countConversions_2 : decode cX2_countConversions 2 = .ok (.iload_n 3, 1) := by decide +kernel
theorem dX2_countConversions_3 : decode cX2_countConversions 3 = .ok (.bipush 16, 2) := by decide +kernel
theorem dX2_countConversions_5 : decode cX2_countConversions 5 = .ok (.if_icmp .ge 62, 3) := by decide +kernel
theorem dX2_countConversions_8 : decode cX2_countConversions 8 = .ok (.aload_n 1, 1) := by decide +kernel
theorem dX2_countConversions_9 : decode cX2_countConversions 9 = .ok (.iload_n 3, 1) := by decide +kernel
theorem dX2_countConversions_10 : decode cX2_countConversions 10 = .ok (.invokevirtual 35, 3) := by decide +kernel
theorem dX2_countConversions_13 : decode cX2_countConversions 13 = .ok (.istore 4, 2) := by decide +kernel
theorem dX2_countConversions_15 : decode cX2_countConversions 15 = .ok (.aload_n 2, 1) := by decide +kernel
theorem dX2_countConversions_16 : decode cX2_countConversions 16 = .ok (.iload_n 3, 1) := by decide +kernel
theorem dX2_countConversions_17 : decode cX2_countConversions 17 = .ok (.invokevirtual 35, 3) := by decide +kernel
theorem dX2_countConversions_20 : decode cX2_countConversions 20 = .ok (.istore 5, 2) := by decide +kernel
theorem dX2_countConversions_22 : decode cX2_countConversions 22 = .ok (.iload 4, 2) := by decide +kernel
theorem dX2_countConversions_24 : decode cX2_countConversions 24 = .ok (.invokestatic 39, 3) := by decide +kernel
theorem dX2_countConversions_27 : decode cX2_countConversions 27 = .ok (.ifCond .eq 34, 3) := by decide +kernel
theorem dX2_countConversions_30 : decode cX2_countConversions 30 = .ok (.iload 5, 2) := by decide +kernel
theorem dX2_countConversions_32 : decode cX2_countConversions 32 = .ok (.invokestatic 39, 3) := by decide +kernel
theorem dX2_countConversions_35 : decode cX2_countConversions 35 = .ok (.ifCond .eq 26, 3) := by decide +kernel
theorem dX2_countConversions_38 : decode cX2_countConversions 38 = .ok (.iload 4, 2) := by decide +kernel
theorem dX2_countConversions_40 : decode cX2_countConversions 40 = .ok (.iload 5, 2) := by decide +kernel
theorem dX2_countConversions_42 : decode cX2_countConversions 42 = .ok (.if_icmp .eq 19, 3) := by decide +kernel
theorem dX2_countConversions_45 : decode cX2_countConversions 45 = .ok (.aload_n 0, 1) := by decide +kernel
theorem dX2_countConversions_46 : decode cX2_countConversions 46 = .ok (.getfield 22, 3) := by decide +kernel
theorem dX2_countConversions_49 : decode cX2_countConversions 49 = .ok (.iconst 3, 1) := by decide +kernel
theorem dX2_countConversions_50 : decode cX2_countConversions 50 = .ok (.iload 4, 2) := by decide +kernel
theorem dX2_countConversions_52 : decode cX2_countConversions 52 = .ok (.imul, 1) := by decide +kernel
theorem dX2_countConversions_53 : decode cX2_countConversions 53 = .ok (.iload 5, 2) := by decide +kernel
theorem dX2_countConversions_55 : decode cX2_countConversions 55 = .ok (.iadd, 1) := by decide +kernel
theorem dX2_countConversions_56 : decode cX2_countConversions 56 = .ok (.dup2, 1) := by decide +kernel
theorem dX2_countConversions_57 : decode cX2_countConversions 57 = .ok (.iaload, 1) := by decide +kernel
theorem dX2_countConversions_58 : decode cX2_countConversions 58 = .ok (.iconst 1, 1) := by decide +kernel
theorem dX2_countConversions_59 : decode cX2_countConversions 59 = .ok (.iadd, 1) := by decide +kernel
theorem dX2_countConversions_60 : decode cX2_countConversions 60 = .ok (.iastore, 1) := by decide +kernel
theorem dX2_countConversions_61 : decode cX2_countConversions 61 = .ok (.iinc 3 1, 3) := by decide +kernel
theorem dX2_countConversions_64 : decode cX2_countConversions 64 = .ok (.goto (-62), 3) := by decide +kernel
theorem dX2_countConversions_67 : decode cX2_countConversions 67 = .ok (.return_, 1) := by decide +kernel
set_option maxRecDepth 20000 in
theorem ggX3_init_X2_init : GoodIn wsX3_init wsX2_init := goodIn_r _ [19, 20, 2, 3, 21, 22, 15, 16, 23, 24, 25, 26, 27, 28, 29, 30, 36, 37, 38, 46] (by decide +kernel) (by decide +kernel)
set_option maxRecDepth 20000 in
theorem gX3_init_X2_init_n9 : GoodIn wsX3_init (wsX2_init) := ggX3_init_X2_init
set_option maxRecDepth 20000 in
theorem ggX3_init_X0_init : GoodIn wsX3_init wsX0_init := goodIn_r _ [32, 33, 2, 3, 23, 34, 35, 44, 45] (by decide +kernel) (by decide +kernel)
set_option maxRecDepth 20000 in
theorem gX3_init_X0_init_n26 : GoodIn wsX3_init (wsX0_init) := ggX3_init_X0_init
set_option maxRecDepth 20000 in
theorem ggX3_init_X1_init : GoodIn wsX3_init wsX1_init := goodIn_r _ [27, 28, 2, 3, 29, 30, 46] (by decide +kernel) (by decide +kernel)
set_option maxRecDepth 20000 in
theorem gX3_init_X1_init_n33 : GoodIn wsX3_init (wsX1_init) := ggX3_init_X1_init
theorem dX3_init_0 : decode cX3_init 0 = .ok (.aload_n 0, 1) := by decide +kernel
theorem dX3_init_1 : decode cX3_init 1 = .ok (.invokespecial 1, 3) := by decide +kernel
theorem dX3_init_4 : decode cX3_init 4 = .ok (.aload_n 0, 1) := by decide +kernel
theorem dX3_init_5 : decode cX3_init 5 = .ok (.new 7, 3) := by decide +kernel
theorem dX3_init_8 : decode cX3_init 8 = .ok (.dup, 1) := by decide +kernel
theorem dX3_init_9 : decode cX3_init 9 = .ok (.invokespecial 9, 3) := by decide +kernel
theorem dX3_init_12 : decode cX3_init 12 = .ok (.putfield 10, 3) := by decide +kernel
theorem dX3_init_15 : decode cX3_init 15 = .ok (.aload_n 0, 1) := by decide +kernel
theorem dX3_init_16 : decode cX3_init 16 = .ok (.iconst 5, 1) := by decide +kernel
theorem dX3_init_17 : decode cX3_init 17 = .ok (.anewarray 7, 3) := by decide +kernel
theorem dX3_init_20 : decode cX3_init 20 = .ok (.putfield 16, 3) := by decide +kernel
theorem dX3_init_23 : decode cX3_init 23 = .ok (.iconst 0, 1) := by decide +kernel
theorem dX3_init_24 : decode cX3_init 24 = .ok (.istore_n 1, 1) := by decide +kernel
theorem dX3_init_25 : decode cX3_init 25 = .ok (.iload_n 1, 1) := by decide +kernel
theorem dX3_init_26 : decode cX3_init 26 = .ok (.iconst 5, 1) := by decide +kernel
theorem dX3_init_27 : decode cX3_init 27 = .ok (.if_icmp .ge 22, 3) := by decide +kernel
theorem dX3_init_30 : decode cX3_init 30 = .ok (.aload_n 0, 1) := by decide +kernel
theorem dX3_init_31 : decode cX3_init 31 = .ok (.getfield 16, 3) := by decide +kernel
theorem dX3_init_34 : decode cX3_init 34 = .ok (.iload_n 1, 1) := by decide +kernel
theorem dX3_init_35 : decode cX3_init 35 = .ok (.new 7, 3) := by decide +kernel
theorem dX3_init_38 : decode cX3_init 38 = .ok (.dup, 1) := by decide +kernel
theorem dX3_init_39 : decode cX3_init 39 = .ok (.invokespecial 9, 3) := by decide +kernel
theorem dX3_init_42 : decode cX3_init 42 = .ok (.aastore, 1) := by decide +kernel
theorem dX3_init_43 : decode cX3_init 43 = .ok (.iinc 1 1, 3) := by decide +kernel
theorem dX3_init_46 : decode cX3_init 46 = .ok (.goto (-21), 3) := by decide +kernel
theorem dX3_init_49 : decode cX3_init 49 = .ok (.aload_n 0, 1) := by decide +kernel
theorem dX3_init_50 : decode cX3_init 50 = .ok (.iconst 0, 1) := by decide +kernel
theorem dX3_init_51 : decode cX3_init 51 = .ok (.putfield 20, 3) := by decide +kernel
theorem dX3_init_54 : decode cX3_init 54 = .ok (.aload_n 0, 1) := by decide +kernel
theorem dX3_init_55 : decode cX3_init 55 = .ok (.new 24, 3) := by decide +kernel
theorem dX3_init_58 : decode cX3_init 58 = .ok (.dup, 1) := by decide +kernel
theorem dX3_init_59 : decode cX3_init 59 = .ok (.invokespecial 26, 3) := by decide +kernel
theorem dX3_init_62 : decode cX3_init 62 = .ok (.putfield 27, 3) := by decide +kernel
theorem dX3_init_65 : decode cX3_init 65 = .ok (.aload_n 0, 1) := by decide +kernel
theorem dX3_init_66 : decode cX3_init 66 = .ok (.new 31, 3) := by decide +kernel
theorem dX3_init_69 : decode cX3_init 69 = .ok (.dup, 1) := by decide +kernel
theorem dX3_init_70 : decode cX3_init 70 = .ok (.invokespecial 33, 3) := by decide +kernel
theorem dX3_init_73 : decode cX3_init 73 = .ok (.putfield 34, 3) := by decide +kernel
theorem dX3_init_76 : decode cX3_init 76 = .ok (.return_, 1) := by decide +kernel
set_option maxRecDepth 20000 in
theorem ggX3_add_X3_isSet : GoodIn wsX3_add wsX3_isSet := goodIn_r _ [5] (by decide +kernel) (by decide +kernel)
set_option maxRecDepth 20000 in
theorem gX3_add_X3_isSet : GoodIn wsX3_add (va_wsS RX3 38 yX3_isSet wsX3_isSet) := goodIn_app (goodIn_of _ (by decide +kernel)) ggX3_add_X3_isSet
set_option maxRecDepth 20000 in
theorem ggX3_add_X3_isRange : GoodIn wsX3_add wsX3_isRange := goodIn_r _ [8, 9, 10, 4, 11] (by decide +kernel) (by decide +kernel)
set_option maxRecDepth 20000 in
theorem gX3_add_X3_isRange : GoodIn wsX3_add (va_wsS RX3 42 yX3_isRange wsX3_isRange) := goodIn_app (goodIn_of _ (by decide +kernel)) ggX3_add_X3_isRange
set_option maxRecDepth 20000 in
theorem ggX3_add_X3_keepState : GoodIn wsX3_add wsX3_keepState := goodIn_r _ [15, 16, 17, 1, 18, 19, 20, 21, 22, 23, 24, 25, 26, 27, 28, 29, 30, 31, 32, 33, 34, 82, 83, 84, 85, 86, 79, 80, 81, 87] (by decide +kernel) (by decide +kernel)
set_option maxRecDepth 20000 in
theorem gX3_add_X3_keepState : GoodIn wsX3_add (wsV RX3 46 RX3 yX3_keepState wsX3_keepState) := goodIn_app (goodIn_of _ (by decide +kernel)) ggX3_add_X3_keepState
set_option maxRecDepth 20000 in
theorem ggX3_add_X1_includeAll : GoodIn wsX3_add wsX1_includeAll := goodIn_r _ [37, 33, 38, 39, 30, 40, 41, 42, 43, 44, 45, 46, 47, 48, 87] (by decide +kernel) (by decide +kernel)
set_option maxRecDepth 20000 in
theorem gX3_add_X1_includeAll_n54 : GoodIn wsX3_add (wsX1_includeAll) := ggX3_add_X1_includeAll
set_option maxRecDepth 20000 in
theorem ggX3_add_X2_countConversions : GoodIn wsX3_add wsX2_countConversions := goodIn_r _ [51, 28, 52, 30, 53, 54, 55, 56, 57, 58, 59, 60, 61, 62, 33, 63, 64, 65, 66, 67, 68, 69, 70, 71, 72, 73, 48, 74, 4, 75, 79, 80, 81, 87] (by decide +kernel) (by decide +kernel)
set_option maxRecDepth 20000 in
theorem gX3_add_X2_countConversions_n58 : GoodIn wsX3_add (wsX2_countConversions) := ggX3_add_X2_countConversions
set_option maxRecDepth 20000 in
theorem ggX3_add_X1_count : GoodIn wsX3_add wsX1_count := goodIn_r _ [78, 55, 56, 57, 30, 58, 59, 60, 61, 62, 33, 63, 64, 65, 66, 67, 68, 69, 87] (by decide +kernel) (by decide +kernel)
set_option maxRecDepth 20000 in
theorem gX3_add_X1_count_n62 : GoodIn wsX3_add (wsX1_count) := ggX3_add_X1_count
theorem dX3_add_0 : decode cX3_add 0 = .ok (.iload_n 1, 1) := by decide +kernel
theorem dX3_add_1 : decode cX3_add 1 = .ok (.invokestatic 38, 3) := by decide +kernel
theorem dX3_add_4 : decode cX3_add 4 = .ok (.ifCond .eq 11, 3) := by decide +kernel
theorem dX3_add_7 : decode cX3_add 7 = .ok (.iload_n 2, 1) := by decide +kernel
theorem dX3_add_8 : decode cX3_add 8 = .ok (.iload_n 3, 1) := by decide +kernel
theorem dX3_add_9 : decode cX3_add 9 = .ok (.invokestatic 42, 3) := by decide +kernel
theorem dX3_add_12 : decode cX3_add 12 = .ok (.ifCond .ne 5, 3) := by decide +kernel
theorem dX3_add_15 : decode cX3_add 15 = .ok (.iconst (-1), 1) := by decide +kernel
theorem dX3_add_16 : decode cX3_add 16 = .ok (.ireturn, 1) := by decide +kernel
theorem dX3_add_17 : decode cX3_add 17 = .ok (.aload_n 0, 1) := by decide +kernel
theorem dX3_add_18 : decode cX3_add 18 = .ok (.invokevirtual 46, 3) := by decide +kernel
theorem dX3_add_21 : decode cX3_add 21 = .ok (.getfield 50, 3) := by decide +kernel
theorem dX3_add_24 : decode cX3_add 24 = .ok (.iload_n 1, 1) := by decide +kernel
theorem dX3_add_25 : decode cX3_add 25 = .ok (.aaload, 1) := by decide +kernel
theorem dX3_add_26 : decode cX3_add 26 = .ok (.astore 4, 2) := by decide +kernel
theorem dX3_add_28 : decode cX3_add 28 = .ok (.aload_n 0, 1) := by decide +kernel
theorem dX3_add_29 : decode cX3_add 29 = .ok (.getfield 10, 3) := by decide +kernel
theorem dX3_add_32 : decode cX3_add 32 = .ok (.getfield 50, 3) := by decide +kernel
theorem dX3_add_35 : decode cX3_add 35 = .ok (.iload_n 1, 1) := by decide +kernel
theorem dX3_add_36 : decode cX3_add 36 = .ok (.aaload, 1) := by decide +kernel
theorem dX3_add_37 : decode cX3_add 37 = .ok (.astore 5, 2) := by decide +kernel
theorem dX3_add_39 : decode cX3_add 39 = .ok (.aload 5, 2) := by decide +kernel
theorem dX3_add_41 : decode cX3_add 41 = .ok (.iload_n 2, 1) := by decide +kernel
theorem dX3_add_42 : decode cX3_add 42 = .ok (.iload_n 3, 1) := by decide +kernel
theorem dX3_add_43 : decode cX3_add 43 = .ok (.invokevirtual 54, 3) := by decide +kernel
theorem dX3_add_46 : decode cX3_add 46 = .ok (.aload_n 0, 1) := by decide +kernel
theorem dX3_add_47 : decode cX3_add 47 = .ok (.getfield 10, 3) := by decide +kernel
theorem dX3_add_50 : decode cX3_add 50 = .ok (.aload 4, 2) := by decide +kernel
theorem dX3_add_52 : decode cX3_add 52 = .ok (.aload 5, 2) := by decide +kernel
theorem dX3_add_54 : decode cX3_add 54 = .ok (.invokevirtual 58, 3) := by decide +kernel
theorem dX3_add_57 : decode cX3_add 57 = .ok (.aload 5, 2) := by decide +kernel
theorem dX3_add_59 : decode cX3_add 59 = .ok (.invokevirtual 62, 3) := by decide +kernel
theorem dX3_add_62 : decode cX3_add 62 = .ok (.aload 4, 2) := by decide +kernel
theorem dX3_add_64 : decode cX3_add 64 = .ok (.invokevirtual 62, 3) := by decide +kernel
theorem dX3_add_67 : decode cX3_add 67 = .ok (.isub, 1) := by decide +kernel
theorem dX3_add_68 : decode cX3_add 68 = .ok (.ireturn, 1) := by decide +kernel
set_option maxRecDepth 20000 in
theorem ggX3_remove_X3_isSet : GoodIn wsX3_remove wsX3_isSet := goodIn_r _ [5] (by decide +kernel) (by decide +kernel)
set_option maxRecDepth 20000 in
theorem gX3_remove_X3_isSet : GoodIn wsX3_remove (va_wsS RX3 38 yX3_isSet wsX3_isSet) := goodIn_app (goodIn_of _ (by decide +kernel)) ggX3_remove_X3_isSet
set_option maxRecDepth 20000 in
theorem ggX3_remove_X3_isRange : GoodIn wsX3_remove wsX3_isRange := goodIn_r _ [8, 9, 10, 4, 11] (by decide +kernel) (by decide +kernel)
set_option maxRecDepth 20000 in
theorem gX3_remove_X3_isRange : GoodIn wsX3_remove (va_wsS RX3 42 yX3_isRange wsX3_isRange) := goodIn_app (goodIn_of _ (by decide +kernel)) ggX3_remove_X3_isRange
set_option maxRecDepth 20000 in
theorem ggX3_remove_X3_keepState : GoodIn wsX3_remove wsX3_keepState := goodIn_r _ [15, 16, 17, 1, 18, 19, 20, 21, 22, 23, 24, 25, 26, 27, 28, 29, 30, 31, 32, 33, 34, 82, 83, 84, 85, 86, 79, 80, 81, 87] (by decide +kernel) (by decide +kernel)
set_option maxRecDepth 20000 in
theorem gX3_remove_X3_keepState : GoodIn wsX3_remove (wsV RX3 46 RX3 yX3_keepState wsX3_keepState) := goodIn_app (goodIn_of _ (by decide +kernel)) ggX3_remove_X3_keepState
set_option maxRecDepth 20000 in
theorem ggX3_remove_X1_excludeAll : GoodIn wsX3_remove wsX1_excludeAll := goodIn_r _ [37, 33, 38, 39, 40, 30, 41, 42, 43, 44, 45, 46, 47, 48, 87] (by decide +kernel) (by decide +kernel)
set_option maxRecDepth 20000 in
theorem gX3_remove_X1_excludeAll_n66 : GoodIn wsX3_remove (wsX1_excludeAll) := ggX3_remove_X1_excludeAll
set_option maxRecDepth 20000 in
theorem ggX3_remove_X2_countConversions : GoodIn wsX3_remove wsX2_countConversions := goodIn_r _ [51, 28, 52, 30, 53, 54, 55, 56, 57, 58, 59, 60, 61, 62, 33, 63, 64, 65, 66, 67, 68, 69, 70, 71, 72, 73, 38, 74, 4, 75, 79, 80, 81, 87] (by decide +kernel) (by decide +kernel)
set_option maxRecDepth 20000 in
theorem gX3_remove_X2_countConversions_n58 : GoodIn wsX3_remove (wsX2_countConversions) := ggX3_remove_X2_countConversions
set_option maxRecDepth 20000 in
theorem ggX3_remove_X1_count : GoodIn wsX3_remove wsX1_count := goodIn_r _ [78, 55, 56, 57, 30, 58, 59, 60, 61, 62, 33, 63, 64, 65, 66, 67, 68, 69, 87] (by decide +kernel) (by decide +kernel)
set_option maxRecDepth 20000 in
theorem gX3_remove_X1_count_n62 : GoodIn wsX3_remove (wsX1_count) := ggX3_remove_X1_count
theorem dX3_remove_0 : decode cX3_remove 0 = .ok (.iload_n 1, 1) := by decide +kernel
theorem dX3_remove_1 : decode cX3_remove 1 = .ok (.invokestatic 38, 3) := by decide +kernel
theorem dX3_remove_4 : decode cX3_remove 4 = .ok (.ifCond .eq 11, 3) := by decide +kernel
theorem dX3_remove_7 : decode cX3_remove 7 = .ok (.iload_n 2, 1) := by decide +kernel
theorem dX3_remove_8 : decode cX3_remove 8 = .ok (.iload_n 3, 1) := by decide +kernel
theorem dX3_remove_9 : decode cX3_remove 9 = .ok (.invokestatic 42, 3) := by decide +kernel
theorem dX3_remove_12 : decode cX3_remove 12 = .ok (.ifCond .ne 5, 3) := by decide +kernel
theorem dX3_remove_15 : decode cX3_remove 15 = .ok (.iconst (-1), 1) := by decide +kernel
theorem dX3_remove_16 : decode cX3_remove 16 = .ok (.ireturn, 1) := by decide +kernel
theorem dX3_remove_17 : decode cX3_remove 17 = .ok (.aload_n 0, 1) := by decide +kernel
theorem dX3_remove_18 : decode cX3_remove 18 = .ok (.invokevirtual 46, 3) := by decide +kernel
theorem dX3_remove_21 : decode cX3_remove 21 = .ok (.getfield 50, 3) := by decide +kernel
theorem dX3_remove_24 : decode cX3_remove 24 = .ok (.iload_n 1, 1) := by decide +kernel
theorem dX3_remove_25 : decode cX3_remove 25 = .ok (.aaload, 1) := by decide +kernel
theorem dX3_remove_26 : decode cX3_remove 26 = .ok (.astore 4, 2) := by decide +kernel
theorem dX3_remove_28 : decode cX3_remove 28 = .ok (.aload_n 0, 1) := by decide +kernel
theorem dX3_remove_29 : decode cX3_remove 29 = .ok (.getfield 10, 3) := by decide +kernel
theorem dX3_remove_32 : decode cX3_remove 32 = .ok (.getfield 50, 3) := by decide +kernel
theorem dX3_remove_35 : decode cX3_remove 35 = .ok (.iload_n 1, 1) := by decide +kernel
theorem dX3_remove_36 : decode cX3_remove 36 = .ok (.aaload, 1) := by decide +kernel
theorem dX3_remove_37 : decode cX3_remove 37 = .ok (.astore 5, 2) := by decide +kernel
theorem dX3_remove_39 : decode cX3_remove 39 = .ok (.aload 5, 2) := by decide +kernel
theorem dX3_remove_41 : decode cX3_remove 41 = .ok (.iload_n 2, 1) := by decide +kernel
theorem dX3_remove_42 : decode cX3_remove 42 = .ok (.iload_n 3, 1) := by decide +kernel
theorem dX3_remove_43 : decode cX3_remove 43 = .ok (.invokevirtual 66, 3) := by decide +kernel
theorem dX3_remove_46 : decode cX3_remove 46 = .ok (.aload_n 0, 1) := by decide +kernel
theorem dX3_remove_47 : decode cX3_remove 47 = .ok (.getfield 10, 3) := by decide +kernel
theorem dX3_remove_50 : decode cX3_remove 50 = .ok (.aload 4, 2) := by decide +kernel
theorem dX3_remove_52 : decode cX3_remove 52 = .ok (.aload 5, 2) := by decide +kernel
theorem dX3_remove_54 : decode cX3_remove 54 = .ok (.invokevirtual 58, 3) := by decide +kernel
theorem dX3_remove_57 : decode cX3_remove 57 = .ok (.aload 4, 2) := by decide +kernel
theorem dX3_remove_59 : decode cX3_remove 59 = .ok (.invokevirtual 62, 3) := by decide +kernel
theorem dX3_remove_62 : decode cX3_remove 62 = .ok (.aload 5, 2) := by decide +kernel
theorem dX3_remove_64 : decode cX3_remove 64 = .ok (.invokevirtual 62, 3) := by decide +kernel
theorem dX3_remove_67 : decode cX3_remove 67 = .ok (.isub, 1) := by decide +kernel
theorem dX3_remove_68 : decode cX3_remove 68 = .ok (.ireturn, 1) := by decide +kernel
set_option maxRecDepth 20000 in
theorem ggX3_flip_X3_isSet : GoodIn wsX3_flip wsX3_isSet := goodIn_r _ [5] (by decide +kernel) (by decide +kernel)
set_option maxRecDepth 20000 in
theorem gX3_flip_X3_isSet : GoodIn wsX3_flip (va_wsS RX3 38 yX3_isSet wsX3_isSet) := goodIn_app (goodIn_of _ (by decide +kernel)) ggX3_flip_X3_isSet
set_option maxRecDepth 20000 in
theorem ggX3_flip_X3_isRange : GoodIn wsX3_flip wsX3_isRange := goodIn_r _ [8, 9, 10, 4, 11] (by decide +kernel) (by decide +kernel)
set_option maxRecDepth 20000 in
theorem gX3_flip_X3_isRange : GoodIn wsX3_flip (va_wsS RX3 42 yX3_isRange wsX3_isRange) := goodIn_app (goodIn_of _ (by decide +kernel)) ggX3_flip_X3_isRange
set_option maxRecDepth 20000 in
theorem ggX3_flip_X3_keepState : GoodIn wsX3_flip wsX3_keepState := goodIn_r _ [15, 16, 17, 1, 18, 19, 20, 21, 22, 23, 24, 25, 26, 27, 28, 29, 30, 31, 32, 33, 34, 82, 83, 84, 85, 86, 79, 80, 81, 87] (by decide +kernel) (by decide +kernel)
set_option maxRecDepth 20000 in
theorem gX3_flip_X3_keepState : GoodIn wsX3_flip (wsV RX3 46 RX3 yX3_keepState wsX3_keepState) := goodIn_app (goodIn_of _ (by decide +kernel)) ggX3_flip_X3_keepState
set_option maxRecDepth 20000 in
theorem ggX3_flip_X1_turnAll : GoodIn wsX3_flip wsX1_turnAll := goodIn_r _ [37, 33, 38, 39, 30, 40, 41, 42, 43, 44, 45, 46, 47, 48, 87] (by decide +kernel) (by decide +kernel)
set_option maxRecDepth 20000 in
theorem gX3_flip_X1_turnAll_n69 : GoodIn wsX3_flip (wsX1_turnAll) := ggX3_flip_X1_turnAll
set_option maxRecDepth 20000 in
theorem ggX3_flip_X2_countConversions : GoodIn wsX3_flip wsX2_countConversions := goodIn_r _ [51, 28, 52, 30, 53, 54, 55, 56, 57, 58, 59, 60, 61, 62, 33, 63, 64, 65, 66, 67, 68, 69, 70, 71, 72, 73, 48, 74, 4, 75, 79, 80, 81, 87] (by decide +kernel) (by decide +kernel)
set_option maxRecDepth 20000 in
theorem gX3_flip_X2_countConversions_n58 : GoodIn wsX3_flip (wsX2_countConversions) := ggX3_flip_X2_countConversions
set_option maxRecDepth 20000 in
theorem ggX3_flip_X1_countIn : GoodIn wsX3_flip wsX1_countIn := goodIn_r _ [78, 33, 38, 39, 30, 40, 41, 42, 43, 44, 45, 46, 47, 48, 63, 64, 65, 66, 67, 68, 69, 87] (by decide +kernel) (by decide +kernel)
set_option maxRecDepth 20000 in
theorem gX3_flip_X1_countIn_n72 : GoodIn wsX3_flip (wsX1_countIn) := ggX3_flip_X1_countIn
theorem dX3_flip_0 : decode cX3_flip 0 = .ok (.iload_n 1, 1) := by decide +kernel
theorem dX3_flip_1 : decode cX3_flip 1 = .ok (.invokestatic 38, 3) := by decide +kernel
theorem dX3_flip_4 : decode cX3_flip 4 = .ok (.ifCond .eq 11, 3) := by decide +kernel
theorem dX3_flip_7 : decode cX3_flip 7 = .ok (.iload_n 2, 1) := by decide +kernel
theorem dX3_flip_8 : decode cX3_flip 8 = .ok (.iload_n 3, 1) := by decide +kernel
theorem dX3_flip_9 : decode cX3_flip 9 = .ok (.invokestatic 42, 3) := by decide +kernel
theorem dX3_flip_12 : decode cX3_flip 12 = .ok (.ifCond .ne 5, 3) := by decide +kernel
theorem dX3_flip_15 : decode cX3_flip 15 = .ok (.iconst (-1), 1) := by decide +kernel
theorem dX3_flip_16 : decode cX3_flip 16 = .ok (.ireturn, 1) := by decide +kernel
theorem dX3_flip_17 : decode cX3_flip 17 = .ok (.aload_n 0, 1) := by decide +kernel
theorem dX3_flip_18 : decode cX3_flip 18 = .ok (.invokevirtual 46, 3) := by decide +kernel
theorem dX3_flip_21 : decode cX3_flip 21 = .ok (.getfield 50, 3) := by decide +kernel
theorem dX3_flip_24 : decode cX3_flip 24 = .ok (.iload_n 1, 1) := by decide +kernel
theorem dX3_flip_25 : decode cX3_flip 25 = .ok (.aaload, 1) := by decide +kernel
theorem dX3_flip_26 : decode cX3_flip 26 = .ok (.astore 4, 2) := by decide +kernel
theorem dX3_flip_28 : decode cX3_flip 28 = .ok (.aload_n 0, 1) := by decide +kernel
theorem dX3_flip_29 : decode cX3_flip 29 = .ok (.getfield 10, 3) := by decide +kernel
theorem dX3_flip_32 : decode cX3_flip 32 = .ok (.getfield 50, 3) := by decide +kernel
theorem dX3_flip_35 : decode cX3_flip 35 = .ok (.iload_n 1, 1) := by decide +kernel
theorem dX3_flip_36 : decode cX3_flip 36 = .ok (.aaload, 1) := by decide +kernel
theorem dX3_flip_37 : decode cX3_flip 37 = .ok (.astore 5, 2) := by decide +kernel
theorem dX3_flip_39 : decode cX3_flip 39 = .ok (.aload 5, 2) := by decide +kernel
theorem dX3_flip_41 : decode cX3_flip 41 = .ok (.iload_n 2, 1) := by decide +kernel
theorem dX3_flip_42 : decode cX3_flip 42 = .ok (.iload_n 3, 1) := by decide +kernel
theorem dX3_flip_43 : decode cX3_flip 43 = .ok (.invokevirtual 69, 3) := by decide +kernel
theorem dX3_flip_46 : decode cX3_flip 46 = .ok (.aload_n 0, 1) := by decide +kernel
theorem dX3_flip_47 : decode cX3_flip 47 = .ok (.getfield 10, 3) := by decide +kernel
theorem dX3_flip_50 : decode cX3_flip 50 = .ok (.aload 4, 2) := by decide +kernel
theorem dX3_flip_52 : decode cX3_flip 52 = .ok (.aload 5, 2) := by decide +kernel
theorem dX3_flip_54 : decode cX3_flip 54 = .ok (.invokevirtual 58, 3) := by decide +kernel
theorem dX3_flip_57 : decode cX3_flip 57 = .ok (.aload 5, 2) := by decide +kernel
theorem dX3_flip_59 : decode cX3_flip 59 = .ok (.iload_n 2, 1) := by decide +kernel
theorem dX3_flip_60 : decode cX3_flip 60 = .ok (.iload_n 3, 1) := by decide +kernel
theorem dX3_flip_61 : decode cX3_flip 61 = .ok (.invokevirtual 72, 3) := by decide +kernel
theorem dX3_flip_64 : decode cX3_flip 64 = .ok (.ireturn, 1) := by decide +kernel
set_option maxRecDepth 20000 in
theorem ggX3_scatter_X3_isSet : GoodIn wsX3_scatter wsX3_isSet := goodIn_r _ [6] (by decide +kernel) (by decide +kernel)
set_option maxRecDepth 20000 in
theorem gX3_scatter_X3_isSet : GoodIn wsX3_scatter (va_wsS RX3 38 yX3_isSet wsX3_isSet) := goodIn_app (goodIn_of _ (by decide +kernel)) ggX3_scatter_X3_isSet
set_option maxRecDepth 20000 in
theorem ggX3_scatter_X3_keepState : GoodIn wsX3_scatter wsX3_keepState := goodIn_r _ [10, 11, 12, 1, 13, 14, 15, 16, 17, 18, 19, 20, 21, 22, 23, 24, 25, 26, 27, 28, 29, 69, 70, 71, 72, 73, 66, 67, 68, 74] (by decide +kernel) (by decide +kernel)
set_option maxRecDepth 20000 in
theorem gX3_scatter_X3_keepState : GoodIn wsX3_scatter (wsV RX3 46 RX3 yX3_keepState wsX3_keepState) := goodIn_app (goodIn_of _ (by decide +kernel)) ggX3_scatter_X3_keepState
set_option maxRecDepth 20000 in
theorem ggX3_scatter_X1_include : GoodIn wsX3_scatter wsX1_include := goodIn_r _ [32, 28, 33, 5, 34, 74] (by decide +kernel) (by decide +kernel)
set_option maxRecDepth 20000 in
theorem gX3_scatter_X1_include_n77 : GoodIn wsX3_scatter (wsX1_include) := ggX3_scatter_X1_include
set_option maxRecDepth 20000 in
theorem ggX3_scatter_X2_countConversions : GoodIn wsX3_scatter wsX2_countConversions := goodIn_r _ [37, 23, 38, 25, 39, 40, 41, 42, 43, 44, 45, 46, 47, 48, 28, 49, 50, 51, 52, 53, 54, 55, 56, 57, 58, 59, 60, 61, 5, 62, 66, 67, 68, 74] (by decide +kernel) (by decide +kernel)
set_option maxRecDepth 20000 in
theorem gX3_scatter_X2_countConversions_n58 : GoodIn wsX3_scatter (wsX2_countConversions) := ggX3_scatter_X2_countConversions
set_option maxRecDepth 20000 in
theorem ggX3_scatter_X1_count : GoodIn wsX3_scatter wsX1_count := goodIn_r _ [65, 41, 42, 43, 25, 44, 45, 46, 47, 48, 28, 49, 50, 51, 52, 53, 54, 55, 74] (by decide +kernel) (by decide +kernel)
set_option maxRecDepth 20000 in
theorem gX3_scatter_X1_count_n62 : GoodIn wsX3_scatter (wsX1_count) := ggX3_scatter_X1_count
theorem dX3_scatter_0 : decode cX3_scatter 0 = .ok (.iload_n 1, 1) := by decide +kernel
theorem dX3_scatter_1 : decode cX3_scatter 1 = .ok (.invokestatic 38, 3) := by decide +kernel
theorem dX3_scatter_4 : decode cX3_scatter 4 = .ok (.ifCond .eq 15, 3) := by decide +kernel
theorem dX3_scatter_7 : decode cX3_scatter 7 = .ok (.iload_n 3, 1) := by decide +kernel
theorem dX3_scatter_8 : decode cX3_scatter 8 = .ok (.iconst 1, 1) := by decide +kernel
theorem dX3_scatter_9 : decode cX3_scatter 9 = .ok (.if_icmp .lt 10, 3) := by decide +kernel
theorem dX3_scatter_12 : decode cX3_scatter 12 = .ok (.iload_n 3, 1) := by decide +kernel
theorem dX3_scatter_13 : decode cX3_scatter 13 = .ok (.sipush 300, 3) := by decide +kernel
theorem dX3_scatter_16 : decode cX3_scatter 16 = .ok (.if_icmp .le 5, 3) := by decide +kernel
theorem dX3_scatter_19 : decode cX3_scatter 19 = .ok (.iconst (-1), 1) := by decide +kernel
theorem dX3_scatter_20 : decode cX3_scatter 20 = .ok (.ireturn, 1) := by decide +kernel
theorem dX3_scatter_21 : decode cX3_scatter 21 = .ok (.aload_n 0, 1) := by decide +kernel
theorem dX3_scatter_22 : decode cX3_scatter 22 = .ok (.invokevirtual 46, 3) := by decide +kernel
theorem dX3_scatter_25 : decode cX3_scatter 25 = .ok (.getfield 50, 3) := by decide +kernel
theorem dX3_scatter_28 : decode cX3_scatter 28 = .ok (.iload_n 1, 1) := by decide +kernel
theorem dX3_scatter_29 : decode cX3_scatter 29 = .ok (.aaload, 1) := by decide +kernel
theorem dX3_scatter_30 : decode cX3_scatter 30 = .ok (.astore 4, 2) := by decide +kernel
theorem dX3_scatter_32 : decode cX3_scatter 32 = .ok (.aload_n 0, 1) := by decide +kernel
theorem dX3_scatter_33 : decode cX3_scatter 33 = .ok (.getfield 10, 3) := by decide +kernel
theorem dX3_scatter_36 : decode cX3_scatter 36 = .ok (.getfield 50, 3) := by decide +kernel
theorem dX3_scatter_39 : decode cX3_scatter 39 = .ok (.iload_n 1, 1) := by decide +kernel
theorem dX3_scatter_40 : decode cX3_scatter 40 = .ok (.aaload, 1) := by decide +kernel
theorem dX3_scatter_41 : decode cX3_scatter 41 = .ok (.astore 5, 2) := by decide +kernel
theorem dX3_scatter_43 : decode cX3_scatter 43 = .ok (.iload_n 2, 1) := by decide +kernel
theorem dX3_scatter_44 : decode cX3_scatter 44 = .ok (.istore 6, 2) := by decide +kernel
theorem dX3_scatter_46 : decode cX3_scatter 46 = .ok (.iconst 0, 1) := by decide +kernel
theorem dX3_scatter_47 : decode cX3_scatter 47 = .ok (.istore 7, 2) := by decide +kernel
theorem dX3_scatter_49 : decode cX3_scatter 49 = .ok (.iload 7, 2) := by decide +kernel
theorem dX3_scatter_51 : decode cX3_scatter 51 = .ok (.iload_n 3, 1) := by decide +kernel
theorem dX3_scatter_52 : decode cX3_scatter 52 = .ok (.if_icmp .ge 34, 3) := by decide +kernel
theorem dX3_scatter_55 : decode cX3_scatter 55 = .ok (.ldc 76, 2) := by decide +kernel
theorem dX3_scatter_57 : decode cX3_scatter 57 = .ok (.iload 6, 2) := by decide +kernel
theorem dX3_scatter_59 : decode cX3_scatter 59 = .ok (.imul, 1) := by decide +kernel
theorem dX3_scatter_60 : decode cX3_scatter 60 = .ok (.sipush 12345, 3) := by decide +kernel
theorem dX3_scatter_63 : decode cX3_scatter 63 = .ok (.iadd, 1) := by decide +kernel
theorem dX3_scatter_64 : decode cX3_scatter 64 = .ok (.istore 6, 2) := by decide +kernel
theorem dX3_scatter_66 : decode cX3_scatter 66 = .ok (.aload 5, 2) := by decide +kernel
theorem dX3_scatter_68 : decode cX3_scatter 68 = .ok (.iload 6, 2) := by decide +kernel
theorem dX3_scatter_70 : decode cX3_scatter 70 = .ok (.bipush 16, 2) := by decide +kernel
theorem dX3_scatter_72 : decode cX3_scatter 72 = .ok (.iushr, 1) := by decide +kernel
theorem dX3_scatter_73 : decode cX3_scatter 73 = .ok (.sipush 4096, 3) := by decide +kernel
theorem dX3_scatter_76 : decode cX3_scatter 76 = .ok (.irem, 1) := by decide +kernel
theorem dX3_scatter_77 : decode cX3_scatter 77 = .ok (.invokevirtual 77, 3) := by decide +kernel
theorem dX3_scatter_80 : decode cX3_scatter 80 = .ok (.iinc 7 1, 3) := by decide +kernel
theorem dX3_scatter_83 : decode cX3_scatter 83 = .ok (.goto (-34), 3) := by decide +kernel
theorem dX3_scatter_86 : decode cX3_scatter 86 = .ok (.aload_n 0, 1) := by decide +kernel
theorem dX3_scatter_87 : decode cX3_scatter 87 = .ok (.getfield 10, 3) := by decide +kernel
theorem dX3_scatter_90 : decode cX3_scatter 90 = .ok (.aload 4, 2) := by decide +kernel
theorem dX3_scatter_92 : decode cX3_scatter 92 = .ok (.aload 5, 2) := by decide +kernel
theorem dX3_scatter_94 : decode cX3_scatter 94 = .ok (.invokevirtual 58, 3) := by decide +kernel
theorem dX3_scatter_97 : decode cX3_scatter 97 = .ok (.aload 5, 2) := by decide +kernel
theorem dX3_scatter_99 : decode cX3_scatter 99 = .ok (.invokevirtual 62, 3) := by decide +kernel
theorem dX3_scatter_102 : decode cX3_scatter 102 = .ok (.ireturn, 1) := by decide +kernel
set_option maxRecDepth 20000 in
theorem ggX3_combine_X3_isSet : GoodIn wsX3_combine wsX3_isSet := goodIn_r _ [5] (by decide +kernel) (by decide +kernel)
set_option maxRecDepth 20000 in
theorem gX3_combine_X3_isSet : GoodIn wsX3_combine (va_wsS RX3 38 yX3_isSet wsX3_isSet) := goodIn_app (goodIn_of _ (by decide +kernel)) ggX3_combine_X3_isSet
set_option maxRecDepth 20000 in
theorem ggX3_combine_X3_keepState : GoodIn wsX3_combine wsX3_keepState := goodIn_r _ [9, 10, 11, 1, 12, 13, 14, 15, 16, 17, 18, 19, 20, 21, 22, 23, 24, 25, 26, 27, 28, 69, 70, 71, 72, 73, 74, 75, 76, 77] (by decide +kernel) (by decide +kernel)
set_option maxRecDepth 20000 in
theorem gX3_combine_X3_keepState : GoodIn wsX3_combine (wsV RX3 46 RX3 yX3_keepState wsX3_keepState) := goodIn_app (goodIn_of _ (by decide +kernel)) ggX3_combine_X3_keepState
set_option maxRecDepth 20000 in
theorem ggX3_combine_X1_becomeJoin : GoodIn wsX3_combine wsX1_becomeJoin := goodIn_r _ [31, 27, 32, 33, 24, 34, 35, 77] (by decide +kernel) (by decide +kernel)
set_option maxRecDepth 20000 in
theorem gX3_combine_X1_becomeJoin_n81 : GoodIn wsX3_combine (wsX1_becomeJoin) := ggX3_combine_X1_becomeJoin
set_option maxRecDepth 20000 in
theorem ggX3_combine_X2_countMeetings : GoodIn wsX3_combine wsX2_countMeetings := goodIn_r _ [38, 17, 39, 24, 40, 41, 42, 43, 44, 45, 46, 47, 48, 49, 27, 50, 51, 52, 53, 54, 55, 56, 57, 58, 59, 60, 35, 61, 4, 62, 74, 75, 76, 77] (by decide +kernel) (by decide +kernel)
set_option maxRecDepth 20000 in
theorem gX3_combine_X2_countMeetings_n85 : GoodIn wsX3_combine (wsX2_countMeetings) := ggX3_combine_X2_countMeetings
set_option maxRecDepth 20000 in
theorem ggX3_combine_X2_countConversions : GoodIn wsX3_combine wsX2_countConversions := goodIn_r _ [65, 22, 39, 24, 40, 41, 42, 43, 44, 45, 46, 47, 48, 49, 27, 50, 51, 52, 53, 54, 55, 56, 57, 58, 59, 60, 35, 61, 4, 62, 74, 75, 76, 77] (by decide +kernel) (by decide +kernel)
set_option maxRecDepth 20000 in
theorem gX3_combine_X2_countConversions_n58 : GoodIn wsX3_combine (wsX2_countConversions) := ggX3_combine_X2_countConversions
set_option maxRecDepth 20000 in
theorem ggX3_combine_X1_count : GoodIn wsX3_combine wsX1_count := goodIn_r _ [68, 42, 43, 44, 24, 45, 46, 47, 48, 49, 27, 50, 51, 52, 53, 54, 55, 56, 77] (by decide +kernel) (by decide +kernel)
set_option maxRecDepth 20000 in
theorem gX3_combine_X1_count_n62 : GoodIn wsX3_combine (wsX1_count) := ggX3_combine_X1_count
theorem dX3_combine_0 : decode cX3_combine 0 = .ok (.iload_n 1, 1) := by decide +kernel
theorem dX3_combine_1 : decode cX3_combine 1 = .ok (.ifCond .lt 30, 3) := by decide +kernel
theorem dX3_combine_4 : decode cX3_combine 4 = .ok (.iload_n 1, 1) := by decide +kernel
theorem dX3_combine_5 : decode cX3_combine 5 = .ok (.iconst 3, 1) := by decide +kernel
theorem dX3_combine_6 : decode cX3_combine 6 = .ok (.if_icmp .gt 25, 3) := by decide +kernel
theorem dX3_combine_9 : decode cX3_combine 9 = .ok (.iload_n 2, 1) := by decide +kernel
theorem dX3_combine_10 : decode cX3_combine 10 = .ok (.invokestatic 38, 3) := by decide +kernel
theorem dX3_combine_13 : decode cX3_combine 13 = .ok (.ifCond .eq 18, 3) := by decide +kernel
theorem dX3_combine_16 : decode cX3_combine 16 = .ok (.iload_n 3, 1) := by decide +kernel
theorem dX3_combine_17 : decode cX3_combine 17 = .ok (.invokestatic 38, 3) := by decide +kernel
theorem dX3_combine_20 : decode cX3_combine 20 = .ok (.ifCond .eq 11, 3) := by decide +kernel
theorem dX3_combine_23 : decode cX3_combine 23 = .ok (.iload 4, 2) := by decide +kernel
theorem dX3_combine_25 : decode cX3_combine 25 = .ok (.invokestatic 38, 3) := by decide +kernel
theorem dX3_combine_28 : decode cX3_combine 28 = .ok (.ifCond .ne 5, 3) := by decide +kernel
theorem dX3_combine_31 : decode cX3_combine 31 = .ok (.iconst (-1), 1) := by decide +kernel
theorem dX3_combine_32 : decode cX3_combine 32 = .ok (.ireturn, 1) := by decide +kernel
theorem dX3_combine_33 : decode cX3_combine 33 = .ok (.aload_n 0, 1) := by decide +kernel
theorem dX3_combine_34 : decode cX3_combine 34 = .ok (.invokevirtual 46, 3) := by decide +kernel
theorem dX3_combine_37 : decode cX3_combine 37 = .ok (.astore 5, 2) := by decide +kernel
theorem dX3_combine_39 : decode cX3_combine 39 = .ok (.aload_n 0, 1) := by decide +kernel
theorem dX3_combine_40 : decode cX3_combine 40 = .ok (.getfield 10, 3) := by decide +kernel
theorem dX3_combine_43 : decode cX3_combine 43 = .ok (.getfield 50, 3) := by decide +kernel
theorem dX3_combine_46 : decode cX3_combine 46 = .ok (.iload 4, 2) := by decide +kernel
theorem dX3_combine_48 : decode cX3_combine 48 = .ok (.aaload, 1) := by decide +kernel
theorem dX3_combine_49 : decode cX3_combine 49 = .ok (.astore 6, 2) := by decide +kernel
theorem dX3_combine_51 : decode cX3_combine 51 = .ok (.aload 6, 2) := by decide +kernel
theorem dX3_combine_53 : decode cX3_combine 53 = .ok (.iload_n 1, 1) := by decide +kernel
theorem dX3_combine_54 : decode cX3_combine 54 = .ok (.aload 5, 2) := by decide +kernel
