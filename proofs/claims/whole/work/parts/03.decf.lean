theorem dX4_clear_0 : decode cX4_clear 0 = .ok (.aload_n 0, 1) := by decide +kernel
theorem dX4_clear_1 : decode cX4_clear 1 = .ok (.getfield 95, 3) := by decide +kernel
theorem dX4_clear_4 : decode cX4_clear 4 = .ok (.istore_n 1, 1) := by decide +kernel
theorem dX4_clear_5 : decode cX4_clear 5 = .ok (.aload_n 0, 1) := by decide +kernel
theorem dX4_clear_6 : decode cX4_clear 6 = .ok (.iconst 0, 1) := by decide +kernel
theorem dX4_clear_7 : decode cX4_clear 7 = .ok (.putfield 95, 3) := by decide +kernel
theorem dX4_clear_10 : decode cX4_clear 10 = .ok (.iload_n 1, 1) := by decide +kernel
theorem dX4_clear_11 : decode cX4_clear 11 = .ok (.ireturn, 1) := by decide +kernel
theorem dX4_takes_0 : decode cX4_takes 0 = .ok (.aload_n 0, 1) := by decide +kernel
theorem dX4_takes_1 : decode cX4_takes 1 = .ok (.getfield 22, 3) := by decide +kernel
theorem dX4_takes_4 : decode cX4_takes 4 = .ok (.iload_n 1, 1) := by decide +kernel
theorem dX4_takes_5 : decode cX4_takes 5 = .ok (.bipush 32, 2) := by decide +kernel
theorem dX4_takes_7 : decode cX4_takes 7 = .ok (.idiv, 1) := by decide +kernel
theorem dX4_takes_8 : decode cX4_takes 8 = .ok (.dup2, 1) := by decide +kernel
theorem dX4_takes_9 : decode cX4_takes 9 = .ok (.iaload, 1) := by decide +kernel
theorem dX4_takes_10 : decode cX4_takes 10 = .ok (.iconst 1, 1) := by decide +kernel
theorem dX4_takes_11 : decode cX4_takes 11 = .ok (.iload_n 1, 1) := by decide +kernel
theorem dX4_takes_12 : decode cX4_takes 12 = .ok (.bipush 32, 2) := by decide +kernel
theorem dX4_takes_14 : decode cX4_takes 14 = .ok (.irem, 1) := by decide +kernel
theorem dX4_takes_15 : decode cX4_takes 15 = .ok (.ishl, 1) := by decide +kernel
theorem dX4_takes_16 : decode cX4_takes 16 = .ok (.ior, 1) := by decide +kernel
theorem dX4_takes_17 : decode cX4_takes 17 = .ok (.iastore, 1) := by decide +kernel
theorem dX4_takes_18 : decode cX4_takes 18 = .ok (.return_, 1) := by decide +kernel
theorem dX4_next_0 : decode cX4_next 0 = .ok (.aload_n 0, 1) := by decide +kernel
theorem dX4_next_1 : decode cX4_next 1 = .ok (.getfield 98, 3) := by decide +kernel
theorem dX4_next_4 : decode cX4_next 4 = .ok (.aload_n 0, 1) := by decide +kernel
theorem dX4_next_5 : decode cX4_next 5 = .ok (.getfield 95, 3) := by decide +kernel
theorem dX4_next_8 : decode cX4_next 8 = .ok (.if_icmp .ge 15, 3) := by decide +kernel
theorem dX4_next_11 : decode cX4_next 11 = .ok (.aload_n 0, 1) := by decide +kernel
theorem dX4_next_12 : decode cX4_next 12 = .ok (.getfield 19, 3) := by decide +kernel
theorem dX4_next_15 : decode cX4_next 15 = .ok (.aload_n 0, 1) := by decide +kernel
theorem dX4_next_16 : decode cX4_next 16 = .ok (.getfield 98, 3) := by decide +kernel
theorem dX4_next_19 : decode cX4_next 19 = .ok (.iaload, 1) := by decide +kernel
theorem dX4_next_20 : decode cX4_next 20 = .ok (.goto 5, 3) := by decide +kernel
theorem dX4_next_23 : decode cX4_next 23 = .ok (.bipush (-9), 2) := by decide +kernel
theorem dX4_next_25 : decode cX4_next 25 = .ok (.ireturn, 1) := by decide +kernel
set_option maxRecDepth 20000 in
theorem ggX4_readsPlaces_X4_next : GoodIn wsX4_readsPlaces wsX4_next := goodIn_r _ [6, 1, 7, 8, 14, 15, 16, 17, 18, 19, 20, 21] (by decide +kernel) (by decide +kernel)
set_option maxRecDepth 20000 in
theorem gX4_readsPlaces_X4_next : GoodIn wsX4_readsPlaces (wsV RX4 101 RX4 yX4_next wsX4_next) := goodIn_app (goodIn_of _ (by decide +kernel)) ggX4_readsPlaces_X4_next
set_option maxRecDepth 20000 in
theorem ggX4_readsPlaces_X4_takes : GoodIn wsX4_readsPlaces wsX4_takes := goodIn_r _ [12, 13, 14, 15, 16, 17, 18, 19, 20, 21] (by decide +kernel) (by decide +kernel)
set_option maxRecDepth 20000 in
theorem gX4_readsPlaces_X4_takes : GoodIn wsX4_readsPlaces (wsV RX4 105 RX4 yX4_takes wsX4_takes) := goodIn_app (goodIn_of _ (by decide +kernel)) ggX4_readsPlaces_X4_takes
theorem dX4_readsPlaces_0 : decode cX4_readsPlaces 0 = .ok (.aload_n 0, 1) := by decide +kernel
theorem dX4_readsPlaces_1 : decode cX4_readsPlaces 1 = .ok (.invokevirtual 101, 3) := by decide +kernel
theorem dX4_readsPlaces_4 : decode cX4_readsPlaces 4 = .ok (.istore_n 3, 1) := by decide +kernel
theorem dX4_readsPlaces_5 : decode cX4_readsPlaces 5 = .ok (.iload_n 3, 1) := by decide +kernel
theorem dX4_readsPlaces_6 : decode cX4_readsPlaces 6 = .ok (.iconst 1, 1) := by decide +kernel
theorem dX4_readsPlaces_7 : decode cX4_readsPlaces 7 = .ok (.if_icmp .ge 5, 3) := by decide +kernel
theorem dX4_readsPlaces_10 : decode cX4_readsPlaces 10 = .ok (.iconst 0, 1) := by decide +kernel
theorem dX4_readsPlaces_11 : decode cX4_readsPlaces 11 = .ok (.ireturn, 1) := by decide +kernel
theorem dX4_readsPlaces_12 : decode cX4_readsPlaces 12 = .ok (.aload_n 0, 1) := by decide +kernel
theorem dX4_readsPlaces_13 : decode cX4_readsPlaces 13 = .ok (.dup, 1) := by decide +kernel
theorem dX4_readsPlaces_14 : decode cX4_readsPlaces 14 = .ok (.getfield 98, 3) := by decide +kernel
theorem dX4_readsPlaces_17 : decode cX4_readsPlaces 17 = .ok (.iconst 1, 1) := by decide +kernel
theorem dX4_readsPlaces_18 : decode cX4_readsPlaces 18 = .ok (.iadd, 1) := by decide +kernel
theorem dX4_readsPlaces_19 : decode cX4_readsPlaces 19 = .ok (.putfield 98, 3) := by decide +kernel
theorem dX4_readsPlaces_22 : decode cX4_readsPlaces 22 = .ok (.iload_n 2, 1) := by decide +kernel
theorem dX4_readsPlaces_23 : decode cX4_readsPlaces 23 = .ok (.ifCond .eq 8, 3) := by decide +kernel
theorem dX4_readsPlaces_26 : decode cX4_readsPlaces 26 = .ok (.bipush (-2), 2) := by decide +kernel
theorem dX4_readsPlaces_28 : decode cX4_readsPlaces 28 = .ok (.goto 4, 3) := by decide +kernel
theorem dX4_readsPlaces_31 : decode cX4_readsPlaces 31 = .ok (.iconst (-1), 1) := by decide +kernel
theorem dX4_readsPlaces_32 : decode cX4_readsPlaces 32 = .ok (.istore 4, 2) := by decide +kernel
theorem dX4_readsPlaces_34 : decode cX4_readsPlaces 34 = .ok (.iconst 0, 1) := by decide +kernel
theorem dX4_readsPlaces_35 : decode cX4_readsPlaces 35 = .ok (.istore 5, 2) := by decide +kernel
theorem dX4_readsPlaces_37 : decode cX4_readsPlaces 37 = .ok (.iload 5, 2) := by decide +kernel
theorem dX4_readsPlaces_39 : decode cX4_readsPlaces 39 = .ok (.iload_n 3, 1) := by decide +kernel
theorem dX4_readsPlaces_40 : decode cX4_readsPlaces 40 = .ok (.if_icmp .ge 113, 3) := by decide +kernel
theorem dX4_readsPlaces_43 : decode cX4_readsPlaces 43 = .ok (.aload_n 0, 1) := by decide +kernel
theorem dX4_readsPlaces_44 : decode cX4_readsPlaces 44 = .ok (.invokevirtual 101, 3) := by decide +kernel
theorem dX4_readsPlaces_47 : decode cX4_readsPlaces 47 = .ok (.iload 4, 2) := by decide +kernel
theorem dX4_readsPlaces_49 : decode cX4_readsPlaces 49 = .ok (.iload_n 2, 1) := by decide +kernel
theorem dX4_readsPlaces_50 : decode cX4_readsPlaces 50 = .ok (.ifCond .eq 7, 3) := by decide +kernel
theorem dX4_readsPlaces_53 : decode cX4_readsPlaces 53 = .ok (.iconst 2, 1) := by decide +kernel
theorem dX4_readsPlaces_54 : decode cX4_readsPlaces 54 = .ok (.goto 4, 3) := by decide +kernel
theorem dX4_readsPlaces_57 : decode cX4_readsPlaces 57 = .ok (.iconst 1, 1) := by decide +kernel
theorem dX4_readsPlaces_58 : decode cX4_readsPlaces 58 = .ok (.iadd, 1) := by decide +kernel
theorem dX4_readsPlaces_59 : decode cX4_readsPlaces 59 = .ok (.if_icmp .lt 10, 3) := by decide +kernel
theorem dX4_readsPlaces_62 : decode cX4_readsPlaces 62 = .ok (.aload_n 0, 1) := by decide +kernel
theorem dX4_readsPlaces_63 : decode cX4_readsPlaces 63 = .ok (.invokevirtual 101, 3) := by decide +kernel
theorem dX4_readsPlaces_66 : decode cX4_readsPlaces 66 = .ok (.ifCond .ge 5, 3) := by decide +kernel
theorem dX4_readsPlaces_69 : decode cX4_readsPlaces 69 = .ok (.iconst 0, 1) := by decide +kernel
theorem dX4_readsPlaces_70 : decode cX4_readsPlaces 70 = .ok (.ireturn, 1) := by decide +kernel
theorem dX4_readsPlaces_71 : decode cX4_readsPlaces 71 = .ok (.aload_n 0, 1) := by decide +kernel
theorem dX4_readsPlaces_72 : decode cX4_readsPlaces 72 = .ok (.invokevirtual 101, 3) := by decide +kernel
theorem dX4_readsPlaces_75 : decode cX4_readsPlaces 75 = .ok (.istore 6, 2) := by decide +kernel
theorem dX4_readsPlaces_77 : decode cX4_readsPlaces 77 = .ok (.iload 6, 2) := by decide +kernel
theorem dX4_readsPlaces_79 : decode cX4_readsPlaces 79 = .ok (.istore 4, 2) := by decide +kernel
theorem dX4_readsPlaces_81 : decode cX4_readsPlaces 81 = .ok (.aload_n 0, 1) := by decide +kernel
theorem dX4_readsPlaces_82 : decode cX4_readsPlaces 82 = .ok (.dup, 1) := by decide +kernel
theorem dX4_readsPlaces_83 : decode cX4_readsPlaces 83 = .ok (.getfield 98, 3) := by decide +kernel
theorem dX4_readsPlaces_86 : decode cX4_readsPlaces 86 = .ok (.iconst 1, 1) := by decide +kernel
theorem dX4_readsPlaces_87 : decode cX4_readsPlaces 87 = .ok (.iadd, 1) := by decide +kernel
theorem dX4_readsPlaces_88 : decode cX4_readsPlaces 88 = .ok (.putfield 98, 3) := by decide +kernel
theorem dX4_readsPlaces_91 : decode cX4_readsPlaces 91 = .ok (.iload_n 2, 1) := by decide +kernel
theorem dX4_readsPlaces_92 : decode cX4_readsPlaces 92 = .ok (.ifCond .eq 30, 3) := by decide +kernel
theorem dX4_readsPlaces_95 : decode cX4_readsPlaces 95 = .ok (.aload_n 0, 1) := by decide +kernel
theorem dX4_readsPlaces_96 : decode cX4_readsPlaces 96 = .ok (.invokevirtual 101, 3) := by decide +kernel
theorem dX4_readsPlaces_99 : decode cX4_readsPlaces 99 = .ok (.iload 6, 2) := by decide +kernel
theorem dX4_readsPlaces_101 : decode cX4_readsPlaces 101 = .ok (.if_icmp .ge 5, 3) := by decide +kernel
theorem dX4_readsPlaces_104 : decode cX4_readsPlaces 104 = .ok (.iconst 0, 1) := by decide +kernel
theorem dX4_readsPlaces_105 : decode cX4_readsPlaces 105 = .ok (.ireturn, 1) := by decide +kernel
theorem dX4_readsPlaces_106 : decode cX4_readsPlaces 106 = .ok (.aload_n 0, 1) := by decide +kernel
theorem dX4_readsPlaces_107 : decode cX4_readsPlaces 107 = .ok (.invokevirtual 101, 3) := by decide +kernel
theorem dX4_readsPlaces_110 : decode cX4_readsPlaces 110 = .ok (.istore 4, 2) := by decide +kernel
theorem dX4_readsPlaces_112 : decode cX4_readsPlaces 112 = .ok (.aload_n 0, 1) := by decide +kernel
theorem dX4_readsPlaces_113 : decode cX4_readsPlaces 113 = .ok (.dup, 1) := by decide +kernel
theorem dX4_readsPlaces_114 : decode cX4_readsPlaces 114 = .ok (.getfield 98, 3) := by decide +kernel
theorem dX4_readsPlaces_117 : decode cX4_readsPlaces 117 = .ok (.iconst 1, 1) := by decide +kernel
theorem dX4_readsPlaces_118 : decode cX4_readsPlaces 118 = .ok (.iadd, 1) := by decide +kernel
theorem dX4_readsPlaces_119 : decode cX4_readsPlaces 119 = .ok (.putfield 98, 3) := by decide +kernel
theorem dX4_readsPlaces_122 : decode cX4_readsPlaces 122 = .ok (.iload 6, 2) := by decide +kernel
theorem dX4_readsPlaces_124 : decode cX4_readsPlaces 124 = .ok (.istore 7, 2) := by decide +kernel
theorem dX4_readsPlaces_126 : decode cX4_readsPlaces 126 = .ok (.iload 7, 2) := by decide +kernel
theorem dX4_readsPlaces_128 : decode cX4_readsPlaces 128 = .ok (.iload 4, 2) := by decide +kernel
theorem dX4_readsPlaces_130 : decode cX4_readsPlaces 130 = .ok (.if_icmp .gt 17, 3) := by decide +kernel
theorem dX4_readsPlaces_133 : decode cX4_readsPlaces 133 = .ok (.aload_n 0, 1) := by decide +kernel
theorem dX4_readsPlaces_134 : decode cX4_readsPlaces 134 = .ok (.iload_n 1, 1) := by decide +kernel
theorem dX4_readsPlaces_135 : decode cX4_readsPlaces 135 = .ok (.iload 7, 2) := by decide +kernel
theorem dX4_readsPlaces_137 : decode cX4_readsPlaces 137 = .ok (.iadd, 1) := by decide +kernel
theorem dX4_readsPlaces_138 : decode cX4_readsPlaces 138 = .ok (.invokevirtual 105, 3) := by decide +kernel
theorem dX4_readsPlaces_141 : decode cX4_readsPlaces 141 = .ok (.iinc 7 1, 3) := by decide +kernel
theorem dX4_readsPlaces_144 : decode cX4_readsPlaces 144 = .ok (.goto (-18), 3) := by decide +kernel
theorem dX4_readsPlaces_147 : decode cX4_readsPlaces 147 = .ok (.iinc 5 1, 3) := by decide +kernel
theorem dX4_readsPlaces_150 : decode cX4_readsPlaces 150 = .ok (.goto (-113), 3) := by decide +kernel
theorem dX4_readsPlaces_153 : decode cX4_readsPlaces 153 = .ok (.iconst 1, 1) := by decide +kernel
theorem dX4_readsPlaces_154 : decode cX4_readsPlaces 154 = .ok (.ireturn, 1) := by decide +kernel
set_option maxRecDepth 20000 in
theorem ggX4_readsBitmap_X4_next : GoodIn wsX4_readsBitmap wsX4_next := goodIn_r _ [6, 1, 7, 8, 14, 15, 16, 17, 18, 19, 20, 21] (by decide +kernel) (by decide +kernel)
set_option maxRecDepth 20000 in
theorem gX4_readsBitmap_X4_next : GoodIn wsX4_readsBitmap (wsV RX4 101 RX4 yX4_next wsX4_next) := goodIn_app (goodIn_of _ (by decide +kernel)) ggX4_readsBitmap_X4_next
set_option maxRecDepth 20000 in
theorem ggX4_readsBitmap_X4_takes : GoodIn wsX4_readsBitmap wsX4_takes := goodIn_r _ [12, 13, 14, 15, 16, 17, 18, 19, 20, 21] (by decide +kernel) (by decide +kernel)
set_option maxRecDepth 20000 in
theorem gX4_readsBitmap_X4_takes : GoodIn wsX4_readsBitmap (wsV RX4 105 RX4 yX4_takes wsX4_takes) := goodIn_app (goodIn_of _ (by decide +kernel)) ggX4_readsBitmap_X4_takes
theorem dX4_readsBitmap_0 : decode cX4_readsBitmap 0 = .ok (.iconst 0, 1) := by decide +kernel
theorem dX4_readsBitmap_1 : decode cX4_readsBitmap 1 = .ok (.istore_n 2, 1) := by decide +kernel
theorem dX4_readsBitmap_2 : decode cX4_readsBitmap 2 = .ok (.iload_n 2, 1) := by decide +kernel
theorem dX4_readsBitmap_3 : decode cX4_readsBitmap 3 = .ok (.bipush 32, 2) := by decide +kernel
theorem dX4_readsBitmap_5 : decode cX4_readsBitmap 5 = .ok (.if_icmp .ge 66, 3) := by decide +kernel
theorem dX4_readsBitmap_8 : decode cX4_readsBitmap 8 = .ok (.aload_n 0, 1) := by decide +kernel
theorem dX4_readsBitmap_9 : decode cX4_readsBitmap 9 = .ok (.invokevirtual 101, 3) := by decide +kernel
theorem dX4_readsBitmap_12 : decode cX4_readsBitmap 12 = .ok (.ifCond .ge 5, 3) := by decide +kernel
theorem dX4_readsBitmap_15 : decode cX4_readsBitmap 15 = .ok (.iconst 0, 1) := by decide +kernel
theorem dX4_readsBitmap_16 : decode cX4_readsBitmap 16 = .ok (.ireturn, 1) := by decide +kernel
theorem dX4_readsBitmap_17 : decode cX4_readsBitmap 17 = .ok (.iconst 0, 1) := by decide +kernel
theorem dX4_readsBitmap_18 : decode cX4_readsBitmap 18 = .ok (.istore_n 3, 1) := by decide +kernel
theorem dX4_readsBitmap_19 : decode cX4_readsBitmap 19 = .ok (.iload_n 3, 1) := by decide +kernel
theorem dX4_readsBitmap_20 : decode cX4_readsBitmap 20 = .ok (.bipush 8, 2) := by decide +kernel
theorem dX4_readsBitmap_22 : decode cX4_readsBitmap 22 = .ok (.if_icmp .ge 33, 3) := by decide +kernel
theorem dX4_readsBitmap_25 : decode cX4_readsBitmap 25 = .ok (.aload_n 0, 1) := by decide +kernel
theorem dX4_readsBitmap_26 : decode cX4_readsBitmap 26 = .ok (.invokevirtual 101, 3) := by decide +kernel
theorem dX4_readsBitmap_29 : decode cX4_readsBitmap 29 = .ok (.iload_n 3, 1) := by decide +kernel
theorem dX4_readsBitmap_30 : decode cX4_readsBitmap 30 = .ok (.ishr, 1) := by decide +kernel
theorem dX4_readsBitmap_31 : decode cX4_readsBitmap 31 = .ok (.iconst 1, 1) := by decide +kernel
theorem dX4_readsBitmap_32 : decode cX4_readsBitmap 32 = .ok (.iand, 1) := by decide +kernel
theorem dX4_readsBitmap_33 : decode cX4_readsBitmap 33 = .ok (.iconst 1, 1) := by decide +kernel
theorem dX4_readsBitmap_34 : decode cX4_readsBitmap 34 = .ok (.if_icmp .ne 15, 3) := by decide +kernel
theorem dX4_readsBitmap_37 : decode cX4_readsBitmap 37 = .ok (.aload_n 0, 1) := by decide +kernel
theorem dX4_readsBitmap_38 : decode cX4_readsBitmap 38 = .ok (.iload_n 1, 1) := by decide +kernel
theorem dX4_readsBitmap_39 : decode cX4_readsBitmap 39 = .ok (.bipush 8, 2) := by decide +kernel
theorem dX4_readsBitmap_41 : decode cX4_readsBitmap 41 = .ok (.iload_n 2, 1) := by decide +kernel
theorem dX4_readsBitmap_42 : decode cX4_readsBitmap 42 = .ok (.imul, 1) := by decide +kernel
theorem dX4_readsBitmap_43 : decode cX4_readsBitmap 43 = .ok (.iadd, 1) := by decide +kernel
theorem dX4_readsBitmap_44 : decode cX4_readsBitmap 44 = .ok (.iload_n 3, 1) := by decide +kernel
theorem dX4_readsBitmap_45 : decode cX4_readsBitmap 45 = .ok (.iadd, 1) := by decide +kernel
theorem dX4_readsBitmap_46 : decode cX4_readsBitmap 46 = .ok (.invokevirtual 105, 3) := by decide +kernel
theorem dX4_readsBitmap_49 : decode cX4_readsBitmap 49 = .ok (.iinc 3 1, 3) := by decide +kernel
theorem dX4_readsBitmap_52 : decode cX4_readsBitmap 52 = .ok (.goto (-33), 3) := by decide +kernel
theorem dX4_readsBitmap_55 : decode cX4_readsBitmap 55 = .ok (.aload_n 0, 1) := by decide +kernel
theorem dX4_readsBitmap_56 : decode cX4_readsBitmap 56 = .ok (.dup, 1) := by decide +kernel
theorem dX4_readsBitmap_57 : decode cX4_readsBitmap 57 = .ok (.getfield 98, 3) := by decide +kernel
theorem dX4_readsBitmap_60 : decode cX4_readsBitmap 60 = .ok (.iconst 1, 1) := by decide +kernel
theorem dX4_readsBitmap_61 : decode cX4_readsBitmap 61 = .ok (.iadd, 1) := by decide +kernel
theorem dX4_readsBitmap_62 : decode cX4_readsBitmap 62 = .ok (.putfield 98, 3) := by decide +kernel
theorem dX4_readsBitmap_65 : decode cX4_readsBitmap 65 = .ok (.iinc 2 1, 3) := by decide +kernel
theorem dX4_readsBitmap_68 : decode cX4_readsBitmap 68 = .ok (.goto (-66), 3) := by decide +kernel
theorem dX4_readsBitmap_71 : decode cX4_readsBitmap 71 = .ok (.iconst 1, 1) := by decide +kernel
theorem dX4_readsBitmap_72 : decode cX4_readsBitmap 72 = .ok (.ireturn, 1) := by decide +kernel
set_option maxRecDepth 20000 in
theorem ggX4_isKind_X4_kindBy : GoodIn wsX4_isKind wsX4_kindBy := goodIn_r _ [5] (by decide +kernel) (by decide +kernel)
set_option maxRecDepth 20000 in
theorem gX4_isKind_X4_kindBy : GoodIn wsX4_isKind (va_wsS RX4 37 yX4_kindBy wsX4_kindBy) := goodIn_app (goodIn_of _ (by decide +kernel)) ggX4_isKind_X4_kindBy
theorem dX4_isKind_0 : decode cX4_isKind 0 = .ok (.iconst 0, 1) := by decide +kernel
theorem dX4_isKind_1 : decode cX4_isKind 1 = .ok (.istore_n 3, 1) := by decide +kernel
theorem dX4_isKind_2 : decode cX4_isKind 2 = .ok (.iconst 0, 1) := by decide +kernel
theorem dX4_isKind_3 : decode cX4_isKind 3 = .ok (.istore 4, 2) := by decide +kernel
theorem dX4_isKind_5 : decode cX4_isKind 5 = .ok (.iconst 0, 1) := by decide +kernel
theorem dX4_isKind_6 : decode cX4_isKind 6 = .ok (.istore 5, 2) := by decide +kernel
theorem dX4_isKind_8 : decode cX4_isKind 8 = .ok (.sipush 256, 3) := by decide +kernel
theorem dX4_isKind_11 : decode cX4_isKind 11 = .ok (.iload_n 1, 1) := by decide +kernel
theorem dX4_isKind_12 : decode cX4_isKind 12 = .ok (.imul, 1) := by decide +kernel
theorem dX4_isKind_13 : decode cX4_isKind 13 = .ok (.istore 6, 2) := by decide +kernel
theorem dX4_isKind_15 : decode cX4_isKind 15 = .ok (.iload 6, 2) := by decide +kernel
theorem dX4_isKind_17 : decode cX4_isKind 17 = .ok (.sipush 256, 3) := by decide +kernel
theorem dX4_isKind_20 : decode cX4_isKind 20 = .ok (.iload_n 1, 1) := by decide +kernel
theorem dX4_isKind_21 : decode cX4_isKind 21 = .ok (.imul, 1) := by decide +kernel
theorem dX4_isKind_22 : decode cX4_isKind 22 = .ok (.sipush 256, 3) := by decide +kernel
theorem dX4_isKind_25 : decode cX4_isKind 25 = .ok (.iadd, 1) := by decide +kernel
theorem dX4_isKind_26 : decode cX4_isKind 26 = .ok (.if_icmp .ge 75, 3) := by decide +kernel
theorem dX4_isKind_29 : decode cX4_isKind 29 = .ok (.aload_n 0, 1) := by decide +kernel
theorem dX4_isKind_30 : decode cX4_isKind 30 = .ok (.getfield 22, 3) := by decide +kernel
theorem dX4_isKind_33 : decode cX4_isKind 33 = .ok (.iload 6, 2) := by decide +kernel
theorem dX4_isKind_35 : decode cX4_isKind 35 = .ok (.bipush 32, 2) := by decide +kernel
theorem dX4_isKind_37 : decode cX4_isKind 37 = .ok (.idiv, 1) := by decide +kernel
theorem dX4_isKind_38 : decode cX4_isKind 38 = .ok (.iaload, 1) := by decide +kernel
theorem dX4_isKind_39 : decode cX4_isKind 39 = .ok (.iload 6, 2) := by decide +kernel
theorem dX4_isKind_41 : decode cX4_isKind 41 = .ok (.bipush 32, 2) := by decide +kernel
theorem dX4_isKind_43 : decode cX4_isKind 43 = .ok (.irem, 1) := by decide +kernel
theorem dX4_isKind_44 : decode cX4_isKind 44 = .ok (.ishr, 1) := by decide +kernel
theorem dX4_isKind_45 : decode cX4_isKind 45 = .ok (.iconst 1, 1) := by decide +kernel
theorem dX4_isKind_46 : decode cX4_isKind 46 = .ok (.iand, 1) := by decide +kernel
theorem dX4_isKind_47 : decode cX4_isKind 47 = .ok (.iconst 1, 1) := by decide +kernel
theorem dX4_isKind_48 : decode cX4_isKind 48 = .ok (.if_icmp .ne 7, 3) := by decide +kernel
theorem dX4_isKind_51 : decode cX4_isKind 51 = .ok (.iconst 1, 1) := by decide +kernel
theorem dX4_isKind_52 : decode cX4_isKind 52 = .ok (.goto 4, 3) := by decide +kernel
theorem dX4_isKind_55 : decode cX4_isKind 55 = .ok (.iconst 0, 1) := by decide +kernel
theorem dX4_isKind_56 : decode cX4_isKind 56 = .ok (.istore 7, 2) := by decide +kernel
theorem dX4_isKind_58 : decode cX4_isKind 58 = .ok (.iload_n 3, 1) := by decide +kernel
theorem dX4_isKind_59 : decode cX4_isKind 59 = .ok (.iload 7, 2) := by decide +kernel
theorem dX4_isKind_61 : decode cX4_isKind 61 = .ok (.ifCond .eq 7, 3) := by decide +kernel
theorem dX4_isKind_64 : decode cX4_isKind 64 = .ok (.iconst 1, 1) := by decide +kernel
theorem dX4_isKind_65 : decode cX4_isKind 65 = .ok (.goto 4, 3) := by decide +kernel
theorem dX4_isKind_68 : decode cX4_isKind 68 = .ok (.iconst 0, 1) := by decide +kernel
theorem dX4_isKind_69 : decode cX4_isKind 69 = .ok (.iadd, 1) := by decide +kernel
theorem dX4_isKind_70 : decode cX4_isKind 70 = .ok (.istore_n 3, 1) := by decide +kernel
theorem dX4_isKind_71 : decode cX4_isKind 71 = .ok (.iload 4, 2) := by decide +kernel
theorem dX4_isKind_73 : decode cX4_isKind 73 = .ok (.iload 7, 2) := by decide +kernel
theorem dX4_isKind_75 : decode cX4_isKind 75 = .ok (.ifCond .eq 12, 3) := by decide +kernel
theorem dX4_isKind_78 : decode cX4_isKind 78 = .ok (.iload 5, 2) := by decide +kernel
theorem dX4_isKind_80 : decode cX4_isKind 80 = .ok (.ifCond .ne 7, 3) := by decide +kernel
theorem dX4_isKind_83 : decode cX4_isKind 83 = .ok (.iconst 1, 1) := by decide +kernel
theorem dX4_isKind_84 : decode cX4_isKind 84 = .ok (.goto 4, 3) := by decide +kernel
theorem dX4_isKind_87 : decode cX4_isKind 87 = .ok (.iconst 0, 1) := by decide +kernel
theorem dX4_isKind_88 : decode cX4_isKind 88 = .ok (.iadd, 1) := by decide +kernel
theorem dX4_isKind_89 : decode cX4_isKind 89 = .ok (.istore 4, 2) := by decide +kernel
theorem dX4_isKind_91 : decode cX4_isKind 91 = .ok (.iload 7, 2) := by decide +kernel
theorem dX4_isKind_93 : decode cX4_isKind 93 = .ok (.istore 5, 2) := by decide +kernel
theorem dX4_isKind_95 : decode cX4_isKind 95 = .ok (.iinc 6 1, 3) := by decide +kernel
theorem dX4_isKind_98 : decode cX4_isKind 98 = .ok (.goto (-83), 3) := by decide +kernel
theorem dX4_isKind_101 : decode cX4_isKind 101 = .ok (.iload_n 3, 1) := by decide +kernel
theorem dX4_isKind_102 : decode cX4_isKind 102 = .ok (.iload 4, 2) := by decide +kernel
theorem dX4_isKind_104 : decode cX4_isKind 104 = .ok (.invokestatic 37, 3) := by decide +kernel
theorem dX4_isKind_107 : decode cX4_isKind 107 = .ok (.iload_n 2, 1) := by decide +kernel
theorem dX4_isKind_108 : decode cX4_isKind 108 = .ok (.if_icmp .ne 7, 3) := by decide +kernel
theorem dX4_isKind_111 : decode cX4_isKind 111 = .ok (.iconst 1, 1) := by decide +kernel
theorem dX4_isKind_112 : decode cX4_isKind 112 = .ok (.goto 4, 3) := by decide +kernel
theorem dX4_isKind_115 : decode cX4_isKind 115 = .ok (.iconst 0, 1) := by decide +kernel
theorem dX4_isKind_116 : decode cX4_isKind 116 = .ok (.ireturn, 1) := by decide +kernel
set_option maxRecDepth 20000 in
theorem ggX4_wrongAt_X4_readsBitmap : GoodIn wsX4_wrongAt wsX4_readsBitmap := goodIn_r _ [9, 2, 10, 11, 12, 8, 13, 3, 4, 14, 15, 16, 17, 1, 29, 30, 31, 32, 33, 34, 35, 36] (by decide +kernel) (by decide +kernel)
set_option maxRecDepth 20000 in
theorem gX4_wrongAt_X4_readsBitmap : GoodIn wsX4_wrongAt (wsV RX4 108 RX4 yX4_readsBitmap wsX4_readsBitmap) := goodIn_app (goodIn_of _ (by decide +kernel)) ggX4_wrongAt_X4_readsBitmap
set_option maxRecDepth 20000 in
theorem ggX4_wrongAt_X4_readsPlaces : GoodIn wsX4_wrongAt wsX4_readsPlaces := goodIn_r _ [21, 2, 10, 11, 12, 8, 13, 3, 4, 14, 15, 16, 17, 1, 29, 30, 31, 32, 33, 34, 35, 36] (by decide +kernel) (by decide +kernel)
set_option maxRecDepth 20000 in
theorem gX4_wrongAt_X4_readsPlaces : GoodIn wsX4_wrongAt (wsV RX4 111 RX4 yX4_readsPlaces wsX4_readsPlaces) := goodIn_app (goodIn_of _ (by decide +kernel)) ggX4_wrongAt_X4_readsPlaces
set_option maxRecDepth 20000 in
theorem ggX4_wrongAt_X4_isKind : GoodIn wsX4_wrongAt wsX4_isKind := goodIn_r _ [25, 1, 26, 27, 8, 28, 29, 30, 31, 32, 33, 34, 35, 36] (by decide +kernel) (by decide +kernel)
set_option maxRecDepth 20000 in
theorem gX4_wrongAt_X4_isKind : GoodIn wsX4_wrongAt (wsV RX4 115 RX4 yX4_isKind wsX4_isKind) := goodIn_app (goodIn_of _ (by decide +kernel)) ggX4_wrongAt_X4_isKind
theorem dX4_wrongAt_0 : decode cX4_wrongAt 0 = .ok (.iconst 0, 1) := by decide +kernel
theorem dX4_wrongAt_1 : decode cX4_wrongAt 1 = .ok (.istore_n 1, 1) := by decide +kernel
theorem dX4_wrongAt_2 : decode cX4_wrongAt 2 = .ok (.iload_n 1, 1) := by decide +kernel
theorem dX4_wrongAt_3 : decode cX4_wrongAt 3 = .ok (.sipush 128, 3) := by decide +kernel
theorem dX4_wrongAt_6 : decode cX4_wrongAt 6 = .ok (.if_icmp .ge 16, 3) := by decide +kernel
theorem dX4_wrongAt_9 : decode cX4_wrongAt 9 = .ok (.aload_n 0, 1) := by decide +kernel
theorem dX4_wrongAt_10 : decode cX4_wrongAt 10 = .ok (.getfield 22, 3) := by decide +kernel
theorem dX4_wrongAt_13 : decode cX4_wrongAt 13 = .ok (.iload_n 1, 1) := by decide +kernel
theorem dX4_wrongAt_14 : decode cX4_wrongAt 14 = .ok (.iconst 0, 1) := by decide +kernel
theorem dX4_wrongAt_15 : decode cX4_wrongAt 15 = .ok (.iastore, 1) := by decide +kernel
theorem dX4_wrongAt_16 : decode cX4_wrongAt 16 = .ok (.iinc 1 1, 3) := by decide +kernel
theorem dX4_wrongAt_19 : decode cX4_wrongAt 19 = .ok (.goto (-17), 3) := by decide +kernel
theorem dX4_wrongAt_22 : decode cX4_wrongAt 22 = .ok (.aload_n 0, 1) := by decide +kernel
theorem dX4_wrongAt_23 : decode cX4_wrongAt 23 = .ok (.iconst 0, 1) := by decide +kernel
theorem dX4_wrongAt_24 : decode cX4_wrongAt 24 = .ok (.putfield 98, 3) := by decide +kernel
theorem dX4_wrongAt_27 : decode cX4_wrongAt 27 = .ok (.iconst (-1), 1) := by decide +kernel
theorem dX4_wrongAt_28 : decode cX4_wrongAt 28 = .ok (.istore_n 1, 1) := by decide +kernel
theorem dX4_wrongAt_29 : decode cX4_wrongAt 29 = .ok (.aload_n 0, 1) := by decide +kernel
theorem dX4_wrongAt_30 : decode cX4_wrongAt 30 = .ok (.getfield 98, 3) := by decide +kernel
theorem dX4_wrongAt_33 : decode cX4_wrongAt 33 = .ok (.aload_n 0, 1) := by decide +kernel
theorem dX4_wrongAt_34 : decode cX4_wrongAt 34 = .ok (.getfield 95, 3) := by decide +kernel
theorem dX4_wrongAt_37 : decode cX4_wrongAt 37 = .ok (.if_icmp .ge 140, 3) := by decide +kernel
theorem dX4_wrongAt_40 : decode cX4_wrongAt 40 = .ok (.aload_n 0, 1) := by decide +kernel
theorem dX4_wrongAt_41 : decode cX4_wrongAt 41 = .ok (.getfield 98, 3) := by decide +kernel
theorem dX4_wrongAt_44 : decode cX4_wrongAt 44 = .ok (.istore_n 2, 1) := by decide +kernel
theorem dX4_wrongAt_45 : decode cX4_wrongAt 45 = .ok (.aload_n 0, 1) := by decide +kernel
theorem dX4_wrongAt_46 : decode cX4_wrongAt 46 = .ok (.getfield 19, 3) := by decide +kernel
theorem dX4_wrongAt_49 : decode cX4_wrongAt 49 = .ok (.aload_n 0, 1) := by decide +kernel
theorem dX4_wrongAt_50 : decode cX4_wrongAt 50 = .ok (.getfield 98, 3) := by decide +kernel
theorem dX4_wrongAt_53 : decode cX4_wrongAt 53 = .ok (.iaload, 1) := by decide +kernel
theorem dX4_wrongAt_54 : decode cX4_wrongAt 54 = .ok (.iconst 4, 1) := by decide +kernel
theorem dX4_wrongAt_55 : decode cX4_wrongAt 55 = .ok (.idiv, 1) := by decide +kernel
theorem dX4_wrongAt_56 : decode cX4_wrongAt 56 = .ok (.istore_n 3, 1) := by decide +kernel
theorem dX4_wrongAt_57 : decode cX4_wrongAt 57 = .ok (.aload_n 0, 1) := by decide +kernel
theorem dX4_wrongAt_58 : decode cX4_wrongAt 58 = .ok (.getfield 19, 3) := by decide +kernel
theorem dX4_wrongAt_61 : decode cX4_wrongAt 61 = .ok (.aload_n 0, 1) := by decide +kernel
theorem dX4_wrongAt_62 : decode cX4_wrongAt 62 = .ok (.getfield 98, 3) := by decide +kernel
theorem dX4_wrongAt_65 : decode cX4_wrongAt 65 = .ok (.iaload, 1) := by decide +kernel
theorem dX4_wrongAt_66 : decode cX4_wrongAt 66 = .ok (.iconst 4, 1) := by decide +kernel
theorem dX4_wrongAt_67 : decode cX4_wrongAt 67 = .ok (.irem, 1) := by decide +kernel
theorem dX4_wrongAt_68 : decode cX4_wrongAt 68 = .ok (.istore 4, 2) := by decide +kernel
theorem dX4_wrongAt_70 : decode cX4_wrongAt 70 = .ok (.aload_n 0, 1) := by decide +kernel
theorem dX4_wrongAt_71 : decode cX4_wrongAt 71 = .ok (.getfield 19, 3) := by decide +kernel
theorem dX4_wrongAt_74 : decode cX4_wrongAt 74 = .ok (.aload_n 0, 1) := by decide +kernel
theorem dX4_wrongAt_75 : decode cX4_wrongAt 75 = .ok (.getfield 98, 3) := by decide +kernel
theorem dX4_wrongAt_78 : decode cX4_wrongAt 78 = .ok (.iaload, 1) := by decide +kernel
theorem dX4_wrongAt_79 : decode cX4_wrongAt 79 = .ok (.bipush 63, 2) := by decide +kernel
theorem dX4_wrongAt_81 : decode cX4_wrongAt 81 = .ok (.if_icmp .gt 14, 3) := by decide +kernel
theorem dX4_wrongAt_84 : decode cX4_wrongAt 84 = .ok (.iload 4, 2) := by decide +kernel
theorem dX4_wrongAt_86 : decode cX4_wrongAt 86 = .ok (.iconst 3, 1) := by decide +kernel
theorem dX4_wrongAt_87 : decode cX4_wrongAt 87 = .ok (.if_icmp .eq 8, 3) := by decide +kernel
theorem dX4_wrongAt_90 : decode cX4_wrongAt 90 = .ok (.iload_n 3, 1) := by decide +kernel
theorem dX4_wrongAt_91 : decode cX4_wrongAt 91 = .ok (.iload_n 1, 1) := by decide +kernel
theorem dX4_wrongAt_92 : decode cX4_wrongAt 92 = .ok (.if_icmp .gt 8, 3) := by decide +kernel
theorem dX4_wrongAt_95 : decode cX4_wrongAt 95 = .ok (.aload_n 0, 1) := by decide +kernel
theorem dX4_wrongAt_96 : decode cX4_wrongAt 96 = .ok (.getfield 98, 3) := by decide +kernel
theorem dX4_wrongAt_99 : decode cX4_wrongAt 99 = .ok (.ireturn, 1) := by decide +kernel
theorem dX4_wrongAt_100 : decode cX4_wrongAt 100 = .ok (.aload_n 0, 1) := by decide +kernel
theorem dX4_wrongAt_101 : decode cX4_wrongAt 101 = .ok (.dup, 1) := by decide +kernel
theorem dX4_wrongAt_102 : decode cX4_wrongAt 102 = .ok (.getfield 98, 3) := by decide +kernel
theorem dX4_wrongAt_105 : decode cX4_wrongAt 105 = .ok (.iconst 1, 1) := by decide +kernel
theorem dX4_wrongAt_106 : decode cX4_wrongAt 106 = .ok (.iadd, 1) := by decide +kernel
theorem dX4_wrongAt_107 : decode cX4_wrongAt 107 = .ok (.putfield 98, 3) := by decide +kernel
theorem dX4_wrongAt_110 : decode cX4_wrongAt 110 = .ok (.iload 4, 2) := by decide +kernel
theorem dX4_wrongAt_112 : decode cX4_wrongAt 112 = .ok (.iconst 2, 1) := by decide +kernel
theorem dX4_wrongAt_113 : decode cX4_wrongAt 113 = .ok (.if_icmp .ne 15, 3) := by decide +kernel
theorem dX4_wrongAt_116 : decode cX4_wrongAt 116 = .ok (.aload_n 0, 1) := by decide +kernel
theorem dX4_wrongAt_117 : decode cX4_wrongAt 117 = .ok (.sipush 256, 3) := by decide +kernel
theorem dX4_wrongAt_120 : decode cX4_wrongAt 120 = .ok (.iload_n 3, 1) := by decide +kernel
theorem dX4_wrongAt_121 : decode cX4_wrongAt 121 = .ok (.imul, 1) := by decide +kernel
theorem dX4_wrongAt_122 : decode cX4_wrongAt 122 = .ok (.invokevirtual 108, 3) := by decide +kernel
theorem dX4_wrongAt_125 : decode cX4_wrongAt 125 = .ok (.goto 23, 3) := by decide +kernel
theorem dX4_wrongAt_128 : decode cX4_wrongAt 128 = .ok (.aload_n 0, 1) := by decide +kernel
theorem dX4_wrongAt_129 : decode cX4_wrongAt 129 = .ok (.sipush 256, 3) := by decide +kernel
theorem dX4_wrongAt_132 : decode cX4_wrongAt 132 = .ok (.iload_n 3, 1) := by decide +kernel
theorem dX4_wrongAt_133 : decode cX4_wrongAt 133 = .ok (.imul, 1) := by decide +kernel
theorem dX4_wrongAt_134 : decode cX4_wrongAt 134 = .ok (.iload 4, 2) := by decide +kernel
theorem dX4_wrongAt_136 : decode cX4_wrongAt 136 = .ok (.iconst 1, 1) := by decide +kernel
theorem dX4_wrongAt_137 : decode cX4_wrongAt 137 = .ok (.if_icmp .ne 7, 3) := by decide +kernel
theorem dX4_wrongAt_140 : decode cX4_wrongAt 140 = .ok (.iconst 1, 1) := by decide +kernel
theorem dX4_wrongAt_141 : decode cX4_wrongAt 141 = .ok (.goto 4, 3) := by decide +kernel
theorem dX4_wrongAt_144 : decode cX4_wrongAt 144 = .ok (.iconst 0, 1) := by decide +kernel
theorem dX4_wrongAt_145 : decode cX4_wrongAt 145 = .ok (.invokevirtual 111, 3) := by decide +kernel
theorem dX4_wrongAt_148 : decode cX4_wrongAt 148 = .ok (.istore 5, 2) := by decide +kernel
theorem dX4_wrongAt_150 : decode cX4_wrongAt 150 = .ok (.iload 5, 2) := by decide +kernel
theorem dX4_wrongAt_152 : decode cX4_wrongAt 152 = .ok (.ifCond .ne 8, 3) := by decide +kernel
theorem dX4_wrongAt_155 : decode cX4_wrongAt 155 = .ok (.aload_n 0, 1) := by decide +kernel
theorem dX4_wrongAt_156 : decode cX4_wrongAt 156 = .ok (.getfield 98, 3) := by decide +kernel
theorem dX4_wrongAt_159 : decode cX4_wrongAt 159 = .ok (.ireturn, 1) := by decide +kernel
theorem dX4_wrongAt_160 : decode cX4_wrongAt 160 = .ok (.aload_n 0, 1) := by decide +kernel
theorem dX4_wrongAt_161 : decode cX4_wrongAt 161 = .ok (.iload_n 3, 1) := by decide +kernel
theorem dX4_wrongAt_162 : decode cX4_wrongAt 162 = .ok (.iload 4, 2) := by decide +kernel
theorem dX4_wrongAt_164 : decode cX4_wrongAt 164 = .ok (.invokevirtual 115, 3) := by decide +kernel
theorem dX4_wrongAt_167 : decode cX4_wrongAt 167 = .ok (.ifCond .ne 5, 3) := by decide +kernel
theorem dX4_wrongAt_170 : decode cX4_wrongAt 170 = .ok (.iload_n 2, 1) := by decide +kernel
theorem dX4_wrongAt_171 : decode cX4_wrongAt 171 = .ok (.ireturn, 1) := by decide +kernel
theorem dX4_wrongAt_172 : decode cX4_wrongAt 172 = .ok (.iload_n 3, 1) := by decide +kernel
theorem dX4_wrongAt_173 : decode cX4_wrongAt 173 = .ok (.istore_n 1, 1) := by decide +kernel
theorem dX4_wrongAt_174 : decode cX4_wrongAt 174 = .ok (.goto (-145), 3) := by decide +kernel
theorem dX4_wrongAt_177 : decode cX4_wrongAt 177 = .ok (.iconst (-1), 1) := by decide +kernel
theorem dX4_wrongAt_178 : decode cX4_wrongAt 178 = .ok (.ireturn, 1) := by decide +kernel
set_option maxRecDepth 20000 in
theorem ggX4_read_X4_isSet : GoodIn wsX4_read wsX4_isSet := goodIn_r _ [7, 8, 9, 6, 10] (by decide +kernel) (by decide +kernel)
set_option maxRecDepth 20000 in
theorem gX4_read_X4_isSet : GoodIn wsX4_read (va_wsS RX4 55 yX4_isSet wsX4_isSet) := goodIn_app (goodIn_of _ (by decide +kernel)) ggX4_read_X4_isSet
set_option maxRecDepth 20000 in
theorem ggX4_read_X4_wrongAt : GoodIn wsX4_read wsX4_wrongAt := goodIn_r _ [14, 2, 15, 3, 16, 17, 18, 19, 6, 20, 21, 22, 23, 24, 25, 26, 27, 28, 29, 30, 31, 32, 33, 34, 35, 36, 37, 38, 39, 71, 72, 73, 74, 75, 76, 77, 78] (by decide +kernel) (by decide +kernel)
set_option maxRecDepth 20000 in
theorem gX4_read_X4_wrongAt : GoodIn wsX4_read (wsV RX4 118 RX4 yX4_wrongAt wsX4_wrongAt) := goodIn_app (goodIn_of _ (by decide +kernel)) ggX4_read_X4_wrongAt
set_option maxRecDepth 20000 in
theorem ggX4_read_X4_act : GoodIn wsX4_read wsX4_act := goodIn_r _ [43, 44, 45, 1, 46, 71, 72, 73, 74, 75, 76, 77, 78] (by decide +kernel) (by decide +kernel)
set_option maxRecDepth 20000 in
theorem gX4_read_X4_act : GoodIn wsX4_read (wsV RX4 59 RX4 yX4_act wsX4_act) := goodIn_app (goodIn_of _ (by decide +kernel)) ggX4_read_X4_act
set_option maxRecDepth 20000 in
theorem ggX4_read_X4_converts : GoodIn wsX4_read wsX4_converts := goodIn_r _ [50, 46, 1, 51, 52, 6, 53, 54, 55, 56, 57, 58, 59, 60, 61, 62, 37, 38, 39, 71, 72, 73, 74, 75, 76, 77, 78] (by decide +kernel) (by decide +kernel)
set_option maxRecDepth 20000 in
theorem gX4_read_X4_converts : GoodIn wsX4_read (wsV RX4 66 RX4 yX4_converts wsX4_converts) := goodIn_app (goodIn_of _ (by decide +kernel)) ggX4_read_X4_converts
set_option maxRecDepth 20000 in
theorem ggX4_read_X4_sizeOf : GoodIn wsX4_read wsX4_sizeOf := goodIn_r _ [66, 67, 68, 69, 6, 70, 1, 57, 58, 59, 71, 72, 73, 74, 75, 76, 77, 78] (by decide +kernel) (by decide +kernel)
set_option maxRecDepth 20000 in
theorem gX4_read_X4_sizeOf : GoodIn wsX4_read (wsV RX4 78 RX4 yX4_sizeOf wsX4_sizeOf) := goodIn_app (goodIn_of _ (by decide +kernel)) ggX4_read_X4_sizeOf
theorem dX4_read_0 : decode cX4_read 0 = .ok (.iload_n 1, 1) := by decide +kernel
theorem dX4_read_1 : decode cX4_read 1 = .ok (.invokestatic 55, 3) := by decide +kernel
theorem dX4_read_4 : decode cX4_read 4 = .ok (.ifCond .ne 5, 3) := by decide +kernel
theorem dX4_read_7 : decode cX4_read 7 = .ok (.iconst (-1), 1) := by decide +kernel
theorem dX4_read_8 : decode cX4_read 8 = .ok (.ireturn, 1) := by decide +kernel
theorem dX4_read_9 : decode cX4_read 9 = .ok (.aload_n 0, 1) := by decide +kernel
theorem dX4_read_10 : decode cX4_read 10 = .ok (.invokevirtual 118, 3) := by decide +kernel
theorem dX4_read_13 : decode cX4_read 13 = .ok (.istore_n 2, 1) := by decide +kernel
theorem dX4_read_14 : decode cX4_read 14 = .ok (.iload_n 2, 1) := by decide +kernel
theorem dX4_read_15 : decode cX4_read 15 = .ok (.ifCond .lt 8, 3) := by decide +kernel
theorem dX4_read_18 : decode cX4_read 18 = .ok (.bipush (-100), 2) := by decide +kernel
theorem dX4_read_20 : decode cX4_read 20 = .ok (.iload_n 2, 1) := by decide +kernel
theorem dX4_read_21 : decode cX4_read 21 = .ok (.isub, 1) := by decide +kernel
theorem dX4_read_22 : decode cX4_read 22 = .ok (.ireturn, 1) := by decide +kernel
theorem dX4_read_23 : decode cX4_read 23 = .ok (.aload_n 0, 1) := by decide +kernel
theorem dX4_read_24 : decode cX4_read 24 = .ok (.invokevirtual 59, 3) := by decide +kernel
theorem dX4_read_27 : decode cX4_read 27 = .ok (.iconst 0, 1) := by decide +kernel
theorem dX4_read_28 : decode cX4_read 28 = .ok (.istore_n 3, 1) := by decide +kernel
theorem dX4_read_29 : decode cX4_read 29 = .ok (.iload_n 3, 1) := by decide +kernel
theorem dX4_read_30 : decode cX4_read 30 = .ok (.sipush 128, 3) := by decide +kernel
theorem dX4_read_33 : decode cX4_read 33 = .ok (.if_icmp .ge 27, 3) := by decide +kernel
theorem dX4_read_36 : decode cX4_read 36 = .ok (.aload_n 0, 1) := by decide +kernel
theorem dX4_read_37 : decode cX4_read 37 = .ok (.getfield 7, 3) := by decide +kernel
theorem dX4_read_40 : decode cX4_read 40 = .ok (.sipush 128, 3) := by decide +kernel
theorem dX4_read_43 : decode cX4_read 43 = .ok (.iload_n 1, 1) := by decide +kernel
theorem dX4_read_44 : decode cX4_read 44 = .ok (.imul, 1) := by decide +kernel
theorem dX4_read_45 : decode cX4_read 45 = .ok (.iload_n 3, 1) := by decide +kernel
theorem dX4_read_46 : decode cX4_read 46 = .ok (.iadd, 1) := by decide +kernel
theorem dX4_read_47 : decode cX4_read 47 = .ok (.aload_n 0, 1) := by decide +kernel
theorem dX4_read_48 : decode cX4_read 48 = .ok (.getfield 22, 3) := by decide +kernel
theorem dX4_read_51 : decode cX4_read 51 = .ok (.iload_n 3, 1) := by decide +kernel
theorem dX4_read_52 : decode cX4_read 52 = .ok (.iaload, 1) := by decide +kernel
theorem dX4_read_53 : decode cX4_read 53 = .ok (.iastore, 1) := by decide +kernel
theorem dX4_read_54 : decode cX4_read 54 = .ok (.iinc 3 1, 3) := by decide +kernel
theorem dX4_read_57 : decode cX4_read 57 = .ok (.goto (-28), 3) := by decide +kernel
theorem dX4_read_60 : decode cX4_read 60 = .ok (.aload_n 0, 1) := by decide +kernel
theorem dX4_read_61 : decode cX4_read 61 = .ok (.iconst 0, 1) := by decide +kernel
theorem dX4_read_62 : decode cX4_read 62 = .ok (.putfield 95, 3) := by decide +kernel
theorem dX4_read_65 : decode cX4_read 65 = .ok (.aload_n 0, 1) := by decide +kernel
theorem dX4_read_66 : decode cX4_read 66 = .ok (.iload_n 1, 1) := by decide +kernel
theorem dX4_read_67 : decode cX4_read 67 = .ok (.invokevirtual 66, 3) := by decide +kernel
theorem dX4_read_70 : decode cX4_read 70 = .ok (.aload_n 0, 1) := by decide +kernel
theorem dX4_read_71 : decode cX4_read 71 = .ok (.iload_n 1, 1) := by decide +kernel
theorem dX4_read_72 : decode cX4_read 72 = .ok (.invokevirtual 78, 3) := by decide +kernel
theorem dX4_read_75 : decode cX4_read 75 = .ok (.ireturn, 1) := by decide +kernel
set_option maxRecDepth 20000 in
theorem ggX4_comparison_X4_has : GoodIn wsX4_comparison wsX4_has := goodIn_r _ [5, 6, 7, 8, 4, 9, 10, 11, 12, 13, 14, 15, 16, 17] (by decide +kernel) (by decide +kernel)
set_option maxRecDepth 20000 in
theorem gX4_comparison_X4_has : GoodIn wsX4_comparison (wsV RX4 51 RX4 yX4_has wsX4_has) := goodIn_app (goodIn_of _ (by decide +kernel)) ggX4_comparison_X4_has
theorem dX4_comparison_0 : decode cX4_comparison 0 = .ok (.iconst 0, 1) := by decide +kernel
theorem dX4_comparison_1 : decode cX4_comparison 1 = .ok (.istore 4, 2) := by decide +kernel
theorem dX4_comparison_3 : decode cX4_comparison 3 = .ok (.iconst 0, 1) := by decide +kernel
theorem dX4_comparison_4 : decode cX4_comparison 4 = .ok (.istore 5, 2) := by decide +kernel
theorem dX4_comparison_6 : decode cX4_comparison 6 = .ok (.iconst 0, 1) := by decide +kernel
theorem dX4_comparison_7 : decode cX4_comparison 7 = .ok (.istore 6, 2) := by decide +kernel
theorem dX4_comparison_9 : decode cX4_comparison 9 = .ok (.bipush (-9), 2) := by decide +kernel
theorem dX4_comparison_11 : decode cX4_comparison 11 = .ok (.istore 7, 2) := by decide +kernel
theorem dX4_comparison_13 : decode cX4_comparison 13 = .ok (.iconst 0, 1) := by decide +kernel
theorem dX4_comparison_14 : decode cX4_comparison 14 = .ok (.istore 8, 2) := by decide +kernel
theorem dX4_comparison_16 : decode cX4_comparison 16 = .ok (.iconst 0, 1) := by decide +kernel
theorem dX4_comparison_17 : decode cX4_comparison 17 = .ok (.istore 9, 2) := by decide +kernel
theorem dX4_comparison_19 : decode cX4_comparison 19 = .ok (.iload 9, 2) := by decide +kernel
theorem dX4_comparison_21 : decode cX4_comparison 21 = .ok (.bipush 16, 2) := by decide +kernel
theorem dX4_comparison_23 : decode cX4_comparison 23 = .ok (.if_icmp .ge 155, 3) := by decide +kernel
theorem dX4_comparison_26 : decode cX4_comparison 26 = .ok (.iload 5, 2) := by decide +kernel
theorem dX4_comparison_28 : decode cX4_comparison 28 = .ok (.istore 10, 2) := by decide +kernel
theorem dX4_comparison_30 : decode cX4_comparison 30 = .ok (.sipush 256, 3) := by decide +kernel
theorem dX4_comparison_33 : decode cX4_comparison 33 = .ok (.iload 9, 2) := by decide +kernel
theorem dX4_comparison_35 : decode cX4_comparison 35 = .ok (.imul, 1) := by decide +kernel
theorem dX4_comparison_36 : decode cX4_comparison 36 = .ok (.istore 11, 2) := by decide +kernel
theorem dX4_comparison_38 : decode cX4_comparison 38 = .ok (.iload 11, 2) := by decide +kernel
theorem dX4_comparison_40 : decode cX4_comparison 40 = .ok (.sipush 256, 3) := by decide +kernel
theorem dX4_comparison_43 : decode cX4_comparison 43 = .ok (.iload 9, 2) := by decide +kernel
theorem dX4_comparison_45 : decode cX4_comparison 45 = .ok (.imul, 1) := by decide +kernel
theorem dX4_comparison_46 : decode cX4_comparison 46 = .ok (.sipush 256, 3) := by decide +kernel
theorem dX4_comparison_49 : decode cX4_comparison 49 = .ok (.iadd, 1) := by decide +kernel
theorem dX4_comparison_50 : decode cX4_comparison 50 = .ok (.if_icmp .ge 105, 3) := by decide +kernel
theorem dX4_comparison_53 : decode cX4_comparison 53 = .ok (.aload_n 0, 1) := by decide +kernel
theorem dX4_comparison_54 : decode cX4_comparison 54 = .ok (.iload_n 1, 1) := by decide +kernel
theorem dX4_comparison_55 : decode cX4_comparison 55 = .ok (.iload 11, 2) := by decide +kernel
theorem dX4_comparison_57 : decode cX4_comparison 57 = .ok (.invokevirtual 51, 3) := by decide +kernel
theorem dX4_comparison_60 : decode cX4_comparison 60 = .ok (.istore 12, 2) := by decide +kernel
theorem dX4_comparison_62 : decode cX4_comparison 62 = .ok (.aload_n 0, 1) := by decide +kernel
theorem dX4_comparison_63 : decode cX4_comparison 63 = .ok (.iload_n 2, 1) := by decide +kernel
theorem dX4_comparison_64 : decode cX4_comparison 64 = .ok (.iload 11, 2) := by decide +kernel
theorem dX4_comparison_66 : decode cX4_comparison 66 = .ok (.invokevirtual 51, 3) := by decide +kernel
theorem dX4_comparison_69 : decode cX4_comparison 69 = .ok (.istore 13, 2) := by decide +kernel
theorem dX4_comparison_71 : decode cX4_comparison 71 = .ok (.iload 4, 2) := by decide +kernel
theorem dX4_comparison_73 : decode cX4_comparison 73 = .ok (.iload 12, 2) := by decide +kernel
theorem dX4_comparison_75 : decode cX4_comparison 75 = .ok (.ifCond .eq 12, 3) := by decide +kernel
theorem dX4_comparison_78 : decode cX4_comparison 78 = .ok (.iload 13, 2) := by decide +kernel
theorem dX4_comparison_80 : decode cX4_comparison 80 = .ok (.ifCond .eq 7, 3) := by decide +kernel
theorem dX4_comparison_83 : decode cX4_comparison 83 = .ok (.iconst 1, 1) := by decide +kernel
theorem dX4_comparison_84 : decode cX4_comparison 84 = .ok (.goto 4, 3) := by decide +kernel
theorem dX4_comparison_87 : decode cX4_comparison 87 = .ok (.iconst 0, 1) := by decide +kernel
theorem dX4_comparison_88 : decode cX4_comparison 88 = .ok (.iadd, 1) := by decide +kernel
theorem dX4_comparison_89 : decode cX4_comparison 89 = .ok (.istore 4, 2) := by decide +kernel
theorem dX4_comparison_91 : decode cX4_comparison 91 = .ok (.iload 12, 2) := by decide +kernel
theorem dX4_comparison_93 : decode cX4_comparison 93 = .ok (.iload 13, 2) := by decide +kernel
theorem dX4_comparison_95 : decode cX4_comparison 95 = .ok (.if_icmp .eq 13, 3) := by decide +kernel
theorem dX4_comparison_98 : decode cX4_comparison 98 = .ok (.iload 5, 2) := by decide +kernel
theorem dX4_comparison_100 : decode cX4_comparison 100 = .ok (.ifCond .ne 8, 3) := by decide +kernel
theorem dX4_comparison_103 : decode cX4_comparison 103 = .ok (.iload 11, 2) := by decide +kernel
theorem dX4_comparison_105 : decode cX4_comparison 105 = .ok (.goto 5, 3) := by decide +kernel
theorem dX4_comparison_108 : decode cX4_comparison 108 = .ok (.iload 7, 2) := by decide +kernel
theorem dX4_comparison_110 : decode cX4_comparison 110 = .ok (.istore 7, 2) := by decide +kernel
theorem dX4_comparison_112 : decode cX4_comparison 112 = .ok (.iload 5, 2) := by decide +kernel
theorem dX4_comparison_114 : decode cX4_comparison 114 = .ok (.iload 12, 2) := by decide +kernel
theorem dX4_comparison_116 : decode cX4_comparison 116 = .ok (.iload 13, 2) := by decide +kernel
theorem dX4_comparison_118 : decode cX4_comparison 118 = .ok (.if_icmp .eq 7, 3) := by decide +kernel
theorem dX4_comparison_121 : decode cX4_comparison 121 = .ok (.iconst 1, 1) := by decide +kernel
theorem dX4_comparison_122 : decode cX4_comparison 122 = .ok (.goto 4, 3) := by decide +kernel
theorem dX4_comparison_125 : decode cX4_comparison 125 = .ok (.iconst 0, 1) := by decide +kernel
theorem dX4_comparison_126 : decode cX4_comparison 126 = .ok (.iadd, 1) := by decide +kernel
theorem dX4_comparison_127 : decode cX4_comparison 127 = .ok (.istore 5, 2) := by decide +kernel
theorem dX4_comparison_129 : decode cX4_comparison 129 = .ok (.iload 6, 2) := by decide +kernel
theorem dX4_comparison_131 : decode cX4_comparison 131 = .ok (.iload 12, 2) := by decide +kernel
theorem dX4_comparison_133 : decode cX4_comparison 133 = .ok (.ifCond .eq 12, 3) := by decide +kernel
theorem dX4_comparison_136 : decode cX4_comparison 136 = .ok (.iload 13, 2) := by decide +kernel
theorem dX4_comparison_138 : decode cX4_comparison 138 = .ok (.ifCond .ne 7, 3) := by decide +kernel
theorem dX4_comparison_141 : decode cX4_comparison 141 = .ok (.iconst 1, 1) := by decide +kernel
theorem dX4_comparison_142 : decode cX4_comparison 142 = .ok (.goto 4, 3) := by decide +kernel
theorem dX4_comparison_145 : decode cX4_comparison 145 = .ok (.iconst 0, 1) := by decide +kernel
theorem dX4_comparison_146 : decode cX4_comparison 146 = .ok (.iadd, 1) := by decide +kernel
theorem dX4_comparison_147 : decode cX4_comparison 147 = .ok (.istore 6, 2) := by decide +kernel
theorem dX4_comparison_149 : decode cX4_comparison 149 = .ok (.iinc 11 1, 3) := by decide +kernel
theorem dX4_comparison_152 : decode cX4_comparison 152 = .ok (.goto (-114), 3) := by decide +kernel
theorem dX4_comparison_155 : decode cX4_comparison 155 = .ok (.iload 8, 2) := by decide +kernel
theorem dX4_comparison_157 : decode cX4_comparison 157 = .ok (.iload 5, 2) := by decide +kernel
theorem dX4_comparison_159 : decode cX4_comparison 159 = .ok (.iload 10, 2) := by decide +kernel
theorem dX4_comparison_161 : decode cX4_comparison 161 = .ok (.if_icmp .ne 7, 3) := by decide +kernel
theorem dX4_comparison_164 : decode cX4_comparison 164 = .ok (.iconst 1, 1) := by decide +kernel
theorem dX4_comparison_165 : decode cX4_comparison 165 = .ok (.goto 4, 3) := by decide +kernel
theorem dX4_comparison_168 : decode cX4_comparison 168 = .ok (.iconst 0, 1) := by decide +kernel
theorem dX4_comparison_169 : decode cX4_comparison 169 = .ok (.iadd, 1) := by decide +kernel
theorem dX4_comparison_170 : decode cX4_comparison 170 = .ok (.istore 8, 2) := by decide +kernel
theorem dX4_comparison_172 : decode cX4_comparison 172 = .ok (.iinc 9 1, 3) := by decide +kernel
theorem dX4_comparison_175 : decode cX4_comparison 175 = .ok (.goto (-156), 3) := by decide +kernel
theorem dX4_comparison_178 : decode cX4_comparison 178 = .ok (.iload_n 3, 1) := by decide +kernel
theorem dX4_comparison_179 : decode cX4_comparison 179 = .ok (.ifCond .ne 8, 3) := by decide +kernel
theorem dX4_comparison_182 : decode cX4_comparison 182 = .ok (.iload 4, 2) := by decide +kernel
theorem dX4_comparison_184 : decode cX4_comparison 184 = .ok (.goto 43, 3) := by decide +kernel
theorem dX4_comparison_187 : decode cX4_comparison 187 = .ok (.iload_n 3, 1) := by decide +kernel
theorem dX4_comparison_188 : decode cX4_comparison 188 = .ok (.iconst 1, 1) := by decide +kernel
theorem dX4_comparison_189 : decode cX4_comparison 189 = .ok (.if_icmp .ne 8, 3) := by decide +kernel
theorem dX4_comparison_192 : decode cX4_comparison 192 = .ok (.iload 5, 2) := by decide +kernel
theorem dX4_comparison_194 : decode cX4_comparison 194 = .ok (.goto 33, 3) := by decide +kernel
theorem dX4_comparison_197 : decode cX4_comparison 197 = .ok (.iload_n 3, 1) := by decide +kernel
theorem dX4_comparison_198 : decode cX4_comparison 198 = .ok (.iconst 2, 1) := by decide +kernel
theorem dX4_comparison_199 : decode cX4_comparison 199 = .ok (.if_icmp .ne 16, 3) := by decide +kernel
theorem dX4_comparison_202 : decode cX4_comparison 202 = .ok (.iload 6, 2) := by decide +kernel
theorem dX4_comparison_204 : decode cX4_comparison 204 = .ok (.ifCond .ne 7, 3) := by decide +kernel
theorem dX4_comparison_207 : decode cX4_comparison 207 = .ok (.iconst 1, 1) := by decide +kernel
theorem dX4_comparison_208 : decode cX4_comparison 208 = .ok (.goto 19, 3) := by decide +kernel
theorem dX4_comparison_211 : decode cX4_comparison 211 = .ok (.iconst 0, 1) := by decide +kernel
theorem dX4_comparison_212 : decode cX4_comparison 212 = .ok (.goto 15, 3) := by decide +kernel
theorem dX4_comparison_215 : decode cX4_comparison 215 = .ok (.iload_n 3, 1) := by decide +kernel
theorem dX4_comparison_216 : decode cX4_comparison 216 = .ok (.iconst 3, 1) := by decide +kernel
theorem dX4_comparison_217 : decode cX4_comparison 217 = .ok (.if_icmp .ne 8, 3) := by decide +kernel
theorem dX4_comparison_220 : decode cX4_comparison 220 = .ok (.iload 8, 2) := by decide +kernel
theorem dX4_comparison_222 : decode cX4_comparison 222 = .ok (.goto 5, 3) := by decide +kernel
theorem dX4_comparison_225 : decode cX4_comparison 225 = .ok (.iload 7, 2) := by decide +kernel
theorem dX4_comparison_227 : decode cX4_comparison 227 = .ok (.ireturn, 1) := by decide +kernel
set_option maxRecDepth 20000 in
theorem ggX4_compare_X4_isSet : GoodIn wsX4_compare wsX4_isSet := goodIn_r _ [4, 5, 6, 3, 7] (by decide +kernel) (by decide +kernel)
set_option maxRecDepth 20000 in
theorem gX4_compare_X4_isSet : GoodIn wsX4_compare (va_wsS RX4 55 yX4_isSet wsX4_isSet) := goodIn_app (goodIn_of _ (by decide +kernel)) ggX4_compare_X4_isSet
set_option maxRecDepth 20000 in
theorem ggX4_compare_X4_in : GoodIn wsX4_compare wsX4_in := goodIn_r _ [7] (by decide +kernel) (by decide +kernel)
set_option maxRecDepth 20000 in
theorem gX4_compare_X4_in : GoodIn wsX4_compare (va_wsS RX4 25 yX4_in wsX4_in) := goodIn_app (goodIn_of _ (by decide +kernel)) ggX4_compare_X4_in
set_option maxRecDepth 20000 in
theorem ggX4_compare_X4_comparison : GoodIn wsX4_compare wsX4_comparison := goodIn_r _ [11, 12, 13, 14, 3, 15, 16, 17, 18, 19, 20, 21, 22, 23, 24, 25, 26, 27] (by decide +kernel) (by decide +kernel)
set_option maxRecDepth 20000 in
theorem gX4_compare_X4_comparison : GoodIn wsX4_compare (wsV RX4 121 RX4 yX4_comparison wsX4_comparison) := goodIn_app (goodIn_of _ (by decide +kernel)) ggX4_compare_X4_comparison
theorem dX4_compare_0 : decode cX4_compare 0 = .ok (.iload_n 1, 1) := by decide +kernel
theorem dX4_compare_1 : decode cX4_compare 1 = .ok (.invokestatic 55, 3) := by decide +kernel
theorem dX4_compare_4 : decode cX4_compare 4 = .ok (.ifCond .eq 29, 3) := by decide +kernel
theorem dX4_compare_7 : decode cX4_compare 7 = .ok (.iload_n 2, 1) := by decide +kernel
theorem dX4_compare_8 : decode cX4_compare 8 = .ok (.invokestatic 55, 3) := by decide +kernel
theorem dX4_compare_11 : decode cX4_compare 11 = .ok (.ifCond .eq 22, 3) := by decide +kernel
theorem dX4_compare_14 : decode cX4_compare 14 = .ok (.iload_n 3, 1) := by decide +kernel
theorem dX4_compare_15 : decode cX4_compare 15 = .ok (.iconst 0, 1) := by decide +kernel
theorem dX4_compare_16 : decode cX4_compare 16 = .ok (.iconst 4, 1) := by decide +kernel
theorem dX4_compare_17 : decode cX4_compare 17 = .ok (.invokestatic 25, 3) := by decide +kernel
theorem dX4_compare_20 : decode cX4_compare 20 = .ok (.ifCond .eq 13, 3) := by decide +kernel
theorem dX4_compare_23 : decode cX4_compare 23 = .ok (.aload_n 0, 1) := by decide +kernel
theorem dX4_compare_24 : decode cX4_compare 24 = .ok (.iload_n 1, 1) := by decide +kernel
theorem dX4_compare_25 : decode cX4_compare 25 = .ok (.iload_n 2, 1) := by decide +kernel
theorem dX4_compare_26 : decode cX4_compare 26 = .ok (.iload_n 3, 1) := by decide +kernel
theorem dX4_compare_27 : decode cX4_compare 27 = .ok (.invokevirtual 121, 3) := by decide +kernel
theorem dX4_compare_30 : decode cX4_compare 30 = .ok (.goto 4, 3) := by decide +kernel
theorem dX4_compare_33 : decode cX4_compare 33 = .ok (.iconst (-1), 1) := by decide +kernel
theorem dX4_compare_34 : decode cX4_compare 34 = .ok (.ireturn, 1) := by decide +kernel
set_option maxRecDepth 20000 in
theorem ggX4_alike_X4_isSet : GoodIn wsX4_alike wsX4_isSet := goodIn_r _ [4, 5, 6, 3, 7] (by decide +kernel) (by decide +kernel)
set_option maxRecDepth 20000 in
theorem gX4_alike_X4_isSet : GoodIn wsX4_alike (va_wsS RX4 55 yX4_isSet wsX4_isSet) := goodIn_app (goodIn_of _ (by decide +kernel)) ggX4_alike_X4_isSet
set_option maxRecDepth 20000 in
theorem ggX4_alike_X4_comparison : GoodIn wsX4_alike wsX4_comparison := goodIn_r _ [11, 12, 13, 14, 3, 15, 16, 17, 18, 19, 20, 21, 22, 23, 24, 25, 26, 27] (by decide +kernel) (by decide +kernel)
set_option maxRecDepth 20000 in
theorem gX4_alike_X4_comparison : GoodIn wsX4_alike (wsV RX4 121 RX4 yX4_comparison wsX4_comparison) := goodIn_app (goodIn_of _ (by decide +kernel)) ggX4_alike_X4_comparison
theorem dX4_alike_0 : decode cX4_alike 0 = .ok (.iload_n 1, 1) := by decide +kernel
theorem dX4_alike_1 : decode cX4_alike 1 = .ok (.invokestatic 55, 3) := by decide +kernel
theorem dX4_alike_4 : decode cX4_alike 4 = .ok (.ifCond .eq 10, 3) := by decide +kernel
theorem dX4_alike_7 : decode cX4_alike 7 = .ok (.iload_n 2, 1) := by decide +kernel
theorem dX4_alike_8 : decode cX4_alike 8 = .ok (.invokestatic 55, 3) := by decide +kernel
theorem dX4_alike_11 : decode cX4_alike 11 = .ok (.ifCond .ne 5, 3) := by decide +kernel
theorem dX4_alike_14 : decode cX4_alike 14 = .ok (.iconst (-1), 1) := by decide +kernel
theorem dX4_alike_15 : decode cX4_alike 15 = .ok (.ireturn, 1) := by decide +kernel
theorem dX4_alike_16 : decode cX4_alike 16 = .ok (.aload_n 0, 1) := by decide +kernel
theorem dX4_alike_17 : decode cX4_alike 17 = .ok (.iload_n 1, 1) := by decide +kernel
theorem dX4_alike_18 : decode cX4_alike 18 = .ok (.iload_n 2, 1) := by decide +kernel
theorem dX4_alike_19 : decode cX4_alike 19 = .ok (.iconst 0, 1) := by decide +kernel
theorem dX4_alike_20 : decode cX4_alike 20 = .ok (.invokevirtual 121, 3) := by decide +kernel
theorem dX4_alike_23 : decode cX4_alike 23 = .ok (.istore 4, 2) := by decide +kernel
theorem dX4_alike_25 : decode cX4_alike 25 = .ok (.iload 4, 2) := by decide +kernel
theorem dX4_alike_27 : decode cX4_alike 27 = .ok (.aload_n 0, 1) := by decide +kernel
theorem dX4_alike_28 : decode cX4_alike 28 = .ok (.iload_n 1, 1) := by decide +kernel
theorem dX4_alike_29 : decode cX4_alike 29 = .ok (.iload_n 2, 1) := by decide +kernel
theorem dX4_alike_30 : decode cX4_alike 30 = .ok (.iconst 1, 1) := by decide +kernel
theorem dX4_alike_31 : decode cX4_alike 31 = .ok (.invokevirtual 121, 3) := by decide +kernel
theorem dX4_alike_34 : decode cX4_alike 34 = .ok (.iadd, 1) := by decide +kernel
theorem dX4_alike_35 : decode cX4_alike 35 = .ok (.istore 5, 2) := by decide +kernel
theorem dX4_alike_37 : decode cX4_alike 37 = .ok (.iload 5, 2) := by decide +kernel
theorem dX4_alike_39 : decode cX4_alike 39 = .ok (.ifCond .ne 5, 3) := by decide +kernel
theorem dX4_alike_42 : decode cX4_alike 42 = .ok (.iconst 1, 1) := by decide +kernel
theorem dX4_alike_43 : decode cX4_alike 43 = .ok (.ireturn, 1) := by decide +kernel
theorem dX4_alike_44 : decode cX4_alike 44 = .ok (.iload 4, 2) := by decide +kernel
theorem dX4_alike_46 : decode cX4_alike 46 = .ok (.istore 6, 2) := by decide +kernel
theorem dX4_alike_48 : decode cX4_alike 48 = .ok (.iload 5, 2) := by decide +kernel
theorem dX4_alike_50 : decode cX4_alike 50 = .ok (.istore 7, 2) := by decide +kernel
theorem dX4_alike_52 : decode cX4_alike 52 = .ok (.iload 6, 2) := by decide +kernel
theorem dX4_alike_54 : decode cX4_alike 54 = .ok (.ifCond .eq 21, 3) := by decide +kernel
theorem dX4_alike_57 : decode cX4_alike 57 = .ok (.iload 7, 2) := by decide +kernel
theorem dX4_alike_59 : decode cX4_alike 59 = .ok (.iload 6, 2) := by decide +kernel
theorem dX4_alike_61 : decode cX4_alike 61 = .ok (.irem, 1) := by decide +kernel
theorem dX4_alike_62 : decode cX4_alike 62 = .ok (.istore 8, 2) := by decide +kernel
theorem dX4_alike_64 : decode cX4_alike 64 = .ok (.iload 6, 2) := by decide +kernel
theorem dX4_alike_66 : decode cX4_alike 66 = .ok (.istore 7, 2) := by decide +kernel
theorem dX4_alike_68 : decode cX4_alike 68 = .ok (.iload 8, 2) := by decide +kernel
theorem dX4_alike_70 : decode cX4_alike 70 = .ok (.istore 6, 2) := by decide +kernel
theorem dX4_alike_72 : decode cX4_alike 72 = .ok (.goto (-20), 3) := by decide +kernel
theorem dX4_alike_75 : decode cX4_alike 75 = .ok (.iload_n 3, 1) := by decide +kernel
theorem dX4_alike_76 : decode cX4_alike 76 = .ok (.ifCond .eq 11, 3) := by decide +kernel
theorem dX4_alike_79 : decode cX4_alike 79 = .ok (.iload 5, 2) := by decide +kernel
theorem dX4_alike_81 : decode cX4_alike 81 = .ok (.iload 7, 2) := by decide +kernel
theorem dX4_alike_83 : decode cX4_alike 83 = .ok (.idiv, 1) := by decide +kernel
theorem dX4_alike_84 : decode cX4_alike 84 = .ok (.goto 8, 3) := by decide +kernel
theorem dX4_alike_87 : decode cX4_alike 87 = .ok (.iload 4, 2) := by decide +kernel
theorem dX4_alike_89 : decode cX4_alike 89 = .ok (.iload 7, 2) := by decide +kernel
theorem dX4_alike_91 : decode cX4_alike 91 = .ok (.idiv, 1) := by decide +kernel
theorem dX4_alike_92 : decode cX4_alike 92 = .ok (.ireturn, 1) := by decide +kernel
set_option maxRecDepth 20000 in
theorem ggX4_isKindNumber_X4_in : GoodIn wsX4_isKindNumber wsX4_in := goodIn_r _ [4] (by decide +kernel) (by decide +kernel)
set_option maxRecDepth 20000 in
theorem gX4_isKindNumber_X4_in : GoodIn wsX4_isKindNumber (va_wsS RX4 25 yX4_in wsX4_in) := goodIn_app (goodIn_of _ (by decide +kernel)) ggX4_isKindNumber_X4_in
theorem dX4_isKindNumber_0 : decode cX4_isKindNumber 0 = .ok (.iload_n 0, 1) := by decide +kernel
theorem dX4_isKindNumber_1 : decode cX4_isKindNumber 1 = .ok (.iconst 0, 1) := by decide +kernel
theorem dX4_isKindNumber_2 : decode cX4_isKindNumber 2 = .ok (.iconst 2, 1) := by decide +kernel
theorem dX4_isKindNumber_3 : decode cX4_isKindNumber 3 = .ok (.invokestatic 25, 3) := by decide +kernel
theorem dX4_isKindNumber_6 : decode cX4_isKindNumber 6 = .ok (.ireturn, 1) := by decide +kernel
set_option maxRecDepth 20000 in
theorem ggX4_met_X4_isKindNumber : GoodIn wsX4_met wsX4_isKindNumber := goodIn_r _ [5, 6, 7, 4, 8] (by decide +kernel) (by decide +kernel)
set_option maxRecDepth 20000 in
theorem gX4_met_X4_isKindNumber : GoodIn wsX4_met (va_wsS RX4 124 yX4_isKindNumber wsX4_isKindNumber) := goodIn_app (goodIn_of _ (by decide +kernel)) ggX4_met_X4_isKindNumber
theorem dX4_met_0 : decode cX4_met 0 = .ok (.iload_n 1, 1) := by decide +kernel
theorem dX4_met_1 : decode cX4_met 1 = .ok (.invokestatic 124, 3) := by decide +kernel
theorem dX4_met_4 : decode cX4_met 4 = .ok (.ifCond .eq 27, 3) := by decide +kernel
theorem dX4_met_7 : decode cX4_met 7 = .ok (.iload_n 2, 1) := by decide +kernel
theorem dX4_met_8 : decode cX4_met 8 = .ok (.invokestatic 124, 3) := by decide +kernel
theorem dX4_met_11 : decode cX4_met 11 = .ok (.ifCond .eq 20, 3) := by decide +kernel
theorem dX4_met_14 : decode cX4_met 14 = .ok (.aload_n 0, 1) := by decide +kernel
theorem dX4_met_15 : decode cX4_met 15 = .ok (.getfield 7, 3) := by decide +kernel
theorem dX4_met_18 : decode cX4_met 18 = .ok (.sipush 768, 3) := by decide +kernel
theorem dX4_met_21 : decode cX4_met 21 = .ok (.iconst 3, 1) := by decide +kernel
theorem dX4_met_22 : decode cX4_met 22 = .ok (.iload_n 1, 1) := by decide +kernel
theorem dX4_met_23 : decode cX4_met 23 = .ok (.imul, 1) := by decide +kernel
theorem dX4_met_24 : decode cX4_met 24 = .ok (.iadd, 1) := by decide +kernel
theorem dX4_met_25 : decode cX4_met 25 = .ok (.iload_n 2, 1) := by decide +kernel
theorem dX4_met_26 : decode cX4_met 26 = .ok (.iadd, 1) := by decide +kernel
theorem dX4_met_27 : decode cX4_met 27 = .ok (.iaload, 1) := by decide +kernel
theorem dX4_met_28 : decode cX4_met 28 = .ok (.goto 4, 3) := by decide +kernel
theorem dX4_met_31 : decode cX4_met 31 = .ok (.iconst (-1), 1) := by decide +kernel
theorem dX4_met_32 : decode cX4_met 32 = .ok (.ireturn, 1) := by decide +kernel
set_option maxRecDepth 20000 in
theorem ggX4_converted_X4_isKindNumber : GoodIn wsX4_converted wsX4_isKindNumber := goodIn_r _ [5, 6, 7, 4, 8] (by decide +kernel) (by decide +kernel)
set_option maxRecDepth 20000 in
theorem gX4_converted_X4_isKindNumber : GoodIn wsX4_converted (va_wsS RX4 124 yX4_isKindNumber wsX4_isKindNumber) := goodIn_app (goodIn_of _ (by decide +kernel)) ggX4_converted_X4_isKindNumber
theorem dX4_converted_0 : decode cX4_converted 0 = .ok (.iload_n 1, 1) := by decide +kernel
theorem dX4_converted_1 : decode cX4_converted 1 = .ok (.invokestatic 124, 3) := by decide +kernel
theorem dX4_converted_4 : decode cX4_converted 4 = .ok (.ifCond .eq 32, 3) := by decide +kernel
theorem dX4_converted_7 : decode cX4_converted 7 = .ok (.iload_n 2, 1) := by decide +kernel
theorem dX4_converted_8 : decode cX4_converted 8 = .ok (.invokestatic 124, 3) := by decide +kernel
theorem dX4_converted_11 : decode cX4_converted 11 = .ok (.ifCond .eq 25, 3) := by decide +kernel
theorem dX4_converted_14 : decode cX4_converted 14 = .ok (.iload_n 1, 1) := by decide +kernel
theorem dX4_converted_15 : decode cX4_converted 15 = .ok (.iload_n 2, 1) := by decide +kernel
theorem dX4_converted_16 : decode cX4_converted 16 = .ok (.if_icmp .eq 20, 3) := by decide +kernel
theorem dX4_converted_19 : decode cX4_converted 19 = .ok (.aload_n 0, 1) := by decide +kernel
theorem dX4_converted_20 : decode cX4_converted 20 = .ok (.getfield 7, 3) := by decide +kernel
theorem dX4_converted_23 : decode cX4_converted 23 = .ok (.sipush 777, 3) := by decide +kernel
theorem dX4_converted_26 : decode cX4_converted 26 = .ok (.iconst 3, 1) := by decide +kernel
theorem dX4_converted_27 : decode cX4_converted 27 = .ok (.iload_n 1, 1) := by decide +kernel
theorem dX4_converted_28 : decode cX4_converted 28 = .ok (.imul, 1) := by decide +kernel
theorem dX4_converted_29 : decode cX4_converted 29 = .ok (.iadd, 1) := by decide +kernel
theorem dX4_converted_30 : decode cX4_converted 30 = .ok (.iload_n 2, 1) := by decide +kernel
theorem dX4_converted_31 : decode cX4_converted 31 = .ok (.iadd, 1) := by decide +kernel
theorem dX4_converted_32 : decode cX4_converted 32 = .ok (.iaload, 1) := by decide +kernel
theorem dX4_converted_33 : decode cX4_converted 33 = .ok (.goto 4, 3) := by decide +kernel
theorem dX4_converted_36 : decode cX4_converted 36 = .ok (.iconst (-1), 1) := by decide +kernel
theorem dX4_converted_37 : decode cX4_converted 37 = .ok (.ireturn, 1) := by decide +kernel
theorem dX4_undo_0 : decode cX4_undo 0 = .ok (.aload_n 0, 1) := by decide +kernel
theorem dX4_undo_1 : decode cX4_undo 1 = .ok (.getfield 33, 3) := by decide +kernel
theorem dX4_undo_4 : decode cX4_undo 4 = .ok (.ifCond .ne 6, 3) := by decide +kernel
theorem dX4_undo_7 : decode cX4_undo 7 = .ok (.bipush (-9), 2) := by decide +kernel
theorem dX4_undo_9 : decode cX4_undo 9 = .ok (.ireturn, 1) := by decide +kernel
theorem dX4_undo_10 : decode cX4_undo 10 = .ok (.aload_n 0, 1) := by decide +kernel
theorem dX4_undo_11 : decode cX4_undo 11 = .ok (.dup, 1) := by decide +kernel
theorem dX4_undo_12 : decode cX4_undo 12 = .ok (.getfield 33, 3) := by decide +kernel
theorem dX4_undo_15 : decode cX4_undo 15 = .ok (.iconst 1, 1) := by decide +kernel
theorem dX4_undo_16 : decode cX4_undo 16 = .ok (.isub, 1) := by decide +kernel
theorem dX4_undo_17 : decode cX4_undo 17 = .ok (.putfield 33, 3) := by decide +kernel
theorem dX4_undo_20 : decode cX4_undo 20 = .ok (.iconst 0, 1) := by decide +kernel
theorem dX4_undo_21 : decode cX4_undo 21 = .ok (.istore_n 1, 1) := by decide +kernel
theorem dX4_undo_22 : decode cX4_undo 22 = .ok (.iload_n 1, 1) := by decide +kernel
theorem dX4_undo_23 : decode cX4_undo 23 = .ok (.sipush 790, 3) := by decide +kernel
theorem dX4_undo_26 : decode cX4_undo 26 = .ok (.if_icmp .ge 30, 3) := by decide +kernel
theorem dX4_undo_29 : decode cX4_undo 29 = .ok (.aload_n 0, 1) := by decide +kernel
theorem dX4_undo_30 : decode cX4_undo 30 = .ok (.getfield 7, 3) := by decide +kernel
theorem dX4_undo_33 : decode cX4_undo 33 = .ok (.iload_n 1, 1) := by decide +kernel
theorem dX4_undo_34 : decode cX4_undo 34 = .ok (.aload_n 0, 1) := by decide +kernel
theorem dX4_undo_35 : decode cX4_undo 35 = .ok (.getfield 16, 3) := by decide +kernel
theorem dX4_undo_38 : decode cX4_undo 38 = .ok (.sipush 790, 3) := by decide +kernel
theorem dX4_undo_41 : decode cX4_undo 41 = .ok (.aload_n 0, 1) := by decide +kernel
theorem dX4_undo_42 : decode cX4_undo 42 = .ok (.getfield 33, 3) := by decide +kernel
theorem dX4_undo_45 : decode cX4_undo 45 = .ok (.imul, 1) := by decide +kernel
theorem dX4_undo_46 : decode cX4_undo 46 = .ok (.iload_n 1, 1) := by decide +kernel
theorem dX4_undo_47 : decode cX4_undo 47 = .ok (.iadd, 1) := by decide +kernel
theorem dX4_undo_48 : decode cX4_undo 48 = .ok (.iaload, 1) := by decide +kernel
theorem dX4_undo_49 : decode cX4_undo 49 = .ok (.iastore, 1) := by decide +kernel
theorem dX4_undo_50 : decode cX4_undo 50 = .ok (.iinc 1 1, 3) := by decide +kernel
theorem dX4_undo_53 : decode cX4_undo 53 = .ok (.goto (-31), 3) := by decide +kernel
theorem dX4_undo_56 : decode cX4_undo 56 = .ok (.aload_n 0, 1) := by decide +kernel
theorem dX4_undo_57 : decode cX4_undo 57 = .ok (.getfield 33, 3) := by decide +kernel
theorem dX4_undo_60 : decode cX4_undo 60 = .ok (.ireturn, 1) := by decide +kernel
set_option maxRecDepth 20000 in
theorem ggX4_fingerprint_X4_sizeOf : GoodIn wsX4_fingerprint wsX4_sizeOf := goodIn_r _ [8, 9, 10, 11, 7, 12, 3, 13, 14, 15, 32, 33, 34, 35, 36, 37, 38, 39] (by decide +kernel) (by decide +kernel)
set_option maxRecDepth 20000 in
theorem gX4_fingerprint_X4_sizeOf : GoodIn wsX4_fingerprint (wsV RX4 78 RX4 yX4_sizeOf wsX4_sizeOf) := goodIn_app (goodIn_of _ (by decide +kernel)) ggX4_fingerprint_X4_sizeOf
set_option maxRecDepth 20000 in
theorem ggX4_fingerprint_X4_manyIn : GoodIn wsX4_fingerprint wsX4_manyIn := goodIn_r _ [18, 13, 14, 7, 15] (by decide +kernel) (by decide +kernel)
set_option maxRecDepth 20000 in
theorem gX4_fingerprint_X4_manyIn : GoodIn wsX4_fingerprint (va_wsS RX4 41 yX4_manyIn wsX4_manyIn) := goodIn_app (goodIn_of _ (by decide +kernel)) ggX4_fingerprint_X4_manyIn
set_option maxRecDepth 20000 in
theorem ggX4_fingerprint_X4_told : GoodIn wsX4_fingerprint wsX4_told := goodIn_r _ [22, 3, 16, 17, 7, 18, 13, 14, 15, 23, 24, 25, 26, 27, 28, 29, 30, 31, 32, 33, 34, 35, 36, 37, 38, 39] (by decide +kernel) (by decide +kernel)
set_option maxRecDepth 20000 in
theorem gX4_fingerprint_X4_told : GoodIn wsX4_fingerprint (wsV RX4 88 RX4 yX4_told wsX4_told) := goodIn_app (goodIn_of _ (by decide +kernel)) ggX4_fingerprint_X4_told
set_option maxRecDepth 20000 in
theorem ggX4_fingerprint_X4_has : GoodIn wsX4_fingerprint wsX4_has := goodIn_r _ [12, 3, 13, 14, 7, 15, 32, 33, 34, 35, 36, 37, 38, 39] (by decide +kernel) (by decide +kernel)
set_option maxRecDepth 20000 in
theorem gX4_fingerprint_X4_has : GoodIn wsX4_fingerprint (wsV RX4 51 RX4 yX4_has wsX4_has) := goodIn_app (goodIn_of _ (by decide +kernel)) ggX4_fingerprint_X4_has
theorem dX4_fingerprint_0 : decode cX4_fingerprint 0 = .ok (.ldc2_w 127, 3) := by decide +kernel
theorem dX4_fingerprint_3 : decode cX4_fingerprint 3 = .ok (.lstore_n 1, 1) := by decide +kernel
theorem dX4_fingerprint_4 : decode cX4_fingerprint 4 = .ok (.iconst 0, 1) := by decide +kernel
theorem dX4_fingerprint_5 : decode cX4_fingerprint 5 = .ok (.istore_n 3, 1) := by decide +kernel
theorem dX4_fingerprint_6 : decode cX4_fingerprint 6 = .ok (.iload_n 3, 1) := by decide +kernel
theorem dX4_fingerprint_7 : decode cX4_fingerprint 7 = .ok (.bipush 6, 2) := by decide +kernel
theorem dX4_fingerprint_9 : decode cX4_fingerprint 9 = .ok (.if_icmp .ge 93, 3) := by decide +kernel
theorem dX4_fingerprint_12 : decode cX4_fingerprint 12 = .ok (.ldc2_w 129, 3) := by decide +kernel
theorem dX4_fingerprint_15 : decode cX4_fingerprint 15 = .ok (.lload_n 1, 1) := by decide +kernel
theorem dX4_fingerprint_16 : decode cX4_fingerprint 16 = .ok (.lmul, 1) := by decide +kernel
theorem dX4_fingerprint_17 : decode cX4_fingerprint 17 = .ok (.aload_n 0, 1) := by decide +kernel
theorem dX4_fingerprint_18 : decode cX4_fingerprint 18 = .ok (.iload_n 3, 1) := by decide +kernel
theorem dX4_fingerprint_19 : decode cX4_fingerprint 19 = .ok (.invokevirtual 78, 3) := by decide +kernel
theorem dX4_fingerprint_22 : decode cX4_fingerprint 22 = .ok (.i2l, 1) := by decide +kernel
theorem dX4_fingerprint_23 : decode cX4_fingerprint 23 = .ok (.ladd, 1) := by decide +kernel
theorem dX4_fingerprint_24 : decode cX4_fingerprint 24 = .ok (.lstore_n 1, 1) := by decide +kernel
theorem dX4_fingerprint_25 : decode cX4_fingerprint 25 = .ok (.iconst 0, 1) := by decide +kernel
theorem dX4_fingerprint_26 : decode cX4_fingerprint 26 = .ok (.istore 4, 2) := by decide +kernel
theorem dX4_fingerprint_28 : decode cX4_fingerprint 28 = .ok (.iload 4, 2) := by decide +kernel
theorem dX4_fingerprint_30 : decode cX4_fingerprint 30 = .ok (.bipush 16, 2) := by decide +kernel
theorem dX4_fingerprint_32 : decode cX4_fingerprint 32 = .ok (.if_icmp .ge 64, 3) := by decide +kernel
theorem dX4_fingerprint_35 : decode cX4_fingerprint 35 = .ok (.aload_n 0, 1) := by decide +kernel
theorem dX4_fingerprint_36 : decode cX4_fingerprint 36 = .ok (.getfield 7, 3) := by decide +kernel
theorem dX4_fingerprint_39 : decode cX4_fingerprint 39 = .ok (.iload_n 3, 1) := by decide +kernel
theorem dX4_fingerprint_40 : decode cX4_fingerprint 40 = .ok (.iload 4, 2) := by decide +kernel
theorem dX4_fingerprint_42 : decode cX4_fingerprint 42 = .ok (.invokestatic 41, 3) := by decide +kernel
theorem dX4_fingerprint_45 : decode cX4_fingerprint 45 = .ok (.ifCond .le 45, 3) := by decide +kernel
theorem dX4_fingerprint_48 : decode cX4_fingerprint 48 = .ok (.ldc2_w 129, 3) := by decide +kernel
theorem dX4_fingerprint_51 : decode cX4_fingerprint 51 = .ok (.lload_n 1, 1) := by decide +kernel
theorem dX4_fingerprint_52 : decode cX4_fingerprint 52 = .ok (.lmul, 1) := by decide +kernel
theorem dX4_fingerprint_53 : decode cX4_fingerprint 53 = .ok (.iload 4, 2) := by decide +kernel
theorem dX4_fingerprint_55 : decode cX4_fingerprint 55 = .ok (.i2l, 1) := by decide +kernel
theorem dX4_fingerprint_56 : decode cX4_fingerprint 56 = .ok (.ladd, 1) := by decide +kernel
theorem dX4_fingerprint_57 : decode cX4_fingerprint 57 = .ok (.lstore_n 1, 1) := by decide +kernel
theorem dX4_fingerprint_58 : decode cX4_fingerprint 58 = .ok (.iconst 0, 1) := by decide +kernel
theorem dX4_fingerprint_59 : decode cX4_fingerprint 59 = .ok (.istore 5, 2) := by decide +kernel
theorem dX4_fingerprint_61 : decode cX4_fingerprint 61 = .ok (.iload 5, 2) := by decide +kernel
theorem dX4_fingerprint_63 : decode cX4_fingerprint 63 = .ok (.iconst 4, 1) := by decide +kernel
theorem dX4_fingerprint_64 : decode cX4_fingerprint 64 = .ok (.if_icmp .ge 26, 3) := by decide +kernel
theorem dX4_fingerprint_67 : decode cX4_fingerprint 67 = .ok (.ldc2_w 129, 3) := by decide +kernel
theorem dX4_fingerprint_70 : decode cX4_fingerprint 70 = .ok (.lload_n 1, 1) := by decide +kernel
theorem dX4_fingerprint_71 : decode cX4_fingerprint 71 = .ok (.lmul, 1) := by decide +kernel
theorem dX4_fingerprint_72 : decode cX4_fingerprint 72 = .ok (.aload_n 0, 1) := by decide +kernel
theorem dX4_fingerprint_73 : decode cX4_fingerprint 73 = .ok (.iload_n 3, 1) := by decide +kernel
theorem dX4_fingerprint_74 : decode cX4_fingerprint 74 = .ok (.iload 4, 2) := by decide +kernel
theorem dX4_fingerprint_76 : decode cX4_fingerprint 76 = .ok (.iload 5, 2) := by decide +kernel
theorem dX4_fingerprint_78 : decode cX4_fingerprint 78 = .ok (.invokevirtual 88, 3) := by decide +kernel
theorem dX4_fingerprint_81 : decode cX4_fingerprint 81 = .ok (.i2l, 1) := by decide +kernel
theorem dX4_fingerprint_82 : decode cX4_fingerprint 82 = .ok (.ladd, 1) := by decide +kernel
theorem dX4_fingerprint_83 : decode cX4_fingerprint 83 = .ok (.lstore_n 1, 1) := by decide +kernel
theorem dX4_fingerprint_84 : decode cX4_fingerprint 84 = .ok (.iinc 5 1, 3) := by decide +kernel
theorem dX4_fingerprint_87 : decode cX4_fingerprint 87 = .ok (.goto (-26), 3) := by decide +kernel
theorem dX4_fingerprint_90 : decode cX4_fingerprint 90 = .ok (.iinc 4 1, 3) := by decide +kernel
theorem dX4_fingerprint_93 : decode cX4_fingerprint 93 = .ok (.goto (-65), 3) := by decide +kernel
theorem dX4_fingerprint_96 : decode cX4_fingerprint 96 = .ok (.iinc 3 1, 3) := by decide +kernel
theorem dX4_fingerprint_99 : decode cX4_fingerprint 99 = .ok (.goto (-93), 3) := by decide +kernel
theorem dX4_fingerprint_102 : decode cX4_fingerprint 102 = .ok (.iconst 0, 1) := by decide +kernel
theorem dX4_fingerprint_103 : decode cX4_fingerprint 103 = .ok (.istore_n 3, 1) := by decide +kernel
theorem dX4_fingerprint_104 : decode cX4_fingerprint 104 = .ok (.iload_n 3, 1) := by decide +kernel
theorem dX4_fingerprint_105 : decode cX4_fingerprint 105 = .ok (.bipush 9, 2) := by decide +kernel
theorem dX4_fingerprint_107 : decode cX4_fingerprint 107 = .ok (.if_icmp .ge 27, 3) := by decide +kernel
theorem dX4_fingerprint_110 : decode cX4_fingerprint 110 = .ok (.ldc2_w 129, 3) := by decide +kernel
theorem dX4_fingerprint_113 : decode cX4_fingerprint 113 = .ok (.lload_n 1, 1) := by decide +kernel
theorem dX4_fingerprint_114 : decode cX4_fingerprint 114 = .ok (.lmul, 1) := by decide +kernel
theorem dX4_fingerprint_115 : decode cX4_fingerprint 115 = .ok (.aload_n 0, 1) := by decide +kernel
theorem dX4_fingerprint_116 : decode cX4_fingerprint 116 = .ok (.getfield 7, 3) := by decide +kernel
theorem dX4_fingerprint_119 : decode cX4_fingerprint 119 = .ok (.sipush 768, 3) := by decide +kernel
theorem dX4_fingerprint_122 : decode cX4_fingerprint 122 = .ok (.iload_n 3, 1) := by decide +kernel
theorem dX4_fingerprint_123 : decode cX4_fingerprint 123 = .ok (.iadd, 1) := by decide +kernel
theorem dX4_fingerprint_124 : decode cX4_fingerprint 124 = .ok (.iaload, 1) := by decide +kernel
theorem dX4_fingerprint_125 : decode cX4_fingerprint 125 = .ok (.i2l, 1) := by decide +kernel
theorem dX4_fingerprint_126 : decode cX4_fingerprint 126 = .ok (.ladd, 1) := by decide +kernel
theorem dX4_fingerprint_127 : decode cX4_fingerprint 127 = .ok (.lstore_n 1, 1) := by decide +kernel
theorem dX4_fingerprint_128 : decode cX4_fingerprint 128 = .ok (.iinc 3 1, 3) := by decide +kernel
theorem dX4_fingerprint_131 : decode cX4_fingerprint 131 = .ok (.goto (-27), 3) := by decide +kernel
theorem dX4_fingerprint_134 : decode cX4_fingerprint 134 = .ok (.iconst 0, 1) := by decide +kernel
theorem dX4_fingerprint_135 : decode cX4_fingerprint 135 = .ok (.istore_n 3, 1) := by decide +kernel
theorem dX4_fingerprint_136 : decode cX4_fingerprint 136 = .ok (.iload_n 3, 1) := by decide +kernel
theorem dX4_fingerprint_137 : decode cX4_fingerprint 137 = .ok (.bipush 9, 2) := by decide +kernel
theorem dX4_fingerprint_139 : decode cX4_fingerprint 139 = .ok (.if_icmp .ge 40, 3) := by decide +kernel
theorem dX4_fingerprint_142 : decode cX4_fingerprint 142 = .ok (.iload_n 3, 1) := by decide +kernel
theorem dX4_fingerprint_143 : decode cX4_fingerprint 143 = .ok (.iconst 3, 1) := by decide +kernel
theorem dX4_fingerprint_144 : decode cX4_fingerprint 144 = .ok (.idiv, 1) := by decide +kernel
theorem dX4_fingerprint_145 : decode cX4_fingerprint 145 = .ok (.iload_n 3, 1) := by decide +kernel
theorem dX4_fingerprint_146 : decode cX4_fingerprint 146 = .ok (.iconst 3, 1) := by decide +kernel
theorem dX4_fingerprint_147 : decode cX4_fingerprint 147 = .ok (.irem, 1) := by decide +kernel
theorem dX4_fingerprint_148 : decode cX4_fingerprint 148 = .ok (.if_icmp .ne 7, 3) := by decide +kernel
theorem dX4_fingerprint_151 : decode cX4_fingerprint 151 = .ok (.lload_n 1, 1) := by decide +kernel
theorem dX4_fingerprint_152 : decode cX4_fingerprint 152 = .ok (.goto 20, 3) := by decide +kernel
theorem dX4_fingerprint_155 : decode cX4_fingerprint 155 = .ok (.ldc2_w 129, 3) := by decide +kernel
theorem dX4_fingerprint_158 : decode cX4_fingerprint 158 = .ok (.lload_n 1, 1) := by decide +kernel
theorem dX4_fingerprint_159 : decode cX4_fingerprint 159 = .ok (.lmul, 1) := by decide +kernel
theorem dX4_fingerprint_160 : decode cX4_fingerprint 160 = .ok (.aload_n 0, 1) := by decide +kernel
theorem dX4_fingerprint_161 : decode cX4_fingerprint 161 = .ok (.getfield 7, 3) := by decide +kernel
theorem dX4_fingerprint_164 : decode cX4_fingerprint 164 = .ok (.sipush 777, 3) := by decide +kernel
theorem dX4_fingerprint_167 : decode cX4_fingerprint 167 = .ok (.iload_n 3, 1) := by decide +kernel
theorem dX4_fingerprint_168 : decode cX4_fingerprint 168 = .ok (.iadd, 1) := by decide +kernel
theorem dX4_fingerprint_169 : decode cX4_fingerprint 169 = .ok (.iaload, 1) := by decide +kernel
theorem dX4_fingerprint_170 : decode cX4_fingerprint 170 = .ok (.i2l, 1) := by decide +kernel
theorem dX4_fingerprint_171 : decode cX4_fingerprint 171 = .ok (.ladd, 1) := by decide +kernel
theorem dX4_fingerprint_172 : decode cX4_fingerprint 172 = .ok (.lstore_n 1, 1) := by decide +kernel
theorem dX4_fingerprint_173 : decode cX4_fingerprint 173 = .ok (.iinc 3 1, 3) := by decide +kernel
theorem dX4_fingerprint_176 : decode cX4_fingerprint 176 = .ok (.goto (-40), 3) := by decide +kernel
theorem dX4_fingerprint_179 : decode cX4_fingerprint 179 = .ok (.iconst 0, 1) := by decide +kernel
theorem dX4_fingerprint_180 : decode cX4_fingerprint 180 = .ok (.istore_n 3, 1) := by decide +kernel
theorem dX4_fingerprint_181 : decode cX4_fingerprint 181 = .ok (.iload_n 3, 1) := by decide +kernel
theorem dX4_fingerprint_182 : decode cX4_fingerprint 182 = .ok (.bipush 6, 2) := by decide +kernel
theorem dX4_fingerprint_184 : decode cX4_fingerprint 184 = .ok (.if_icmp .ge 50, 3) := by decide +kernel
theorem dX4_fingerprint_187 : decode cX4_fingerprint 187 = .ok (.iconst 0, 1) := by decide +kernel
theorem dX4_fingerprint_188 : decode cX4_fingerprint 188 = .ok (.istore 4, 2) := by decide +kernel
theorem dX4_fingerprint_190 : decode cX4_fingerprint 190 = .ok (.iload 4, 2) := by decide +kernel
theorem dX4_fingerprint_192 : decode cX4_fingerprint 192 = .ok (.sipush 4096, 3) := by decide +kernel
theorem dX4_fingerprint_195 : decode cX4_fingerprint 195 = .ok (.if_icmp .ge 33, 3) := by decide +kernel
theorem dX4_fingerprint_198 : decode cX4_fingerprint 198 = .ok (.aload_n 0, 1) := by decide +kernel
theorem dX4_fingerprint_199 : decode cX4_fingerprint 199 = .ok (.iload_n 3, 1) := by decide +kernel
theorem dX4_fingerprint_200 : decode cX4_fingerprint 200 = .ok (.iload 4, 2) := by decide +kernel
theorem dX4_fingerprint_202 : decode cX4_fingerprint 202 = .ok (.invokevirtual 51, 3) := by decide +kernel
theorem dX4_fingerprint_205 : decode cX4_fingerprint 205 = .ok (.ifCond .eq 15, 3) := by decide +kernel
theorem dX4_fingerprint_208 : decode cX4_fingerprint 208 = .ok (.ldc2_w 129, 3) := by decide +kernel
theorem dX4_fingerprint_211 : decode cX4_fingerprint 211 = .ok (.lload_n 1, 1) := by decide +kernel
theorem dX4_fingerprint_212 : decode cX4_fingerprint 212 = .ok (.lmul, 1) := by decide +kernel
theorem dX4_fingerprint_213 : decode cX4_fingerprint 213 = .ok (.iload 4, 2) := by decide +kernel
theorem dX4_fingerprint_215 : decode cX4_fingerprint 215 = .ok (.i2l, 1) := by decide +kernel
theorem dX4_fingerprint_216 : decode cX4_fingerprint 216 = .ok (.ladd, 1) := by decide +kernel
theorem dX4_fingerprint_217 : decode cX4_fingerprint 217 = .ok (.goto 4, 3) := by decide +kernel
theorem dX4_fingerprint_220 : decode cX4_fingerprint 220 = .ok (.lload_n 1, 1) := by decide +kernel
theorem dX4_fingerprint_221 : decode cX4_fingerprint 221 = .ok (.lstore_n 1, 1) := by decide +kernel
theorem dX4_fingerprint_222 : decode cX4_fingerprint 222 = .ok (.iinc 4 1, 3) := by decide +kernel
theorem dX4_fingerprint_225 : decode cX4_fingerprint 225 = .ok (.goto (-35), 3) := by decide +kernel
theorem dX4_fingerprint_228 : decode cX4_fingerprint 228 = .ok (.iinc 3 1, 3) := by decide +kernel
theorem dX4_fingerprint_231 : decode cX4_fingerprint 231 = .ok (.goto (-50), 3) := by decide +kernel
theorem dX4_fingerprint_234 : decode cX4_fingerprint 234 = .ok (.lload_n 1, 1) := by decide +kernel
theorem dX4_fingerprint_235 : decode cX4_fingerprint 235 = .ok (.lreturn, 1) := by decide +kernel
