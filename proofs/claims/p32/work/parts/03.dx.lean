theorem dX0_init_0 : decode cX0_init 0 = .ok (.aload_n 0, 1) := by decide +kernel
theorem dX0_init_1 : decode cX0_init 1 = .ok (.invokespecial 3, 3) := by decide +kernel
theorem dX0_init_4 : decode cX0_init 4 = .ok (.aload_n 0, 1) := by decide +kernel
theorem dX0_init_5 : decode cX0_init 5 = .ok (.bipush 64, 2) := by decide +kernel
theorem dX0_init_7 : decode cX0_init 7 = .ok (.newarray .int, 2) := by decide +kernel
theorem dX0_init_9 : decode cX0_init 9 = .ok (.putfield 9, 3) := by decide +kernel
theorem dX0_init_12 : decode cX0_init 12 = .ok (.aload_n 0, 1) := by decide +kernel
theorem dX0_init_13 : decode cX0_init 13 = .ok (.bipush 64, 2) := by decide +kernel
theorem dX0_init_15 : decode cX0_init 15 = .ok (.newarray .int, 2) := by decide +kernel
theorem dX0_init_17 : decode cX0_init 17 = .ok (.putfield 15, 3) := by decide +kernel
theorem dX0_init_20 : decode cX0_init 20 = .ok (.aload_n 0, 1) := by decide +kernel
theorem dX0_init_21 : decode cX0_init 21 = .ok (.bipush 99, 2) := by decide +kernel
theorem dX0_init_23 : decode cX0_init 23 = .ok (.newarray .int, 2) := by decide +kernel
theorem dX0_init_25 : decode cX0_init 25 = .ok (.putfield 18, 3) := by decide +kernel
theorem dX0_init_28 : decode cX0_init 28 = .ok (.aload_n 0, 1) := by decide +kernel
theorem dX0_init_29 : decode cX0_init 29 = .ok (.bipush 8, 2) := by decide +kernel
theorem dX0_init_31 : decode cX0_init 31 = .ok (.newarray .int, 2) := by decide +kernel
theorem dX0_init_33 : decode cX0_init 33 = .ok (.putfield 21, 3) := by decide +kernel
theorem dX0_init_36 : decode cX0_init 36 = .ok (.aload_n 0, 1) := by decide +kernel
theorem dX0_init_37 : decode cX0_init 37 = .ok (.bipush 8, 2) := by decide +kernel
theorem dX0_init_39 : decode cX0_init 39 = .ok (.newarray .int, 2) := by decide +kernel
theorem dX0_init_41 : decode cX0_init 41 = .ok (.putfield 24, 3) := by decide +kernel
theorem dX0_init_44 : decode cX0_init 44 = .ok (.iconst 0, 1) := by decide +kernel
theorem dX0_init_45 : decode cX0_init 45 = .ok (.istore_n 1, 1) := by decide +kernel
theorem dX0_init_46 : decode cX0_init 46 = .ok (.iload_n 1, 1) := by decide +kernel
theorem dX0_init_47 : decode cX0_init 47 = .ok (.bipush 64, 2) := by decide +kernel
theorem dX0_init_49 : decode cX0_init 49 = .ok (.if_icmp .ge 16, 3) := by decide +kernel
theorem dX0_init_52 : decode cX0_init 52 = .ok (.aload_n 0, 1) := by decide +kernel
theorem dX0_init_53 : decode cX0_init 53 = .ok (.getfield 9, 3) := by decide +kernel
theorem dX0_init_56 : decode cX0_init 56 = .ok (.iload_n 1, 1) := by decide +kernel
theorem dX0_init_57 : decode cX0_init 57 = .ok (.iconst (-1), 1) := by decide +kernel
theorem dX0_init_58 : decode cX0_init 58 = .ok (.iastore, 1) := by decide +kernel
theorem dX0_init_59 : decode cX0_init 59 = .ok (.iinc 1 1, 3) := by decide +kernel
theorem dX0_init_62 : decode cX0_init 62 = .ok (.goto (-16), 3) := by decide +kernel
theorem dX0_init_65 : decode cX0_init 65 = .ok (.return_, 1) := by decide +kernel
set_option maxRecDepth 20000 in
theorem ggX0_spread_X0_countCellsAway : GoodIn wsX0_spread wsX0_countCellsAway := goodIn_r _ [8, 1, 9, 10, 7, 11, 12, 13, 14, 15, 16] (by decide +kernel) (by decide +kernel)
set_option maxRecDepth 20000 in
theorem gX0_spread_X0_countCellsAway : GoodIn wsX0_spread (wsV RX0 27 RX0 yX0_countCellsAway wsX0_countCellsAway) := goodIn_app (goodIn_of _ (by decide +kernel)) ggX0_spread_X0_countCellsAway
set_option maxRecDepth 20000 in
theorem ggX0_spread_X0_distance : GoodIn wsX0_spread wsX0_distance := goodIn_r _ [11] (by decide +kernel) (by decide +kernel)
set_option maxRecDepth 20000 in
theorem gX0_spread_X0_distance : GoodIn wsX0_spread (va_wsS RX0 31 yX0_distance wsX0_distance) := goodIn_app (goodIn_of _ (by decide +kernel)) ggX0_spread_X0_distance
theorem dX0_spread_0 : decode cX0_spread 0 = .ok (.aload_n 0, 1) := by decide +kernel
theorem dX0_spread_1 : decode cX0_spread 1 = .ok (.iload_n 1, 1) := by decide +kernel
theorem dX0_spread_2 : decode cX0_spread 2 = .ok (.iload_n 2, 1) := by decide +kernel
theorem dX0_spread_3 : decode cX0_spread 3 = .ok (.invokevirtual 27, 3) := by decide +kernel
theorem dX0_spread_6 : decode cX0_spread 6 = .ok (.iconst 0, 1) := by decide +kernel
theorem dX0_spread_7 : decode cX0_spread 7 = .ok (.istore 5, 2) := by decide +kernel
theorem dX0_spread_9 : decode cX0_spread 9 = .ok (.iload 4, 2) := by decide +kernel
theorem dX0_spread_11 : decode cX0_spread 11 = .ok (.istore 6, 2) := by decide +kernel
theorem dX0_spread_13 : decode cX0_spread 13 = .ok (.iload 5, 2) := by decide +kernel
theorem dX0_spread_15 : decode cX0_spread 15 = .ok (.bipush 98, 2) := by decide +kernel
theorem dX0_spread_17 : decode cX0_spread 17 = .ok (.if_icmp .ge 33, 3) := by decide +kernel
theorem dX0_spread_20 : decode cX0_spread 20 = .ok (.iload 6, 2) := by decide +kernel
theorem dX0_spread_22 : decode cX0_spread 22 = .ok (.aload_n 0, 1) := by decide +kernel
theorem dX0_spread_23 : decode cX0_spread 23 = .ok (.getfield 18, 3) := by decide +kernel
theorem dX0_spread_26 : decode cX0_spread 26 = .ok (.iload 5, 2) := by decide +kernel
theorem dX0_spread_28 : decode cX0_spread 28 = .ok (.iaload, 1) := by decide +kernel
theorem dX0_spread_29 : decode cX0_spread 29 = .ok (.if_icmp .le 21, 3) := by decide +kernel
theorem dX0_spread_32 : decode cX0_spread 32 = .ok (.iload 6, 2) := by decide +kernel
theorem dX0_spread_34 : decode cX0_spread 34 = .ok (.aload_n 0, 1) := by decide +kernel
theorem dX0_spread_35 : decode cX0_spread 35 = .ok (.getfield 18, 3) := by decide +kernel
theorem dX0_spread_38 : decode cX0_spread 38 = .ok (.iload 5, 2) := by decide +kernel
theorem dX0_spread_40 : decode cX0_spread 40 = .ok (.iaload, 1) := by decide +kernel
theorem dX0_spread_41 : decode cX0_spread 41 = .ok (.isub, 1) := by decide +kernel
theorem dX0_spread_42 : decode cX0_spread 42 = .ok (.istore 6, 2) := by decide +kernel
theorem dX0_spread_44 : decode cX0_spread 44 = .ok (.iinc 5 1, 3) := by decide +kernel
theorem dX0_spread_47 : decode cX0_spread 47 = .ok (.goto (-34), 3) := by decide +kernel
theorem dX0_spread_50 : decode cX0_spread 50 = .ok (.iconst 0, 1) := by decide +kernel
theorem dX0_spread_51 : decode cX0_spread 51 = .ok (.istore 7, 2) := by decide +kernel
theorem dX0_spread_53 : decode cX0_spread 53 = .ok (.iconst 0, 1) := by decide +kernel
theorem dX0_spread_54 : decode cX0_spread 54 = .ok (.istore 8, 2) := by decide +kernel
theorem dX0_spread_56 : decode cX0_spread 56 = .ok (.iload 8, 2) := by decide +kernel
theorem dX0_spread_58 : decode cX0_spread 58 = .ok (.bipush 64, 2) := by decide +kernel
theorem dX0_spread_60 : decode cX0_spread 60 = .ok (.if_icmp .ge 89, 3) := by decide +kernel
theorem dX0_spread_63 : decode cX0_spread 63 = .ok (.iload 8, 2) := by decide +kernel
theorem dX0_spread_65 : decode cX0_spread 65 = .ok (.iload_n 1, 1) := by decide +kernel
theorem dX0_spread_66 : decode cX0_spread 66 = .ok (.iload_n 2, 1) := by decide +kernel
theorem dX0_spread_67 : decode cX0_spread 67 = .ok (.invokestatic 31, 3) := by decide +kernel
theorem dX0_spread_70 : decode cX0_spread 70 = .ok (.istore 9, 2) := by decide +kernel
theorem dX0_spread_72 : decode cX0_spread 72 = .ok (.iload 9, 2) := by decide +kernel
theorem dX0_spread_74 : decode cX0_spread 74 = .ok (.iload 5, 2) := by decide +kernel
theorem dX0_spread_76 : decode cX0_spread 76 = .ok (.if_icmp .lt 15, 3) := by decide +kernel
theorem dX0_spread_79 : decode cX0_spread 79 = .ok (.iload 9, 2) := by decide +kernel
theorem dX0_spread_81 : decode cX0_spread 81 = .ok (.iload 5, 2) := by decide +kernel
theorem dX0_spread_83 : decode cX0_spread 83 = .ok (.if_icmp .ne 12, 3) := by decide +kernel
theorem dX0_spread_86 : decode cX0_spread 86 = .ok (.iload 6, 2) := by decide +kernel
theorem dX0_spread_88 : decode cX0_spread 88 = .ok (.ifCond .le 7, 3) := by decide +kernel
theorem dX0_spread_91 : decode cX0_spread 91 = .ok (.iconst 1, 1) := by decide +kernel
theorem dX0_spread_92 : decode cX0_spread 92 = .ok (.goto 4, 3) := by decide +kernel
theorem dX0_spread_95 : decode cX0_spread 95 = .ok (.iconst 0, 1) := by decide +kernel
theorem dX0_spread_96 : decode cX0_spread 96 = .ok (.istore 10, 2) := by decide +kernel
theorem dX0_spread_98 : decode cX0_spread 98 = .ok (.iload 9, 2) := by decide +kernel
theorem dX0_spread_100 : decode cX0_spread 100 = .ok (.iload 5, 2) := by decide +kernel
theorem dX0_spread_102 : decode cX0_spread 102 = .ok (.if_icmp .ne 6, 3) := by decide +kernel
theorem dX0_spread_105 : decode cX0_spread 105 = .ok (.iinc 6 (-1), 3) := by decide +kernel
theorem dX0_spread_108 : decode cX0_spread 108 = .ok (.iload 10, 2) := by decide +kernel
theorem dX0_spread_110 : decode cX0_spread 110 = .ok (.ifCond .eq 33, 3) := by decide +kernel
theorem dX0_spread_113 : decode cX0_spread 113 = .ok (.aload_n 0, 1) := by decide +kernel
theorem dX0_spread_114 : decode cX0_spread 114 = .ok (.getfield 9, 3) := by decide +kernel
theorem dX0_spread_117 : decode cX0_spread 117 = .ok (.iload 8, 2) := by decide +kernel
theorem dX0_spread_119 : decode cX0_spread 119 = .ok (.iaload, 1) := by decide +kernel
theorem dX0_spread_120 : decode cX0_spread 120 = .ok (.iload_n 3, 1) := by decide +kernel
theorem dX0_spread_121 : decode cX0_spread 121 = .ok (.if_icmp .gt 22, 3) := by decide +kernel
theorem dX0_spread_124 : decode cX0_spread 124 = .ok (.aload_n 0, 1) := by decide +kernel
theorem dX0_spread_125 : decode cX0_spread 125 = .ok (.getfield 9, 3) := by decide +kernel
theorem dX0_spread_128 : decode cX0_spread 128 = .ok (.iload 8, 2) := by decide +kernel
theorem dX0_spread_130 : decode cX0_spread 130 = .ok (.iload_n 3, 1) := by decide +kernel
theorem dX0_spread_131 : decode cX0_spread 131 = .ok (.iastore, 1) := by decide +kernel
theorem dX0_spread_132 : decode cX0_spread 132 = .ok (.aload_n 0, 1) := by decide +kernel
theorem dX0_spread_133 : decode cX0_spread 133 = .ok (.getfield 15, 3) := by decide +kernel
theorem dX0_spread_136 : decode cX0_spread 136 = .ok (.iload 8, 2) := by decide +kernel
theorem dX0_spread_138 : decode cX0_spread 138 = .ok (.iconst 2, 1) := by decide +kernel
theorem dX0_spread_139 : decode cX0_spread 139 = .ok (.iastore, 1) := by decide +kernel
theorem dX0_spread_140 : decode cX0_spread 140 = .ok (.iinc 7 1, 3) := by decide +kernel
theorem dX0_spread_143 : decode cX0_spread 143 = .ok (.iinc 8 1, 3) := by decide +kernel
theorem dX0_spread_146 : decode cX0_spread 146 = .ok (.goto (-90), 3) := by decide +kernel
theorem dX0_spread_149 : decode cX0_spread 149 = .ok (.iload 7, 2) := by decide +kernel
theorem dX0_spread_151 : decode cX0_spread 151 = .ok (.ireturn, 1) := by decide +kernel
set_option maxRecDepth 20000 in
theorem ggX0_countCellsAway_X0_distance : GoodIn wsX0_countCellsAway wsX0_distance := goodIn_r _ [5] (by decide +kernel) (by decide +kernel)
set_option maxRecDepth 20000 in
theorem gX0_countCellsAway_X0_distance : GoodIn wsX0_countCellsAway (va_wsS RX0 31 yX0_distance wsX0_distance) := goodIn_app (goodIn_of _ (by decide +kernel)) ggX0_countCellsAway_X0_distance
theorem dX0_countCellsAway_0 : decode cX0_countCellsAway 0 = .ok (.iconst 0, 1) := by decide +kernel
theorem dX0_countCellsAway_1 : decode cX0_countCellsAway 1 = .ok (.istore_n 3, 1) := by decide +kernel
theorem dX0_countCellsAway_2 : decode cX0_countCellsAway 2 = .ok (.iload_n 3, 1) := by decide +kernel
theorem dX0_countCellsAway_3 : decode cX0_countCellsAway 3 = .ok (.bipush 98, 2) := by decide +kernel
theorem dX0_countCellsAway_5 : decode cX0_countCellsAway 5 = .ok (.if_icmp .gt 16, 3) := by decide +kernel
theorem dX0_countCellsAway_8 : decode cX0_countCellsAway 8 = .ok (.aload_n 0, 1) := by decide +kernel
theorem dX0_countCellsAway_9 : decode cX0_countCellsAway 9 = .ok (.getfield 18, 3) := by decide +kernel
theorem dX0_countCellsAway_12 : decode cX0_countCellsAway 12 = .ok (.iload_n 3, 1) := by decide +kernel
theorem dX0_countCellsAway_13 : decode cX0_countCellsAway 13 = .ok (.iconst 0, 1) := by decide +kernel
theorem dX0_countCellsAway_14 : decode cX0_countCellsAway 14 = .ok (.iastore, 1) := by decide +kernel
theorem dX0_countCellsAway_15 : decode cX0_countCellsAway 15 = .ok (.iinc 3 1, 3) := by decide +kernel
theorem dX0_countCellsAway_18 : decode cX0_countCellsAway 18 = .ok (.goto (-16), 3) := by decide +kernel
theorem dX0_countCellsAway_21 : decode cX0_countCellsAway 21 = .ok (.iconst 0, 1) := by decide +kernel
theorem dX0_countCellsAway_22 : decode cX0_countCellsAway 22 = .ok (.istore_n 3, 1) := by decide +kernel
theorem dX0_countCellsAway_23 : decode cX0_countCellsAway 23 = .ok (.iload_n 3, 1) := by decide +kernel
theorem dX0_countCellsAway_24 : decode cX0_countCellsAway 24 = .ok (.bipush 64, 2) := by decide +kernel
theorem dX0_countCellsAway_26 : decode cX0_countCellsAway 26 = .ok (.if_icmp .ge 24, 3) := by decide +kernel
theorem dX0_countCellsAway_29 : decode cX0_countCellsAway 29 = .ok (.aload_n 0, 1) := by decide +kernel
theorem dX0_countCellsAway_30 : decode cX0_countCellsAway 30 = .ok (.getfield 18, 3) := by decide +kernel
theorem dX0_countCellsAway_33 : decode cX0_countCellsAway 33 = .ok (.iload_n 3, 1) := by decide +kernel
theorem dX0_countCellsAway_34 : decode cX0_countCellsAway 34 = .ok (.iload_n 1, 1) := by decide +kernel
theorem dX0_countCellsAway_35 : decode cX0_countCellsAway 35 = .ok (.iload_n 2, 1) := by decide +kernel
theorem dX0_countCellsAway_36 : decode cX0_countCellsAway 36 = .ok (.invokestatic 31, 3) := by decide +kernel
theorem dX0_countCellsAway_39 : decode cX0_countCellsAway 39 = .ok (.dup2, 1) := by decide +kernel
theorem dX0_countCellsAway_40 : decode cX0_countCellsAway 40 = .ok (.iaload, 1) := by decide +kernel
theorem dX0_countCellsAway_41 : decode cX0_countCellsAway 41 = .ok (.iconst 1, 1) := by decide +kernel
theorem dX0_countCellsAway_42 : decode cX0_countCellsAway 42 = .ok (.iadd, 1) := by decide +kernel
theorem dX0_countCellsAway_43 : decode cX0_countCellsAway 43 = .ok (.iastore, 1) := by decide +kernel
theorem dX0_countCellsAway_44 : decode cX0_countCellsAway 44 = .ok (.iinc 3 1, 3) := by decide +kernel
theorem dX0_countCellsAway_47 : decode cX0_countCellsAway 47 = .ok (.goto (-24), 3) := by decide +kernel
theorem dX0_countCellsAway_50 : decode cX0_countCellsAway 50 = .ok (.return_, 1) := by decide +kernel
theorem dX0_distance_0 : decode cX0_distance 0 = .ok (.iload_n 0, 1) := by decide +kernel
theorem dX0_distance_1 : decode cX0_distance 1 = .ok (.bipush 8, 2) := by decide +kernel
theorem dX0_distance_3 : decode cX0_distance 3 = .ok (.irem, 1) := by decide +kernel
theorem dX0_distance_4 : decode cX0_distance 4 = .ok (.iload_n 1, 1) := by decide +kernel
theorem dX0_distance_5 : decode cX0_distance 5 = .ok (.isub, 1) := by decide +kernel
theorem dX0_distance_6 : decode cX0_distance 6 = .ok (.istore_n 3, 1) := by decide +kernel
theorem dX0_distance_7 : decode cX0_distance 7 = .ok (.iload_n 0, 1) := by decide +kernel
theorem dX0_distance_8 : decode cX0_distance 8 = .ok (.bipush 8, 2) := by decide +kernel
theorem dX0_distance_10 : decode cX0_distance 10 = .ok (.idiv, 1) := by decide +kernel
theorem dX0_distance_11 : decode cX0_distance 11 = .ok (.iload_n 2, 1) := by decide +kernel
theorem dX0_distance_12 : decode cX0_distance 12 = .ok (.isub, 1) := by decide +kernel
theorem dX0_distance_13 : decode cX0_distance 13 = .ok (.istore 4, 2) := by decide +kernel
theorem dX0_distance_15 : decode cX0_distance 15 = .ok (.iload_n 3, 1) := by decide +kernel
theorem dX0_distance_16 : decode cX0_distance 16 = .ok (.iload_n 3, 1) := by decide +kernel
theorem dX0_distance_17 : decode cX0_distance 17 = .ok (.imul, 1) := by decide +kernel
theorem dX0_distance_18 : decode cX0_distance 18 = .ok (.iload 4, 2) := by decide +kernel
theorem dX0_distance_20 : decode cX0_distance 20 = .ok (.iload 4, 2) := by decide +kernel
theorem dX0_distance_22 : decode cX0_distance 22 = .ok (.imul, 1) := by decide +kernel
theorem dX0_distance_23 : decode cX0_distance 23 = .ok (.iadd, 1) := by decide +kernel
theorem dX0_distance_24 : decode cX0_distance 24 = .ok (.ireturn, 1) := by decide +kernel
set_option maxRecDepth 20000 in
theorem ggX0_shift_X7_cellOf : GoodIn wsX0_shift wsX7_cellOf := goodIn_r _ [7] (by decide +kernel) (by decide +kernel)
set_option maxRecDepth 20000 in
theorem gX0_shift_X7_cellOf_n35 : GoodIn wsX0_shift (wsX7_cellOf) := ggX0_shift_X7_cellOf
set_option maxRecDepth 20000 in
theorem ggX0_shift_J9_floorMod_7cf53 : GoodIn wsX0_shift wsJ9_floorMod_7cf53 := goodIn_r _ [11] (by decide +kernel) (by decide +kernel)
set_option maxRecDepth 20000 in
theorem gX0_shift_J9_floorMod_7cf53 : GoodIn wsX0_shift (va_wsS RX0 39 yJ9_floorMod_7cf53 wsJ9_floorMod_7cf53) := goodIn_app (goodIn_of _ (by decide +kernel)) ggX0_shift_J9_floorMod_7cf53
theorem dX0_shift_0 : decode cX0_shift 0 = .ok (.iload_n 1, 1) := by decide +kernel
theorem dX0_shift_1 : decode cX0_shift 1 = .ok (.ifCond .eq 11, 3) := by decide +kernel
theorem dX0_shift_4 : decode cX0_shift 4 = .ok (.iconst 0, 1) := by decide +kernel
theorem dX0_shift_5 : decode cX0_shift 5 = .ok (.iload_n 2, 1) := by decide +kernel
theorem dX0_shift_6 : decode cX0_shift 6 = .ok (.invokestatic 35, 3) := by decide +kernel
theorem dX0_shift_9 : decode cX0_shift 9 = .ok (.goto 8, 3) := by decide +kernel
theorem dX0_shift_12 : decode cX0_shift 12 = .ok (.iload_n 2, 1) := by decide +kernel
theorem dX0_shift_13 : decode cX0_shift 13 = .ok (.iconst 0, 1) := by decide +kernel
theorem dX0_shift_14 : decode cX0_shift 14 = .ok (.invokestatic 35, 3) := by decide +kernel
theorem dX0_shift_17 : decode cX0_shift 17 = .ok (.istore 4, 2) := by decide +kernel
theorem dX0_shift_19 : decode cX0_shift 19 = .ok (.iload_n 1, 1) := by decide +kernel
theorem dX0_shift_20 : decode cX0_shift 20 = .ok (.ifCond .eq 7, 3) := by decide +kernel
theorem dX0_shift_23 : decode cX0_shift 23 = .ok (.iconst 1, 1) := by decide +kernel
theorem dX0_shift_24 : decode cX0_shift 24 = .ok (.goto 5, 3) := by decide +kernel
theorem dX0_shift_27 : decode cX0_shift 27 = .ok (.bipush 8, 2) := by decide +kernel
theorem dX0_shift_29 : decode cX0_shift 29 = .ok (.istore 5, 2) := by decide +kernel
theorem dX0_shift_31 : decode cX0_shift 31 = .ok (.iconst 0, 1) := by decide +kernel
theorem dX0_shift_32 : decode cX0_shift 32 = .ok (.istore 6, 2) := by decide +kernel
theorem dX0_shift_34 : decode cX0_shift 34 = .ok (.iload 6, 2) := by decide +kernel
theorem dX0_shift_36 : decode cX0_shift 36 = .ok (.bipush 8, 2) := by decide +kernel
theorem dX0_shift_38 : decode cX0_shift 38 = .ok (.if_icmp .ge 60, 3) := by decide +kernel
theorem dX0_shift_41 : decode cX0_shift 41 = .ok (.iload 6, 2) := by decide +kernel
theorem dX0_shift_43 : decode cX0_shift 43 = .ok (.iload_n 3, 1) := by decide +kernel
theorem dX0_shift_44 : decode cX0_shift 44 = .ok (.iadd, 1) := by decide +kernel
theorem dX0_shift_45 : decode cX0_shift 45 = .ok (.bipush 8, 2) := by decide +kernel
theorem dX0_shift_47 : decode cX0_shift 47 = .ok (.invokestatic 39, 3) := by decide +kernel
theorem dX0_shift_50 : decode cX0_shift 50 = .ok (.istore 7, 2) := by decide +kernel
theorem dX0_shift_52 : decode cX0_shift 52 = .ok (.aload_n 0, 1) := by decide +kernel
theorem dX0_shift_53 : decode cX0_shift 53 = .ok (.getfield 21, 3) := by decide +kernel
theorem dX0_shift_56 : decode cX0_shift 56 = .ok (.iload 7, 2) := by decide +kernel
theorem dX0_shift_58 : decode cX0_shift 58 = .ok (.aload_n 0, 1) := by decide +kernel
theorem dX0_shift_59 : decode cX0_shift 59 = .ok (.getfield 9, 3) := by decide +kernel
theorem dX0_shift_62 : decode cX0_shift 62 = .ok (.iload 4, 2) := by decide +kernel
theorem dX0_shift_64 : decode cX0_shift 64 = .ok (.iload 6, 2) := by decide +kernel
theorem dX0_shift_66 : decode cX0_shift 66 = .ok (.iload 5, 2) := by decide +kernel
theorem dX0_shift_68 : decode cX0_shift 68 = .ok (.imul, 1) := by decide +kernel
theorem dX0_shift_69 : decode cX0_shift 69 = .ok (.iadd, 1) := by decide +kernel
theorem dX0_shift_70 : decode cX0_shift 70 = .ok (.iaload, 1) := by decide +kernel
theorem dX0_shift_71 : decode cX0_shift 71 = .ok (.iastore, 1) := by decide +kernel
theorem dX0_shift_72 : decode cX0_shift 72 = .ok (.aload_n 0, 1) := by decide +kernel
theorem dX0_shift_73 : decode cX0_shift 73 = .ok (.getfield 24, 3) := by decide +kernel
theorem dX0_shift_76 : decode cX0_shift 76 = .ok (.iload 7, 2) := by decide +kernel
theorem dX0_shift_78 : decode cX0_shift 78 = .ok (.aload_n 0, 1) := by decide +kernel
theorem dX0_shift_79 : decode cX0_shift 79 = .ok (.getfield 15, 3) := by decide +kernel
theorem dX0_shift_82 : decode cX0_shift 82 = .ok (.iload 4, 2) := by decide +kernel
theorem dX0_shift_84 : decode cX0_shift 84 = .ok (.iload 6, 2) := by decide +kernel
theorem dX0_shift_86 : decode cX0_shift 86 = .ok (.iload 5, 2) := by decide +kernel
theorem dX0_shift_88 : decode cX0_shift 88 = .ok (.imul, 1) := by decide +kernel
theorem dX0_shift_89 : decode cX0_shift 89 = .ok (.iadd, 1) := by decide +kernel
theorem dX0_shift_90 : decode cX0_shift 90 = .ok (.iaload, 1) := by decide +kernel
theorem dX0_shift_91 : decode cX0_shift 91 = .ok (.iastore, 1) := by decide +kernel
theorem dX0_shift_92 : decode cX0_shift 92 = .ok (.iinc 6 1, 3) := by decide +kernel
theorem dX0_shift_95 : decode cX0_shift 95 = .ok (.goto (-61), 3) := by decide +kernel
theorem dX0_shift_98 : decode cX0_shift 98 = .ok (.iconst 0, 1) := by decide +kernel
theorem dX0_shift_99 : decode cX0_shift 99 = .ok (.istore 6, 2) := by decide +kernel
theorem dX0_shift_101 : decode cX0_shift 101 = .ok (.iconst 0, 1) := by decide +kernel
theorem dX0_shift_102 : decode cX0_shift 102 = .ok (.istore 7, 2) := by decide +kernel
theorem dX0_shift_104 : decode cX0_shift 104 = .ok (.iload 7, 2) := by decide +kernel
theorem dX0_shift_106 : decode cX0_shift 106 = .ok (.bipush 8, 2) := by decide +kernel
theorem dX0_shift_108 : decode cX0_shift 108 = .ok (.if_icmp .ge 70, 3) := by decide +kernel
theorem dX0_shift_111 : decode cX0_shift 111 = .ok (.aload_n 0, 1) := by decide +kernel
theorem dX0_shift_112 : decode cX0_shift 112 = .ok (.getfield 9, 3) := by decide +kernel
theorem dX0_shift_115 : decode cX0_shift 115 = .ok (.iload 4, 2) := by decide +kernel
theorem dX0_shift_117 : decode cX0_shift 117 = .ok (.iload 7, 2) := by decide +kernel
theorem dX0_shift_119 : decode cX0_shift 119 = .ok (.iload 5, 2) := by decide +kernel
theorem dX0_shift_121 : decode cX0_shift 121 = .ok (.imul, 1) := by decide +kernel
theorem dX0_shift_122 : decode cX0_shift 122 = .ok (.iadd, 1) := by decide +kernel
theorem dX0_shift_123 : decode cX0_shift 123 = .ok (.aload_n 0, 1) := by decide +kernel
theorem dX0_shift_124 : decode cX0_shift 124 = .ok (.getfield 21, 3) := by decide +kernel
theorem dX0_shift_127 : decode cX0_shift 127 = .ok (.iload 7, 2) := by decide +kernel
theorem dX0_shift_129 : decode cX0_shift 129 = .ok (.iaload, 1) := by decide +kernel
theorem dX0_shift_130 : decode cX0_shift 130 = .ok (.iastore, 1) := by decide +kernel
theorem dX0_shift_131 : decode cX0_shift 131 = .ok (.aload_n 0, 1) := by decide +kernel
theorem dX0_shift_132 : decode cX0_shift 132 = .ok (.getfield 15, 3) := by decide +kernel
theorem dX0_shift_135 : decode cX0_shift 135 = .ok (.iload 4, 2) := by decide +kernel
theorem dX0_shift_137 : decode cX0_shift 137 = .ok (.iload 7, 2) := by decide +kernel
theorem dX0_shift_139 : decode cX0_shift 139 = .ok (.iload 5, 2) := by decide +kernel
theorem dX0_shift_141 : decode cX0_shift 141 = .ok (.imul, 1) := by decide +kernel
theorem dX0_shift_142 : decode cX0_shift 142 = .ok (.iadd, 1) := by decide +kernel
theorem dX0_shift_143 : decode cX0_shift 143 = .ok (.aload_n 0, 1) := by decide +kernel
theorem dX0_shift_144 : decode cX0_shift 144 = .ok (.getfield 24, 3) := by decide +kernel
theorem dX0_shift_147 : decode cX0_shift 147 = .ok (.iload 7, 2) := by decide +kernel
theorem dX0_shift_149 : decode cX0_shift 149 = .ok (.iaload, 1) := by decide +kernel
theorem dX0_shift_150 : decode cX0_shift 150 = .ok (.iastore, 1) := by decide +kernel
theorem dX0_shift_151 : decode cX0_shift 151 = .ok (.iload 6, 2) := by decide +kernel
theorem dX0_shift_153 : decode cX0_shift 153 = .ok (.aload_n 0, 1) := by decide +kernel
theorem dX0_shift_154 : decode cX0_shift 154 = .ok (.getfield 21, 3) := by decide +kernel
theorem dX0_shift_157 : decode cX0_shift 157 = .ok (.iload 7, 2) := by decide +kernel
theorem dX0_shift_159 : decode cX0_shift 159 = .ok (.iaload, 1) := by decide +kernel
theorem dX0_shift_160 : decode cX0_shift 160 = .ok (.iconst (-1), 1) := by decide +kernel
theorem dX0_shift_161 : decode cX0_shift 161 = .ok (.if_icmp .ne 7, 3) := by decide +kernel
theorem dX0_shift_164 : decode cX0_shift 164 = .ok (.iconst 0, 1) := by decide +kernel
theorem dX0_shift_165 : decode cX0_shift 165 = .ok (.goto 4, 3) := by decide +kernel
theorem dX0_shift_168 : decode cX0_shift 168 = .ok (.iconst 1, 1) := by decide +kernel
theorem dX0_shift_169 : decode cX0_shift 169 = .ok (.iadd, 1) := by decide +kernel
theorem dX0_shift_170 : decode cX0_shift 170 = .ok (.istore 6, 2) := by decide +kernel
theorem dX0_shift_172 : decode cX0_shift 172 = .ok (.iinc 7 1, 3) := by decide +kernel
theorem dX0_shift_175 : decode cX0_shift 175 = .ok (.goto (-71), 3) := by decide +kernel
theorem dX0_shift_178 : decode cX0_shift 178 = .ok (.iload 6, 2) := by decide +kernel
theorem dX0_shift_180 : decode cX0_shift 180 = .ok (.ireturn, 1) := by decide +kernel
set_option maxRecDepth 20000 in
theorem ggX0_press_X2_init : GoodIn wsX0_press wsX2_init := goodIn_r _ [6, 7, 8, 9, 10, 11, 12] (by decide +kernel) (by decide +kernel)
set_option maxRecDepth 20000 in
theorem gX0_press_X2_init_n46 : GoodIn wsX0_press (wsX2_init) := ggX0_press_X2_init
theorem dX0_press_0 : decode cX0_press 0 = .ok (.new 44, 3) := by decide +kernel
theorem dX0_press_3 : decode cX0_press 3 = .ok (.dup, 1) := by decide +kernel
theorem dX0_press_4 : decode cX0_press 4 = .ok (.invokespecial 46, 3) := by decide +kernel
theorem dX0_press_7 : decode cX0_press 7 = .ok (.astore_n 1, 1) := by decide +kernel
theorem dX0_press_8 : decode cX0_press 8 = .ok (.iconst 0, 1) := by decide +kernel
theorem dX0_press_9 : decode cX0_press 9 = .ok (.istore_n 2, 1) := by decide +kernel
theorem dX0_press_10 : decode cX0_press 10 = .ok (.iload_n 2, 1) := by decide +kernel
theorem dX0_press_11 : decode cX0_press 11 = .ok (.bipush 64, 2) := by decide +kernel
theorem dX0_press_13 : decode cX0_press 13 = .ok (.if_icmp .ge 21, 3) := by decide +kernel
theorem dX0_press_16 : decode cX0_press 16 = .ok (.aload_n 1, 1) := by decide +kernel
theorem dX0_press_17 : decode cX0_press 17 = .ok (.getfield 47, 3) := by decide +kernel
theorem dX0_press_20 : decode cX0_press 20 = .ok (.iload_n 2, 1) := by decide +kernel
theorem dX0_press_21 : decode cX0_press 21 = .ok (.aload_n 0, 1) := by decide +kernel
theorem dX0_press_22 : decode cX0_press 22 = .ok (.getfield 9, 3) := by decide +kernel
theorem dX0_press_25 : decode cX0_press 25 = .ok (.iload_n 2, 1) := by decide +kernel
theorem dX0_press_26 : decode cX0_press 26 = .ok (.iaload, 1) := by decide +kernel
theorem dX0_press_27 : decode cX0_press 27 = .ok (.iastore, 1) := by decide +kernel
theorem dX0_press_28 : decode cX0_press 28 = .ok (.iinc 2 1, 3) := by decide +kernel
theorem dX0_press_31 : decode cX0_press 31 = .ok (.goto (-21), 3) := by decide +kernel
theorem dX0_press_34 : decode cX0_press 34 = .ok (.aload_n 1, 1) := by decide +kernel
theorem dX0_press_35 : decode cX0_press 35 = .ok (.areturn, 1) := by decide +kernel
theorem dX0_fade_0 : decode cX0_fade 0 = .ok (.iconst 0, 1) := by decide +kernel
theorem dX0_fade_1 : decode cX0_fade 1 = .ok (.istore_n 1, 1) := by decide +kernel
theorem dX0_fade_2 : decode cX0_fade 2 = .ok (.iload_n 1, 1) := by decide +kernel
theorem dX0_fade_3 : decode cX0_fade 3 = .ok (.bipush 64, 2) := by decide +kernel
theorem dX0_fade_5 : decode cX0_fade 5 = .ok (.if_icmp .ge 54, 3) := by decide +kernel
theorem dX0_fade_8 : decode cX0_fade 8 = .ok (.aload_n 0, 1) := by decide +kernel
theorem dX0_fade_9 : decode cX0_fade 9 = .ok (.getfield 9, 3) := by decide +kernel
theorem dX0_fade_12 : decode cX0_fade 12 = .ok (.iload_n 1, 1) := by decide +kernel
theorem dX0_fade_13 : decode cX0_fade 13 = .ok (.iaload, 1) := by decide +kernel
theorem dX0_fade_14 : decode cX0_fade 14 = .ok (.iconst (-1), 1) := by decide +kernel
theorem dX0_fade_15 : decode cX0_fade 15 = .ok (.if_icmp .eq 38, 3) := by decide +kernel
theorem dX0_fade_18 : decode cX0_fade 18 = .ok (.aload_n 0, 1) := by decide +kernel
theorem dX0_fade_19 : decode cX0_fade 19 = .ok (.getfield 15, 3) := by decide +kernel
theorem dX0_fade_22 : decode cX0_fade 22 = .ok (.iload_n 1, 1) := by decide +kernel
theorem dX0_fade_23 : decode cX0_fade 23 = .ok (.dup2, 1) := by decide +kernel
theorem dX0_fade_24 : decode cX0_fade 24 = .ok (.iaload, 1) := by decide +kernel
theorem dX0_fade_25 : decode cX0_fade 25 = .ok (.iconst 1, 1) := by decide +kernel
theorem dX0_fade_26 : decode cX0_fade 26 = .ok (.isub, 1) := by decide +kernel
theorem dX0_fade_27 : decode cX0_fade 27 = .ok (.iastore, 1) := by decide +kernel
theorem dX0_fade_28 : decode cX0_fade 28 = .ok (.aload_n 0, 1) := by decide +kernel
theorem dX0_fade_29 : decode cX0_fade 29 = .ok (.getfield 9, 3) := by decide +kernel
theorem dX0_fade_32 : decode cX0_fade 32 = .ok (.iload_n 1, 1) := by decide +kernel
theorem dX0_fade_33 : decode cX0_fade 33 = .ok (.aload_n 0, 1) := by decide +kernel
theorem dX0_fade_34 : decode cX0_fade 34 = .ok (.getfield 15, 3) := by decide +kernel
theorem dX0_fade_37 : decode cX0_fade 37 = .ok (.iload_n 1, 1) := by decide +kernel
theorem dX0_fade_38 : decode cX0_fade 38 = .ok (.iaload, 1) := by decide +kernel
theorem dX0_fade_39 : decode cX0_fade 39 = .ok (.ifCond .le 12, 3) := by decide +kernel
theorem dX0_fade_42 : decode cX0_fade 42 = .ok (.aload_n 0, 1) := by decide +kernel
theorem dX0_fade_43 : decode cX0_fade 43 = .ok (.getfield 9, 3) := by decide +kernel
theorem dX0_fade_46 : decode cX0_fade 46 = .ok (.iload_n 1, 1) := by decide +kernel
theorem dX0_fade_47 : decode cX0_fade 47 = .ok (.iaload, 1) := by decide +kernel
theorem dX0_fade_48 : decode cX0_fade 48 = .ok (.goto 4, 3) := by decide +kernel
theorem dX0_fade_51 : decode cX0_fade 51 = .ok (.iconst (-1), 1) := by decide +kernel
theorem dX0_fade_52 : decode cX0_fade 52 = .ok (.iastore, 1) := by decide +kernel
theorem dX0_fade_53 : decode cX0_fade 53 = .ok (.iinc 1 1, 3) := by decide +kernel
theorem dX0_fade_56 : decode cX0_fade 56 = .ok (.goto (-54), 3) := by decide +kernel
theorem dX0_fade_59 : decode cX0_fade 59 = .ok (.return_, 1) := by decide +kernel
theorem dX0_empty_0 : decode cX0_empty 0 = .ok (.iconst 0, 1) := by decide +kernel
theorem dX0_empty_1 : decode cX0_empty 1 = .ok (.istore_n 1, 1) := by decide +kernel
theorem dX0_empty_2 : decode cX0_empty 2 = .ok (.iconst 0, 1) := by decide +kernel
theorem dX0_empty_3 : decode cX0_empty 3 = .ok (.istore_n 2, 1) := by decide +kernel
theorem dX0_empty_4 : decode cX0_empty 4 = .ok (.iload_n 2, 1) := by decide +kernel
theorem dX0_empty_5 : decode cX0_empty 5 = .ok (.bipush 64, 2) := by decide +kernel
theorem dX0_empty_7 : decode cX0_empty 7 = .ok (.if_icmp .ge 41, 3) := by decide +kernel
theorem dX0_empty_10 : decode cX0_empty 10 = .ok (.iload_n 1, 1) := by decide +kernel
theorem dX0_empty_11 : decode cX0_empty 11 = .ok (.aload_n 0, 1) := by decide +kernel
theorem dX0_empty_12 : decode cX0_empty 12 = .ok (.getfield 9, 3) := by decide +kernel
theorem dX0_empty_15 : decode cX0_empty 15 = .ok (.iload_n 2, 1) := by decide +kernel
theorem dX0_empty_16 : decode cX0_empty 16 = .ok (.iaload, 1) := by decide +kernel
theorem dX0_empty_17 : decode cX0_empty 17 = .ok (.iconst (-1), 1) := by decide +kernel
theorem dX0_empty_18 : decode cX0_empty 18 = .ok (.if_icmp .ne 7, 3) := by decide +kernel
theorem dX0_empty_21 : decode cX0_empty 21 = .ok (.iconst 0, 1) := by decide +kernel
theorem dX0_empty_22 : decode cX0_empty 22 = .ok (.goto 4, 3) := by decide +kernel
theorem dX0_empty_25 : decode cX0_empty 25 = .ok (.iconst 1, 1) := by decide +kernel
theorem dX0_empty_26 : decode cX0_empty 26 = .ok (.iadd, 1) := by decide +kernel
theorem dX0_empty_27 : decode cX0_empty 27 = .ok (.istore_n 1, 1) := by decide +kernel
theorem dX0_empty_28 : decode cX0_empty 28 = .ok (.aload_n 0, 1) := by decide +kernel
theorem dX0_empty_29 : decode cX0_empty 29 = .ok (.getfield 9, 3) := by decide +kernel
theorem dX0_empty_32 : decode cX0_empty 32 = .ok (.iload_n 2, 1) := by decide +kernel
theorem dX0_empty_33 : decode cX0_empty 33 = .ok (.iconst (-1), 1) := by decide +kernel
theorem dX0_empty_34 : decode cX0_empty 34 = .ok (.iastore, 1) := by decide +kernel
theorem dX0_empty_35 : decode cX0_empty 35 = .ok (.aload_n 0, 1) := by decide +kernel
theorem dX0_empty_36 : decode cX0_empty 36 = .ok (.getfield 15, 3) := by decide +kernel
theorem dX0_empty_39 : decode cX0_empty 39 = .ok (.iload_n 2, 1) := by decide +kernel
theorem dX0_empty_40 : decode cX0_empty 40 = .ok (.iconst 0, 1) := by decide +kernel
theorem dX0_empty_41 : decode cX0_empty 41 = .ok (.iastore, 1) := by decide +kernel
theorem dX0_empty_42 : decode cX0_empty 42 = .ok (.iinc 2 1, 3) := by decide +kernel
theorem dX0_empty_45 : decode cX0_empty 45 = .ok (.goto (-41), 3) := by decide +kernel
theorem dX0_empty_48 : decode cX0_empty 48 = .ok (.iload_n 1, 1) := by decide +kernel
theorem dX0_empty_49 : decode cX0_empty 49 = .ok (.ireturn, 1) := by decide +kernel
set_option maxRecDepth 20000 in
theorem ggX1_init_X3_init : GoodIn wsX1_init wsX3_init := goodIn_r _ [21, 22, 2, 3, 23, 24, 40, 41] (by decide +kernel) (by decide +kernel)
set_option maxRecDepth 20000 in
theorem gX1_init_X3_init_n11 : GoodIn wsX1_init (wsX3_init) := ggX1_init_X3_init
set_option maxRecDepth 20000 in
theorem ggX1_init_X6_init : GoodIn wsX1_init wsX6_init := goodIn_r _ [26, 27, 2, 3, 23, 28, 29, 30, 49, 50, 51, 52] (by decide +kernel) (by decide +kernel)
set_option maxRecDepth 20000 in
theorem gX1_init_X6_init_n20 : GoodIn wsX1_init (wsX6_init) := ggX1_init_X6_init
set_option maxRecDepth 20000 in
theorem ggX1_init_X4_init : GoodIn wsX1_init wsX4_init := goodIn_r _ [33, 34, 2, 3, 23, 35, 36, 37, 38, 39, 53, 54, 55, 56, 57, 58, 59, 60, 61, 62] (by decide +kernel) (by decide +kernel)
set_option maxRecDepth 20000 in
theorem gX1_init_X4_init : GoodIn wsX1_init (wsX4_init) := ggX1_init_X4_init
theorem dX1_init_0 : decode cX1_init 0 = .ok (.aload_n 0, 1) := by decide +kernel
theorem dX1_init_1 : decode cX1_init 1 = .ok (.invokespecial 3, 3) := by decide +kernel
theorem dX1_init_4 : decode cX1_init 4 = .ok (.aload_n 0, 1) := by decide +kernel
theorem dX1_init_5 : decode cX1_init 5 = .ok (.new 9, 3) := by decide +kernel
theorem dX1_init_8 : decode cX1_init 8 = .ok (.dup, 1) := by decide +kernel
theorem dX1_init_9 : decode cX1_init 9 = .ok (.invokespecial 11, 3) := by decide +kernel
theorem dX1_init_12 : decode cX1_init 12 = .ok (.putfield 12, 3) := by decide +kernel
theorem dX1_init_15 : decode cX1_init 15 = .ok (.aload_n 0, 1) := by decide +kernel
theorem dX1_init_16 : decode cX1_init 16 = .ok (.new 18, 3) := by decide +kernel
theorem dX1_init_19 : decode cX1_init 19 = .ok (.dup, 1) := by decide +kernel
theorem dX1_init_20 : decode cX1_init 20 = .ok (.invokespecial 20, 3) := by decide +kernel
theorem dX1_init_23 : decode cX1_init 23 = .ok (.putfield 21, 3) := by decide +kernel
theorem dX1_init_26 : decode cX1_init 26 = .ok (.aload_n 0, 1) := by decide +kernel
theorem dX1_init_27 : decode cX1_init 27 = .ok (.iconst 0, 1) := by decide +kernel
theorem dX1_init_28 : decode cX1_init 28 = .ok (.putfield 25, 3) := by decide +kernel
theorem dX1_init_31 : decode cX1_init 31 = .ok (.aload_n 0, 1) := by decide +kernel
theorem dX1_init_32 : decode cX1_init 32 = .ok (.new 29, 3) := by decide +kernel
theorem dX1_init_35 : decode cX1_init 35 = .ok (.dup, 1) := by decide +kernel
theorem dX1_init_36 : decode cX1_init 36 = .ok (.iload_n 1, 1) := by decide +kernel
theorem dX1_init_37 : decode cX1_init 37 = .ok (.iload_n 3, 1) := by decide +kernel
theorem dX1_init_38 : decode cX1_init 38 = .ok (.invokespecial 31, 3) := by decide +kernel
theorem dX1_init_41 : decode cX1_init 41 = .ok (.putfield 34, 3) := by decide +kernel
theorem dX1_init_44 : decode cX1_init 44 = .ok (.aload_n 0, 1) := by decide +kernel
theorem dX1_init_45 : decode cX1_init 45 = .ok (.iload_n 1, 1) := by decide +kernel
theorem dX1_init_46 : decode cX1_init 46 = .ok (.iload_n 2, 1) := by decide +kernel
theorem dX1_init_47 : decode cX1_init 47 = .ok (.imul, 1) := by decide +kernel
theorem dX1_init_48 : decode cX1_init 48 = .ok (.putfield 38, 3) := by decide +kernel
theorem dX1_init_51 : decode cX1_init 51 = .ok (.aload_n 0, 1) := by decide +kernel
theorem dX1_init_52 : decode cX1_init 52 = .ok (.iload 4, 2) := by decide +kernel
theorem dX1_init_54 : decode cX1_init 54 = .ok (.putfield 41, 3) := by decide +kernel
theorem dX1_init_57 : decode cX1_init 57 = .ok (.aload_n 0, 1) := by decide +kernel
theorem dX1_init_58 : decode cX1_init 58 = .ok (.iload 5, 2) := by decide +kernel
theorem dX1_init_60 : decode cX1_init 60 = .ok (.putfield 44, 3) := by decide +kernel
theorem dX1_init_63 : decode cX1_init 63 = .ok (.return_, 1) := by decide +kernel
set_option maxRecDepth 20000 in
theorem ggX1_bendAt_X1_stiffness : GoodIn wsX1_bendAt wsX1_stiffness := goodIn_r _ [11, 12, 13, 14, 15, 16, 17, 18, 19] (by decide +kernel) (by decide +kernel)
set_option maxRecDepth 20000 in
theorem gX1_bendAt_X1_stiffness : GoodIn wsX1_bendAt (wsV RX1 54 RX1 yX1_stiffness wsX1_stiffness) := goodIn_app (goodIn_of _ (by decide +kernel)) ggX1_bendAt_X1_stiffness
theorem dX1_bendAt_0 : decode cX1_bendAt 0 = .ok (.iload_n 1, 1) := by decide +kernel
theorem dX1_bendAt_1 : decode cX1_bendAt 1 = .ok (.aload_n 0, 1) := by decide +kernel
theorem dX1_bendAt_2 : decode cX1_bendAt 2 = .ok (.getfield 38, 3) := by decide +kernel
theorem dX1_bendAt_5 : decode cX1_bendAt 5 = .ok (.iload_n 1, 1) := by decide +kernel
theorem dX1_bendAt_6 : decode cX1_bendAt 6 = .ok (.isub, 1) := by decide +kernel
theorem dX1_bendAt_7 : decode cX1_bendAt 7 = .ok (.invokestatic 48, 3) := by decide +kernel
theorem dX1_bendAt_10 : decode cX1_bendAt 10 = .ok (.aload_n 0, 1) := by decide +kernel
theorem dX1_bendAt_11 : decode cX1_bendAt 11 = .ok (.getfield 41, 3) := by decide +kernel
theorem dX1_bendAt_14 : decode cX1_bendAt 14 = .ok (.imul, 1) := by decide +kernel
theorem dX1_bendAt_15 : decode cX1_bendAt 15 = .ok (.aload_n 0, 1) := by decide +kernel
theorem dX1_bendAt_16 : decode cX1_bendAt 16 = .ok (.invokevirtual 54, 3) := by decide +kernel
theorem dX1_bendAt_19 : decode cX1_bendAt 19 = .ok (.imul, 1) := by decide +kernel
theorem dX1_bendAt_20 : decode cX1_bendAt 20 = .ok (.ireturn, 1) := by decide +kernel
theorem dX1_stiffness_0 : decode cX1_stiffness 0 = .ok (.aload_n 0, 1) := by decide +kernel
theorem dX1_stiffness_1 : decode cX1_stiffness 1 = .ok (.getfield 25, 3) := by decide +kernel
theorem dX1_stiffness_4 : decode cX1_stiffness 4 = .ok (.lookupswitch 32 #[(1, 28), (2, 30)], 28) := by decide +kernel
theorem dX1_stiffness_32 : decode cX1_stiffness 32 = .ok (.iconst 1, 1) := by decide +kernel
theorem dX1_stiffness_33 : decode cX1_stiffness 33 = .ok (.ireturn, 1) := by decide +kernel
theorem dX1_stiffness_34 : decode cX1_stiffness 34 = .ok (.iconst 2, 1) := by decide +kernel
theorem dX1_stiffness_35 : decode cX1_stiffness 35 = .ok (.ireturn, 1) := by decide +kernel
theorem dX1_stiffness_36 : decode cX1_stiffness 36 = .ok (.iconst 4, 1) := by decide +kernel
theorem dX1_stiffness_37 : decode cX1_stiffness 37 = .ok (.ireturn, 1) := by decide +kernel
set_option maxRecDepth 20000 in
theorem ggX1_stiffestOpening_X1_bendAt : GoodIn wsX1_stiffestOpening wsX1_bendAt := goodIn_r _ [6, 1, 7, 8, 9, 10, 11, 12, 13, 14, 5, 15, 16, 17, 18, 19, 20, 21, 22, 23] (by decide +kernel) (by decide +kernel)
set_option maxRecDepth 20000 in
theorem gX1_stiffestOpening_X1_bendAt : GoodIn wsX1_stiffestOpening (wsV RX1 58 RX1 yX1_bendAt wsX1_bendAt) := goodIn_app (goodIn_of _ (by decide +kernel)) ggX1_stiffestOpening_X1_bendAt
theorem dX1_stiffestOpening_0 : decode cX1_stiffestOpening 0 = .ok (.iconst 0, 1) := by decide +kernel
theorem dX1_stiffestOpening_1 : decode cX1_stiffestOpening 1 = .ok (.istore_n 1, 1) := by decide +kernel
theorem dX1_stiffestOpening_2 : decode cX1_stiffestOpening 2 = .ok (.iconst 1, 1) := by decide +kernel
theorem dX1_stiffestOpening_3 : decode cX1_stiffestOpening 3 = .ok (.istore_n 2, 1) := by decide +kernel
theorem dX1_stiffestOpening_4 : decode cX1_stiffestOpening 4 = .ok (.iload_n 2, 1) := by decide +kernel
theorem dX1_stiffestOpening_5 : decode cX1_stiffestOpening 5 = .ok (.aload_n 0, 1) := by decide +kernel
theorem dX1_stiffestOpening_6 : decode cX1_stiffestOpening 6 = .ok (.getfield 38, 3) := by decide +kernel
theorem dX1_stiffestOpening_9 : decode cX1_stiffestOpening 9 = .ok (.if_icmp .gt 24, 3) := by decide +kernel
theorem dX1_stiffestOpening_12 : decode cX1_stiffestOpening 12 = .ok (.aload_n 0, 1) := by decide +kernel
theorem dX1_stiffestOpening_13 : decode cX1_stiffestOpening 13 = .ok (.iload_n 2, 1) := by decide +kernel
theorem dX1_stiffestOpening_14 : decode cX1_stiffestOpening 14 = .ok (.invokevirtual 58, 3) := by decide +kernel
theorem dX1_stiffestOpening_17 : decode cX1_stiffestOpening 17 = .ok (.aload_n 0, 1) := by decide +kernel
theorem dX1_stiffestOpening_18 : decode cX1_stiffestOpening 18 = .ok (.iload_n 1, 1) := by decide +kernel
theorem dX1_stiffestOpening_19 : decode cX1_stiffestOpening 19 = .ok (.invokevirtual 58, 3) := by decide +kernel
theorem dX1_stiffestOpening_22 : decode cX1_stiffestOpening 22 = .ok (.if_icmp .le 5, 3) := by decide +kernel
theorem dX1_stiffestOpening_25 : decode cX1_stiffestOpening 25 = .ok (.iload_n 2, 1) := by decide +kernel
theorem dX1_stiffestOpening_26 : decode cX1_stiffestOpening 26 = .ok (.istore_n 1, 1) := by decide +kernel
theorem dX1_stiffestOpening_27 : decode cX1_stiffestOpening 27 = .ok (.iinc 2 1, 3) := by decide +kernel
theorem dX1_stiffestOpening_30 : decode cX1_stiffestOpening 30 = .ok (.goto (-26), 3) := by decide +kernel
theorem dX1_stiffestOpening_33 : decode cX1_stiffestOpening 33 = .ok (.iload_n 1, 1) := by decide +kernel
theorem dX1_stiffestOpening_34 : decode cX1_stiffestOpening 34 = .ok (.ireturn, 1) := by decide +kernel
set_option maxRecDepth 20000 in
theorem ggX1_openingsWithin_X4_swell : GoodIn wsX1_openingsWithin wsX4_swell := goodIn_r _ [7, 8, 9, 10, 11, 6, 12, 13, 14, 15, 16, 17, 18, 19, 20, 21, 22, 44, 45, 46, 47, 48, 49, 50, 51, 52, 53] (by decide +kernel) (by decide +kernel)
set_option maxRecDepth 20000 in
theorem gX1_openingsWithin_X4_swell : GoodIn wsX1_openingsWithin (wsV RX1 62 RX4 yX4_swell wsX4_swell) := goodIn_app (goodIn_of _ (by decide +kernel)) ggX1_openingsWithin_X4_swell
set_option maxRecDepth 20000 in
theorem ggX1_openingsWithin_X1_bendAt : GoodIn wsX1_openingsWithin wsX1_bendAt := goodIn_r _ [27, 2, 28, 29, 16, 30, 31, 32, 33, 34, 26, 35, 36, 37, 38, 39, 40, 41, 42, 43] (by decide +kernel) (by decide +kernel)
set_option maxRecDepth 20000 in
theorem gX1_openingsWithin_X1_bendAt : GoodIn wsX1_openingsWithin (wsV RX1 58 RX1 yX1_bendAt wsX1_bendAt) := goodIn_app (goodIn_of _ (by decide +kernel)) ggX1_openingsWithin_X1_bendAt
theorem dX1_openingsWithin_0 : decode cX1_openingsWithin 0 = .ok (.aload_n 0, 1) := by decide +kernel
theorem dX1_openingsWithin_1 : decode cX1_openingsWithin 1 = .ok (.getfield 34, 3) := by decide +kernel
theorem dX1_openingsWithin_4 : decode cX1_openingsWithin 4 = .ok (.invokevirtual 62, 3) := by decide +kernel
theorem dX1_openingsWithin_7 : decode cX1_openingsWithin 7 = .ok (.istore_n 2, 1) := by decide +kernel
theorem dX1_openingsWithin_8 : decode cX1_openingsWithin 8 = .ok (.iconst 0, 1) := by decide +kernel
theorem dX1_openingsWithin_9 : decode cX1_openingsWithin 9 = .ok (.istore_n 3, 1) := by decide +kernel
theorem dX1_openingsWithin_10 : decode cX1_openingsWithin 10 = .ok (.iconst 0, 1) := by decide +kernel
theorem dX1_openingsWithin_11 : decode cX1_openingsWithin 11 = .ok (.istore 4, 2) := by decide +kernel
theorem dX1_openingsWithin_13 : decode cX1_openingsWithin 13 = .ok (.iload 4, 2) := by decide +kernel
theorem dX1_openingsWithin_15 : decode cX1_openingsWithin 15 = .ok (.aload_n 0, 1) := by decide +kernel
theorem dX1_openingsWithin_16 : decode cX1_openingsWithin 16 = .ok (.getfield 38, 3) := by decide +kernel
theorem dX1_openingsWithin_19 : decode cX1_openingsWithin 19 = .ok (.if_icmp .gt 29, 3) := by decide +kernel
theorem dX1_openingsWithin_22 : decode cX1_openingsWithin 22 = .ok (.iload_n 3, 1) := by decide +kernel
theorem dX1_openingsWithin_23 : decode cX1_openingsWithin 23 = .ok (.aload_n 0, 1) := by decide +kernel
theorem dX1_openingsWithin_24 : decode cX1_openingsWithin 24 = .ok (.iload 4, 2) := by decide +kernel
theorem dX1_openingsWithin_26 : decode cX1_openingsWithin 26 = .ok (.invokevirtual 58, 3) := by decide +kernel
theorem dX1_openingsWithin_29 : decode cX1_openingsWithin 29 = .ok (.iload_n 2, 1) := by decide +kernel
theorem dX1_openingsWithin_30 : decode cX1_openingsWithin 30 = .ok (.iadd, 1) := by decide +kernel
theorem dX1_openingsWithin_31 : decode cX1_openingsWithin 31 = .ok (.iload_n 1, 1) := by decide +kernel
theorem dX1_openingsWithin_32 : decode cX1_openingsWithin 32 = .ok (.if_icmp .gt 7, 3) := by decide +kernel
theorem dX1_openingsWithin_35 : decode cX1_openingsWithin 35 = .ok (.iconst 1, 1) := by decide +kernel
theorem dX1_openingsWithin_36 : decode cX1_openingsWithin 36 = .ok (.goto 4, 3) := by decide +kernel
theorem dX1_openingsWithin_39 : decode cX1_openingsWithin 39 = .ok (.iconst 0, 1) := by decide +kernel
theorem dX1_openingsWithin_40 : decode cX1_openingsWithin 40 = .ok (.iadd, 1) := by decide +kernel
theorem dX1_openingsWithin_41 : decode cX1_openingsWithin 41 = .ok (.istore_n 3, 1) := by decide +kernel
theorem dX1_openingsWithin_42 : decode cX1_openingsWithin 42 = .ok (.iinc 4 1, 3) := by decide +kernel
theorem dX1_openingsWithin_45 : decode cX1_openingsWithin 45 = .ok (.goto (-32), 3) := by decide +kernel
theorem dX1_openingsWithin_48 : decode cX1_openingsWithin 48 = .ok (.iload_n 3, 1) := by decide +kernel
theorem dX1_openingsWithin_49 : decode cX1_openingsWithin 49 = .ok (.ireturn, 1) := by decide +kernel
theorem dX2_init_0 : decode cX2_init 0 = .ok (.aload_n 0, 1) := by decide +kernel
theorem dX2_init_1 : decode cX2_init 1 = .ok (.invokespecial 3, 3) := by decide +kernel
theorem dX2_init_4 : decode cX2_init 4 = .ok (.aload_n 0, 1) := by decide +kernel
theorem dX2_init_5 : decode cX2_init 5 = .ok (.bipush 64, 2) := by decide +kernel
theorem dX2_init_7 : decode cX2_init 7 = .ok (.newarray .int, 2) := by decide +kernel
theorem dX2_init_9 : decode cX2_init 9 = .ok (.putfield 9, 3) := by decide +kernel
theorem dX2_init_12 : decode cX2_init 12 = .ok (.return_, 1) := by decide +kernel
theorem dX2_cellsWith_0 : decode cX2_cellsWith 0 = .ok (.iconst 0, 1) := by decide +kernel
theorem dX2_cellsWith_1 : decode cX2_cellsWith 1 = .ok (.istore_n 2, 1) := by decide +kernel
theorem dX2_cellsWith_2 : decode cX2_cellsWith 2 = .ok (.iconst 0, 1) := by decide +kernel
theorem dX2_cellsWith_3 : decode cX2_cellsWith 3 = .ok (.istore_n 3, 1) := by decide +kernel
theorem dX2_cellsWith_4 : decode cX2_cellsWith 4 = .ok (.iload_n 3, 1) := by decide +kernel
theorem dX2_cellsWith_5 : decode cX2_cellsWith 5 = .ok (.bipush 64, 2) := by decide +kernel
theorem dX2_cellsWith_7 : decode cX2_cellsWith 7 = .ok (.if_icmp .ge 27, 3) := by decide +kernel
theorem dX2_cellsWith_10 : decode cX2_cellsWith 10 = .ok (.iload_n 2, 1) := by decide +kernel
theorem dX2_cellsWith_11 : decode cX2_cellsWith 11 = .ok (.aload_n 0, 1) := by decide +kernel
theorem dX2_cellsWith_12 : decode cX2_cellsWith 12 = .ok (.getfield 9, 3) := by decide +kernel
theorem dX2_cellsWith_15 : decode cX2_cellsWith 15 = .ok (.iload_n 3, 1) := by decide +kernel
theorem dX2_cellsWith_16 : decode cX2_cellsWith 16 = .ok (.iaload, 1) := by decide +kernel
theorem dX2_cellsWith_17 : decode cX2_cellsWith 17 = .ok (.iload_n 1, 1) := by decide +kernel
theorem dX2_cellsWith_18 : decode cX2_cellsWith 18 = .ok (.if_icmp .ne 7, 3) := by decide +kernel
theorem dX2_cellsWith_21 : decode cX2_cellsWith 21 = .ok (.iconst 1, 1) := by decide +kernel
theorem dX2_cellsWith_22 : decode cX2_cellsWith 22 = .ok (.goto 4, 3) := by decide +kernel
theorem dX2_cellsWith_25 : decode cX2_cellsWith 25 = .ok (.iconst 0, 1) := by decide +kernel
theorem dX2_cellsWith_26 : decode cX2_cellsWith 26 = .ok (.iadd, 1) := by decide +kernel
theorem dX2_cellsWith_27 : decode cX2_cellsWith 27 = .ok (.istore_n 2, 1) := by decide +kernel
theorem dX2_cellsWith_28 : decode cX2_cellsWith 28 = .ok (.iinc 3 1, 3) := by decide +kernel
theorem dX2_cellsWith_31 : decode cX2_cellsWith 31 = .ok (.goto (-27), 3) := by decide +kernel
theorem dX2_cellsWith_34 : decode cX2_cellsWith 34 = .ok (.iload_n 2, 1) := by decide +kernel
theorem dX2_cellsWith_35 : decode cX2_cellsWith 35 = .ok (.ireturn, 1) := by decide +kernel
theorem dX3_init_0 : decode cX3_init 0 = .ok (.aload_n 0, 1) := by decide +kernel
theorem dX3_init_1 : decode cX3_init 1 = .ok (.invokespecial 3, 3) := by decide +kernel
theorem dX3_init_4 : decode cX3_init 4 = .ok (.aload_n 0, 1) := by decide +kernel
theorem dX3_init_5 : decode cX3_init 5 = .ok (.bipush 20, 2) := by decide +kernel
theorem dX3_init_7 : decode cX3_init 7 = .ok (.newarray .int, 2) := by decide +kernel
theorem dX3_init_9 : decode cX3_init 9 = .ok (.putfield 9, 3) := by decide +kernel
theorem dX3_init_12 : decode cX3_init 12 = .ok (.return_, 1) := by decide +kernel
theorem dX3_add_0 : decode cX3_add 0 = .ok (.aload_n 0, 1) := by decide +kernel
theorem dX3_add_1 : decode cX3_add 1 = .ok (.getfield 15, 3) := by decide +kernel
theorem dX3_add_4 : decode cX3_add 4 = .ok (.bipush 20, 2) := by decide +kernel
theorem dX3_add_6 : decode cX3_add 6 = .ok (.if_icmp .ge 23, 3) := by decide +kernel
theorem dX3_add_9 : decode cX3_add 9 = .ok (.aload_n 0, 1) := by decide +kernel
theorem dX3_add_10 : decode cX3_add 10 = .ok (.getfield 9, 3) := by decide +kernel
theorem dX3_add_13 : decode cX3_add 13 = .ok (.aload_n 0, 1) := by decide +kernel
theorem dX3_add_14 : decode cX3_add 14 = .ok (.getfield 15, 3) := by decide +kernel
theorem dX3_add_17 : decode cX3_add 17 = .ok (.iload_n 1, 1) := by decide +kernel
theorem dX3_add_18 : decode cX3_add 18 = .ok (.iastore, 1) := by decide +kernel
theorem dX3_add_19 : decode cX3_add 19 = .ok (.aload_n 0, 1) := by decide +kernel
theorem dX3_add_20 : decode cX3_add 20 = .ok (.dup, 1) := by decide +kernel
theorem dX3_add_21 : decode cX3_add 21 = .ok (.getfield 15, 3) := by decide +kernel
theorem dX3_add_24 : decode cX3_add 24 = .ok (.iconst 1, 1) := by decide +kernel
theorem dX3_add_25 : decode cX3_add 25 = .ok (.iadd, 1) := by decide +kernel
theorem dX3_add_26 : decode cX3_add 26 = .ok (.putfield 15, 3) := by decide +kernel
theorem dX3_add_29 : decode cX3_add 29 = .ok (.return_, 1) := by decide +kernel
theorem dX3_latest_0 : decode cX3_latest 0 = .ok (.aload_n 0, 1) := by decide +kernel
theorem dX3_latest_1 : decode cX3_latest 1 = .ok (.getfield 15, 3) := by decide +kernel
theorem dX3_latest_4 : decode cX3_latest 4 = .ok (.ifCond .le 17, 3) := by decide +kernel
theorem dX3_latest_7 : decode cX3_latest 7 = .ok (.aload_n 0, 1) := by decide +kernel
theorem dX3_latest_8 : decode cX3_latest 8 = .ok (.getfield 9, 3) := by decide +kernel
theorem dX3_latest_11 : decode cX3_latest 11 = .ok (.aload_n 0, 1) := by decide +kernel
theorem dX3_latest_12 : decode cX3_latest 12 = .ok (.getfield 15, 3) := by decide +kernel
theorem dX3_latest_15 : decode cX3_latest 15 = .ok (.iconst 1, 1) := by decide +kernel
theorem dX3_latest_16 : decode cX3_latest 16 = .ok (.isub, 1) := by decide +kernel
theorem dX3_latest_17 : decode cX3_latest 17 = .ok (.iaload, 1) := by decide +kernel
theorem dX3_latest_18 : decode cX3_latest 18 = .ok (.goto 4, 3) := by decide +kernel
theorem dX3_latest_21 : decode cX3_latest 21 = .ok (.iconst (-1), 1) := by decide +kernel
theorem dX3_latest_22 : decode cX3_latest 22 = .ok (.ireturn, 1) := by decide +kernel
theorem dX3_dropLatest_0 : decode cX3_dropLatest 0 = .ok (.aload_n 0, 1) := by decide +kernel
theorem dX3_dropLatest_1 : decode cX3_dropLatest 1 = .ok (.getfield 15, 3) := by decide +kernel
theorem dX3_dropLatest_4 : decode cX3_dropLatest 4 = .ok (.ifCond .le 13, 3) := by decide +kernel
theorem dX3_dropLatest_7 : decode cX3_dropLatest 7 = .ok (.aload_n 0, 1) := by decide +kernel
theorem dX3_dropLatest_8 : decode cX3_dropLatest 8 = .ok (.dup, 1) := by decide +kernel
theorem dX3_dropLatest_9 : decode cX3_dropLatest 9 = .ok (.getfield 15, 3) := by decide +kernel
theorem dX3_dropLatest_12 : decode cX3_dropLatest 12 = .ok (.iconst 1, 1) := by decide +kernel
theorem dX3_dropLatest_13 : decode cX3_dropLatest 13 = .ok (.isub, 1) := by decide +kernel
theorem dX3_dropLatest_14 : decode cX3_dropLatest 14 = .ok (.putfield 15, 3) := by decide +kernel
theorem dX3_dropLatest_17 : decode cX3_dropLatest 17 = .ok (.return_, 1) := by decide +kernel
theorem dX4_init_0 : decode cX4_init 0 = .ok (.aload_n 0, 1) := by decide +kernel
theorem dX4_init_1 : decode cX4_init 1 = .ok (.invokespecial 3, 3) := by decide +kernel
theorem dX4_init_4 : decode cX4_init 4 = .ok (.aload_n 0, 1) := by decide +kernel
theorem dX4_init_5 : decode cX4_init 5 = .ok (.bipush 40, 2) := by decide +kernel
theorem dX4_init_7 : decode cX4_init 7 = .ok (.newarray .int, 2) := by decide +kernel
theorem dX4_init_9 : decode cX4_init 9 = .ok (.putfield 9, 3) := by decide +kernel
theorem dX4_init_12 : decode cX4_init 12 = .ok (.aload_n 0, 1) := by decide +kernel
theorem dX4_init_13 : decode cX4_init 13 = .ok (.bipush 8, 2) := by decide +kernel
theorem dX4_init_15 : decode cX4_init 15 = .ok (.newarray .int, 2) := by decide +kernel
theorem dX4_init_17 : decode cX4_init 17 = .ok (.putfield 15, 3) := by decide +kernel
theorem dX4_init_20 : decode cX4_init 20 = .ok (.aload_n 0, 1) := by decide +kernel
theorem dX4_init_21 : decode cX4_init 21 = .ok (.sipush 200, 3) := by decide +kernel
theorem dX4_init_24 : decode cX4_init 24 = .ok (.newarray .int, 2) := by decide +kernel
theorem dX4_init_26 : decode cX4_init 26 = .ok (.putfield 18, 3) := by decide +kernel
theorem dX4_init_29 : decode cX4_init 29 = .ok (.aload_n 0, 1) := by decide +kernel
theorem dX4_init_30 : decode cX4_init 30 = .ok (.iload_n 1, 1) := by decide +kernel
theorem dX4_init_31 : decode cX4_init 31 = .ok (.putfield 21, 3) := by decide +kernel
theorem dX4_init_34 : decode cX4_init 34 = .ok (.aload_n 0, 1) := by decide +kernel
theorem dX4_init_35 : decode cX4_init 35 = .ok (.iload_n 2, 1) := by decide +kernel
theorem dX4_init_36 : decode cX4_init 36 = .ok (.putfield 25, 3) := by decide +kernel
theorem dX4_init_39 : decode cX4_init 39 = .ok (.return_, 1) := by decide +kernel
theorem dX4_allows_0 : decode cX4_allows 0 = .ok (.aload_n 0, 1) := by decide +kernel
theorem dX4_allows_1 : decode cX4_allows 1 = .ok (.getfield 28, 3) := by decide +kernel
theorem dX4_allows_4 : decode cX4_allows 4 = .ok (.sipush 200, 3) := by decide +kernel
theorem dX4_allows_7 : decode cX4_allows 7 = .ok (.if_icmp .lt 5, 3) := by decide +kernel
theorem dX4_allows_10 : decode cX4_allows 10 = .ok (.iconst 0, 1) := by decide +kernel
theorem dX4_allows_11 : decode cX4_allows 11 = .ok (.ireturn, 1) := by decide +kernel
theorem dX4_allows_12 : decode cX4_allows 12 = .ok (.iload_n 1, 1) := by decide +kernel
theorem dX4_allows_13 : decode cX4_allows 13 = .ok (.tableswitch 109 1 4 #[31, 50, 63, 89], 31) := by decide +kernel
theorem dX4_allows_44 : decode cX4_allows 44 = .ok (.aload_n 0, 1) := by decide +kernel
theorem dX4_allows_45 : decode cX4_allows 45 = .ok (.getfield 31, 3) := by decide +kernel
theorem dX4_allows_48 : decode cX4_allows 48 = .ok (.iconst 1, 1) := by decide +kernel
theorem dX4_allows_49 : decode cX4_allows 49 = .ok (.iadd, 1) := by decide +kernel
theorem dX4_allows_50 : decode cX4_allows 50 = .ok (.aload_n 0, 1) := by decide +kernel
theorem dX4_allows_51 : decode cX4_allows 51 = .ok (.getfield 25, 3) := by decide +kernel
theorem dX4_allows_54 : decode cX4_allows 54 = .ok (.if_icmp .ge 7, 3) := by decide +kernel
theorem dX4_allows_57 : decode cX4_allows 57 = .ok (.iconst 1, 1) := by decide +kernel
theorem dX4_allows_58 : decode cX4_allows 58 = .ok (.goto 4, 3) := by decide +kernel
theorem dX4_allows_61 : decode cX4_allows 61 = .ok (.iconst 0, 1) := by decide +kernel
theorem dX4_allows_62 : decode cX4_allows 62 = .ok (.ireturn, 1) := by decide +kernel
theorem dX4_allows_63 : decode cX4_allows 63 = .ok (.aload_n 0, 1) := by decide +kernel
theorem dX4_allows_64 : decode cX4_allows 64 = .ok (.getfield 31, 3) := by decide +kernel
theorem dX4_allows_67 : decode cX4_allows 67 = .ok (.ifCond .le 7, 3) := by decide +kernel
theorem dX4_allows_70 : decode cX4_allows 70 = .ok (.iconst 1, 1) := by decide +kernel
theorem dX4_allows_71 : decode cX4_allows 71 = .ok (.goto 4, 3) := by decide +kernel
theorem dX4_allows_74 : decode cX4_allows 74 = .ok (.iconst 0, 1) := by decide +kernel
theorem dX4_allows_75 : decode cX4_allows 75 = .ok (.ireturn, 1) := by decide +kernel
theorem dX4_allows_76 : decode cX4_allows 76 = .ok (.aload_n 0, 1) := by decide +kernel
theorem dX4_allows_77 : decode cX4_allows 77 = .ok (.getfield 34, 3) := by decide +kernel
theorem dX4_allows_80 : decode cX4_allows 80 = .ok (.ifCond .ne 20, 3) := by decide +kernel
theorem dX4_allows_83 : decode cX4_allows 83 = .ok (.aload_n 0, 1) := by decide +kernel
theorem dX4_allows_84 : decode cX4_allows 84 = .ok (.getfield 38, 3) := by decide +kernel
theorem dX4_allows_87 : decode cX4_allows 87 = .ok (.iconst 1, 1) := by decide +kernel
theorem dX4_allows_88 : decode cX4_allows 88 = .ok (.iadd, 1) := by decide +kernel
theorem dX4_allows_89 : decode cX4_allows 89 = .ok (.aload_n 0, 1) := by decide +kernel
theorem dX4_allows_90 : decode cX4_allows 90 = .ok (.getfield 21, 3) := by decide +kernel
theorem dX4_allows_93 : decode cX4_allows 93 = .ok (.if_icmp .ge 7, 3) := by decide +kernel
theorem dX4_allows_96 : decode cX4_allows 96 = .ok (.iconst 1, 1) := by decide +kernel
theorem dX4_allows_97 : decode cX4_allows 97 = .ok (.goto 4, 3) := by decide +kernel
theorem dX4_allows_100 : decode cX4_allows 100 = .ok (.iconst 0, 1) := by decide +kernel
theorem dX4_allows_101 : decode cX4_allows 101 = .ok (.ireturn, 1) := by decide +kernel
theorem dX4_allows_102 : decode cX4_allows 102 = .ok (.aload_n 0, 1) := by decide +kernel
theorem dX4_allows_103 : decode cX4_allows 103 = .ok (.getfield 34, 3) := by decide +kernel
theorem dX4_allows_106 : decode cX4_allows 106 = .ok (.ifCond .ne 14, 3) := by decide +kernel
theorem dX4_allows_109 : decode cX4_allows 109 = .ok (.aload_n 0, 1) := by decide +kernel
theorem dX4_allows_110 : decode cX4_allows 110 = .ok (.getfield 38, 3) := by decide +kernel
theorem dX4_allows_113 : decode cX4_allows 113 = .ok (.ifCond .le 7, 3) := by decide +kernel
theorem dX4_allows_116 : decode cX4_allows 116 = .ok (.iconst 1, 1) := by decide +kernel
theorem dX4_allows_117 : decode cX4_allows 117 = .ok (.goto 4, 3) := by decide +kernel
theorem dX4_allows_120 : decode cX4_allows 120 = .ok (.iconst 0, 1) := by decide +kernel
theorem dX4_allows_121 : decode cX4_allows 121 = .ok (.ireturn, 1) := by decide +kernel
theorem dX4_allows_122 : decode cX4_allows 122 = .ok (.iconst 1, 1) := by decide +kernel
theorem dX4_allows_123 : decode cX4_allows 123 = .ok (.ireturn, 1) := by decide +kernel
set_option maxRecDepth 20000 in
theorem ggX4_make_X4_go : GoodIn wsX4_make wsX4_go := goodIn_r _ [7, 8, 9, 10, 11, 12, 13, 6, 14, 15, 16, 17, 18, 19, 20, 21, 22, 23, 24, 25, 26, 27, 28, 29, 30, 31] (by decide +kernel) (by decide +kernel)
set_option maxRecDepth 20000 in
theorem gX4_make_X4_go : GoodIn wsX4_make (wsV RX4 41 RX4 yX4_go wsX4_go) := goodIn_app (goodIn_of _ (by decide +kernel)) ggX4_make_X4_go
theorem dX4_make_0 : decode cX4_make 0 = .ok (.aload_n 0, 1) := by decide +kernel
theorem dX4_make_1 : decode cX4_make 1 = .ok (.getfield 28, 3) := by decide +kernel
theorem dX4_make_4 : decode cX4_make 4 = .ok (.sipush 200, 3) := by decide +kernel
theorem dX4_make_7 : decode cX4_make 7 = .ok (.if_icmp .ge 29, 3) := by decide +kernel
theorem dX4_make_10 : decode cX4_make 10 = .ok (.aload_n 0, 1) := by decide +kernel
theorem dX4_make_11 : decode cX4_make 11 = .ok (.getfield 18, 3) := by decide +kernel
theorem dX4_make_14 : decode cX4_make 14 = .ok (.aload_n 0, 1) := by decide +kernel
theorem dX4_make_15 : decode cX4_make 15 = .ok (.getfield 28, 3) := by decide +kernel
theorem dX4_make_18 : decode cX4_make 18 = .ok (.iload_n 1, 1) := by decide +kernel
theorem dX4_make_19 : decode cX4_make 19 = .ok (.iastore, 1) := by decide +kernel
theorem dX4_make_20 : decode cX4_make 20 = .ok (.aload_n 0, 1) := by decide +kernel
theorem dX4_make_21 : decode cX4_make 21 = .ok (.dup, 1) := by decide +kernel
theorem dX4_make_22 : decode cX4_make 22 = .ok (.getfield 28, 3) := by decide +kernel
theorem dX4_make_25 : decode cX4_make 25 = .ok (.iconst 1, 1) := by decide +kernel
theorem dX4_make_26 : decode cX4_make 26 = .ok (.iadd, 1) := by decide +kernel
theorem dX4_make_27 : decode cX4_make 27 = .ok (.putfield 28, 3) := by decide +kernel
theorem dX4_make_30 : decode cX4_make 30 = .ok (.aload_n 0, 1) := by decide +kernel
theorem dX4_make_31 : decode cX4_make 31 = .ok (.iload_n 1, 1) := by decide +kernel
theorem dX4_make_32 : decode cX4_make 32 = .ok (.iconst 1, 1) := by decide +kernel
theorem dX4_make_33 : decode cX4_make 33 = .ok (.invokevirtual 41, 3) := by decide +kernel
theorem dX4_make_36 : decode cX4_make 36 = .ok (.return_, 1) := by decide +kernel
set_option maxRecDepth 20000 in
theorem ggX4_takeBack_X4_opposite : GoodIn wsX4_takeBack wsX4_opposite := goodIn_r _ [6] (by decide +kernel) (by decide +kernel)
set_option maxRecDepth 20000 in
theorem gX4_takeBack_X4_opposite : GoodIn wsX4_takeBack (va_wsS RX4 45 yX4_opposite wsX4_opposite) := goodIn_app (goodIn_of _ (by decide +kernel)) ggX4_takeBack_X4_opposite
set_option maxRecDepth 20000 in
theorem ggX4_takeBack_X4_go : GoodIn wsX4_takeBack wsX4_go := goodIn_r _ [10, 11, 12, 13, 14, 15, 16, 5, 17, 18, 19, 20, 21, 22, 23, 24, 25, 26, 27, 28, 29, 30, 31, 32, 33, 34] (by decide +kernel) (by decide +kernel)
set_option maxRecDepth 20000 in
theorem gX4_takeBack_X4_go : GoodIn wsX4_takeBack (wsV RX4 41 RX4 yX4_go wsX4_go) := goodIn_app (goodIn_of _ (by decide +kernel)) ggX4_takeBack_X4_go
theorem dX4_takeBack_0 : decode cX4_takeBack 0 = .ok (.aload_n 0, 1) := by decide +kernel
theorem dX4_takeBack_1 : decode cX4_takeBack 1 = .ok (.getfield 28, 3) := by decide +kernel
theorem dX4_takeBack_4 : decode cX4_takeBack 4 = .ok (.ifCond .le 30, 3) := by decide +kernel
theorem dX4_takeBack_7 : decode cX4_takeBack 7 = .ok (.aload_n 0, 1) := by decide +kernel
theorem dX4_takeBack_8 : decode cX4_takeBack 8 = .ok (.dup, 1) := by decide +kernel
theorem dX4_takeBack_9 : decode cX4_takeBack 9 = .ok (.getfield 28, 3) := by decide +kernel
theorem dX4_takeBack_12 : decode cX4_takeBack 12 = .ok (.iconst 1, 1) := by decide +kernel
theorem dX4_takeBack_13 : decode cX4_takeBack 13 = .ok (.isub, 1) := by decide +kernel
theorem dX4_takeBack_14 : decode cX4_takeBack 14 = .ok (.putfield 28, 3) := by decide +kernel
theorem dX4_takeBack_17 : decode cX4_takeBack 17 = .ok (.aload_n 0, 1) := by decide +kernel
theorem dX4_takeBack_18 : decode cX4_takeBack 18 = .ok (.aload_n 0, 1) := by decide +kernel
theorem dX4_takeBack_19 : decode cX4_takeBack 19 = .ok (.getfield 18, 3) := by decide +kernel
theorem dX4_takeBack_22 : decode cX4_takeBack 22 = .ok (.aload_n 0, 1) := by decide +kernel
theorem dX4_takeBack_23 : decode cX4_takeBack 23 = .ok (.getfield 28, 3) := by decide +kernel
theorem dX4_takeBack_26 : decode cX4_takeBack 26 = .ok (.iaload, 1) := by decide +kernel
theorem dX4_takeBack_27 : decode cX4_takeBack 27 = .ok (.invokestatic 45, 3) := by decide +kernel
theorem dX4_takeBack_30 : decode cX4_takeBack 30 = .ok (.iconst (-1), 1) := by decide +kernel
theorem dX4_takeBack_31 : decode cX4_takeBack 31 = .ok (.invokevirtual 41, 3) := by decide +kernel
theorem dX4_takeBack_34 : decode cX4_takeBack 34 = .ok (.return_, 1) := by decide +kernel
theorem dX4_opposite_0 : decode cX4_opposite 0 = .ok (.iload_n 0, 1) := by decide +kernel
theorem dX4_opposite_1 : decode cX4_opposite 1 = .ok (.tableswitch 39 1 4 #[31, 33, 35, 37], 31) := by decide +kernel
theorem dX4_opposite_32 : decode cX4_opposite 32 = .ok (.iconst 2, 1) := by decide +kernel
theorem dX4_opposite_33 : decode cX4_opposite 33 = .ok (.ireturn, 1) := by decide +kernel
theorem dX4_opposite_34 : decode cX4_opposite 34 = .ok (.iconst 1, 1) := by decide +kernel
theorem dX4_opposite_35 : decode cX4_opposite 35 = .ok (.ireturn, 1) := by decide +kernel
theorem dX4_opposite_36 : decode cX4_opposite 36 = .ok (.iconst 4, 1) := by decide +kernel
theorem dX4_opposite_37 : decode cX4_opposite 37 = .ok (.ireturn, 1) := by decide +kernel
theorem dX4_opposite_38 : decode cX4_opposite 38 = .ok (.iconst 3, 1) := by decide +kernel
theorem dX4_opposite_39 : decode cX4_opposite 39 = .ok (.ireturn, 1) := by decide +kernel
theorem dX4_opposite_40 : decode cX4_opposite 40 = .ok (.iconst 0, 1) := by decide +kernel
theorem dX4_opposite_41 : decode cX4_opposite 41 = .ok (.ireturn, 1) := by decide +kernel
set_option maxRecDepth 20000 in
theorem ggX4_go_X4_pass : GoodIn wsX4_go wsX4_pass := goodIn_r _ [8, 9, 2, 3, 10, 16, 17, 18, 19, 20, 21, 22, 23, 24, 25] (by decide +kernel) (by decide +kernel)
set_option maxRecDepth 20000 in
theorem gX4_go_X4_pass : GoodIn wsX4_go (wsV RX4 49 RX4 yX4_pass wsX4_pass) := goodIn_app (goodIn_of _ (by decide +kernel)) ggX4_go_X4_pass
set_option maxRecDepth 20000 in
theorem ggX4_go_X4_link : GoodIn wsX4_go wsX4_link := goodIn_r _ [14, 9, 15, 16, 17, 18, 19, 20, 21, 22, 23, 24, 25] (by decide +kernel) (by decide +kernel)
set_option maxRecDepth 20000 in
theorem gX4_go_X4_link : GoodIn wsX4_go (wsV RX4 52 RX4 yX4_link wsX4_link) := goodIn_app (goodIn_of _ (by decide +kernel)) ggX4_go_X4_link
theorem dX4_go_0 : decode cX4_go 0 = .ok (.iload_n 1, 1) := by decide +kernel
theorem dX4_go_1 : decode cX4_go 1 = .ok (.tableswitch 119 1 4 #[31, 53, 75, 97], 31) := by decide +kernel
theorem dX4_go_32 : decode cX4_go 32 = .ok (.aload_n 0, 1) := by decide +kernel
theorem dX4_go_33 : decode cX4_go 33 = .ok (.aload_n 0, 1) := by decide +kernel
theorem dX4_go_34 : decode cX4_go 34 = .ok (.getfield 31, 3) := by decide +kernel
theorem dX4_go_37 : decode cX4_go 37 = .ok (.iload_n 2, 1) := by decide +kernel
theorem dX4_go_38 : decode cX4_go 38 = .ok (.invokevirtual 49, 3) := by decide +kernel
theorem dX4_go_41 : decode cX4_go 41 = .ok (.aload_n 0, 1) := by decide +kernel
theorem dX4_go_42 : decode cX4_go 42 = .ok (.dup, 1) := by decide +kernel
theorem dX4_go_43 : decode cX4_go 43 = .ok (.getfield 31, 3) := by decide +kernel
theorem dX4_go_46 : decode cX4_go 46 = .ok (.iconst 1, 1) := by decide +kernel
theorem dX4_go_47 : decode cX4_go 47 = .ok (.iadd, 1) := by decide +kernel
theorem dX4_go_48 : decode cX4_go 48 = .ok (.putfield 31, 3) := by decide +kernel
theorem dX4_go_51 : decode cX4_go 51 = .ok (.goto 85, 3) := by decide +kernel
theorem dX4_go_54 : decode cX4_go 54 = .ok (.aload_n 0, 1) := by decide +kernel
theorem dX4_go_55 : decode cX4_go 55 = .ok (.dup, 1) := by decide +kernel
theorem dX4_go_56 : decode cX4_go 56 = .ok (.getfield 31, 3) := by decide +kernel
theorem dX4_go_59 : decode cX4_go 59 = .ok (.iconst 1, 1) := by decide +kernel
theorem dX4_go_60 : decode cX4_go 60 = .ok (.isub, 1) := by decide +kernel
theorem dX4_go_61 : decode cX4_go 61 = .ok (.putfield 31, 3) := by decide +kernel
theorem dX4_go_64 : decode cX4_go 64 = .ok (.aload_n 0, 1) := by decide +kernel
theorem dX4_go_65 : decode cX4_go 65 = .ok (.aload_n 0, 1) := by decide +kernel
theorem dX4_go_66 : decode cX4_go 66 = .ok (.getfield 31, 3) := by decide +kernel
theorem dX4_go_69 : decode cX4_go 69 = .ok (.iload_n 2, 1) := by decide +kernel
theorem dX4_go_70 : decode cX4_go 70 = .ok (.invokevirtual 49, 3) := by decide +kernel
theorem dX4_go_73 : decode cX4_go 73 = .ok (.goto 63, 3) := by decide +kernel
theorem dX4_go_76 : decode cX4_go 76 = .ok (.aload_n 0, 1) := by decide +kernel
theorem dX4_go_77 : decode cX4_go 77 = .ok (.aload_n 0, 1) := by decide +kernel
theorem dX4_go_78 : decode cX4_go 78 = .ok (.getfield 38, 3) := by decide +kernel
theorem dX4_go_81 : decode cX4_go 81 = .ok (.iload_n 2, 1) := by decide +kernel
theorem dX4_go_82 : decode cX4_go 82 = .ok (.invokevirtual 52, 3) := by decide +kernel
theorem dX4_go_85 : decode cX4_go 85 = .ok (.aload_n 0, 1) := by decide +kernel
theorem dX4_go_86 : decode cX4_go 86 = .ok (.dup, 1) := by decide +kernel
theorem dX4_go_87 : decode cX4_go 87 = .ok (.getfield 38, 3) := by decide +kernel
theorem dX4_go_90 : decode cX4_go 90 = .ok (.iconst 1, 1) := by decide +kernel
theorem dX4_go_91 : decode cX4_go 91 = .ok (.iadd, 1) := by decide +kernel
theorem dX4_go_92 : decode cX4_go 92 = .ok (.putfield 38, 3) := by decide +kernel
theorem dX4_go_95 : decode cX4_go 95 = .ok (.goto 41, 3) := by decide +kernel
theorem dX4_go_98 : decode cX4_go 98 = .ok (.aload_n 0, 1) := by decide +kernel
theorem dX4_go_99 : decode cX4_go 99 = .ok (.dup, 1) := by decide +kernel
theorem dX4_go_100 : decode cX4_go 100 = .ok (.getfield 38, 3) := by decide +kernel
theorem dX4_go_103 : decode cX4_go 103 = .ok (.iconst 1, 1) := by decide +kernel
theorem dX4_go_104 : decode cX4_go 104 = .ok (.isub, 1) := by decide +kernel
theorem dX4_go_105 : decode cX4_go 105 = .ok (.putfield 38, 3) := by decide +kernel
theorem dX4_go_108 : decode cX4_go 108 = .ok (.aload_n 0, 1) := by decide +kernel
theorem dX4_go_109 : decode cX4_go 109 = .ok (.aload_n 0, 1) := by decide +kernel
theorem dX4_go_110 : decode cX4_go 110 = .ok (.getfield 38, 3) := by decide +kernel
theorem dX4_go_113 : decode cX4_go 113 = .ok (.iload_n 2, 1) := by decide +kernel
theorem dX4_go_114 : decode cX4_go 114 = .ok (.invokevirtual 52, 3) := by decide +kernel
theorem dX4_go_117 : decode cX4_go 117 = .ok (.goto 19, 3) := by decide +kernel
theorem dX4_go_120 : decode cX4_go 120 = .ok (.aload_n 0, 1) := by decide +kernel
theorem dX4_go_121 : decode cX4_go 121 = .ok (.aload_n 0, 1) := by decide +kernel
theorem dX4_go_122 : decode cX4_go 122 = .ok (.getfield 34, 3) := by decide +kernel
theorem dX4_go_125 : decode cX4_go 125 = .ok (.ifCond .ne 7, 3) := by decide +kernel
theorem dX4_go_128 : decode cX4_go 128 = .ok (.iconst 1, 1) := by decide +kernel
theorem dX4_go_129 : decode cX4_go 129 = .ok (.goto 4, 3) := by decide +kernel
theorem dX4_go_132 : decode cX4_go 132 = .ok (.iconst 0, 1) := by decide +kernel
theorem dX4_go_133 : decode cX4_go 133 = .ok (.putfield 34, 3) := by decide +kernel
theorem dX4_go_136 : decode cX4_go 136 = .ok (.return_, 1) := by decide +kernel
theorem dX4_pass_0 : decode cX4_pass 0 = .ok (.aload_n 0, 1) := by decide +kernel
theorem dX4_pass_1 : decode cX4_pass 1 = .ok (.dup, 1) := by decide +kernel
theorem dX4_pass_2 : decode cX4_pass 2 = .ok (.getfield 55, 3) := by decide +kernel
theorem dX4_pass_5 : decode cX4_pass 5 = .ok (.iload_n 2, 1) := by decide +kernel
theorem dX4_pass_6 : decode cX4_pass 6 = .ok (.bipush 10, 2) := by decide +kernel
theorem dX4_pass_8 : decode cX4_pass 8 = .ok (.imul, 1) := by decide +kernel
theorem dX4_pass_9 : decode cX4_pass 9 = .ok (.iadd, 1) := by decide +kernel
theorem dX4_pass_10 : decode cX4_pass 10 = .ok (.putfield 55, 3) := by decide +kernel
theorem dX4_pass_13 : decode cX4_pass 13 = .ok (.aload_n 0, 1) := by decide +kernel
theorem dX4_pass_14 : decode cX4_pass 14 = .ok (.getfield 38, 3) := by decide +kernel
theorem dX4_pass_17 : decode cX4_pass 17 = .ok (.iconst 5, 1) := by decide +kernel
theorem dX4_pass_18 : decode cX4_pass 18 = .ok (.imul, 1) := by decide +kernel
theorem dX4_pass_19 : decode cX4_pass 19 = .ok (.iload_n 1, 1) := by decide +kernel
theorem dX4_pass_20 : decode cX4_pass 20 = .ok (.iadd, 1) := by decide +kernel
theorem dX4_pass_21 : decode cX4_pass 21 = .ok (.istore_n 3, 1) := by decide +kernel
theorem dX4_pass_22 : decode cX4_pass 22 = .ok (.aload_n 0, 1) := by decide +kernel
theorem dX4_pass_23 : decode cX4_pass 23 = .ok (.getfield 34, 3) := by decide +kernel
theorem dX4_pass_26 : decode cX4_pass 26 = .ok (.ifCond .eq 26, 3) := by decide +kernel
theorem dX4_pass_29 : decode cX4_pass 29 = .ok (.iload_n 3, 1) := by decide +kernel
theorem dX4_pass_30 : decode cX4_pass 30 = .ok (.ifCond .lt 22, 3) := by decide +kernel
theorem dX4_pass_33 : decode cX4_pass 33 = .ok (.iload_n 3, 1) := by decide +kernel
theorem dX4_pass_34 : decode cX4_pass 34 = .ok (.aload_n 0, 1) := by decide +kernel
theorem dX4_pass_35 : decode cX4_pass 35 = .ok (.getfield 9, 3) := by decide +kernel
theorem dX4_pass_38 : decode cX4_pass 38 = .ok (.arraylength, 1) := by decide +kernel
theorem dX4_pass_39 : decode cX4_pass 39 = .ok (.if_icmp .ge 13, 3) := by decide +kernel
theorem dX4_pass_42 : decode cX4_pass 42 = .ok (.aload_n 0, 1) := by decide +kernel
theorem dX4_pass_43 : decode cX4_pass 43 = .ok (.getfield 9, 3) := by decide +kernel
theorem dX4_pass_46 : decode cX4_pass 46 = .ok (.iload_n 3, 1) := by decide +kernel
theorem dX4_pass_47 : decode cX4_pass 47 = .ok (.dup2, 1) := by decide +kernel
theorem dX4_pass_48 : decode cX4_pass 48 = .ok (.iaload, 1) := by decide +kernel
theorem dX4_pass_49 : decode cX4_pass 49 = .ok (.iload_n 2, 1) := by decide +kernel
theorem dX4_pass_50 : decode cX4_pass 50 = .ok (.iadd, 1) := by decide +kernel
theorem dX4_pass_51 : decode cX4_pass 51 = .ok (.iastore, 1) := by decide +kernel
theorem dX4_pass_52 : decode cX4_pass 52 = .ok (.return_, 1) := by decide +kernel
theorem dX4_link_0 : decode cX4_link 0 = .ok (.aload_n 0, 1) := by decide +kernel
theorem dX4_link_1 : decode cX4_link 1 = .ok (.dup, 1) := by decide +kernel
theorem dX4_link_2 : decode cX4_link 2 = .ok (.getfield 55, 3) := by decide +kernel
theorem dX4_link_5 : decode cX4_link 5 = .ok (.iload_n 2, 1) := by decide +kernel
theorem dX4_link_6 : decode cX4_link 6 = .ok (.iconst 4, 1) := by decide +kernel
theorem dX4_link_7 : decode cX4_link 7 = .ok (.imul, 1) := by decide +kernel
theorem dX4_link_8 : decode cX4_link 8 = .ok (.iadd, 1) := by decide +kernel
theorem dX4_link_9 : decode cX4_link 9 = .ok (.putfield 55, 3) := by decide +kernel
theorem dX4_link_12 : decode cX4_link 12 = .ok (.iload_n 1, 1) := by decide +kernel
theorem dX4_link_13 : decode cX4_link 13 = .ok (.ifCond .lt 22, 3) := by decide +kernel
theorem dX4_link_16 : decode cX4_link 16 = .ok (.iload_n 1, 1) := by decide +kernel
theorem dX4_link_17 : decode cX4_link 17 = .ok (.aload_n 0, 1) := by decide +kernel
theorem dX4_link_18 : decode cX4_link 18 = .ok (.getfield 15, 3) := by decide +kernel
theorem dX4_link_21 : decode cX4_link 21 = .ok (.arraylength, 1) := by decide +kernel
theorem dX4_link_22 : decode cX4_link 22 = .ok (.if_icmp .ge 13, 3) := by decide +kernel
theorem dX4_link_25 : decode cX4_link 25 = .ok (.aload_n 0, 1) := by decide +kernel
theorem dX4_link_26 : decode cX4_link 26 = .ok (.getfield 15, 3) := by decide +kernel
theorem dX4_link_29 : decode cX4_link 29 = .ok (.iload_n 1, 1) := by decide +kernel
theorem dX4_link_30 : decode cX4_link 30 = .ok (.dup2, 1) := by decide +kernel
theorem dX4_link_31 : decode cX4_link 31 = .ok (.iaload, 1) := by decide +kernel
theorem dX4_link_32 : decode cX4_link 32 = .ok (.iload_n 2, 1) := by decide +kernel
theorem dX4_link_33 : decode cX4_link 33 = .ok (.iadd, 1) := by decide +kernel
theorem dX4_link_34 : decode cX4_link 34 = .ok (.iastore, 1) := by decide +kernel
theorem dX4_link_35 : decode cX4_link 35 = .ok (.return_, 1) := by decide +kernel
theorem dX4_stitchesAt_0 : decode cX4_stitchesAt 0 = .ok (.iload_n 1, 1) := by decide +kernel
theorem dX4_stitchesAt_1 : decode cX4_stitchesAt 1 = .ok (.iconst 5, 1) := by decide +kernel
theorem dX4_stitchesAt_2 : decode cX4_stitchesAt 2 = .ok (.imul, 1) := by decide +kernel
theorem dX4_stitchesAt_3 : decode cX4_stitchesAt 3 = .ok (.iload_n 2, 1) := by decide +kernel
theorem dX4_stitchesAt_4 : decode cX4_stitchesAt 4 = .ok (.iadd, 1) := by decide +kernel
theorem dX4_stitchesAt_5 : decode cX4_stitchesAt 5 = .ok (.istore_n 3, 1) := by decide +kernel
theorem dX4_stitchesAt_6 : decode cX4_stitchesAt 6 = .ok (.iload_n 3, 1) := by decide +kernel
theorem dX4_stitchesAt_7 : decode cX4_stitchesAt 7 = .ok (.ifCond .lt 21, 3) := by decide +kernel
theorem dX4_stitchesAt_10 : decode cX4_stitchesAt 10 = .ok (.iload_n 3, 1) := by decide +kernel
theorem dX4_stitchesAt_11 : decode cX4_stitchesAt 11 = .ok (.aload_n 0, 1) := by decide +kernel
theorem dX4_stitchesAt_12 : decode cX4_stitchesAt 12 = .ok (.getfield 9, 3) := by decide +kernel
theorem dX4_stitchesAt_15 : decode cX4_stitchesAt 15 = .ok (.arraylength, 1) := by decide +kernel
theorem dX4_stitchesAt_16 : decode cX4_stitchesAt 16 = .ok (.if_icmp .ge 12, 3) := by decide +kernel
theorem dX4_stitchesAt_19 : decode cX4_stitchesAt 19 = .ok (.aload_n 0, 1) := by decide +kernel
theorem dX4_stitchesAt_20 : decode cX4_stitchesAt 20 = .ok (.getfield 9, 3) := by decide +kernel
theorem dX4_stitchesAt_23 : decode cX4_stitchesAt 23 = .ok (.iload_n 3, 1) := by decide +kernel
theorem dX4_stitchesAt_24 : decode cX4_stitchesAt 24 = .ok (.iaload, 1) := by decide +kernel
theorem dX4_stitchesAt_25 : decode cX4_stitchesAt 25 = .ok (.goto 4, 3) := by decide +kernel
theorem dX4_stitchesAt_28 : decode cX4_stitchesAt 28 = .ok (.iconst 0, 1) := by decide +kernel
theorem dX4_stitchesAt_29 : decode cX4_stitchesAt 29 = .ok (.ireturn, 1) := by decide +kernel
set_option maxRecDepth 20000 in
theorem ggX4_holds_X4_stitchesAt : GoodIn wsX4_holds wsX4_stitchesAt := goodIn_r _ [6, 7, 8, 9, 10, 11, 12, 13, 14, 15, 16, 17] (by decide +kernel) (by decide +kernel)
set_option maxRecDepth 20000 in
theorem gX4_holds_X4_stitchesAt : GoodIn wsX4_holds (wsV RX4 58 RX4 yX4_stitchesAt wsX4_stitchesAt) := goodIn_app (goodIn_of _ (by decide +kernel)) ggX4_holds_X4_stitchesAt
theorem dX4_holds_0 : decode cX4_holds 0 = .ok (.iconst 0, 1) := by decide +kernel
theorem dX4_holds_1 : decode cX4_holds 1 = .ok (.istore_n 2, 1) := by decide +kernel
theorem dX4_holds_2 : decode cX4_holds 2 = .ok (.iconst 0, 1) := by decide +kernel
theorem dX4_holds_3 : decode cX4_holds 3 = .ok (.istore_n 3, 1) := by decide +kernel
theorem dX4_holds_4 : decode cX4_holds 4 = .ok (.iload_n 3, 1) := by decide +kernel
theorem dX4_holds_5 : decode cX4_holds 5 = .ok (.aload_n 0, 1) := by decide +kernel
theorem dX4_holds_6 : decode cX4_holds 6 = .ok (.getfield 25, 3) := by decide +kernel
theorem dX4_holds_9 : decode cX4_holds 9 = .ok (.iconst 1, 1) := by decide +kernel
theorem dX4_holds_10 : decode cX4_holds 10 = .ok (.isub, 1) := by decide +kernel
theorem dX4_holds_11 : decode cX4_holds 11 = .ok (.if_icmp .ge 26, 3) := by decide +kernel
theorem dX4_holds_14 : decode cX4_holds 14 = .ok (.iload_n 2, 1) := by decide +kernel
theorem dX4_holds_15 : decode cX4_holds 15 = .ok (.aload_n 0, 1) := by decide +kernel
theorem dX4_holds_16 : decode cX4_holds 16 = .ok (.iload_n 1, 1) := by decide +kernel
theorem dX4_holds_17 : decode cX4_holds 17 = .ok (.iload_n 3, 1) := by decide +kernel
theorem dX4_holds_18 : decode cX4_holds 18 = .ok (.invokevirtual 58, 3) := by decide +kernel
theorem dX4_holds_21 : decode cX4_holds 21 = .ok (.ifCond .le 7, 3) := by decide +kernel
theorem dX4_holds_24 : decode cX4_holds 24 = .ok (.iconst 1, 1) := by decide +kernel
theorem dX4_holds_25 : decode cX4_holds 25 = .ok (.goto 4, 3) := by decide +kernel
theorem dX4_holds_28 : decode cX4_holds 28 = .ok (.iconst 0, 1) := by decide +kernel
theorem dX4_holds_29 : decode cX4_holds 29 = .ok (.iadd, 1) := by decide +kernel
theorem dX4_holds_30 : decode cX4_holds 30 = .ok (.istore_n 2, 1) := by decide +kernel
theorem dX4_holds_31 : decode cX4_holds 31 = .ok (.iinc 3 1, 3) := by decide +kernel
theorem dX4_holds_34 : decode cX4_holds 34 = .ok (.goto (-30), 3) := by decide +kernel
theorem dX4_holds_37 : decode cX4_holds 37 = .ok (.iload_n 2, 1) := by decide +kernel
theorem dX4_holds_38 : decode cX4_holds 38 = .ok (.aload_n 0, 1) := by decide +kernel
theorem dX4_holds_39 : decode cX4_holds 39 = .ok (.getfield 25, 3) := by decide +kernel
theorem dX4_holds_42 : decode cX4_holds 42 = .ok (.iconst 2, 1) := by decide +kernel
theorem dX4_holds_43 : decode cX4_holds 43 = .ok (.idiv, 1) := by decide +kernel
theorem dX4_holds_44 : decode cX4_holds 44 = .ok (.if_icmp .lt 7, 3) := by decide +kernel
theorem dX4_holds_47 : decode cX4_holds 47 = .ok (.iconst 1, 1) := by decide +kernel
theorem dX4_holds_48 : decode cX4_holds 48 = .ok (.goto 4, 3) := by decide +kernel
theorem dX4_holds_51 : decode cX4_holds 51 = .ok (.iconst 0, 1) := by decide +kernel
theorem dX4_holds_52 : decode cX4_holds 52 = .ok (.ireturn, 1) := by decide +kernel
set_option maxRecDepth 20000 in
theorem ggX4_isSewn_X4_holds : GoodIn wsX4_isSewn wsX4_holds := goodIn_r _ [8, 9, 10, 11, 12, 7, 13, 14, 15, 16, 17, 18, 19, 20, 21, 22, 23, 24] (by decide +kernel) (by decide +kernel)
set_option maxRecDepth 20000 in
theorem gX4_isSewn_X4_holds : GoodIn wsX4_isSewn (wsV RX4 62 RX4 yX4_holds wsX4_holds) := goodIn_app (goodIn_of _ (by decide +kernel)) ggX4_isSewn_X4_holds
theorem dX4_isSewn_0 : decode cX4_isSewn 0 = .ok (.aload_n 0, 1) := by decide +kernel
theorem dX4_isSewn_1 : decode cX4_isSewn 1 = .ok (.getfield 34, 3) := by decide +kernel
theorem dX4_isSewn_4 : decode cX4_isSewn 4 = .ok (.ifCond .ne 7, 3) := by decide +kernel
theorem dX4_isSewn_7 : decode cX4_isSewn 7 = .ok (.iconst 1, 1) := by decide +kernel
theorem dX4_isSewn_8 : decode cX4_isSewn 8 = .ok (.goto 4, 3) := by decide +kernel
theorem dX4_isSewn_11 : decode cX4_isSewn 11 = .ok (.iconst 0, 1) := by decide +kernel
theorem dX4_isSewn_12 : decode cX4_isSewn 12 = .ok (.istore_n 1, 1) := by decide +kernel
theorem dX4_isSewn_13 : decode cX4_isSewn 13 = .ok (.iconst 0, 1) := by decide +kernel
theorem dX4_isSewn_14 : decode cX4_isSewn 14 = .ok (.istore_n 2, 1) := by decide +kernel
theorem dX4_isSewn_15 : decode cX4_isSewn 15 = .ok (.iload_n 2, 1) := by decide +kernel
theorem dX4_isSewn_16 : decode cX4_isSewn 16 = .ok (.aload_n 0, 1) := by decide +kernel
theorem dX4_isSewn_17 : decode cX4_isSewn 17 = .ok (.getfield 21, 3) := by decide +kernel
theorem dX4_isSewn_20 : decode cX4_isSewn 20 = .ok (.if_icmp .ge 27, 3) := by decide +kernel
theorem dX4_isSewn_23 : decode cX4_isSewn 23 = .ok (.iload_n 1, 1) := by decide +kernel
theorem dX4_isSewn_24 : decode cX4_isSewn 24 = .ok (.ifCond .eq 15, 3) := by decide +kernel
theorem dX4_isSewn_27 : decode cX4_isSewn 27 = .ok (.aload_n 0, 1) := by decide +kernel
theorem dX4_isSewn_28 : decode cX4_isSewn 28 = .ok (.iload_n 2, 1) := by decide +kernel
theorem dX4_isSewn_29 : decode cX4_isSewn 29 = .ok (.invokevirtual 62, 3) := by decide +kernel
theorem dX4_isSewn_32 : decode cX4_isSewn 32 = .ok (.ifCond .eq 7, 3) := by decide +kernel
theorem dX4_isSewn_35 : decode cX4_isSewn 35 = .ok (.iconst 1, 1) := by decide +kernel
theorem dX4_isSewn_36 : decode cX4_isSewn 36 = .ok (.goto 4, 3) := by decide +kernel
theorem dX4_isSewn_39 : decode cX4_isSewn 39 = .ok (.iconst 0, 1) := by decide +kernel
theorem dX4_isSewn_40 : decode cX4_isSewn 40 = .ok (.istore_n 1, 1) := by decide +kernel
theorem dX4_isSewn_41 : decode cX4_isSewn 41 = .ok (.iinc 2 1, 3) := by decide +kernel
theorem dX4_isSewn_44 : decode cX4_isSewn 44 = .ok (.goto (-29), 3) := by decide +kernel
theorem dX4_isSewn_47 : decode cX4_isSewn 47 = .ok (.iconst 0, 1) := by decide +kernel
theorem dX4_isSewn_48 : decode cX4_isSewn 48 = .ok (.istore_n 2, 1) := by decide +kernel
theorem dX4_isSewn_49 : decode cX4_isSewn 49 = .ok (.iload_n 2, 1) := by decide +kernel
theorem dX4_isSewn_50 : decode cX4_isSewn 50 = .ok (.aload_n 0, 1) := by decide +kernel
theorem dX4_isSewn_51 : decode cX4_isSewn 51 = .ok (.getfield 21, 3) := by decide +kernel
theorem dX4_isSewn_54 : decode cX4_isSewn 54 = .ok (.iconst 1, 1) := by decide +kernel
theorem dX4_isSewn_55 : decode cX4_isSewn 55 = .ok (.isub, 1) := by decide +kernel
theorem dX4_isSewn_56 : decode cX4_isSewn 56 = .ok (.if_icmp .ge 37, 3) := by decide +kernel
theorem dX4_isSewn_59 : decode cX4_isSewn 59 = .ok (.iload_n 2, 1) := by decide +kernel
theorem dX4_isSewn_60 : decode cX4_isSewn 60 = .ok (.aload_n 0, 1) := by decide +kernel
theorem dX4_isSewn_61 : decode cX4_isSewn 61 = .ok (.getfield 15, 3) := by decide +kernel
theorem dX4_isSewn_64 : decode cX4_isSewn 64 = .ok (.arraylength, 1) := by decide +kernel
theorem dX4_isSewn_65 : decode cX4_isSewn 65 = .ok (.if_icmp .ge 28, 3) := by decide +kernel
theorem dX4_isSewn_68 : decode cX4_isSewn 68 = .ok (.iload_n 1, 1) := by decide +kernel
theorem dX4_isSewn_69 : decode cX4_isSewn 69 = .ok (.ifCond .eq 16, 3) := by decide +kernel
theorem dX4_isSewn_72 : decode cX4_isSewn 72 = .ok (.aload_n 0, 1) := by decide +kernel
theorem dX4_isSewn_73 : decode cX4_isSewn 73 = .ok (.getfield 15, 3) := by decide +kernel
theorem dX4_isSewn_76 : decode cX4_isSewn 76 = .ok (.iload_n 2, 1) := by decide +kernel
theorem dX4_isSewn_77 : decode cX4_isSewn 77 = .ok (.iaload, 1) := by decide +kernel
theorem dX4_isSewn_78 : decode cX4_isSewn 78 = .ok (.ifCond .le 7, 3) := by decide +kernel
theorem dX4_isSewn_81 : decode cX4_isSewn 81 = .ok (.iconst 1, 1) := by decide +kernel
theorem dX4_isSewn_82 : decode cX4_isSewn 82 = .ok (.goto 4, 3) := by decide +kernel
theorem dX4_isSewn_85 : decode cX4_isSewn 85 = .ok (.iconst 0, 1) := by decide +kernel
theorem dX4_isSewn_86 : decode cX4_isSewn 86 = .ok (.istore_n 1, 1) := by decide +kernel
theorem dX4_isSewn_87 : decode cX4_isSewn 87 = .ok (.iinc 2 1, 3) := by decide +kernel
theorem dX4_isSewn_90 : decode cX4_isSewn 90 = .ok (.goto (-41), 3) := by decide +kernel
theorem dX4_isSewn_93 : decode cX4_isSewn 93 = .ok (.iload_n 1, 1) := by decide +kernel
theorem dX4_isSewn_94 : decode cX4_isSewn 94 = .ok (.ireturn, 1) := by decide +kernel
set_option maxRecDepth 20000 in
theorem ggX4_swell_X4_mostStitches : GoodIn wsX4_swell wsX4_mostStitches := goodIn_r _ [6, 7, 8, 9, 10, 11, 12, 13, 14, 5, 15, 16, 17, 18, 19, 20, 21, 22, 23, 24, 25, 26] (by decide +kernel) (by decide +kernel)
set_option maxRecDepth 20000 in
theorem gX4_swell_X4_mostStitches : GoodIn wsX4_swell (wsV RX4 66 RX4 yX4_mostStitches wsX4_mostStitches) := goodIn_app (goodIn_of _ (by decide +kernel)) ggX4_swell_X4_mostStitches
theorem dX4_swell_0 : decode cX4_swell 0 = .ok (.iconst 0, 1) := by decide +kernel
theorem dX4_swell_1 : decode cX4_swell 1 = .ok (.istore_n 1, 1) := by decide +kernel
theorem dX4_swell_2 : decode cX4_swell 2 = .ok (.iconst 0, 1) := by decide +kernel
theorem dX4_swell_3 : decode cX4_swell 3 = .ok (.istore_n 2, 1) := by decide +kernel
theorem dX4_swell_4 : decode cX4_swell 4 = .ok (.iload_n 2, 1) := by decide +kernel
theorem dX4_swell_5 : decode cX4_swell 5 = .ok (.aload_n 0, 1) := by decide +kernel
theorem dX4_swell_6 : decode cX4_swell 6 = .ok (.getfield 21, 3) := by decide +kernel
theorem dX4_swell_9 : decode cX4_swell 9 = .ok (.if_icmp .ge 17, 3) := by decide +kernel
theorem dX4_swell_12 : decode cX4_swell 12 = .ok (.iload_n 1, 1) := by decide +kernel
theorem dX4_swell_13 : decode cX4_swell 13 = .ok (.aload_n 0, 1) := by decide +kernel
theorem dX4_swell_14 : decode cX4_swell 14 = .ok (.iload_n 2, 1) := by decide +kernel
theorem dX4_swell_15 : decode cX4_swell 15 = .ok (.invokevirtual 66, 3) := by decide +kernel
theorem dX4_swell_18 : decode cX4_swell 18 = .ok (.iadd, 1) := by decide +kernel
theorem dX4_swell_19 : decode cX4_swell 19 = .ok (.istore_n 1, 1) := by decide +kernel
theorem dX4_swell_20 : decode cX4_swell 20 = .ok (.iinc 2 1, 3) := by decide +kernel
theorem dX4_swell_23 : decode cX4_swell 23 = .ok (.goto (-19), 3) := by decide +kernel
theorem dX4_swell_26 : decode cX4_swell 26 = .ok (.iconst 3, 1) := by decide +kernel
theorem dX4_swell_27 : decode cX4_swell 27 = .ok (.iload_n 1, 1) := by decide +kernel
theorem dX4_swell_28 : decode cX4_swell 28 = .ok (.imul, 1) := by decide +kernel
theorem dX4_swell_29 : decode cX4_swell 29 = .ok (.ireturn, 1) := by decide +kernel
set_option maxRecDepth 20000 in
theorem ggX4_mostStitches_X4_stitchesAt : GoodIn wsX4_mostStitches wsX4_stitchesAt := goodIn_r _ [10, 11, 12, 13, 14, 15, 16, 17, 18, 19, 20, 21] (by decide +kernel) (by decide +kernel)
set_option maxRecDepth 20000 in
theorem gX4_mostStitches_X4_stitchesAt : GoodIn wsX4_mostStitches (wsV RX4 58 RX4 yX4_stitchesAt wsX4_stitchesAt) := goodIn_app (goodIn_of _ (by decide +kernel)) ggX4_mostStitches_X4_stitchesAt
theorem dX4_mostStitches_0 : decode cX4_mostStitches 0 = .ok (.iconst 0, 1) := by decide +kernel
theorem dX4_mostStitches_1 : decode cX4_mostStitches 1 = .ok (.istore_n 2, 1) := by decide +kernel
theorem dX4_mostStitches_2 : decode cX4_mostStitches 2 = .ok (.iconst 0, 1) := by decide +kernel
theorem dX4_mostStitches_3 : decode cX4_mostStitches 3 = .ok (.istore_n 3, 1) := by decide +kernel
theorem dX4_mostStitches_4 : decode cX4_mostStitches 4 = .ok (.iload_n 3, 1) := by decide +kernel
theorem dX4_mostStitches_5 : decode cX4_mostStitches 5 = .ok (.aload_n 0, 1) := by decide +kernel
theorem dX4_mostStitches_6 : decode cX4_mostStitches 6 = .ok (.getfield 25, 3) := by decide +kernel
theorem dX4_mostStitches_9 : decode cX4_mostStitches 9 = .ok (.iconst 1, 1) := by decide +kernel
theorem dX4_mostStitches_10 : decode cX4_mostStitches 10 = .ok (.isub, 1) := by decide +kernel
theorem dX4_mostStitches_11 : decode cX4_mostStitches 11 = .ok (.if_icmp .ge 20, 3) := by decide +kernel
theorem dX4_mostStitches_14 : decode cX4_mostStitches 14 = .ok (.iload_n 2, 1) := by decide +kernel
theorem dX4_mostStitches_15 : decode cX4_mostStitches 15 = .ok (.aload_n 0, 1) := by decide +kernel
theorem dX4_mostStitches_16 : decode cX4_mostStitches 16 = .ok (.iload_n 1, 1) := by decide +kernel
theorem dX4_mostStitches_17 : decode cX4_mostStitches 17 = .ok (.iload_n 3, 1) := by decide +kernel
theorem dX4_mostStitches_18 : decode cX4_mostStitches 18 = .ok (.invokevirtual 58, 3) := by decide +kernel
theorem dX4_mostStitches_21 : decode cX4_mostStitches 21 = .ok (.invokestatic 69, 3) := by decide +kernel
theorem dX4_mostStitches_24 : decode cX4_mostStitches 24 = .ok (.istore_n 2, 1) := by decide +kernel
theorem dX4_mostStitches_25 : decode cX4_mostStitches 25 = .ok (.iinc 3 1, 3) := by decide +kernel
theorem dX4_mostStitches_28 : decode cX4_mostStitches 28 = .ok (.goto (-24), 3) := by decide +kernel
theorem dX4_mostStitches_31 : decode cX4_mostStitches 31 = .ok (.iload_n 2, 1) := by decide +kernel
theorem dX4_mostStitches_32 : decode cX4_mostStitches 32 = .ok (.ireturn, 1) := by decide +kernel
theorem dX5_init_0 : decode cX5_init 0 = .ok (.aload_n 0, 1) := by decide +kernel
theorem dX5_init_1 : decode cX5_init 1 = .ok (.invokespecial 3, 3) := by decide +kernel
theorem dX5_init_4 : decode cX5_init 4 = .ok (.aload_n 0, 1) := by decide +kernel
theorem dX5_init_5 : decode cX5_init 5 = .ok (.bipush 64, 2) := by decide +kernel
theorem dX5_init_7 : decode cX5_init 7 = .ok (.newarray .int, 2) := by decide +kernel
theorem dX5_init_9 : decode cX5_init 9 = .ok (.putfield 9, 3) := by decide +kernel
theorem dX5_init_12 : decode cX5_init 12 = .ok (.iconst 0, 1) := by decide +kernel
theorem dX5_init_13 : decode cX5_init 13 = .ok (.istore_n 2, 1) := by decide +kernel
theorem dX5_init_14 : decode cX5_init 14 = .ok (.iload_n 2, 1) := by decide +kernel
theorem dX5_init_15 : decode cX5_init 15 = .ok (.bipush 64, 2) := by decide +kernel
theorem dX5_init_17 : decode cX5_init 17 = .ok (.if_icmp .ge 16, 3) := by decide +kernel
theorem dX5_init_20 : decode cX5_init 20 = .ok (.aload_n 0, 1) := by decide +kernel
theorem dX5_init_21 : decode cX5_init 21 = .ok (.getfield 9, 3) := by decide +kernel
theorem dX5_init_24 : decode cX5_init 24 = .ok (.iload_n 2, 1) := by decide +kernel
theorem dX5_init_25 : decode cX5_init 25 = .ok (.iload_n 1, 1) := by decide +kernel
theorem dX5_init_26 : decode cX5_init 26 = .ok (.iastore, 1) := by decide +kernel
theorem dX5_init_27 : decode cX5_init 27 = .ok (.iinc 2 1, 3) := by decide +kernel
theorem dX5_init_30 : decode cX5_init 30 = .ok (.goto (-16), 3) := by decide +kernel
theorem dX5_init_33 : decode cX5_init 33 = .ok (.return_, 1) := by decide +kernel
set_option maxRecDepth 20000 in
theorem ggX5_thinnest_X7_cellOf : GoodIn wsX5_thinnest wsX7_cellOf := goodIn_r _ [8] (by decide +kernel) (by decide +kernel)
set_option maxRecDepth 20000 in
theorem gX5_thinnest_X7_cellOf_n15 : GoodIn wsX5_thinnest (wsX7_cellOf) := ggX5_thinnest_X7_cellOf
theorem dX5_thinnest_0 : decode cX5_thinnest 0 = .ok (.bipush 30, 2) := by decide +kernel
theorem dX5_thinnest_2 : decode cX5_thinnest 2 = .ok (.istore 5, 2) := by decide +kernel
theorem dX5_thinnest_4 : decode cX5_thinnest 4 = .ok (.iload_n 3, 1) := by decide +kernel
theorem dX5_thinnest_5 : decode cX5_thinnest 5 = .ok (.istore 6, 2) := by decide +kernel
theorem dX5_thinnest_7 : decode cX5_thinnest 7 = .ok (.iload 6, 2) := by decide +kernel
theorem dX5_thinnest_9 : decode cX5_thinnest 9 = .ok (.iload 4, 2) := by decide +kernel
theorem dX5_thinnest_11 : decode cX5_thinnest 11 = .ok (.if_icmp .gt 43, 3) := by decide +kernel
theorem dX5_thinnest_14 : decode cX5_thinnest 14 = .ok (.iload_n 1, 1) := by decide +kernel
theorem dX5_thinnest_15 : decode cX5_thinnest 15 = .ok (.istore 7, 2) := by decide +kernel
theorem dX5_thinnest_17 : decode cX5_thinnest 17 = .ok (.iload 7, 2) := by decide +kernel
theorem dX5_thinnest_19 : decode cX5_thinnest 19 = .ok (.iload_n 2, 1) := by decide +kernel
theorem dX5_thinnest_20 : decode cX5_thinnest 20 = .ok (.if_icmp .gt 28, 3) := by decide +kernel
theorem dX5_thinnest_23 : decode cX5_thinnest 23 = .ok (.iload 5, 2) := by decide +kernel
theorem dX5_thinnest_25 : decode cX5_thinnest 25 = .ok (.aload_n 0, 1) := by decide +kernel
theorem dX5_thinnest_26 : decode cX5_thinnest 26 = .ok (.getfield 9, 3) := by decide +kernel
theorem dX5_thinnest_29 : decode cX5_thinnest 29 = .ok (.iload 7, 2) := by decide +kernel
theorem dX5_thinnest_31 : decode cX5_thinnest 31 = .ok (.iload 6, 2) := by decide +kernel
theorem dX5_thinnest_33 : decode cX5_thinnest 33 = .ok (.invokestatic 15, 3) := by decide +kernel
theorem dX5_thinnest_36 : decode cX5_thinnest 36 = .ok (.iaload, 1) := by decide +kernel
theorem dX5_thinnest_37 : decode cX5_thinnest 37 = .ok (.invokestatic 19, 3) := by decide +kernel
theorem dX5_thinnest_40 : decode cX5_thinnest 40 = .ok (.istore 5, 2) := by decide +kernel
theorem dX5_thinnest_42 : decode cX5_thinnest 42 = .ok (.iinc 7 1, 3) := by decide +kernel
theorem dX5_thinnest_45 : decode cX5_thinnest 45 = .ok (.goto (-28), 3) := by decide +kernel
theorem dX5_thinnest_48 : decode cX5_thinnest 48 = .ok (.iinc 6 1, 3) := by decide +kernel
theorem dX5_thinnest_51 : decode cX5_thinnest 51 = .ok (.goto (-44), 3) := by decide +kernel
theorem dX5_thinnest_54 : decode cX5_thinnest 54 = .ok (.iload 5, 2) := by decide +kernel
theorem dX5_thinnest_56 : decode cX5_thinnest 56 = .ok (.ireturn, 1) := by decide +kernel
set_option maxRecDepth 20000 in
theorem ggX5_thin_X7_cellOf : GoodIn wsX5_thin wsX7_cellOf := goodIn_r _ [4] (by decide +kernel) (by decide +kernel)
set_option maxRecDepth 20000 in
theorem gX5_thin_X7_cellOf_n15 : GoodIn wsX5_thin (wsX7_cellOf) := ggX5_thin_X7_cellOf
theorem dX5_thin_0 : decode cX5_thin 0 = .ok (.iload_n 3, 1) := by decide +kernel
theorem dX5_thin_1 : decode cX5_thin 1 = .ok (.istore 6, 2) := by decide +kernel
theorem dX5_thin_3 : decode cX5_thin 3 = .ok (.iload 6, 2) := by decide +kernel
theorem dX5_thin_5 : decode cX5_thin 5 = .ok (.iload 4, 2) := by decide +kernel
theorem dX5_thin_7 : decode cX5_thin 7 = .ok (.if_icmp .gt 41, 3) := by decide +kernel
theorem dX5_thin_10 : decode cX5_thin 10 = .ok (.iload_n 1, 1) := by decide +kernel
theorem dX5_thin_11 : decode cX5_thin 11 = .ok (.istore 7, 2) := by decide +kernel
theorem dX5_thin_13 : decode cX5_thin 13 = .ok (.iload 7, 2) := by decide +kernel
theorem dX5_thin_15 : decode cX5_thin 15 = .ok (.iload_n 2, 1) := by decide +kernel
theorem dX5_thin_16 : decode cX5_thin 16 = .ok (.if_icmp .gt 26, 3) := by decide +kernel
theorem dX5_thin_19 : decode cX5_thin 19 = .ok (.aload_n 0, 1) := by decide +kernel
theorem dX5_thin_20 : decode cX5_thin 20 = .ok (.getfield 9, 3) := by decide +kernel
theorem dX5_thin_23 : decode cX5_thin 23 = .ok (.iload 7, 2) := by decide +kernel
theorem dX5_thin_25 : decode cX5_thin 25 = .ok (.iload 6, 2) := by decide +kernel
theorem dX5_thin_27 : decode cX5_thin 27 = .ok (.invokestatic 15, 3) := by decide +kernel
theorem dX5_thin_30 : decode cX5_thin 30 = .ok (.dup2, 1) := by decide +kernel
theorem dX5_thin_31 : decode cX5_thin 31 = .ok (.iaload, 1) := by decide +kernel
theorem dX5_thin_32 : decode cX5_thin 32 = .ok (.iload 5, 2) := by decide +kernel
theorem dX5_thin_34 : decode cX5_thin 34 = .ok (.isub, 1) := by decide +kernel
theorem dX5_thin_35 : decode cX5_thin 35 = .ok (.iastore, 1) := by decide +kernel
theorem dX5_thin_36 : decode cX5_thin 36 = .ok (.iinc 7 1, 3) := by decide +kernel
theorem dX5_thin_39 : decode cX5_thin 39 = .ok (.goto (-26), 3) := by decide +kernel
theorem dX5_thin_42 : decode cX5_thin 42 = .ok (.iinc 6 1, 3) := by decide +kernel
theorem dX5_thin_45 : decode cX5_thin 45 = .ok (.goto (-42), 3) := by decide +kernel
theorem dX5_thin_48 : decode cX5_thin 48 = .ok (.return_, 1) := by decide +kernel
set_option maxRecDepth 20000 in
theorem ggX5_placesTooThick_X7_cellOf : GoodIn wsX5_placesTooThick wsX7_cellOf := goodIn_r _ [4] (by decide +kernel) (by decide +kernel)
set_option maxRecDepth 20000 in
theorem gX5_placesTooThick_X7_cellOf_n15 : GoodIn wsX5_placesTooThick (wsX7_cellOf) := ggX5_placesTooThick_X7_cellOf
set_option maxRecDepth 20000 in
theorem ggX5_placesTooThick_X5_mostAt : GoodIn wsX5_placesTooThick wsX5_mostAt := goodIn_r _ [8, 9, 3, 10] (by decide +kernel) (by decide +kernel)
set_option maxRecDepth 20000 in
theorem gX5_placesTooThick_X5_mostAt : GoodIn wsX5_placesTooThick (va_wsS RX5 24 yX5_mostAt wsX5_mostAt) := goodIn_app (goodIn_of _ (by decide +kernel)) ggX5_placesTooThick_X5_mostAt
theorem dX5_placesTooThick_0 : decode cX5_placesTooThick 0 = .ok (.iconst 0, 1) := by decide +kernel
theorem dX5_placesTooThick_1 : decode cX5_placesTooThick 1 = .ok (.istore_n 1, 1) := by decide +kernel
theorem dX5_placesTooThick_2 : decode cX5_placesTooThick 2 = .ok (.iconst 0, 1) := by decide +kernel
theorem dX5_placesTooThick_3 : decode cX5_placesTooThick 3 = .ok (.istore_n 2, 1) := by decide +kernel
theorem dX5_placesTooThick_4 : decode cX5_placesTooThick 4 = .ok (.iload_n 2, 1) := by decide +kernel
theorem dX5_placesTooThick_5 : decode cX5_placesTooThick 5 = .ok (.bipush 8, 2) := by decide +kernel
theorem dX5_placesTooThick_7 : decode cX5_placesTooThick 7 = .ok (.if_icmp .ge 49, 3) := by decide +kernel
theorem dX5_placesTooThick_10 : decode cX5_placesTooThick 10 = .ok (.iconst 0, 1) := by decide +kernel
theorem dX5_placesTooThick_11 : decode cX5_placesTooThick 11 = .ok (.istore_n 3, 1) := by decide +kernel
theorem dX5_placesTooThick_12 : decode cX5_placesTooThick 12 = .ok (.iload_n 3, 1) := by decide +kernel
theorem dX5_placesTooThick_13 : decode cX5_placesTooThick 13 = .ok (.bipush 8, 2) := by decide +kernel
theorem dX5_placesTooThick_15 : decode cX5_placesTooThick 15 = .ok (.if_icmp .ge 35, 3) := by decide +kernel
theorem dX5_placesTooThick_18 : decode cX5_placesTooThick 18 = .ok (.iload_n 1, 1) := by decide +kernel
theorem dX5_placesTooThick_19 : decode cX5_placesTooThick 19 = .ok (.aload_n 0, 1) := by decide +kernel
theorem dX5_placesTooThick_20 : decode cX5_placesTooThick 20 = .ok (.getfield 9, 3) := by decide +kernel
theorem dX5_placesTooThick_23 : decode cX5_placesTooThick 23 = .ok (.iload_n 3, 1) := by decide +kernel
theorem dX5_placesTooThick_24 : decode cX5_placesTooThick 24 = .ok (.iload_n 2, 1) := by decide +kernel
theorem dX5_placesTooThick_25 : decode cX5_placesTooThick 25 = .ok (.invokestatic 15, 3) := by decide +kernel
theorem dX5_placesTooThick_28 : decode cX5_placesTooThick 28 = .ok (.iaload, 1) := by decide +kernel
theorem dX5_placesTooThick_29 : decode cX5_placesTooThick 29 = .ok (.iload_n 3, 1) := by decide +kernel
theorem dX5_placesTooThick_30 : decode cX5_placesTooThick 30 = .ok (.iload_n 2, 1) := by decide +kernel
theorem dX5_placesTooThick_31 : decode cX5_placesTooThick 31 = .ok (.invokestatic 24, 3) := by decide +kernel
theorem dX5_placesTooThick_34 : decode cX5_placesTooThick 34 = .ok (.if_icmp .le 7, 3) := by decide +kernel
theorem dX5_placesTooThick_37 : decode cX5_placesTooThick 37 = .ok (.iconst 1, 1) := by decide +kernel
theorem dX5_placesTooThick_38 : decode cX5_placesTooThick 38 = .ok (.goto 4, 3) := by decide +kernel
theorem dX5_placesTooThick_41 : decode cX5_placesTooThick 41 = .ok (.iconst 0, 1) := by decide +kernel
theorem dX5_placesTooThick_42 : decode cX5_placesTooThick 42 = .ok (.iadd, 1) := by decide +kernel
theorem dX5_placesTooThick_43 : decode cX5_placesTooThick 43 = .ok (.istore_n 1, 1) := by decide +kernel
theorem dX5_placesTooThick_44 : decode cX5_placesTooThick 44 = .ok (.iinc 3 1, 3) := by decide +kernel
theorem dX5_placesTooThick_47 : decode cX5_placesTooThick 47 = .ok (.goto (-35), 3) := by decide +kernel
theorem dX5_placesTooThick_50 : decode cX5_placesTooThick 50 = .ok (.iinc 2 1, 3) := by decide +kernel
theorem dX5_placesTooThick_53 : decode cX5_placesTooThick 53 = .ok (.goto (-49), 3) := by decide +kernel
theorem dX5_placesTooThick_56 : decode cX5_placesTooThick 56 = .ok (.iload_n 1, 1) := by decide +kernel
theorem dX5_placesTooThick_57 : decode cX5_placesTooThick 57 = .ok (.ireturn, 1) := by decide +kernel
set_option maxRecDepth 20000 in
theorem ggX5_mostAt_X7_isWithin : GoodIn wsX5_mostAt wsX7_isWithin := goodIn_r _ [3] (by decide +kernel) (by decide +kernel)
set_option maxRecDepth 20000 in
theorem gX5_mostAt_X7_isWithin_n27 : GoodIn wsX5_mostAt (wsX7_isWithin) := ggX5_mostAt_X7_isWithin
theorem dX5_mostAt_0 : decode cX5_mostAt 0 = .ok (.iload_n 0, 1) := by decide +kernel
theorem dX5_mostAt_1 : decode cX5_mostAt 1 = .ok (.iconst 1, 1) := by decide +kernel
theorem dX5_mostAt_2 : decode cX5_mostAt 2 = .ok (.bipush 6, 2) := by decide +kernel
theorem dX5_mostAt_4 : decode cX5_mostAt 4 = .ok (.invokestatic 27, 3) := by decide +kernel
theorem dX5_mostAt_7 : decode cX5_mostAt 7 = .ok (.ifCond .eq 17, 3) := by decide +kernel
theorem dX5_mostAt_10 : decode cX5_mostAt 10 = .ok (.iload_n 1, 1) := by decide +kernel
theorem dX5_mostAt_11 : decode cX5_mostAt 11 = .ok (.iconst 1, 1) := by decide +kernel
theorem dX5_mostAt_12 : decode cX5_mostAt 12 = .ok (.bipush 6, 2) := by decide +kernel
theorem dX5_mostAt_14 : decode cX5_mostAt 14 = .ok (.invokestatic 27, 3) := by decide +kernel
theorem dX5_mostAt_17 : decode cX5_mostAt 17 = .ok (.ifCond .eq 7, 3) := by decide +kernel
theorem dX5_mostAt_20 : decode cX5_mostAt 20 = .ok (.iconst 1, 1) := by decide +kernel
theorem dX5_mostAt_21 : decode cX5_mostAt 21 = .ok (.goto 4, 3) := by decide +kernel
theorem dX5_mostAt_24 : decode cX5_mostAt 24 = .ok (.iconst 0, 1) := by decide +kernel
theorem dX5_mostAt_25 : decode cX5_mostAt 25 = .ok (.istore_n 2, 1) := by decide +kernel
theorem dX5_mostAt_26 : decode cX5_mostAt 26 = .ok (.iload_n 2, 1) := by decide +kernel
theorem dX5_mostAt_27 : decode cX5_mostAt 27 = .ok (.ifCond .eq 8, 3) := by decide +kernel
theorem dX5_mostAt_30 : decode cX5_mostAt 30 = .ok (.bipush 12, 2) := by decide +kernel
theorem dX5_mostAt_32 : decode cX5_mostAt 32 = .ok (.goto 5, 3) := by decide +kernel
theorem dX5_mostAt_35 : decode cX5_mostAt 35 = .ok (.bipush 6, 2) := by decide +kernel
theorem dX5_mostAt_37 : decode cX5_mostAt 37 = .ok (.ireturn, 1) := by decide +kernel
theorem dX6_init_0 : decode cX6_init 0 = .ok (.aload_n 0, 1) := by decide +kernel
theorem dX6_init_1 : decode cX6_init 1 = .ok (.invokespecial 3, 3) := by decide +kernel
theorem dX6_init_4 : decode cX6_init 4 = .ok (.aload_n 0, 1) := by decide +kernel
theorem dX6_init_5 : decode cX6_init 5 = .ok (.bipush 20, 2) := by decide +kernel
theorem dX6_init_7 : decode cX6_init 7 = .ok (.newarray .int, 2) := by decide +kernel
theorem dX6_init_9 : decode cX6_init 9 = .ok (.putfield 9, 3) := by decide +kernel
theorem dX6_init_12 : decode cX6_init 12 = .ok (.aload_n 0, 1) := by decide +kernel
theorem dX6_init_13 : decode cX6_init 13 = .ok (.bipush 20, 2) := by decide +kernel
theorem dX6_init_15 : decode cX6_init 15 = .ok (.newarray .int, 2) := by decide +kernel
theorem dX6_init_17 : decode cX6_init 17 = .ok (.putfield 15, 3) := by decide +kernel
theorem dX6_init_20 : decode cX6_init 20 = .ok (.aload_n 0, 1) := by decide +kernel
theorem dX6_init_21 : decode cX6_init 21 = .ok (.bipush 20, 2) := by decide +kernel
theorem dX6_init_23 : decode cX6_init 23 = .ok (.newarray .int, 2) := by decide +kernel
theorem dX6_init_25 : decode cX6_init 25 = .ok (.putfield 18, 3) := by decide +kernel
theorem dX6_init_28 : decode cX6_init 28 = .ok (.return_, 1) := by decide +kernel
theorem dX6_add_0 : decode cX6_add 0 = .ok (.aload_n 0, 1) := by decide +kernel
theorem dX6_add_1 : decode cX6_add 1 = .ok (.getfield 21, 3) := by decide +kernel
theorem dX6_add_4 : decode cX6_add 4 = .ok (.bipush 20, 2) := by decide +kernel
theorem dX6_add_6 : decode cX6_add 6 = .ok (.if_icmp .ge 43, 3) := by decide +kernel
theorem dX6_add_9 : decode cX6_add 9 = .ok (.aload_n 0, 1) := by decide +kernel
theorem dX6_add_10 : decode cX6_add 10 = .ok (.getfield 9, 3) := by decide +kernel
theorem dX6_add_13 : decode cX6_add 13 = .ok (.aload_n 0, 1) := by decide +kernel
theorem dX6_add_14 : decode cX6_add 14 = .ok (.getfield 21, 3) := by decide +kernel
theorem dX6_add_17 : decode cX6_add 17 = .ok (.iload_n 1, 1) := by decide +kernel
theorem dX6_add_18 : decode cX6_add 18 = .ok (.iastore, 1) := by decide +kernel
theorem dX6_add_19 : decode cX6_add 19 = .ok (.aload_n 0, 1) := by decide +kernel
theorem dX6_add_20 : decode cX6_add 20 = .ok (.getfield 15, 3) := by decide +kernel
theorem dX6_add_23 : decode cX6_add 23 = .ok (.aload_n 0, 1) := by decide +kernel
theorem dX6_add_24 : decode cX6_add 24 = .ok (.getfield 21, 3) := by decide +kernel
theorem dX6_add_27 : decode cX6_add 27 = .ok (.iload_n 2, 1) := by decide +kernel
theorem dX6_add_28 : decode cX6_add 28 = .ok (.iastore, 1) := by decide +kernel
theorem dX6_add_29 : decode cX6_add 29 = .ok (.aload_n 0, 1) := by decide +kernel
theorem dX6_add_30 : decode cX6_add 30 = .ok (.getfield 18, 3) := by decide +kernel
theorem dX6_add_33 : decode cX6_add 33 = .ok (.aload_n 0, 1) := by decide +kernel
theorem dX6_add_34 : decode cX6_add 34 = .ok (.getfield 21, 3) := by decide +kernel
theorem dX6_add_37 : decode cX6_add 37 = .ok (.iload_n 3, 1) := by decide +kernel
theorem dX6_add_38 : decode cX6_add 38 = .ok (.iastore, 1) := by decide +kernel
theorem dX6_add_39 : decode cX6_add 39 = .ok (.aload_n 0, 1) := by decide +kernel
theorem dX6_add_40 : decode cX6_add 40 = .ok (.dup, 1) := by decide +kernel
theorem dX6_add_41 : decode cX6_add 41 = .ok (.getfield 21, 3) := by decide +kernel
theorem dX6_add_44 : decode cX6_add 44 = .ok (.iconst 1, 1) := by decide +kernel
theorem dX6_add_45 : decode cX6_add 45 = .ok (.iadd, 1) := by decide +kernel
theorem dX6_add_46 : decode cX6_add 46 = .ok (.putfield 21, 3) := by decide +kernel
theorem dX6_add_49 : decode cX6_add 49 = .ok (.return_, 1) := by decide +kernel
set_option maxRecDepth 20000 in
theorem ggX6_weightIn_X7_isWithin : GoodIn wsX6_weightIn wsX7_isWithin := goodIn_r _ [7] (by decide +kernel) (by decide +kernel)
set_option maxRecDepth 20000 in
theorem gX6_weightIn_X7_isWithin_n25 : GoodIn wsX6_weightIn (wsX7_isWithin) := ggX6_weightIn_X7_isWithin
theorem dX6_weightIn_0 : decode cX6_weightIn 0 = .ok (.iconst 0, 1) := by decide +kernel
theorem dX6_weightIn_1 : decode cX6_weightIn 1 = .ok (.istore_n 2, 1) := by decide +kernel
theorem dX6_weightIn_2 : decode cX6_weightIn 2 = .ok (.iconst 0, 1) := by decide +kernel
theorem dX6_weightIn_3 : decode cX6_weightIn 3 = .ok (.istore_n 3, 1) := by decide +kernel
theorem dX6_weightIn_4 : decode cX6_weightIn 4 = .ok (.iload_n 3, 1) := by decide +kernel
theorem dX6_weightIn_5 : decode cX6_weightIn 5 = .ok (.aload_n 0, 1) := by decide +kernel
theorem dX6_weightIn_6 : decode cX6_weightIn 6 = .ok (.getfield 21, 3) := by decide +kernel
theorem dX6_weightIn_9 : decode cX6_weightIn 9 = .ok (.if_icmp .ge 47, 3) := by decide +kernel
theorem dX6_weightIn_12 : decode cX6_weightIn 12 = .ok (.iload_n 3, 1) := by decide +kernel
theorem dX6_weightIn_13 : decode cX6_weightIn 13 = .ok (.bipush 20, 2) := by decide +kernel
theorem dX6_weightIn_15 : decode cX6_weightIn 15 = .ok (.if_icmp .ge 41, 3) := by decide +kernel
theorem dX6_weightIn_18 : decode cX6_weightIn 18 = .ok (.iload_n 2, 1) := by decide +kernel
theorem dX6_weightIn_19 : decode cX6_weightIn 19 = .ok (.iload_n 1, 1) := by decide +kernel
theorem dX6_weightIn_20 : decode cX6_weightIn 20 = .ok (.aload_n 0, 1) := by decide +kernel
theorem dX6_weightIn_21 : decode cX6_weightIn 21 = .ok (.getfield 9, 3) := by decide +kernel
theorem dX6_weightIn_24 : decode cX6_weightIn 24 = .ok (.iload_n 3, 1) := by decide +kernel
theorem dX6_weightIn_25 : decode cX6_weightIn 25 = .ok (.iaload, 1) := by decide +kernel
theorem dX6_weightIn_26 : decode cX6_weightIn 26 = .ok (.aload_n 0, 1) := by decide +kernel
theorem dX6_weightIn_27 : decode cX6_weightIn 27 = .ok (.getfield 15, 3) := by decide +kernel
theorem dX6_weightIn_30 : decode cX6_weightIn 30 = .ok (.iload_n 3, 1) := by decide +kernel
theorem dX6_weightIn_31 : decode cX6_weightIn 31 = .ok (.iaload, 1) := by decide +kernel
theorem dX6_weightIn_32 : decode cX6_weightIn 32 = .ok (.invokestatic 25, 3) := by decide +kernel
theorem dX6_weightIn_35 : decode cX6_weightIn 35 = .ok (.ifCond .eq 12, 3) := by decide +kernel
theorem dX6_weightIn_38 : decode cX6_weightIn 38 = .ok (.aload_n 0, 1) := by decide +kernel
theorem dX6_weightIn_39 : decode cX6_weightIn 39 = .ok (.getfield 18, 3) := by decide +kernel
theorem dX6_weightIn_42 : decode cX6_weightIn 42 = .ok (.iload_n 3, 1) := by decide +kernel
theorem dX6_weightIn_43 : decode cX6_weightIn 43 = .ok (.iaload, 1) := by decide +kernel
theorem dX6_weightIn_44 : decode cX6_weightIn 44 = .ok (.goto 4, 3) := by decide +kernel
theorem dX6_weightIn_47 : decode cX6_weightIn 47 = .ok (.iconst 0, 1) := by decide +kernel
theorem dX6_weightIn_48 : decode cX6_weightIn 48 = .ok (.iadd, 1) := by decide +kernel
theorem dX6_weightIn_49 : decode cX6_weightIn 49 = .ok (.istore_n 2, 1) := by decide +kernel
theorem dX6_weightIn_50 : decode cX6_weightIn 50 = .ok (.iinc 3 1, 3) := by decide +kernel
theorem dX6_weightIn_53 : decode cX6_weightIn 53 = .ok (.goto (-49), 3) := by decide +kernel
theorem dX6_weightIn_56 : decode cX6_weightIn 56 = .ok (.iload_n 2, 1) := by decide +kernel
theorem dX6_weightIn_57 : decode cX6_weightIn 57 = .ok (.ireturn, 1) := by decide +kernel
set_option maxRecDepth 20000 in
theorem ggX6_firstByEnds_X6_weightIn : GoodIn wsX6_firstByEnds wsX6_weightIn := goodIn_r _ [7, 1, 2, 8, 9, 10, 11, 12, 13, 14, 15, 16] (by decide +kernel) (by decide +kernel)
set_option maxRecDepth 20000 in
theorem gX6_firstByEnds_X6_weightIn : GoodIn wsX6_firstByEnds (wsV RX6 29 RX6 yX6_weightIn wsX6_weightIn) := goodIn_app (goodIn_of _ (by decide +kernel)) ggX6_firstByEnds_X6_weightIn
theorem dX6_firstByEnds_0 : decode cX6_firstByEnds 0 = .ok (.iconst 0, 1) := by decide +kernel
theorem dX6_firstByEnds_1 : decode cX6_firstByEnds 1 = .ok (.istore_n 1, 1) := by decide +kernel
theorem dX6_firstByEnds_2 : decode cX6_firstByEnds 2 = .ok (.iconst (-1), 1) := by decide +kernel
theorem dX6_firstByEnds_3 : decode cX6_firstByEnds 3 = .ok (.istore_n 2, 1) := by decide +kernel
theorem dX6_firstByEnds_4 : decode cX6_firstByEnds 4 = .ok (.iconst 0, 1) := by decide +kernel
theorem dX6_firstByEnds_5 : decode cX6_firstByEnds 5 = .ok (.istore_n 3, 1) := by decide +kernel
theorem dX6_firstByEnds_6 : decode cX6_firstByEnds 6 = .ok (.iload_n 3, 1) := by decide +kernel
theorem dX6_firstByEnds_7 : decode cX6_firstByEnds 7 = .ok (.aload_n 0, 1) := by decide +kernel
theorem dX6_firstByEnds_8 : decode cX6_firstByEnds 8 = .ok (.getfield 21, 3) := by decide +kernel
theorem dX6_firstByEnds_11 : decode cX6_firstByEnds 11 = .ok (.if_icmp .ge 59, 3) := by decide +kernel
theorem dX6_firstByEnds_14 : decode cX6_firstByEnds 14 = .ok (.iload_n 3, 1) := by decide +kernel
theorem dX6_firstByEnds_15 : decode cX6_firstByEnds 15 = .ok (.bipush 20, 2) := by decide +kernel
theorem dX6_firstByEnds_17 : decode cX6_firstByEnds 17 = .ok (.if_icmp .ge 53, 3) := by decide +kernel
theorem dX6_firstByEnds_20 : decode cX6_firstByEnds 20 = .ok (.aload_n 0, 1) := by decide +kernel
theorem dX6_firstByEnds_21 : decode cX6_firstByEnds 21 = .ok (.aload_n 0, 1) := by decide +kernel
theorem dX6_firstByEnds_22 : decode cX6_firstByEnds 22 = .ok (.getfield 9, 3) := by decide +kernel
theorem dX6_firstByEnds_25 : decode cX6_firstByEnds 25 = .ok (.iload_n 3, 1) := by decide +kernel
theorem dX6_firstByEnds_26 : decode cX6_firstByEnds 26 = .ok (.iaload, 1) := by decide +kernel
theorem dX6_firstByEnds_27 : decode cX6_firstByEnds 27 = .ok (.invokevirtual 29, 3) := by decide +kernel
theorem dX6_firstByEnds_30 : decode cX6_firstByEnds 30 = .ok (.istore 4, 2) := by decide +kernel
theorem dX6_firstByEnds_32 : decode cX6_firstByEnds 32 = .ok (.iload 4, 2) := by decide +kernel
theorem dX6_firstByEnds_34 : decode cX6_firstByEnds 34 = .ok (.iload_n 1, 1) := by decide +kernel
theorem dX6_firstByEnds_35 : decode cX6_firstByEnds 35 = .ok (.if_icmp .gt 19, 3) := by decide +kernel
theorem dX6_firstByEnds_38 : decode cX6_firstByEnds 38 = .ok (.iload 4, 2) := by decide +kernel
theorem dX6_firstByEnds_40 : decode cX6_firstByEnds 40 = .ok (.iload_n 1, 1) := by decide +kernel
theorem dX6_firstByEnds_41 : decode cX6_firstByEnds 41 = .ok (.if_icmp .ne 23, 3) := by decide +kernel
theorem dX6_firstByEnds_44 : decode cX6_firstByEnds 44 = .ok (.aload_n 0, 1) := by decide +kernel
theorem dX6_firstByEnds_45 : decode cX6_firstByEnds 45 = .ok (.getfield 9, 3) := by decide +kernel
theorem dX6_firstByEnds_48 : decode cX6_firstByEnds 48 = .ok (.iload_n 3, 1) := by decide +kernel
theorem dX6_firstByEnds_49 : decode cX6_firstByEnds 49 = .ok (.iaload, 1) := by decide +kernel
theorem dX6_firstByEnds_50 : decode cX6_firstByEnds 50 = .ok (.iload_n 2, 1) := by decide +kernel
theorem dX6_firstByEnds_51 : decode cX6_firstByEnds 51 = .ok (.if_icmp .ge 13, 3) := by decide +kernel
theorem dX6_firstByEnds_54 : decode cX6_firstByEnds 54 = .ok (.iload 4, 2) := by decide +kernel
theorem dX6_firstByEnds_56 : decode cX6_firstByEnds 56 = .ok (.istore_n 1, 1) := by decide +kernel
theorem dX6_firstByEnds_57 : decode cX6_firstByEnds 57 = .ok (.aload_n 0, 1) := by decide +kernel
theorem dX6_firstByEnds_58 : decode cX6_firstByEnds 58 = .ok (.getfield 9, 3) := by decide +kernel
theorem dX6_firstByEnds_61 : decode cX6_firstByEnds 61 = .ok (.iload_n 3, 1) := by decide +kernel
theorem dX6_firstByEnds_62 : decode cX6_firstByEnds 62 = .ok (.iaload, 1) := by decide +kernel
theorem dX6_firstByEnds_63 : decode cX6_firstByEnds 63 = .ok (.istore_n 2, 1) := by decide +kernel
theorem dX6_firstByEnds_64 : decode cX6_firstByEnds 64 = .ok (.iinc 3 1, 3) := by decide +kernel
theorem dX6_firstByEnds_67 : decode cX6_firstByEnds 67 = .ok (.goto (-61), 3) := by decide +kernel
theorem dX6_firstByEnds_70 : decode cX6_firstByEnds 70 = .ok (.iload_n 2, 1) := by decide +kernel
theorem dX6_firstByEnds_71 : decode cX6_firstByEnds 71 = .ok (.ireturn, 1) := by decide +kernel
set_option maxRecDepth 20000 in
theorem ggX6_lastByEnds_X6_weightIn : GoodIn wsX6_lastByEnds wsX6_weightIn := goodIn_r _ [7, 1, 8, 2, 9, 10, 11, 12, 13, 14, 15, 16] (by decide +kernel) (by decide +kernel)
set_option maxRecDepth 20000 in
theorem gX6_lastByEnds_X6_weightIn : GoodIn wsX6_lastByEnds (wsV RX6 29 RX6 yX6_weightIn wsX6_weightIn) := goodIn_app (goodIn_of _ (by decide +kernel)) ggX6_lastByEnds_X6_weightIn
set_option maxRecDepth 20000 in
theorem ggX6_lastByEnds_X7_isWithin : GoodIn wsX6_lastByEnds wsX7_isWithin := goodIn_r _ [12] (by decide +kernel) (by decide +kernel)
set_option maxRecDepth 20000 in
theorem gX6_lastByEnds_X7_isWithin_n25 : GoodIn wsX6_lastByEnds (wsX7_isWithin) := ggX6_lastByEnds_X7_isWithin
theorem dX6_lastByEnds_0 : decode cX6_lastByEnds 0 = .ok (.aload_n 0, 1) := by decide +kernel
theorem dX6_lastByEnds_1 : decode cX6_lastByEnds 1 = .ok (.iload_n 1, 1) := by decide +kernel
theorem dX6_lastByEnds_2 : decode cX6_lastByEnds 2 = .ok (.invokevirtual 29, 3) := by decide +kernel
theorem dX6_lastByEnds_5 : decode cX6_lastByEnds 5 = .ok (.istore_n 2, 1) := by decide +kernel
theorem dX6_lastByEnds_6 : decode cX6_lastByEnds 6 = .ok (.sipush 2000, 3) := by decide +kernel
theorem dX6_lastByEnds_9 : decode cX6_lastByEnds 9 = .ok (.istore_n 3, 1) := by decide +kernel
theorem dX6_lastByEnds_10 : decode cX6_lastByEnds 10 = .ok (.iconst 0, 1) := by decide +kernel
theorem dX6_lastByEnds_11 : decode cX6_lastByEnds 11 = .ok (.istore 4, 2) := by decide +kernel
theorem dX6_lastByEnds_13 : decode cX6_lastByEnds 13 = .ok (.iload 4, 2) := by decide +kernel
theorem dX6_lastByEnds_15 : decode cX6_lastByEnds 15 = .ok (.aload_n 0, 1) := by decide +kernel
theorem dX6_lastByEnds_16 : decode cX6_lastByEnds 16 = .ok (.getfield 21, 3) := by decide +kernel
theorem dX6_lastByEnds_19 : decode cX6_lastByEnds 19 = .ok (.if_icmp .ge 56, 3) := by decide +kernel
theorem dX6_lastByEnds_22 : decode cX6_lastByEnds 22 = .ok (.iload 4, 2) := by decide +kernel
theorem dX6_lastByEnds_24 : decode cX6_lastByEnds 24 = .ok (.bipush 20, 2) := by decide +kernel
theorem dX6_lastByEnds_26 : decode cX6_lastByEnds 26 = .ok (.if_icmp .ge 49, 3) := by decide +kernel
theorem dX6_lastByEnds_29 : decode cX6_lastByEnds 29 = .ok (.aload_n 0, 1) := by decide +kernel
theorem dX6_lastByEnds_30 : decode cX6_lastByEnds 30 = .ok (.getfield 15, 3) := by decide +kernel
theorem dX6_lastByEnds_33 : decode cX6_lastByEnds 33 = .ok (.iload 4, 2) := by decide +kernel
theorem dX6_lastByEnds_35 : decode cX6_lastByEnds 35 = .ok (.iaload, 1) := by decide +kernel
theorem dX6_lastByEnds_36 : decode cX6_lastByEnds 36 = .ok (.iload_n 1, 1) := by decide +kernel
theorem dX6_lastByEnds_37 : decode cX6_lastByEnds 37 = .ok (.iload_n 3, 1) := by decide +kernel
theorem dX6_lastByEnds_38 : decode cX6_lastByEnds 38 = .ok (.invokestatic 25, 3) := by decide +kernel
theorem dX6_lastByEnds_41 : decode cX6_lastByEnds 41 = .ok (.ifCond .eq 28, 3) := by decide +kernel
theorem dX6_lastByEnds_44 : decode cX6_lastByEnds 44 = .ok (.aload_n 0, 1) := by decide +kernel
theorem dX6_lastByEnds_45 : decode cX6_lastByEnds 45 = .ok (.aload_n 0, 1) := by decide +kernel
theorem dX6_lastByEnds_46 : decode cX6_lastByEnds 46 = .ok (.getfield 15, 3) := by decide +kernel
theorem dX6_lastByEnds_49 : decode cX6_lastByEnds 49 = .ok (.iload 4, 2) := by decide +kernel
theorem dX6_lastByEnds_51 : decode cX6_lastByEnds 51 = .ok (.iaload, 1) := by decide +kernel
theorem dX6_lastByEnds_52 : decode cX6_lastByEnds 52 = .ok (.iconst 1, 1) := by decide +kernel
theorem dX6_lastByEnds_53 : decode cX6_lastByEnds 53 = .ok (.iadd, 1) := by decide +kernel
theorem dX6_lastByEnds_54 : decode cX6_lastByEnds 54 = .ok (.invokevirtual 29, 3) := by decide +kernel
theorem dX6_lastByEnds_57 : decode cX6_lastByEnds 57 = .ok (.iload_n 2, 1) := by decide +kernel
theorem dX6_lastByEnds_58 : decode cX6_lastByEnds 58 = .ok (.if_icmp .ge 11, 3) := by decide +kernel
theorem dX6_lastByEnds_61 : decode cX6_lastByEnds 61 = .ok (.aload_n 0, 1) := by decide +kernel
theorem dX6_lastByEnds_62 : decode cX6_lastByEnds 62 = .ok (.getfield 15, 3) := by decide +kernel
theorem dX6_lastByEnds_65 : decode cX6_lastByEnds 65 = .ok (.iload 4, 2) := by decide +kernel
theorem dX6_lastByEnds_67 : decode cX6_lastByEnds 67 = .ok (.iaload, 1) := by decide +kernel
theorem dX6_lastByEnds_68 : decode cX6_lastByEnds 68 = .ok (.istore_n 3, 1) := by decide +kernel
theorem dX6_lastByEnds_69 : decode cX6_lastByEnds 69 = .ok (.iinc 4 1, 3) := by decide +kernel
theorem dX6_lastByEnds_72 : decode cX6_lastByEnds 72 = .ok (.goto (-59), 3) := by decide +kernel
theorem dX6_lastByEnds_75 : decode cX6_lastByEnds 75 = .ok (.iload_n 3, 1) := by decide +kernel
theorem dX6_lastByEnds_76 : decode cX6_lastByEnds 76 = .ok (.ireturn, 1) := by decide +kernel
set_option maxRecDepth 20000 in
theorem ggX6_firstByYears_X6_weightIn : GoodIn wsX6_firstByYears wsX6_weightIn := goodIn_r _ [5, 6, 7, 8, 9, 10, 11, 12, 13, 14, 15, 16] (by decide +kernel) (by decide +kernel)
set_option maxRecDepth 20000 in
theorem gX6_firstByYears_X6_weightIn : GoodIn wsX6_firstByYears (wsV RX6 29 RX6 yX6_weightIn wsX6_weightIn) := goodIn_app (goodIn_of _ (by decide +kernel)) ggX6_firstByYears_X6_weightIn
theorem dX6_firstByYears_0 : decode cX6_firstByYears 0 = .ok (.iconst 0, 1) := by decide +kernel
theorem dX6_firstByYears_1 : decode cX6_firstByYears 1 = .ok (.istore_n 1, 1) := by decide +kernel
theorem dX6_firstByYears_2 : decode cX6_firstByYears 2 = .ok (.iconst (-1), 1) := by decide +kernel
theorem dX6_firstByYears_3 : decode cX6_firstByYears 3 = .ok (.istore_n 2, 1) := by decide +kernel
theorem dX6_firstByYears_4 : decode cX6_firstByYears 4 = .ok (.sipush 1400, 3) := by decide +kernel
theorem dX6_firstByYears_7 : decode cX6_firstByYears 7 = .ok (.istore_n 3, 1) := by decide +kernel
theorem dX6_firstByYears_8 : decode cX6_firstByYears 8 = .ok (.iload_n 3, 1) := by decide +kernel
theorem dX6_firstByYears_9 : decode cX6_firstByYears 9 = .ok (.sipush 2000, 3) := by decide +kernel
theorem dX6_firstByYears_12 : decode cX6_firstByYears 12 = .ok (.if_icmp .gt 27, 3) := by decide +kernel
theorem dX6_firstByYears_15 : decode cX6_firstByYears 15 = .ok (.aload_n 0, 1) := by decide +kernel
theorem dX6_firstByYears_16 : decode cX6_firstByYears 16 = .ok (.iload_n 3, 1) := by decide +kernel
theorem dX6_firstByYears_17 : decode cX6_firstByYears 17 = .ok (.invokevirtual 29, 3) := by decide +kernel
theorem dX6_firstByYears_20 : decode cX6_firstByYears 20 = .ok (.istore 4, 2) := by decide +kernel
theorem dX6_firstByYears_22 : decode cX6_firstByYears 22 = .ok (.iload 4, 2) := by decide +kernel
theorem dX6_firstByYears_24 : decode cX6_firstByYears 24 = .ok (.iload_n 1, 1) := by decide +kernel
theorem dX6_firstByYears_25 : decode cX6_firstByYears 25 = .ok (.if_icmp .le 8, 3) := by decide +kernel
theorem dX6_firstByYears_28 : decode cX6_firstByYears 28 = .ok (.iload 4, 2) := by decide +kernel
theorem dX6_firstByYears_30 : decode cX6_firstByYears 30 = .ok (.istore_n 1, 1) := by decide +kernel
theorem dX6_firstByYears_31 : decode cX6_firstByYears 31 = .ok (.iload_n 3, 1) := by decide +kernel
theorem dX6_firstByYears_32 : decode cX6_firstByYears 32 = .ok (.istore_n 2, 1) := by decide +kernel
theorem dX6_firstByYears_33 : decode cX6_firstByYears 33 = .ok (.iinc 3 1, 3) := by decide +kernel
theorem dX6_firstByYears_36 : decode cX6_firstByYears 36 = .ok (.goto (-28), 3) := by decide +kernel
theorem dX6_firstByYears_39 : decode cX6_firstByYears 39 = .ok (.iload_n 2, 1) := by decide +kernel
theorem dX6_firstByYears_40 : decode cX6_firstByYears 40 = .ok (.ireturn, 1) := by decide +kernel
set_option maxRecDepth 20000 in
theorem ggX6_lastByYears_X6_weightIn : GoodIn wsX6_lastByYears wsX6_weightIn := goodIn_r _ [5, 6, 7, 8, 9, 10, 11, 12, 13, 14, 15, 16] (by decide +kernel) (by decide +kernel)
set_option maxRecDepth 20000 in
theorem gX6_lastByYears_X6_weightIn : GoodIn wsX6_lastByYears (wsV RX6 29 RX6 yX6_weightIn wsX6_weightIn) := goodIn_app (goodIn_of _ (by decide +kernel)) ggX6_lastByYears_X6_weightIn
theorem dX6_lastByYears_0 : decode cX6_lastByYears 0 = .ok (.aload_n 0, 1) := by decide +kernel
theorem dX6_lastByYears_1 : decode cX6_lastByYears 1 = .ok (.iload_n 1, 1) := by decide +kernel
theorem dX6_lastByYears_2 : decode cX6_lastByYears 2 = .ok (.invokevirtual 29, 3) := by decide +kernel
theorem dX6_lastByYears_5 : decode cX6_lastByYears 5 = .ok (.istore_n 2, 1) := by decide +kernel
theorem dX6_lastByYears_6 : decode cX6_lastByYears 6 = .ok (.iload_n 1, 1) := by decide +kernel
theorem dX6_lastByYears_7 : decode cX6_lastByYears 7 = .ok (.istore_n 3, 1) := by decide +kernel
theorem dX6_lastByYears_8 : decode cX6_lastByYears 8 = .ok (.iload_n 3, 1) := by decide +kernel
theorem dX6_lastByYears_9 : decode cX6_lastByYears 9 = .ok (.sipush 2000, 3) := by decide +kernel
theorem dX6_lastByYears_12 : decode cX6_lastByYears 12 = .ok (.if_icmp .ge 20, 3) := by decide +kernel
theorem dX6_lastByYears_15 : decode cX6_lastByYears 15 = .ok (.aload_n 0, 1) := by decide +kernel
theorem dX6_lastByYears_16 : decode cX6_lastByYears 16 = .ok (.iload_n 3, 1) := by decide +kernel
theorem dX6_lastByYears_17 : decode cX6_lastByYears 17 = .ok (.iconst 1, 1) := by decide +kernel
theorem dX6_lastByYears_18 : decode cX6_lastByYears 18 = .ok (.iadd, 1) := by decide +kernel
theorem dX6_lastByYears_19 : decode cX6_lastByYears 19 = .ok (.invokevirtual 29, 3) := by decide +kernel
theorem dX6_lastByYears_22 : decode cX6_lastByYears 22 = .ok (.iload_n 2, 1) := by decide +kernel
theorem dX6_lastByYears_23 : decode cX6_lastByYears 23 = .ok (.if_icmp .ne 9, 3) := by decide +kernel
theorem dX6_lastByYears_26 : decode cX6_lastByYears 26 = .ok (.iinc 3 1, 3) := by decide +kernel
theorem dX6_lastByYears_29 : decode cX6_lastByYears 29 = .ok (.goto (-21), 3) := by decide +kernel
theorem dX6_lastByYears_32 : decode cX6_lastByYears 32 = .ok (.iload_n 3, 1) := by decide +kernel
theorem dX6_lastByYears_33 : decode cX6_lastByYears 33 = .ok (.ireturn, 1) := by decide +kernel
set_option maxRecDepth 20000 in
theorem ggX7_init_X0_init : GoodIn wsX7_init wsX0_init := goodIn_r _ [16, 17, 2, 3, 18, 19, 20, 21, 22, 23, 24, 25, 26, 27, 28] (by decide +kernel) (by decide +kernel)
set_option maxRecDepth 20000 in
theorem gX7_init_X0_init : GoodIn wsX7_init (wsX0_init) := ggX7_init_X0_init
