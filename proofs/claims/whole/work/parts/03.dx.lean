theorem dX0_init_0 : decode cX0_init 0 = .ok (.aload_n 0, 1) := by decide +kernel
theorem dX0_init_1 : decode cX0_init 1 = .ok (.invokespecial 3, 3) := by decide +kernel
theorem dX0_init_4 : decode cX0_init 4 = .ok (.aload_n 0, 1) := by decide +kernel
theorem dX0_init_5 : decode cX0_init 5 = .ok (.bipush 64, 2) := by decide +kernel
theorem dX0_init_7 : decode cX0_init 7 = .ok (.newarray .int, 2) := by decide +kernel
theorem dX0_init_9 : decode cX0_init 9 = .ok (.putfield 9, 3) := by decide +kernel
theorem dX0_init_12 : decode cX0_init 12 = .ok (.aload_n 0, 1) := by decide +kernel
theorem dX0_init_13 : decode cX0_init 13 = .ok (.bipush 64, 2) := by decide +kernel
theorem dX0_init_15 : decode cX0_init 15 = .ok (.newarray .int, 2) := by decide +kernel
theorem dX0_init_17 : decode cX0_init 17 = .ok (.putfield 15, 3) := by decide +kernel
theorem dX0_init_20 : decode cX0_init 20 = .ok (.aload_n 0, 1) := by decide +kernel
theorem dX0_init_21 : decode cX0_init 21 = .ok (.bipush 99, 2) := by decide +kernel
theorem dX0_init_23 : decode cX0_init 23 = .ok (.newarray .int, 2) := by decide +kernel
theorem dX0_init_25 : decode cX0_init 25 = .ok (.putfield 18, 3) := by decide +kernel
theorem dX0_init_28 : decode cX0_init 28 = .ok (.aload_n 0, 1) := by decide +kernel
theorem dX0_init_29 : decode cX0_init 29 = .ok (.bipush 8, 2) := by decide +kernel
theorem dX0_init_31 : decode cX0_init 31 = .ok (.newarray .int, 2) := by decide +kernel
theorem dX0_init_33 : decode cX0_init 33 = .ok (.putfield 21, 3) := by decide +kernel
theorem dX0_init_36 : decode cX0_init 36 = .ok (.aload_n 0, 1) := by decide +kernel
theorem dX0_init_37 : decode cX0_init 37 = .ok (.bipush 8, 2) := by decide +kernel
theorem dX0_init_39 : decode cX0_init 39 = .ok (.newarray .int, 2) := by decide +kernel
theorem dX0_init_41 : decode cX0_init 41 = .ok (.putfield 24, 3) := by decide +kernel
theorem dX0_init_44 : decode cX0_init 44 = .ok (.iconst 0, 1) := by decide +kernel
theorem dX0_init_45 : decode cX0_init 45 = .ok (.istore_n 1, 1) := by decide +kernel
theorem dX0_init_46 : decode cX0_init 46 = .ok (.iload_n 1, 1) := by decide +kernel
theorem dX0_init_47 : decode cX0_init 47 = .ok (.bipush 64, 2) := by decide +kernel
theorem dX0_init_49 : decode cX0_init 49 = .ok (.if_icmp .ge 16, 3) := by decide +kernel
theorem dX0_init_52 : decode cX0_init 52 = .ok (.aload_n 0, 1) := by decide +kernel
theorem dX0_init_53 : decode cX0_init 53 = .ok (.getfield 9, 3) := by decide +kernel
theorem dX0_init_56 : decode cX0_init 56 = .ok (.iload_n 1, 1) := by decide +kernel
theorem dX0_init_57 : decode cX0_init 57 = .ok (.iconst (-1), 1) := by decide +kernel
theorem dX0_init_58 : decode cX0_init 58 = .ok (.iastore, 1) := by decide +kernel
theorem dX0_init_59 : decode cX0_init 59 = .ok (.iinc 1 1, 3) := by decide +kernel
theorem dX0_init_62 : decode cX0_init 62 = .ok (.goto (-16), 3) := by decide +kernel
theorem dX0_init_65 : decode cX0_init 65 = .ok (.return_, 1) := by decide +kernel
set_option maxRecDepth 20000 in
theorem ggX0_spread_X0_countCellsAway : GoodIn wsX0_spread wsX0_countCellsAway := goodIn_r _ [8, 1, 9, 10, 7, 11, 12, 13, 14, 15, 16] (by decide +kernel) (by decide +kernel)
set_option maxRecDepth 20000 in
theorem gX0_spread_X0_countCellsAway : GoodIn wsX0_spread (wsV RX0 27 RX0 yX0_countCellsAway wsX0_countCellsAway) := goodIn_app (goodIn_of _ (by decide +kernel)) ggX0_spread_X0_countCellsAway
set_option maxRecDepth 20000 in
theorem ggX0_spread_X0_distance : GoodIn wsX0_spread wsX0_distance := goodIn_r _ [11] (by decide +kernel) (by decide +kernel)
set_option maxRecDepth 20000 in
theorem gX0_spread_X0_distance : GoodIn wsX0_spread (va_wsS RX0 31 yX0_distance wsX0_distance) := goodIn_app (goodIn_of _ (by decide +kernel)) ggX0_spread_X0_distance
theorem dX0_spread_0 : decode cX0_spread 0 = .ok (.aload_n 0, 1) := by decide +kernel
theorem dX0_spread_1 : decode cX0_spread 1 = .ok (.iload_n 1, 1) := by decide +kernel
theorem dX0_spread_2 : decode cX0_spread 2 = .ok (.iload_n 2, 1) := by decide +kernel
theorem dX0_spread_3 : decode cX0_spread 3 = .ok (.invokevirtual 27, 3) := by decide +kernel
theorem dX0_spread_6 : decode cX0_spread 6 = .ok (.iconst 0, 1) := by decide +kernel
theorem dX0_spread_7 : decode cX0_spread 7 = .ok (.istore 5, 2) := by decide +kernel
theorem dX0_spread_9 : decode cX0_spread 9 = .ok (.iload 4, 2) := by decide +kernel
theorem dX0_spread_11 : decode cX0_spread 11 = .ok (.istore 6, 2) := by decide +kernel
theorem dX0_spread_13 : decode cX0_spread 13 = .ok (.iload 5, 2) := by decide +kernel
theorem dX0_spread_15 : decode cX0_spread 15 = .ok (.bipush 98, 2) := by decide +kernel
theorem dX0_spread_17 : decode cX0_spread 17 = .ok (.if_icmp .ge 33, 3) := by decide +kernel
theorem dX0_spread_20 : decode cX0_spread 20 = .ok (.iload 6, 2) := by decide +kernel
theorem dX0_spread_22 : decode cX0_spread 22 = .ok (.aload_n 0, 1) := by decide +kernel
theorem dX0_spread_23 : decode cX0_spread 23 = .ok (.getfield 18, 3) := by decide +kernel
theorem dX0_spread_26 : decode cX0_spread 26 = .ok (.iload 5, 2) := by decide +kernel
theorem dX0_spread_28 : decode cX0_spread 28 = .ok (.iaload, 1) := by decide +kernel
theorem dX0_spread_29 : decode cX0_spread 29 = .ok (.if_icmp .le 21, 3) := by decide +kernel
theorem dX0_spread_32 : decode cX0_spread 32 = .ok (.iload 6, 2) := by decide +kernel
theorem dX0_spread_34 : decode cX0_spread 34 = .ok (.aload_n 0, 1) := by decide +kernel
theorem dX0_spread_35 : decode cX0_spread 35 = .ok (.getfield 18, 3) := by decide +kernel
theorem dX0_spread_38 : decode cX0_spread 38 = .ok (.iload 5, 2) := by decide +kernel
theorem dX0_spread_40 : decode cX0_spread 40 = .ok (.iaload, 1) := by decide +kernel
theorem dX0_spread_41 : decode cX0_spread 41 = .ok (.isub, 1) := by decide +kernel
theorem dX0_spread_42 : decode cX0_spread 42 = .ok (.istore 6, 2) := by decide +kernel
theorem dX0_spread_44 : decode cX0_spread 44 = .ok (.iinc 5 1, 3) := by decide +kernel
theorem dX0_spread_47 : decode cX0_spread 47 = .ok (.goto (-34), 3) := by decide +kernel
theorem dX0_spread_50 : decode cX0_spread 50 = .ok (.iconst 0, 1) := by decide +kernel
theorem dX0_spread_51 : decode cX0_spread 51 = .ok (.istore 7, 2) := by decide +kernel
theorem dX0_spread_53 : decode cX0_spread 53 = .ok (.iconst 0, 1) := by decide +kernel
theorem dX0_spread_54 : decode cX0_spread 54 = .ok (.istore 8, 2) := by decide +kernel
theorem dX0_spread_56 : decode cX0_spread 56 = .ok (.iload 8, 2) := by decide +kernel
theorem dX0_spread_58 : decode cX0_spread 58 = .ok (.bipush 64, 2) := by decide +kernel
theorem dX0_spread_60 : decode cX0_spread 60 = .ok (.if_icmp .ge 89, 3) := by decide +kernel
theorem dX0_spread_63 : decode cX0_spread 63 = .ok (.iload 8, 2) := by decide +kernel
theorem dX0_spread_65 : decode cX0_spread 65 = .ok (.iload_n 1, 1) := by decide +kernel
theorem dX0_spread_66 : decode cX0_spread 66 = .ok (.iload_n 2, 1) := by decide +kernel
theorem dX0_spread_67 : decode cX0_spread 67 = .ok (.invokestatic 31, 3) := by decide +kernel
theorem dX0_spread_70 : decode cX0_spread 70 = .ok (.istore 9, 2) := by decide +kernel
theorem dX0_spread_72 : decode cX0_spread 72 = .ok (.iload 9, 2) := by decide +kernel
theorem dX0_spread_74 : decode cX0_spread 74 = .ok (.iload 5, 2) := by decide +kernel
theorem dX0_spread_76 : decode cX0_spread 76 = .ok (.if_icmp .lt 15, 3) := by decide +kernel
theorem dX0_spread_79 : decode cX0_spread 79 = .ok (.iload 9, 2) := by decide +kernel
theorem dX0_spread_81 : decode cX0_spread 81 = .ok (.iload 5, 2) := by decide +kernel
theorem dX0_spread_83 : decode cX0_spread 83 = .ok (.if_icmp .ne 12, 3) := by decide +kernel
theorem dX0_spread_86 : decode cX0_spread 86 = .ok (.iload 6, 2) := by decide +kernel
theorem dX0_spread_88 : decode cX0_spread 88 = .ok (.ifCond .le 7, 3) := by decide +kernel
theorem dX0_spread_91 : decode cX0_spread 91 = .ok (.iconst 1, 1) := by decide +kernel
theorem dX0_spread_92 : decode cX0_spread 92 = .ok (.goto 4, 3) := by decide +kernel
theorem dX0_spread_95 : decode cX0_spread 95 = .ok (.iconst 0, 1) := by decide +kernel
theorem dX0_spread_96 : decode cX0_spread 96 = .ok (.istore 10, 2) := by decide +kernel
theorem dX0_spread_98 : decode cX0_spread 98 = .ok (.iload 9, 2) := by decide +kernel
theorem dX0_spread_100 : decode cX0_spread 100 = .ok (.iload 5, 2) := by decide +kernel
theorem dX0_spread_102 : decode cX0_spread 102 = .ok (.if_icmp .ne 6, 3) := by decide +kernel
theorem dX0_spread_105 : decode cX0_spread 105 = .ok (.iinc 6 (-1), 3) := by decide +kernel
theorem dX0_spread_108 : decode cX0_spread 108 = .ok (.iload 10, 2) := by decide +kernel
theorem dX0_spread_110 : decode cX0_spread 110 = .ok (.ifCond .eq 33, 3) := by decide +kernel
theorem dX0_spread_113 : decode cX0_spread 113 = .ok (.aload_n 0, 1) := by decide +kernel
theorem dX0_spread_114 : decode cX0_spread 114 = .ok (.getfield 9, 3) := by decide +kernel
theorem dX0_spread_117 : decode cX0_spread 117 = .ok (.iload 8, 2) := by decide +kernel
theorem dX0_spread_119 : decode cX0_spread 119 = .ok (.iaload, 1) := by decide +kernel
theorem dX0_spread_120 : decode cX0_spread 120 = .ok (.iload_n 3, 1) := by decide +kernel
theorem dX0_spread_121 : decode cX0_spread 121 = .ok (.if_icmp .gt 22, 3) := by decide +kernel
theorem dX0_spread_124 : decode cX0_spread 124 = .ok (.aload_n 0, 1) := by decide +kernel
theorem dX0_spread_125 : decode cX0_spread 125 = .ok (.getfield 9, 3) := by decide +kernel
theorem dX0_spread_128 : decode cX0_spread 128 = .ok (.iload 8, 2) := by decide +kernel
theorem dX0_spread_130 : decode cX0_spread 130 = .ok (.iload_n 3, 1) := by decide +kernel
theorem dX0_spread_131 : decode cX0_spread 131 = .ok (.iastore, 1) := by decide +kernel
theorem dX0_spread_132 : decode cX0_spread 132 = .ok (.aload_n 0, 1) := by decide +kernel
theorem dX0_spread_133 : decode cX0_spread 133 = .ok (.getfield 15, 3) := by decide +kernel
theorem dX0_spread_136 : decode cX0_spread 136 = .ok (.iload 8, 2) := by decide +kernel
theorem dX0_spread_138 : decode cX0_spread 138 = .ok (.iconst 2, 1) := by decide +kernel
theorem dX0_spread_139 : decode cX0_spread 139 = .ok (.iastore, 1) := by decide +kernel
theorem dX0_spread_140 : decode cX0_spread 140 = .ok (.iinc 7 1, 3) := by decide +kernel
theorem dX0_spread_143 : decode cX0_spread 143 = .ok (.iinc 8 1, 3) := by decide +kernel
theorem dX0_spread_146 : decode cX0_spread 146 = .ok (.goto (-90), 3) := by decide +kernel
theorem dX0_spread_149 : decode cX0_spread 149 = .ok (.iload 7, 2) := by decide +kernel
theorem dX0_spread_151 : decode cX0_spread 151 = .ok (.ireturn, 1) := by decide +kernel
set_option maxRecDepth 20000 in
theorem ggX0_countCellsAway_X0_distance : GoodIn wsX0_countCellsAway wsX0_distance := goodIn_r _ [5] (by decide +kernel) (by decide +kernel)
set_option maxRecDepth 20000 in
theorem gX0_countCellsAway_X0_distance : GoodIn wsX0_countCellsAway (va_wsS RX0 31 yX0_distance wsX0_distance) := goodIn_app (goodIn_of _ (by decide +kernel)) ggX0_countCellsAway_X0_distance
theorem dX0_countCellsAway_0 : decode cX0_countCellsAway 0 = .ok (.iconst 0, 1) := by decide +kernel
theorem dX0_countCellsAway_1 : decode cX0_countCellsAway 1 = .ok (.istore_n 3, 1) := by decide +kernel
theorem dX0_countCellsAway_2 : decode cX0_countCellsAway 2 = .ok (.iload_n 3, 1) := by decide +kernel
theorem dX0_countCellsAway_3 : decode cX0_countCellsAway 3 = .ok (.bipush 98, 2) := by decide +kernel
theorem dX0_countCellsAway_5 : decode cX0_countCellsAway 5 = .ok (.if_icmp .gt 16, 3) := by decide +kernel
theorem dX0_countCellsAway_8 : decode cX0_countCellsAway 8 = .ok (.aload_n 0, 1) := by decide +kernel
theorem dX0_countCellsAway_9 : decode cX0_countCellsAway 9 = .ok (.getfield 18, 3) := by decide +kernel
theorem dX0_countCellsAway_12 : decode cX0_countCellsAway 12 = .ok (.iload_n 3, 1) := by decide +kernel
theorem dX0_countCellsAway_13 : decode cX0_countCellsAway 13 = .ok (.iconst 0, 1) := by decide +kernel
theorem dX0_countCellsAway_14 : decode cX0_countCellsAway 14 = .ok (.iastore, 1) := by decide +kernel
theorem dX0_countCellsAway_15 : decode cX0_countCellsAway 15 = .ok (.iinc 3 1, 3) := by decide +kernel
theorem dX0_countCellsAway_18 : decode cX0_countCellsAway 18 = .ok (.goto (-16), 3) := by decide +kernel
theorem dX0_countCellsAway_21 : decode cX0_countCellsAway 21 = .ok (.iconst 0, 1) := by decide +kernel
theorem dX0_countCellsAway_22 : decode cX0_countCellsAway 22 = .ok (.istore_n 3, 1) := by decide +kernel
theorem dX0_countCellsAway_23 : decode cX0_countCellsAway 23 = .ok (.iload_n 3, 1) := by decide +kernel
theorem dX0_countCellsAway_24 : decode cX0_countCellsAway 24 = .ok (.bipush 64, 2) := by decide +kernel
theorem dX0_countCellsAway_26 : decode cX0_countCellsAway 26 = .ok (.if_icmp .ge 24, 3) := by decide +kernel
theorem dX0_countCellsAway_29 : decode cX0_countCellsAway 29 = .ok (.aload_n 0, 1) := by decide +kernel
theorem dX0_countCellsAway_30 : decode cX0_countCellsAway 30 = .ok (.getfield 18, 3) := by decide +kernel
theorem dX0_countCellsAway_33 : decode cX0_countCellsAway 33 = .ok (.iload_n 3, 1) := by decide +kernel
theorem dX0_countCellsAway_34 : decode cX0_countCellsAway 34 = .ok (.iload_n 1, 1) := by decide +kernel
theorem dX0_countCellsAway_35 : decode cX0_countCellsAway 35 = .ok (.iload_n 2, 1) := by decide +kernel
theorem dX0_countCellsAway_36 : decode cX0_countCellsAway 36 = .ok (.invokestatic 31, 3) := by decide +kernel
theorem dX0_countCellsAway_39 : decode cX0_countCellsAway 39 = .ok (.dup2, 1) := by decide +kernel
theorem dX0_countCellsAway_40 : decode cX0_countCellsAway 40 = .ok (.iaload, 1) := by decide +kernel
theorem dX0_countCellsAway_41 : decode cX0_countCellsAway 41 = .ok (.iconst 1, 1) := by decide +kernel
theorem dX0_countCellsAway_42 : decode cX0_countCellsAway 42 = .ok (.iadd, 1) := by decide +kernel
theorem dX0_countCellsAway_43 : decode cX0_countCellsAway 43 = .ok (.iastore, 1) := by decide +kernel
theorem dX0_countCellsAway_44 : decode cX0_countCellsAway 44 = .ok (.iinc 3 1, 3) := by decide +kernel
theorem dX0_countCellsAway_47 : decode cX0_countCellsAway 47 = .ok (.goto (-24), 3) := by decide +kernel
theorem dX0_countCellsAway_50 : decode cX0_countCellsAway 50 = .ok (.return_, 1) := by decide +kernel
theorem dX0_distance_0 : decode cX0_distance 0 = .ok (.iload_n 0, 1) := by decide +kernel
theorem dX0_distance_1 : decode cX0_distance 1 = .ok (.bipush 8, 2) := by decide +kernel
theorem dX0_distance_3 : decode cX0_distance 3 = .ok (.irem, 1) := by decide +kernel
theorem dX0_distance_4 : decode cX0_distance 4 = .ok (.iload_n 1, 1) := by decide +kernel
theorem dX0_distance_5 : decode cX0_distance 5 = .ok (.isub, 1) := by decide +kernel
theorem dX0_distance_6 : decode cX0_distance 6 = .ok (.istore_n 3, 1) := by decide +kernel
theorem dX0_distance_7 : decode cX0_distance 7 = .ok (.iload_n 0, 1) := by decide +kernel
theorem dX0_distance_8 : decode cX0_distance 8 = .ok (.bipush 8, 2) := by decide +kernel
theorem dX0_distance_10 : decode cX0_distance 10 = .ok (.idiv, 1) := by decide +kernel
theorem dX0_distance_11 : decode cX0_distance 11 = .ok (.iload_n 2, 1) := by decide +kernel
theorem dX0_distance_12 : decode cX0_distance 12 = .ok (.isub, 1) := by decide +kernel
theorem dX0_distance_13 : decode cX0_distance 13 = .ok (.istore 4, 2) := by decide +kernel
theorem dX0_distance_15 : decode cX0_distance 15 = .ok (.iload_n 3, 1) := by decide +kernel
theorem dX0_distance_16 : decode cX0_distance 16 = .ok (.iload_n 3, 1) := by decide +kernel
theorem dX0_distance_17 : decode cX0_distance 17 = .ok (.imul, 1) := by decide +kernel
theorem dX0_distance_18 : decode cX0_distance 18 = .ok (.iload 4, 2) := by decide +kernel
theorem dX0_distance_20 : decode cX0_distance 20 = .ok (.iload 4, 2) := by decide +kernel
theorem dX0_distance_22 : decode cX0_distance 22 = .ok (.imul, 1) := by decide +kernel
theorem dX0_distance_23 : decode cX0_distance 23 = .ok (.iadd, 1) := by decide +kernel
theorem dX0_distance_24 : decode cX0_distance 24 = .ok (.ireturn, 1) := by decide +kernel
set_option maxRecDepth 20000 in
theorem ggX0_shift_X7_cellOf : GoodIn wsX0_shift wsX7_cellOf := goodIn_r _ [7] (by decide +kernel) (by decide +kernel)
set_option maxRecDepth 20000 in
theorem gX0_shift_X7_cellOf_n35 : GoodIn wsX0_shift (wsX7_cellOf) := ggX0_shift_X7_cellOf
set_option maxRecDepth 20000 in
theorem ggX0_shift_J9_floorMod_7cf53 : GoodIn wsX0_shift wsJ9_floorMod_7cf53 := goodIn_r _ [11] (by decide +kernel) (by decide +kernel)
set_option maxRecDepth 20000 in
theorem gX0_shift_J9_floorMod_7cf53 : GoodIn wsX0_shift (va_wsS RX0 39 yJ9_floorMod_7cf53 wsJ9_floorMod_7cf53) := goodIn_app (goodIn_of _ (by decide +kernel)) ggX0_shift_J9_floorMod_7cf53
theorem dX0_shift_0 : decode cX0_shift 0 = .ok (.iload_n 1, 1) := by decide +kernel
theorem dX0_shift_1 : decode cX0_shift 1 = .ok (.ifCond .eq 11, 3) := by decide +kernel
theorem dX0_shift_4 : decode cX0_shift 4 = .ok (.iconst 0, 1) := by decide +kernel
theorem dX0_shift_5 : decode cX0_shift 5 = .ok (.iload_n 2, 1) := by decide +kernel
theorem dX0_shift_6 : decode cX0_shift 6 = .ok (.invokestatic 35, 3) := by decide +kernel
theorem dX0_shift_9 : decode cX0_shift 9 = .ok (.goto 8, 3) := by decide +kernel
theorem dX0_shift_12 : decode cX0_shift 12 = .ok (.iload_n 2, 1) := by decide +kernel
theorem dX0_shift_13 : decode cX0_shift 13 = .ok (.iconst 0, 1) := by decide +kernel
theorem dX0_shift_14 : decode cX0_shift 14 = .ok (.invokestatic 35, 3) := by decide +kernel
theorem dX0_shift_17 : decode cX0_shift 17 = .ok (.istore 4, 2) := by decide +kernel
theorem dX0_shift_19 : decode cX0_shift 19 = .ok (.iload_n 1, 1) := by decide +kernel
theorem dX0_shift_20 : decode cX0_shift 20 = .ok (.ifCond .eq 7, 3) := by decide +kernel
theorem dX0_shift_23 : decode cX0_shift 23 = .ok (.iconst 1, 1) := by decide +kernel
theorem dX0_shift_24 : decode cX0_shift 24 = .ok (.goto 5, 3) := by decide +kernel
theorem dX0_shift_27 : decode cX0_shift 27 = .ok (.bipush 8, 2) := by decide +kernel
theorem dX0_shift_29 : decode cX0_shift 29 = .ok (.istore 5, 2) := by decide +kernel
theorem dX0_shift_31 : decode cX0_shift 31 = .ok (.iconst 0, 1) := by decide +kernel
theorem dX0_shift_32 : decode cX0_shift 32 = .ok (.istore 6, 2) := by decide +kernel
theorem dX0_shift_34 : decode cX0_shift 34 = .ok (.iload 6, 2) := by decide +kernel
theorem dX0_shift_36 : decode cX0_shift 36 = .ok (.bipush 8, 2) := by decide +kernel
theorem dX0_shift_38 : decode cX0_shift 38 = .ok (.if_icmp .ge 60, 3) := by decide +kernel
theorem dX0_shift_41 : decode cX0_shift 41 = .ok (.iload 6, 2) := by decide +kernel
theorem dX0_shift_43 : decode cX0_shift 43 = .ok (.iload_n 3, 1) := by decide +kernel
theorem dX0_shift_44 : decode cX0_shift 44 = .ok (.iadd, 1) := by decide +kernel
theorem dX0_shift_45 : decode cX0_shift 45 = .ok (.bipush 8, 2) := by decide +kernel
theorem dX0_shift_47 : decode cX0_shift 47 = .ok (.invokestatic 39, 3) := by decide +kernel
theorem dX0_shift_50 : decode cX0_shift 50 = .ok (.istore 7, 2) := by decide +kernel
theorem dX0_shift_52 : decode cX0_shift 52 = .ok (.aload_n 0, 1) := by decide +kernel
theorem dX0_shift_53 : decode cX0_shift 53 = .ok (.getfield 21, 3) := by decide +kernel
theorem dX0_shift_56 : decode cX0_shift 56 = .ok (.iload 7, 2) := by decide +kernel
theorem dX0_shift_58 : decode cX0_shift 58 = .ok (.aload_n 0, 1) := by decide +kernel
theorem dX0_shift_59 : decode cX0_shift 59 = .ok (.getfield 9, 3) := by decide +kernel
theorem dX0_shift_62 : decode cX0_shift 62 = .ok (.iload 4, 2) := by decide +kernel
theorem dX0_shift_64 : decode cX0_shift 64 = .ok (.iload 6, 2) := by decide +kernel
theorem dX0_shift_66 : decode cX0_shift 66 = .ok (.iload 5, 2) := by decide +kernel
theorem dX0_shift_68 : decode cX0_shift 68 = .ok (.imul, 1) := by decide +kernel
theorem dX0_shift_69 : decode cX0_shift 69 = .ok (.iadd, 1) := by decide +kernel
theorem dX0_shift_70 : decode cX0_shift 70 = .ok (.iaload, 1) := by decide +kernel
theorem dX0_shift_71 : decode cX0_shift 71 = .ok (.iastore, 1) := by decide +kernel
theorem dX0_shift_72 : decode cX0_shift 72 = .ok (.aload_n 0, 1) := by decide +kernel
theorem dX0_shift_73 : decode cX0_shift 73 = .ok (.getfield 24, 3) := by decide +kernel
theorem dX0_shift_76 : decode cX0_shift 76 = .ok (.iload 7, 2) := by decide +kernel
theorem dX0_shift_78 : decode cX0_shift 78 = .ok (.aload_n 0, 1) := by decide +kernel
theorem dX0_shift_79 : decode cX0_shift 79 = .ok (.getfield 15, 3) := by decide +kernel
theorem dX0_shift_82 : decode cX0_shift 82 = .ok (.iload 4, 2) := by decide +kernel
theorem dX0_shift_84 : decode cX0_shift 84 = .ok (.iload 6, 2) := by decide +kernel
theorem dX0_shift_86 : decode cX0_shift 86 = .ok (.iload 5, 2) := by decide +kernel
theorem dX0_shift_88 : decode cX0_shift 88 = .ok (.imul, 1) := by decide +kernel
theorem dX0_shift_89 : decode cX0_shift 89 = .ok (.iadd, 1) := by decide +kernel
theorem dX0_shift_90 : decode cX0_shift 90 = .ok (.iaload, 1) := by decide +kernel
theorem dX0_shift_91 : decode cX0_shift 91 = .ok (.iastore, 1) := by decide +kernel
theorem dX0_shift_92 : decode cX0_shift 92 = .ok (.iinc 6 1, 3) := by decide +kernel
theorem dX0_shift_95 : decode cX0_shift 95 = .ok (.goto (-61), 3) := by decide +kernel
theorem dX0_shift_98 : decode cX0_shift 98 = .ok (.iconst 0, 1) := by decide +kernel
theorem dX0_shift_99 : decode cX0_shift 99 = .ok (.istore 6, 2) := by decide +kernel
theorem dX0_shift_101 : decode cX0_shift 101 = .ok (.iconst 0, 1) := by decide +kernel
theorem dX0_shift_102 : decode cX0_shift 102 = .ok (.istore 7, 2) := by decide +kernel
theorem dX0_shift_104 : decode cX0_shift 104 = .ok (.iload 7, 2) := by decide +kernel
theorem dX0_shift_106 : decode cX0_shift 106 = .ok (.bipush 8, 2) := by decide +kernel
theorem dX0_shift_108 : decode cX0_shift 108 = .ok (.if_icmp .ge 70, 3) := by decide +kernel
theorem dX0_shift_111 : decode cX0_shift 111 = .ok (.aload_n 0, 1) := by decide +kernel
theorem dX0_shift_112 : decode cX0_shift 112 = .ok (.getfield 9, 3) := by decide +kernel
theorem dX0_shift_115 : decode cX0_shift 115 = .ok (.iload 4, 2) := by decide +kernel
theorem dX0_shift_117 : decode cX0_shift 117 = .ok (.iload 7, 2) := by decide +kernel
theorem dX0_shift_119 : decode cX0_shift 119 = .ok (.iload 5, 2) := by decide +kernel
theorem dX0_shift_121 : decode cX0_shift 121 = .ok (.imul, 1) := by decide +kernel
theorem dX0_shift_122 : decode cX0_shift 122 = .ok (.iadd, 1) := by decide +kernel
theorem dX0_shift_123 : decode cX0_shift 123 = .ok (.aload_n 0, 1) := by decide +kernel
theorem dX0_shift_124 : decode cX0_shift 124 = .ok (.getfield 21, 3) := by decide +kernel
theorem dX0_shift_127 : decode cX0_shift 127 = .ok (.iload 7, 2) := by decide +kernel
theorem dX0_shift_129 : decode cX0_shift 129 = .ok (.iaload, 1) := by decide +kernel
theorem dX0_shift_130 : decode cX0_shift 130 = .ok (.iastore, 1) := by decide +kernel
theorem dX0_shift_131 : decode cX0_shift 131 = .ok (.aload_n 0, 1) := by decide +kernel
theorem dX0_shift_132 : decode cX0_shift 132 = .ok (.getfield 15, 3) := by decide +kernel
theorem dX0_shift_135 : decode cX0_shift 135 = .ok (.iload 4, 2) := by decide +kernel
theorem dX0_shift_137 : decode cX0_shift 137 = .ok (.iload 7, 2) := by decide +kernel
theorem dX0_shift_139 : decode cX0_shift 139 = .ok (.iload 5, 2) := by decide +kernel
theorem dX0_shift_141 : decode cX0_shift 141 = .ok (.imul, 1) := by decide +kernel
theorem dX0_shift_142 : decode cX0_shift 142 = .ok (.iadd, 1) := by decide +kernel
theorem dX0_shift_143 : decode cX0_shift 143 = .ok (.aload_n 0, 1) := by decide +kernel
theorem dX0_shift_144 : decode cX0_shift 144 = .ok (.getfield 24, 3) := by decide +kernel
theorem dX0_shift_147 : decode cX0_shift 147 = .ok (.iload 7, 2) := by decide +kernel
theorem dX0_shift_149 : decode cX0_shift 149 = .ok (.iaload, 1) := by decide +kernel
theorem dX0_shift_150 : decode cX0_shift 150 = .ok (.iastore, 1) := by decide +kernel
theorem dX0_shift_151 : decode cX0_shift 151 = .ok (.iload 6, 2) := by decide +kernel
theorem dX0_shift_153 : decode cX0_shift 153 = .ok (.aload_n 0, 1) := by decide +kernel
theorem dX0_shift_154 : decode cX0_shift 154 = .ok (.getfield 21, 3) := by decide +kernel
theorem dX0_shift_157 : decode cX0_shift 157 = .ok (.iload 7, 2) := by decide +kernel
theorem dX0_shift_159 : decode cX0_shift 159 = .ok (.iaload, 1) := by decide +kernel
theorem dX0_shift_160 : decode cX0_shift 160 = .ok (.iconst (-1), 1) := by decide +kernel
theorem dX0_shift_161 : decode cX0_shift 161 = .ok (.if_icmp .ne 7, 3) := by decide +kernel
theorem dX0_shift_164 : decode cX0_shift 164 = .ok (.iconst 0, 1) := by decide +kernel
theorem dX0_shift_165 : decode cX0_shift 165 = .ok (.goto 4, 3) := by decide +kernel
theorem dX0_shift_168 : decode cX0_shift 168 = .ok (.iconst 1, 1) := by decide +kernel
theorem dX0_shift_169 : decode cX0_shift 169 = .ok (.iadd, 1) := by decide +kernel
theorem dX0_shift_170 : decode cX0_shift 170 = .ok (.istore 6, 2) := by decide +kernel
theorem dX0_shift_172 : decode cX0_shift 172 = .ok (.iinc 7 1, 3) := by decide +kernel
theorem dX0_shift_175 : decode cX0_shift 175 = .ok (.goto (-71), 3) := by decide +kernel
theorem dX0_shift_178 : decode cX0_shift 178 = .ok (.iload 6, 2) := by decide +kernel
theorem dX0_shift_180 : decode cX0_shift 180 = .ok (.ireturn, 1) := by decide +kernel
set_option maxRecDepth 20000 in
theorem ggX0_press_X2_init : GoodIn wsX0_press wsX2_init := goodIn_r _ [6, 7, 8, 9, 10, 11, 12] (by decide +kernel) (by decide +kernel)
set_option maxRecDepth 20000 in
theorem gX0_press_X2_init_n46 : GoodIn wsX0_press (wsX2_init) := ggX0_press_X2_init
theorem dX0_press_0 : decode cX0_press 0 = .ok (.new 44, 3) := by decide +kernel
theorem dX0_press_3 : decode cX0_press 3 = .ok (.dup, 1) := by decide +kernel
theorem dX0_press_4 : decode cX0_press 4 = .ok (.invokespecial 46, 3) := by decide +kernel
theorem dX0_press_7 : decode cX0_press 7 = .ok (.astore_n 1, 1) := by decide +kernel
theorem dX0_press_8 : decode cX0_press 8 = .ok (.iconst 0, 1) := by decide +kernel
theorem dX0_press_9 : decode cX0_press 9 = .ok (.istore_n 2, 1) := by decide +kernel
theorem dX0_press_10 : decode cX0_press 10 = .ok (.iload_n 2, 1) := by decide +kernel
theorem dX0_press_11 : decode cX0_press 11 = .ok (.bipush 64, 2) := by decide +kernel
theorem dX0_press_13 : decode cX0_press 13 = .ok (.if_icmp .ge 21, 3) := by decide +kernel
theorem dX0_press_16 : decode cX0_press 16 = .ok (.aload_n 1, 1) := by decide +kernel
theorem dX0_press_17 : decode cX0_press 17 = .ok (.getfield 47, 3) := by decide +kernel
theorem dX0_press_20 : decode cX0_press 20 = .ok (.iload_n 2, 1) := by decide +kernel
theorem dX0_press_21 : decode cX0_press 21 = .ok (.aload_n 0, 1) := by decide +kernel
theorem dX0_press_22 : decode cX0_press 22 = .ok (.getfield 9, 3) := by decide +kernel
theorem dX0_press_25 : decode cX0_press 25 = .ok (.iload_n 2, 1) := by decide +kernel
theorem dX0_press_26 : decode cX0_press 26 = .ok (.iaload, 1) := by decide +kernel
theorem dX0_press_27 : decode cX0_press 27 = .ok (.iastore, 1) := by decide +kernel
theorem dX0_press_28 : decode cX0_press 28 = .ok (.iinc 2 1, 3) := by decide +kernel
theorem dX0_press_31 : decode cX0_press 31 = .ok (.goto (-21), 3) := by decide +kernel
theorem dX0_press_34 : decode cX0_press 34 = .ok (.aload_n 1, 1) := by decide +kernel
theorem dX0_press_35 : decode cX0_press 35 = .ok (.areturn, 1) := by decide +kernel
theorem dX0_fade_0 : decode cX0_fade 0 = .ok (.iconst 0, 1) := by decide +kernel
theorem dX0_fade_1 : decode cX0_fade 1 = .ok (.istore_n 1, 1) := by decide +kernel
theorem dX0_fade_2 : decode cX0_fade 2 = .ok (.iload_n 1, 1) := by decide +kernel
theorem dX0_fade_3 : decode cX0_fade 3 = .ok (.bipush 64, 2) := by decide +kernel
theorem dX0_fade_5 : decode cX0_fade 5 = .ok (.if_icmp .ge 54, 3) := by decide +kernel
theorem dX0_fade_8 : decode cX0_fade 8 = .ok (.aload_n 0, 1) := by decide +kernel
theorem dX0_fade_9 : decode cX0_fade 9 = .ok (.getfield 9, 3) := by decide +kernel
theorem dX0_fade_12 : decode cX0_fade 12 = .ok (.iload_n 1, 1) := by decide +kernel
theorem dX0_fade_13 : decode cX0_fade 13 = .ok (.iaload, 1) := by decide +kernel
theorem dX0_fade_14 : decode cX0_fade 14 = .ok (.iconst (-1), 1) := by decide +kernel
theorem dX0_fade_15 : decode cX0_fade 15 = .ok (.if_icmp .eq 38, 3) := by decide +kernel
theorem dX0_fade_18 : decode cX0_fade 18 = .ok (.aload_n 0, 1) := by decide +kernel
theorem dX0_fade_19 : decode cX0_fade 19 = .ok (.getfield 15, 3) := by decide +kernel
theorem dX0_fade_22 : decode cX0_fade 22 = .ok (.iload_n 1, 1) := by decide +kernel
theorem dX0_fade_23 : decode cX0_fade 23 = .ok (.dup2, 1) := by decide +kernel
theorem dX0_fade_24 : decode cX0_fade 24 = .ok (.iaload, 1) := by decide +kernel
theorem dX0_fade_25 : decode cX0_fade 25 = .ok (.iconst 1, 1) := by decide +kernel
theorem dX0_fade_26 : decode cX0_fade 26 = .ok (.isub, 1) := by decide +kernel
theorem dX0_fade_27 : decode cX0_fade 27 = .ok (.iastore, 1) := by decide +kernel
theorem dX0_fade_28 : decode cX0_fade 28 = .ok (.aload_n 0, 1) := by decide +kernel
theorem dX0_fade_29 : decode cX0_fade 29 = .ok (.getfield 9, 3) := by decide +kernel
theorem dX0_fade_32 : decode cX0_fade 32 = .ok (.iload_n 1, 1) := by decide +kernel
theorem dX0_fade_33 : decode cX0_fade 33 = .ok (.aload_n 0, 1) := by decide +kernel
theorem dX0_fade_34 : decode cX0_fade 34 = .ok (.getfield 15, 3) := by decide +kernel
theorem dX0_fade_37 : decode cX0_fade 37 = .ok (.iload_n 1, 1) := by decide +kernel
theorem dX0_fade_38 : decode cX0_fade 38 = .ok (.iaload, 1) := by decide +kernel
theorem dX0_fade_39 : decode cX0_fade 39 = .ok (.ifCond .le 12, 3) := by decide +kernel
theorem dX0_fade_42 : decode cX0_fade 42 = .ok (.aload_n 0, 1) := by decide +kernel
theorem dX0_fade_43 : decode cX0_fade 43 = .ok (.getfield 9, 3) := by decide +kernel
theorem dX0_fade_46 : decode cX0_fade 46 = .ok (.iload_n 1, 1) := by decide +kernel
theorem dX0_fade_47 : decode cX0_fade 47 = .ok (.iaload, 1) := by decide +kernel
theorem dX0_fade_48 : decode cX0_fade 48 = .ok (.goto 4, 3) := by decide +kernel
theorem dX0_fade_51 : decode cX0_fade 51 = .ok (.iconst (-1), 1) := by decide +kernel
theorem dX0_fade_52 : decode cX0_fade 52 = .ok (.iastore, 1) := by decide +kernel
theorem dX0_fade_53 : decode cX0_fade 53 = .ok (.iinc 1 1, 3) := by decide +kernel
theorem dX0_fade_56 : decode cX0_fade 56 = .ok (.goto (-54), 3) := by decide +kernel
theorem dX0_fade_59 : decode cX0_fade 59 = .ok (.return_, 1) := by decide +kernel
theorem dX0_empty_0 : decode cX0_empty 0 = .ok (.iconst 0, 1) := by decide +kernel
theorem dX0_empty_1 : decode cX0_empty 1 = .ok (.istore_n 1, 1) := by decide +kernel
theorem dX0_empty_2 : decode cX0_empty 2 = .ok (.iconst 0, 1) := by decide +kernel
theorem dX0_empty_3 : decode cX0_empty 3 = .ok (.istore_n 2, 1) := by decide +kernel
theorem dX0_empty_4 : decode cX0_empty 4 = .ok (.iload_n 2, 1) := by decide +kernel
theorem dX0_empty_5 : decode cX0_empty 5 = .ok (.bipush 64, 2) := by decide +kernel
theorem dX0_empty_7 : decode cX0_empty 7 = .ok (.if_icmp .ge 41, 3) := by decide +kernel
theorem dX0_empty_10 : decode cX0_empty 10 = .ok (.iload_n 1, 1) := by decide +kernel
theorem dX0_empty_11 : decode cX0_empty 11 = .ok (.aload_n 0, 1) := by decide +kernel
theorem dX0_empty_12 : decode cX0_empty 12 = .ok (.getfield 9, 3) := by decide +kernel
theorem dX0_empty_15 : decode cX0_empty 15 = .ok (.iload_n 2, 1) := by decide +kernel
theorem dX0_empty_16 : decode cX0_empty 16 = .ok (.iaload, 1) := by decide +kernel
theorem dX0_empty_17 : decode cX0_empty 17 = .ok (.iconst (-1), 1) := by decide +kernel
theorem dX0_empty_18 : decode cX0_empty 18 = .ok (.if_icmp .ne 7, 3) := by decide +kernel
theorem dX0_empty_21 : decode cX0_empty 21 = .ok (.iconst 0, 1) := by decide +kernel
theorem dX0_empty_22 : decode cX0_empty 22 = .ok (.goto 4, 3) := by decide +kernel
theorem dX0_empty_25 : decode cX0_empty 25 = .ok (.iconst 1, 1) := by decide +kernel
theorem dX0_empty_26 : decode cX0_empty 26 = .ok (.iadd, 1) := by decide +kernel
theorem dX0_empty_27 : decode cX0_empty 27 = .ok (.istore_n 1, 1) := by decide +kernel
theorem dX0_empty_28 : decode cX0_empty 28 = .ok (.aload_n 0, 1) := by decide +kernel
theorem dX0_empty_29 : decode cX0_empty 29 = .ok (.getfield 9, 3) := by decide +kernel
theorem dX0_empty_32 : decode cX0_empty 32 = .ok (.iload_n 2, 1) := by decide +kernel
theorem dX0_empty_33 : decode cX0_empty 33 = .ok (.iconst (-1), 1) := by decide +kernel
theorem dX0_empty_34 : decode cX0_empty 34 = .ok (.iastore, 1) := by decide +kernel
theorem dX0_empty_35 : decode cX0_empty 35 = .ok (.aload_n 0, 1) := by decide +kernel
theorem dX0_empty_36 : decode cX0_empty 36 = .ok (.getfield 15, 3) := by decide +kernel
theorem dX0_empty_39 : decode cX0_empty 39 = .ok (.iload_n 2, 1) := by decide +kernel
theorem dX0_empty_40 : decode cX0_empty 40 = .ok (.iconst 0, 1) := by decide +kernel
theorem dX0_empty_41 : decode cX0_empty 41 = .ok (.iastore, 1) := by decide +kernel
theorem dX0_empty_42 : decode cX0_empty 42 = .ok (.iinc 2 1, 3) := by decide +kernel
theorem dX0_empty_45 : decode cX0_empty 45 = .ok (.goto (-41), 3) := by decide +kernel
theorem dX0_empty_48 : decode cX0_empty 48 = .ok (.iload_n 1, 1) := by decide +kernel
theorem dX0_empty_49 : decode cX0_empty 49 = .ok (.ireturn, 1) := by decide +kernel
set_option maxRecDepth 20000 in
theorem ggX1_init_X3_init : GoodIn wsX1_init wsX3_init := goodIn_r _ [21, 22, 2, 3, 23, 24, 40, 41] (by decide +kernel) (by decide +kernel)
set_option maxRecDepth 20000 in
theorem gX1_init_X3_init_n11 : GoodIn wsX1_init (wsX3_init) := ggX1_init_X3_init
set_option maxRecDepth 20000 in
theorem ggX1_init_X6_init : GoodIn wsX1_init wsX6_init := goodIn_r _ [26, 27, 2, 3, 23, 28, 29, 30, 49, 50, 51, 52] (by decide +kernel) (by decide +kernel)
set_option maxRecDepth 20000 in
theorem gX1_init_X6_init_n20 : GoodIn wsX1_init (wsX6_init) := ggX1_init_X6_init
set_option maxRecDepth 20000 in
theorem ggX1_init_X4_init : GoodIn wsX1_init wsX4_init := goodIn_r _ [33, 34, 2, 3, 23, 35, 36, 37, 38, 39, 53, 54, 55, 56, 57, 58, 59, 60, 61, 62] (by decide +kernel) (by decide +kernel)
set_option maxRecDepth 20000 in
theorem gX1_init_X4_init : GoodIn wsX1_init (wsX4_init) := ggX1_init_X4_init
theorem dX1_init_0 : decode cX1_init 0 = .ok (.aload_n 0, 1) := by decide +kernel
theorem dX1_init_1 : decode cX1_init 1 = .ok (.invokespecial 3, 3) := by decide +kernel
theorem dX1_init_4 : decode cX1_init 4 = .ok (.aload_n 0, 1) := by decide +kernel
theorem dX1_init_5 : decode cX1_init 5 = .ok (.new 9, 3) := by decide +kernel
theorem dX1_init_8 : decode cX1_init 8 = .ok (.dup, 1) := by decide +kernel
theorem dX1_init_9 : decode cX1_init 9 = .ok (.invokespecial 11, 3) := by decide +kernel
theorem dX1_init_12 : decode cX1_init 12 = .ok (.putfield 12, 3) := by decide +kernel
theorem dX1_init_15 : decode cX1_init 15 = .ok (.aload_n 0, 1) := by decide +kernel
theorem dX1_init_16 : decode cX1_init 16 = .ok (.new 18, 3) := by decide +kernel
theorem dX1_init_19 : decode cX1_init 19 = .ok (.dup, 1) := by decide +kernel
theorem dX1_init_20 : decode cX1_init 20 = .ok (.invokespecial 20, 3) := by decide +kernel
theorem dX1_init_23 : decode cX1_init 23 = .ok (.putfield 21, 3) := by decide +kernel
theorem dX1_init_26 : decode cX1_init 26 = .ok (.aload_n 0, 1) := by decide +kernel
theorem dX1_init_27 : decode cX1_init 27 = .ok (.iconst 0, 1) := by decide +kernel
theorem dX1_init_28 : decode cX1_init 28 = .ok (.putfield 25, 3) := by decide +kernel
theorem dX1_init_31 : decode cX1_init 31 = .ok (.aload_n 0, 1) := by decide +kernel
theorem dX1_init_32 : decode cX1_init 32 = .ok (.new 29, 3) := by decide +kernel
theorem dX1_init_35 : decode cX1_init 35 = .ok (.dup, 1) := by decide +kernel
theorem dX1_init_36 : decode cX1_init 36 = .ok (.iload_n 1, 1) := by decide +kernel
theorem dX1_init_37 : decode cX1_init 37 = .ok (.iload_n 3, 1) := by decide +kernel
theorem dX1_init_38 : decode cX1_init 38 = .ok (.invokespecial 31, 3) := by decide +kernel
theorem dX1_init_41 : decode cX1_init 41 = .ok (.putfield 34, 3) := by decide +kernel
theorem dX1_init_44 : decode cX1_init 44 = .ok (.aload_n 0, 1) := by decide +kernel
theorem dX1_init_45 : decode cX1_init 45 = .ok (.iload_n 1, 1) := by decide +kernel
theorem dX1_init_46 : decode cX1_init 46 = .ok (.iload_n 2, 1) := by decide +kernel
theorem dX1_init_47 : decode cX1_init 47 = .ok (.imul, 1) := by decide +kernel
theorem dX1_init_48 : decode cX1_init 48 = .ok (.putfield 38, 3) := by decide +kernel
theorem dX1_init_51 : decode cX1_init 51 = .ok (.aload_n 0, 1) := by decide +kernel
theorem dX1_init_52 : decode cX1_init 52 = .ok (.iload 4, 2) := by decide +kernel
theorem dX1_init_54 : decode cX1_init 54 = .ok (.putfield 41, 3) := by decide +kernel
theorem dX1_init_57 : decode cX1_init 57 = .ok (.aload_n 0, 1) := by decide +kernel
theorem dX1_init_58 : decode cX1_init 58 = .ok (.iload 5, 2) := by decide +kernel
theorem dX1_init_60 : decode cX1_init 60 = .ok (.putfield 44, 3) := by decide +kernel
theorem dX1_init_63 : decode cX1_init 63 = .ok (.return_, 1) := by decide +kernel
set_option maxRecDepth 20000 in
theorem ggX1_bendAt_X1_stiffness : GoodIn wsX1_bendAt wsX1_stiffness := goodIn_r _ [11, 12, 13, 14, 15, 16, 17, 18, 19] (by decide +kernel) (by decide +kernel)
set_option maxRecDepth 20000 in
theorem gX1_bendAt_X1_stiffness : GoodIn wsX1_bendAt (wsV RX1 54 RX1 yX1_stiffness wsX1_stiffness) := goodIn_app (goodIn_of _ (by decide +kernel)) ggX1_bendAt_X1_stiffness
theorem dX1_bendAt_0 : decode cX1_bendAt 0 = .ok (.iload_n 1, 1) := by decide +kernel
theorem dX1_bendAt_1 : decode cX1_bendAt 1 = .ok (.aload_n 0, 1) := by decide +kernel
theorem dX1_bendAt_2 : decode cX1_bendAt 2 = .ok (.getfield 38, 3) := by decide +kernel
theorem dX1_bendAt_5 : decode cX1_bendAt 5 = .ok (.iload_n 1, 1) := by decide +kernel
theorem dX1_bendAt_6 : decode cX1_bendAt 6 = .ok (.isub, 1) := by decide +kernel
theorem dX1_bendAt_7 : decode cX1_bendAt 7 = .ok (.invokestatic 48, 3) := by decide +kernel
theorem dX1_bendAt_10 : decode cX1_bendAt 10 = .ok (.aload_n 0, 1) := by decide +kernel
theorem dX1_bendAt_11 : decode cX1_bendAt 11 = .ok (.getfield 41, 3) := by decide +kernel
theorem dX1_bendAt_14 : decode cX1_bendAt 14 = .ok (.imul, 1) := by decide +kernel
theorem dX1_bendAt_15 : decode cX1_bendAt 15 = .ok (.aload_n 0, 1) := by decide +kernel
theorem dX1_bendAt_16 : decode cX1_bendAt 16 = .ok (.invokevirtual 54, 3) := by decide +kernel
theorem dX1_bendAt_19 : decode cX1_bendAt 19 = .ok (.imul, 1) := by decide +kernel
theorem dX1_bendAt_20 : decode cX1_bendAt 20 = .ok (.ireturn, 1) := by decide +kernel
theorem dX1_stiffness_0 : decode cX1_stiffness 0 = .ok (.aload_n 0, 1) := by decide +kernel
theorem dX1_stiffness_1 : decode cX1_stiffness 1 = .ok (.getfield 25, 3) := by decide +kernel
theorem dX1_stiffness_4 : decode cX1_stiffness 4 = .ok (.lookupswitch 32 #[(1, 28), (2, 30)], 28) := by decide +kernel
theorem dX1_stiffness_32 : decode cX1_stiffness 32 = .ok (.iconst 1, 1) := by decide +kernel
theorem dX1_stiffness_33 : decode cX1_stiffness 33 = .ok (.ireturn, 1) := by decide +kernel
theorem dX1_stiffness_34 : decode cX1_stiffness 34 = .ok (.iconst 2, 1) := by decide +kernel
theorem dX1_stiffness_35 : decode cX1_stiffness 35 = .ok (.ireturn, 1) := by decide +kernel
theorem dX1_stiffness_36 : decode cX1_stiffness 36 = .ok (.iconst 4, 1) := by decide +kernel
theorem dX1_stiffness_37 : decode cX1_stiffness 37 = .ok (.ireturn, 1) := by decide +kernel
set_option maxRecDepth 20000 in
theorem ggX1_stiffestOpening_X1_bendAt : GoodIn wsX1_stiffestOpening wsX1_bendAt := goodIn_r _ [6, 1, 7, 8, 9, 10, 11, 12, 13, 14, 5, 15, 16, 17, 18, 19, 20, 21, 22, 23] (by decide +kernel) (by decide +kernel)
set_option maxRecDepth 20000 in
theorem gX1_stiffestOpening_X1_bendAt : GoodIn wsX1_stiffestOpening (wsV RX1 58 RX1 yX1_bendAt wsX1_bendAt) := goodIn_app (goodIn_of _ (by decide +kernel)) ggX1_stiffestOpening_X1_bendAt
theorem dX1_stiffestOpening_0 : decode cX1_stiffestOpening 0 = .ok (.iconst 0, 1) := by decide +kernel
theorem dX1_stiffestOpening_1 : decode cX1_stiffestOpening 1 = .ok (.istore_n 1, 1) := by decide +kernel
theorem dX1_stiffestOpening_2 : decode cX1_stiffestOpening 2 = .ok (.iconst 1, 1) := by decide +kernel
theorem dX1_stiffestOpening_3 : decode cX1_stiffestOpening 3 = .ok (.istore_n 2, 1) := by decide +kernel
theorem dX1_stiffestOpening_4 : decode cX1_stiffestOpening 4 = .ok (.iload_n 2, 1) := by decide +kernel
theorem dX1_stiffestOpening_5 : decode cX1_stiffestOpening 5 = .ok (.aload_n 0, 1) := by decide +kernel
theorem dX1_stiffestOpening_6 : decode cX1_stiffestOpening 6 = .ok (.getfield 38, 3) := by decide +kernel
theorem dX1_stiffestOpening_9 : decode cX1_stiffestOpening 9 = .ok (.if_icmp .gt 24, 3) := by decide +kernel
theorem dX1_stiffestOpening_12 : decode cX1_stiffestOpening 12 = .ok (.aload_n 0, 1) := by decide +kernel
theorem dX1_stiffestOpening_13 : decode cX1_stiffestOpening 13 = .ok (.iload_n 2, 1) := by decide +kernel
theorem dX1_stiffestOpening_14 : decode cX1_stiffestOpening 14 = .ok (.invokevirtual 58, 3) := by decide +kernel
theorem dX1_stiffestOpening_17 : decode cX1_stiffestOpening 17 = .ok (.aload_n 0, 1) := by decide +kernel
theorem dX1_stiffestOpening_18 : decode cX1_stiffestOpening 18 = .ok (.iload_n 1, 1) := by decide +kernel
theorem dX1_stiffestOpening_19 : decode cX1_stiffestOpening 19 = .ok (.invokevirtual 58, 3) := by decide +kernel
theorem dX1_stiffestOpening_22 : decode cX1_stiffestOpening 22 = .ok (.if_icmp .le 5, 3) := by decide +kernel
theorem dX1_stiffestOpening_25 : decode cX1_stiffestOpening 25 = .ok (.iload_n 2, 1) := by decide +kernel
theorem dX1_stiffestOpening_26 : decode cX1_stiffestOpening 26 = .ok (.istore_n 1, 1) := by decide +kernel
theorem dX1_stiffestOpening_27 : decode cX1_stiffestOpening 27 = .ok (.iinc 2 1, 3) := by decide +kernel
theorem dX1_stiffestOpening_30 : decode cX1_stiffestOpening 30 = .ok (.goto (-26), 3) := by decide +kernel
theorem dX1_stiffestOpening_33 : decode cX1_stiffestOpening 33 = .ok (.iload_n 1, 1) := by decide +kernel
theorem dX1_stiffestOpening_34 : decode cX1_stiffestOpening 34 = .ok (.ireturn, 1) := by decide +kernel
set_option maxRecDepth 20000 in
theorem ggX1_openingsWithin_X4_swell : GoodIn wsX1_openingsWithin wsX4_swell := goodIn_r _ [7, 8, 9, 10, 11, 6, 12, 13, 14, 15, 16, 17, 18, 19, 20, 21, 22, 44, 45, 46, 47, 48, 49, 50, 51, 52, 53] (by decide +kernel) (by decide +kernel)
set_option maxRecDepth 20000 in
theorem gX1_openingsWithin_X4_swell : GoodIn wsX1_openingsWithin (wsV RX1 62 RX4 yX4_swell wsX4_swell) := goodIn_app (goodIn_of _ (by decide +kernel)) ggX1_openingsWithin_X4_swell
set_option maxRecDepth 20000 in
theorem ggX1_openingsWithin_X1_bendAt : GoodIn wsX1_openingsWithin wsX1_bendAt := goodIn_r _ [27, 2, 28, 29, 16, 30, 31, 32, 33, 34, 26, 35, 36, 37, 38, 39, 40, 41, 42, 43] (by decide +kernel) (by decide +kernel)
set_option maxRecDepth 20000 in
theorem gX1_openingsWithin_X1_bendAt : GoodIn wsX1_openingsWithin (wsV RX1 58 RX1 yX1_bendAt wsX1_bendAt) := goodIn_app (goodIn_of _ (by decide +kernel)) ggX1_openingsWithin_X1_bendAt
theorem dX1_openingsWithin_0 : decode cX1_openingsWithin 0 = .ok (.aload_n 0, 1) := by decide +kernel
theorem dX1_openingsWithin_1 : decode cX1_openingsWithin 1 = .ok (.getfield 34, 3) := by decide +kernel
theorem dX1_openingsWithin_4 : decode cX1_openingsWithin 4 = .ok (.invokevirtual 62, 3) := by decide +kernel
theorem dX1_openingsWithin_7 : decode cX1_openingsWithin 7 = .ok (.istore_n 2, 1) := by decide +kernel
theorem dX1_openingsWithin_8 : decode cX1_openingsWithin 8 = .ok (.iconst 0, 1) := by decide +kernel
theorem dX1_openingsWithin_9 : decode cX1_openingsWithin 9 = .ok (.istore_n 3, 1) := by decide +kernel
theorem dX1_openingsWithin_10 : decode cX1_openingsWithin 10 = .ok (.iconst 0, 1) := by decide +kernel
theorem dX1_openingsWithin_11 : decode cX1_openingsWithin 11 = .ok (.istore 4, 2) := by decide +kernel
theorem dX1_openingsWithin_13 : decode cX1_openingsWithin 13 = .ok (.iload 4, 2) := by decide +kernel
theorem dX1_openingsWithin_15 : decode cX1_openingsWithin 15 = .ok (.aload_n 0, 1) := by decide +kernel
theorem dX1_openingsWithin_16 : decode cX1_openingsWithin 16 = .ok (.getfield 38, 3) := by decide +kernel
theorem dX1_openingsWithin_19 : decode cX1_openingsWithin 19 = .ok (.if_icmp .gt 29, 3) := by decide +kernel
theorem dX1_openingsWithin_22 : decode cX1_openingsWithin 22 = .ok (.iload_n 3, 1) := by decide +kernel
theorem dX1_openingsWithin_23 : decode cX1_openingsWithin 23 = .ok (.aload_n 0, 1) := by decide +kernel
theorem dX1_openingsWithin_24 : decode cX1_openingsWithin 24 = .ok (.iload 4, 2) := by decide +kernel
theorem dX1_openingsWithin_26 : decode cX1_openingsWithin 26 = .ok (.invokevirtual 58, 3) := by decide +kernel
theorem dX1_openingsWithin_29 : decode cX1_openingsWithin 29 = .ok (.iload_n 2, 1) := by decide +kernel
theorem dX1_openingsWithin_30 : decode cX1_openingsWithin 30 = .ok (.iadd, 1) := by decide +kernel
theorem dX1_openingsWithin_31 : decode cX1_openingsWithin 31 = .ok (.iload_n 1, 1) := by decide +kernel
theorem dX1_openingsWithin_32 : decode cX1_openingsWithin 32 = .ok (.if_icmp .gt 7, 3) := by decide +kernel
theorem dX1_openingsWithin_35 : decode cX1_openingsWithin 35 = .ok (.iconst 1, 1) := by decide +kernel
theorem dX1_openingsWithin_36 : decode cX1_openingsWithin 36 = .ok (.goto 4, 3) := by decide +kernel
theorem dX1_openingsWithin_39 : decode cX1_openingsWithin 39 = .ok (.iconst 0, 1) := by decide +kernel
theorem dX1_openingsWithin_40 : decode cX1_openingsWithin 40 = .ok (.iadd, 1) := by decide +kernel
theorem dX1_openingsWithin_41 : decode cX1_openingsWithin 41 = .ok (.istore_n 3, 1) := by decide +kernel
theorem dX1_openingsWithin_42 : decode cX1_openingsWithin 42 = .ok (.iinc 4 1, 3) := by decide +kernel
theorem dX1_openingsWithin_45 : decode cX1_openingsWithin 45 = .ok (.goto (-32), 3) := by decide +kernel
theorem dX1_openingsWithin_48 : decode cX1_openingsWithin 48 = .ok (.iload_n 3, 1) := by decide +kernel
theorem dX1_openingsWithin_49 : decode cX1_openingsWithin 49 = .ok (.ireturn, 1) := by decide +kernel
theorem dX2_init_0 : decode cX2_init 0 = .ok (.aload_n 0, 1) := by decide +kernel
theorem dX2_init_1 : decode cX2_init 1 = .ok (.invokespecial 3, 3) := by decide +kernel
theorem dX2_init_4 : decode cX2_init 4 = .ok (.aload_n 0, 1) := by decide +kernel
theorem dX2_init_5 : decode cX2_init 5 = .ok (.bipush 64, 2) := by decide +kernel
theorem dX2_init_7 : decode cX2_init 7 = .ok (.newarray .int, 2) := by decide +kernel
theorem dX2_init_9 : decode cX2_init 9 = .ok (.putfield 9, 3) := by decide +kernel
theorem dX2_init_12 : decode cX2_init 12 = .ok (.return_, 1) := by decide +kernel
theorem dX2_cellsWith_0 : decode cX2_cellsWith 0 = .ok (.iconst 0, 1) := by decide +kernel
theorem dX2_cellsWith_1 : decode cX2_cellsWith 1 = .ok (.istore_n 2, 1) := by decide +kernel
theorem dX2_cellsWith_2 : decode cX2_cellsWith 2 = .ok (.iconst 0, 1) := by decide +kernel
theorem dX2_cellsWith_3 : decode cX2_cellsWith 3 = .ok (.istore_n 3, 1) := by decide +kernel
theorem dX2_cellsWith_4 : decode cX2_cellsWith 4 = .ok (.iload_n 3, 1) := by decide +kernel
theorem dX2_cellsWith_5 : decode cX2_cellsWith 5 = .ok (.bipush 64, 2) := by decide +kernel
theorem dX2_cellsWith_7 : decode cX2_cellsWith 7 = .ok (.if_icmp .ge 27, 3) := by decide +kernel
theorem dX2_cellsWith_10 : decode cX2_cellsWith 10 = .ok (.iload_n 2, 1) := by decide +kernel
theorem dX2_cellsWith_11 : decode cX2_cellsWith 11 = .ok (.aload_n 0, 1) := by decide +kernel
theorem dX2_cellsWith_12 : decode cX2_cellsWith 12 = .ok (.getfield 9, 3) := by decide +kernel
theorem dX2_cellsWith_15 : decode cX2_cellsWith 15 = .ok (.iload_n 3, 1) := by decide +kernel
theorem dX2_cellsWith_16 : decode cX2_cellsWith 16 = .ok (.iaload, 1) := by decide +kernel
theorem dX2_cellsWith_17 : decode cX2_cellsWith 17 = .ok (.iload_n 1, 1) := by decide +kernel
theorem dX2_cellsWith_18 : decode cX2_cellsWith 18 = .ok (.if_icmp .ne 7, 3) := by decide +kernel
theorem dX2_cellsWith_21 : decode cX2_cellsWith 21 = .ok (.iconst 1, 1) := by decide +kernel
theorem dX2_cellsWith_22 : decode cX2_cellsWith 22 = .ok (.goto 4, 3) := by decide +kernel
theorem dX2_cellsWith_25 : decode cX2_cellsWith 25 = .ok (.iconst 0, 1) := by decide +kernel
theorem dX2_cellsWith_26 : decode cX2_cellsWith 26 = .ok (.iadd, 1) := by decide +kernel
theorem dX2_cellsWith_27 : decode cX2_cellsWith 27 = .ok (.istore_n 2, 1) := by decide +kernel
theorem dX2_cellsWith_28 : decode cX2_cellsWith 28 = .ok (.iinc 3 1, 3) := by decide +kernel
theorem dX2_cellsWith_31 : decode cX2_cellsWith 31 = .ok (.goto (-27), 3) := by decide +kernel
theorem dX2_cellsWith_34 : decode cX2_cellsWith 34 = .ok (.iload_n 2, 1) := by decide +kernel
theorem dX2_cellsWith_35 : decode cX2_cellsWith 35 = .ok (.ireturn, 1) := by decide +kernel
theorem dX3_init_0 : decode cX3_init 0 = .ok (.aload_n 0, 1) := by decide +kernel
theorem dX3_init_1 : decode cX3_init 1 = .ok (.invokespecial 3, 3) := by decide +kernel
theorem dX3_init_4 : decode cX3_init 4 = .ok (.aload_n 0, 1) := by decide +kernel
theorem dX3_init_5 : decode cX3_init 5 = .ok (.bipush 20, 2) := by decide +kernel
theorem dX3_init_7 : decode cX3_init 7 = .ok (.newarray .int, 2) := by decide +kernel
theorem dX3_init_9 : decode cX3_init 9 = .ok (.putfield 9, 3) := by decide +kernel
theorem dX3_init_12 : decode cX3_init 12 = .ok (.return_, 1) := by decide +kernel
theorem dX3_add_0 : decode cX3_add 0 = .ok (.aload_n 0, 1) := by decide +kernel
theorem dX3_add_1 : decode cX3_add 1 = .ok (.getfield 15, 3) := by decide +kernel
theorem dX3_add_4 : decode cX3_add 4 = .ok (.bipush 20, 2) := by decide +kernel
theorem dX3_add_6 : decode cX3_add 6 = .ok (.if_icmp .ge 23, 3) := by decide +kernel
theorem dX3_add_9 : decode cX3_add 9 = .ok (.aload_n 0, 1) := by decide +kernel
theorem dX3_add_10 : decode cX3_add 10 = .ok (.getfield 9, 3) := by decide +kernel
theorem dX3_add_13 : decode cX3_add 13 = .ok (.aload_n 0, 1) := by decide +kernel
theorem dX3_add_14 : decode cX3_add 14 = .ok (.getfield 15, 3) := by decide +kernel
theorem dX3_add_17 : decode cX3_add 17 = .ok (.iload_n 1, 1) := by decide +kernel
theorem dX3_add_18 : decode cX3_add 18 = .ok (.iastore, 1) := by decide +kernel
theorem dX3_add_19 : decode cX3_add 19 = .ok (.aload_n 0, 1) := by decide +kernel
theorem dX3_add_20 : decode cX3_add 20 = .ok (.dup, 1) := by decide +kernel
theorem dX3_add_21 : decode cX3_add 21 = .ok (.getfield 15, 3) := by decide +kernel
theorem dX3_add_24 : decode cX3_add 24 = .ok (.iconst 1, 1) := by decide +kernel
theorem dX3_add_25 : decode cX3_add 25 = .ok (.iadd, 1) := by decide +kernel
theorem dX3_add_26 : decode cX3_add 26 = .ok (.putfield 15, 3) := by decide +kernel
theorem dX3_add_29 : decode cX3_add 29 = .ok (.return_, 1) := by decide +kernel
theorem dX3_latest_0 : decode cX3_latest 0 = .ok (.aload_n 0, 1) := by decide +kernel
theorem dX3_latest_1 : decode cX3_latest 1 = .ok (.getfield 15, 3) := by decide +kernel
theorem dX3_latest_4 : decode cX3_latest 4 = .ok (.ifCond .le 17, 3) := by decide +kernel
theorem dX3_latest_7 : decode cX3_latest 7 = .ok (.aload_n 0, 1) := by decide +kernel
theorem dX3_latest_8 : decode cX3_latest 8 = .ok (.getfield 9, 3) := by decide +kernel
theorem dX3_latest_11 : decode cX3_latest 11 = .ok (.aload_n 0, 1) := by decide +kernel
theorem dX3_latest_12 : decode cX3_latest 12 = .ok (.getfield 15, 3) := by decide +kernel
theorem dX3_latest_15 : decode cX3_latest 15 = .ok (.iconst 1, 1) := by decide +kernel
theorem dX3_latest_16 : decode cX3_latest 16 = .ok (.isub, 1) := by decide +kernel
theorem dX3_latest_17 : decode cX3_latest 17 = .ok (.iaload, 1) := by decide +kernel
theorem dX3_latest_18 : decode cX3_latest 18 = .ok (.goto 4, 3) := by decide +kernel
theorem dX3_latest_21 : decode cX3_latest 21 = .ok (.iconst (-1), 1) := by decide +kernel
theorem dX3_latest_22 : decode cX3_latest 22 = .ok (.ireturn, 1) := by decide +kernel
theorem dX3_dropLatest_0 : decode cX3_dropLatest 0 = .ok (.aload_n 0, 1) := by decide +kernel
theorem dX3_dropLatest_1 : decode cX3_dropLatest 1 = .ok (.getfield 15, 3) := by decide +kernel
theorem dX3_dropLatest_4 : decode cX3_dropLatest 4 = .ok (.ifCond .le 13, 3) := by decide +kernel
theorem dX3_dropLatest_7 : decode cX3_dropLatest 7 = .ok (.aload_n 0, 1) := by decide +kernel
theorem dX3_dropLatest_8 : decode cX3_dropLatest 8 = .ok (.dup, 1) := by decide +kernel
theorem dX3_dropLatest_9 : decode cX3_dropLatest 9 = .ok (.getfield 15, 3) := by decide +kernel
theorem dX3_dropLatest_12 : decode cX3_dropLatest 12 = .ok (.iconst 1, 1) := by decide +kernel
theorem dX3_dropLatest_13 : decode cX3_dropLatest 13 = .ok (.isub, 1) := by decide +kernel
theorem dX3_dropLatest_14 : decode cX3_dropLatest 14 = .ok (.putfield 15, 3) := by decide +kernel
theorem dX3_dropLatest_17 : decode cX3_dropLatest 17 = .ok (.return_, 1) := by decide +kernel
theorem dX4_init_0 : decode cX4_init 0 = .ok (.aload_n 0, 1) := by decide +kernel
theorem dX4_init_1 : decode cX4_init 1 = .ok (.invokespecial 3, 3) := by decide +kernel
theorem dX4_init_4 : decode cX4_init 4 = .ok (.aload_n 0, 1) := by decide +kernel
theorem dX4_init_5 : decode cX4_init 5 = .ok (.bipush 40, 2) := by decide +kernel
theorem dX4_init_7 : decode cX4_init 7 = .ok (.newarray .int, 2) := by decide +kernel
theorem dX4_init_9 : decode cX4_init 9 = .ok (.putfield 9, 3) := by decide +kernel
theorem dX4_init_12 : decode cX4_init 12 = .ok (.aload_n 0, 1) := by decide +kernel
theorem dX4_init_13 : decode cX4_init 13 = .ok (.bipush 8, 2) := by decide +kernel
theorem dX4_init_15 : decode cX4_init 15 = .ok (.newarray .int, 2) := by decide +kernel
theorem dX4_init_17 : decode cX4_init 17 = .ok (.putfield 15, 3) := by decide +kernel
theorem dX4_init_20 : decode cX4_init 20 = .ok (.aload_n 0, 1) := by decide +kernel
theorem dX4_init_21 : decode cX4_init 21 = .ok (.sipush 200, 3) := by decide +kernel
theorem dX4_init_24 : decode cX4_init 24 = .ok (.newarray .int, 2) := by decide +kernel
theorem dX4_init_26 : decode cX4_init 26 = .ok (.putfield 18, 3) := by decide +kernel
theorem dX4_init_29 : decode cX4_init 29 = .ok (.aload_n 0, 1) := by decide +kernel
theorem dX4_init_30 : decode cX4_init 30 = .ok (.iload_n 1, 1) := by decide +kernel
theorem dX4_init_31 : decode cX4_init 31 = .ok (.putfield 21, 3) := by decide +kernel
theorem dX4_init_34 : decode cX4_init 34 = .ok (.aload_n 0, 1) := by decide +kernel
theorem dX4_init_35 : decode cX4_init 35 = .ok (.iload_n 2, 1) := by decide +kernel
theorem dX4_init_36 : decode cX4_init 36 = .ok (.putfield 25, 3) := by decide +kernel
theorem dX4_init_39 : decode cX4_init 39 = .ok (.return_, 1) := by decide +kernel
theorem dX4_allows_0 : decode cX4_allows 0 = .ok (.aload_n 0, 1) := by decide +kernel
theorem dX4_allows_1 : decode cX4_allows 1 = .ok (.getfield 28, 3) := by decide +kernel
theorem dX4_allows_4 : decode cX4_allows 4 = .ok (.sipush 200, 3) := by decide +kernel
theorem dX4_allows_7 : decode cX4_allows 7 = .ok (.if_icmp .lt 5, 3) := by decide +kernel
theorem dX4_allows_10 : decode cX4_allows 10 = .ok (.iconst 0, 1) := by decide +kernel
theorem dX4_allows_11 : decode cX4_allows 11 = .ok (.ireturn, 1) := by decide +kernel
theorem dX4_allows_12 : decode cX4_allows 12 = .ok (.iload_n 1, 1) := by decide +kernel
theorem dX4_allows_13 : decode cX4_allows 13 = .ok (.tableswitch 109 1 4 #[31, 50, 63, 89], 31) := by decide +kernel
theorem dX4_allows_44 : decode cX4_allows 44 = .ok (.aload_n 0, 1) := by decide +kernel
theorem dX4_allows_45 : decode cX4_allows 45 = .ok (.getfield 31, 3) := by decide +kernel
theorem dX4_allows_48 : decode cX4_allows 48 = .ok (.iconst 1, 1) := by decide +kernel
theorem dX4_allows_49 : decode cX4_allows 49 = .ok (.iadd, 1) := by decide +kernel
theorem dX4_allows_50 : decode cX4_allows 50 = .ok (.aload_n 0, 1) := by decide +kernel
theorem dX4_allows_51 : decode cX4_allows 51 = .ok (.getfield 25, 3) := by decide +kernel
theorem dX4_allows_54 : decode cX4_allows 54 = .ok (.if_icmp .ge 7, 3) := by decide +kernel
theorem dX4_allows_57 : decode cX4_allows 57 = .ok (.iconst 1, 1) := by decide +kernel
theorem dX4_allows_58 : decode cX4_allows 58 = .ok (.goto 4, 3) := by decide +kernel
theorem dX4_allows_61 : decode cX4_allows 61 = .ok (.iconst 0, 1) := by decide +kernel
theorem dX4_allows_62 : decode cX4_allows 62 = .ok (.ireturn, 1) := by decide +kernel
theorem dX4_allows_63 : decode cX4_allows 63 = .ok (.aload_n 0, 1) := by decide +kernel
theorem dX4_allows_64 : decode cX4_allows 64 = .ok (.getfield 31, 3) := by decide +kernel
theorem dX4_allows_67 : decode cX4_allows 67 = .ok (.ifCond .le 7, 3) := by decide +kernel
theorem dX4_allows_70 : decode cX4_allows 70 = .ok (.iconst 1, 1) := by decide +kernel
theorem dX4_allows_71 : decode cX4_allows 71 = .ok (.goto 4, 3) := by decide +kernel
theorem dX4_allows_74 : decode cX4_allows 74 = .ok (.iconst 0, 1) := by decide +kernel
theorem dX4_allows_75 : decode cX4_allows 75 = .ok (.ireturn, 1) := by decide +kernel
theorem dX4_allows_76 : decode cX4_allows 76 = .ok (.aload_n 0, 1) := by decide +kernel
theorem dX4_allows_77 : decode cX4_allows 77 = .ok (.getfield 34, 3) := by decide +kernel
theorem dX4_allows_80 : decode cX4_allows 80 = .ok (.ifCond .ne 20, 3) := by decide +kernel
theorem dX4_allows_83 : decode cX4_allows 83 = .ok (.aload_n 0, 1) := by decide +kernel
theorem dX4_allows_84 : decode cX4_allows 84 = .ok (.getfield 38, 3) := by decide +kernel
theorem dX4_allows_87 : decode cX4_allows 87 = .ok (.iconst 1, 1) := by decide +kernel
theorem dX4_allows_88 : decode cX4_allows 88 = .ok (.iadd, 1) := by decide +kernel
theorem dX4_allows_89 : decode cX4_allows 89 = .ok (.aload_n 0, 1) := by decide +kernel
theorem dX4_allows_90 : decode cX4_allows 90 = .ok (.getfield 21, 3) := by decide +kernel
theorem dX4_allows_93 : decode cX4_allows 93 = .ok (.if_icmp .ge 7, 3) := by decide +kernel
theorem dX4_allows_96 : decode cX4_allows 96 = .ok (.iconst 1, 1) := by decide +kernel
theorem dX4_allows_97 : decode cX4_allows 97 = .ok (.goto 4, 3) := by decide +kernel
theorem dX4_allows_100 : decode cX4_allows 100 = .ok (.iconst 0, 1) := by decide +kernel
theorem dX4_allows_101 : decode cX4_allows 101 = .ok (.ireturn, 1) := by decide +kernel
theorem dX4_allows_102 : decode cX4_allows 102 = .ok (.aload_n 0, 1) := by decide +kernel
theorem dX4_allows_103 : decode cX4_allows 103 = .ok (.getfield 34, 3) := by decide +kernel
theorem dX4_allows_106 : decode cX4_allows 106 = .ok (.ifCond .ne 14, 3) := by decide +kernel
theorem dX4_allows_109 : decode cX4_allows 109 = .ok (.aload_n 0, 1) := by decide +kernel
theorem dX4_allows_110 : decode cX4_allows 110 = .ok (.getfield 38, 3) := by decide +kernel
theorem dX4_allows_113 : decode cX4_allows 113 = .ok (.ifCond .le 7, 3) := by decide +kernel
theorem dX4_allows_116 : decode cX4_allows 116 = .ok (.iconst 1, 1) := by decide +kernel
theorem dX4_allows_117 : decode cX4_allows 117 = .ok (.goto 4, 3) := by decide +kernel
theorem dX4_allows_120 : decode cX4_allows 120 = .ok (.iconst 0, 1) := by decide +kernel
theorem dX4_allows_121 : decode cX4_allows 121 = .ok (.ireturn, 1) := by decide +kernel
theorem dX4_allows_122 : decode cX4_allows 122 = .ok (.iconst 1, 1) := by decide +kernel
theorem dX4_allows_123 : decode cX4_allows 123 = .ok (.ireturn, 1) := by decide +kernel
set_option maxRecDepth 20000 in
theorem ggX4_make_X4_go : GoodIn wsX4_make wsX4_go := goodIn_r _ [7, 8, 9, 10, 11, 12, 13, 6, 14, 15, 16, 17, 18, 19, 20, 21, 22, 23, 24, 25, 26, 27, 28, 29, 30, 31] (by decide +kernel) (by decide +kernel)
set_option maxRecDepth 20000 in
theorem gX4_make_X4_go : GoodIn wsX4_make (wsV RX4 41 RX4 yX4_go wsX4_go) := goodIn_app (goodIn_of _ (by decide +kernel)) ggX4_make_X4_go
theorem dX4_make_0 : decode cX4_make 0 = .ok (.aload_n 0, 1) := by decide +kernel
theorem dX4_make_1 : decode cX4_make 1 = .ok (.getfield 28, 3) := by decide +kernel
theorem dX4_make_4 : decode cX4_make 4 = .ok (.sipush 200, 3) := by decide +kernel
theorem dX4_make_7 : decode cX4_make 7 = .ok (.if_icmp .ge 29, 3) := by decide +kernel
theorem dX4_make_10 : decode cX4_make 10 = .ok (.aload_n 0, 1) := by decide +kernel
theorem dX4_make_11 : decode cX4_make 11 = .ok (.getfield 18, 3) := by decide +kernel
theorem dX4_make_14 : decode cX4_make 14 = .ok (.aload_n 0, 1) := by decide +kernel
theorem dX4_make_15 : decode cX4_make 15 = .ok (.getfield 28, 3) := by decide +kernel
theorem dX4_make_18 : decode cX4_make 18 = .ok (.iload_n 1, 1) := by decide +kernel
theorem dX4_make_19 : decode cX4_make 19 = .ok (.iastore, 1) := by decide +kernel
theorem dX4_make_20 : decode cX4_make 20 = .ok (.aload_n 0, 1) := by decide +kernel
theorem dX4_make_21 : decode cX4_make 21 = .ok (.dup, 1) := by decide +kernel
theorem dX4_make_22 : decode cX4_make 22 = .ok (.getfield 28, 3) := by decide +kernel
theorem dX4_make_25 : decode cX4_make 25 = .ok (.iconst 1, 1) := by decide +kernel
theorem dX4_make_26 : decode cX4_make 26 = .ok (.iadd, 1) := by decide +kernel
theorem dX4_make_27 : decode cX4_make 27 = .ok (.putfield 28, 3) := by decide +kernel
theorem dX4_make_30 : decode cX4_make 30 = .ok (.aload_n 0, 1) := by decide +kernel
theorem dX4_make_31 : decode cX4_make 31 = .ok (.iload_n 1, 1) := by decide +kernel
theorem dX4_make_32 : decode cX4_make 32 = .ok (.iconst 1, 1) := by decide +kernel
theorem dX4_make_33 : decode cX4_make 33 = .ok (.invokevirtual 41, 3) := by decide +kernel
theorem dX4_make_36 : decode cX4_make 36 = .ok (.return_, 1) := by decide +kernel
set_option maxRecDepth 20000 in
theorem ggX4_takeBack_X4_opposite : GoodIn wsX4_takeBack wsX4_opposite := goodIn_r _ [6] (by decide +kernel) (by decide +kernel)
set_option maxRecDepth 20000 in
theorem gX4_takeBack_X4_opposite : GoodIn wsX4_takeBack (va_wsS RX4 45 yX4_opposite wsX4_opposite) := goodIn_app (goodIn_of _ (by decide +kernel)) ggX4_takeBack_X4_opposite
set_option maxRecDepth 20000 in
theorem ggX4_takeBack_X4_go : GoodIn wsX4_takeBack wsX4_go := goodIn_r _ [10, 11, 12, 13, 14, 15, 16, 5, 17, 18, 19, 20, 21, 22, 23, 24, 25, 26, 27, 28, 29, 30, 31, 32, 33, 34] (by decide +kernel) (by decide +kernel)
set_option maxRecDepth 20000 in
theorem gX4_takeBack_X4_go : GoodIn wsX4_takeBack (wsV RX4 41 RX4 yX4_go wsX4_go) := goodIn_app (goodIn_of _ (by decide +kernel)) ggX4_takeBack_X4_go
theorem dX4_takeBack_0 : decode cX4_takeBack 0 = .ok (.aload_n 0, 1) := by decide +kernel
theorem dX4_takeBack_1 : decode cX4_takeBack 1 = .ok (.getfield 28, 3) := by decide +kernel
theorem dX4_takeBack_4 : decode cX4_takeBack 4 = .ok (.ifCond .le 30, 3) := by decide +kernel
theorem dX4_takeBack_7 : decode cX4_takeBack 7 = .ok (.aload_n 0, 1) := by decide +kernel
theorem dX4_takeBack_8 : decode cX4_takeBack 8 = .ok (.dup, 1) := by decide +kernel
theorem dX4_takeBack_9 : decode cX4_takeBack 9 = .ok (.getfield 28, 3) := by decide +kernel
theorem dX4_takeBack_12 : decode cX4_takeBack 12 = .ok (.iconst 1, 1) := by decide +kernel
theorem dX4_takeBack_13 : decode cX4_takeBack 13 = .ok (.isub, 1) := by decide +kernel
theorem dX4_takeBack_14 : decode cX4_takeBack 14 = .ok (.putfield 28, 3) := by decide +kernel
theorem dX4_takeBack_17 : decode cX4_takeBack 17 = .ok (.aload_n 0, 1) := by decide +kernel
theorem dX4_takeBack_18 : decode cX4_takeBack 18 = .ok (.aload_n 0, 1) := by decide +kernel
theorem dX4_takeBack_19 : decode cX4_takeBack 19 = .ok (.getfield 18, 3) := by decide +kernel
theorem dX4_takeBack_22 : decode cX4_takeBack 22 = .ok (.aload_n 0, 1) := by decide +kernel
theorem dX4_takeBack_23 : decode cX4_takeBack 23 = .ok (.getfield 28, 3) := by decide +kernel
theorem dX4_takeBack_26 : decode cX4_takeBack 26 = .ok (.iaload, 1) := by decide +kernel
theorem dX4_takeBack_27 : decode cX4_takeBack 27 = .ok (.invokestatic 45, 3) := by decide +kernel
theorem dX4_takeBack_30 : decode cX4_takeBack 30 = .ok (.iconst (-1), 1) := by decide +kernel
theorem dX4_takeBack_31 : decode cX4_takeBack 31 = .ok (.invokevirtual 41, 3) := by decide +kernel
theorem dX4_takeBack_34 : decode cX4_takeBack 34 = .ok (.return_, 1) := by decide +kernel
theorem dX4_opposite_0 : decode cX4_opposite 0 = .ok (.iload_n 0, 1) := by decide +kernel
theorem dX4_opposite_1 : decode cX4_opposite 1 = .ok (.tableswitch 39 1 4 #[31, 33, 35, 37], 31) := by decide +kernel
theorem dX4_opposite_32 : decode cX4_opposite 32 = .ok (.iconst 2, 1) := by decide +kernel
theorem dX4_opposite_33 : decode cX4_opposite 33 = .ok (.ireturn, 1) := by decide +kernel
theorem dX4_opposite_34 : decode cX4_opposite 34 = .ok (.iconst 1, 1) := by decide +kernel
theorem dX4_opposite_35 : decode cX4_opposite 35 = .ok (.ireturn, 1) := by decide +kernel
theorem dX4_opposite_36 : decode cX4_opposite 36 = .ok (.iconst 4, 1) := by decide +kernel
theorem dX4_opposite_37 : decode cX4_opposite 37 = .ok (.ireturn, 1) := by decide +kernel
theorem dX4_opposite_38 : decode cX4_opposite 38 = .ok (.iconst 3, 1) := by decide +kernel
theorem dX4_opposite_39 : decode cX4_opposite 39 = .ok (.ireturn, 1) := by decide +kernel
theorem dX4_opposite_40 : decode cX4_opposite 40 = .ok (.iconst 0, 1) := by decide +kernel
theorem dX4_opposite_41 : decode cX4_opposite 41 = .ok (.ireturn, 1) := by decide +kernel
set_option maxRecDepth 20000 in
theorem ggX4_go_X4_pass : GoodIn wsX4_go wsX4_pass := goodIn_r _ [8, 9, 2, 3, 10, 16, 17, 18, 19, 20, 21, 22, 23, 24, 25] (by decide +kernel) (by decide +kernel)
set_option maxRecDepth 20000 in
theorem gX4_go_X4_pass : GoodIn wsX4_go (wsV RX4 49 RX4 yX4_pass wsX4_pass) := goodIn_app (goodIn_of _ (by decide +kernel)) ggX4_go_X4_pass
set_option maxRecDepth 20000 in
theorem ggX4_go_X4_link : GoodIn wsX4_go wsX4_link := goodIn_r _ [14, 9, 15, 16, 17, 18, 19, 20, 21, 22, 23, 24, 25] (by decide +kernel) (by decide +kernel)
set_option maxRecDepth 20000 in
theorem gX4_go_X4_link : GoodIn wsX4_go (wsV RX4 52 RX4 yX4_link wsX4_link) := goodIn_app (goodIn_of _ (by decide +kernel)) ggX4_go_X4_link
theorem dX4_go_0 : decode cX4_go 0 = .ok (.iload_n 1, 1) := by decide +kernel
theorem dX4_go_1 : decode cX4_go 1 = .ok (.tableswitch 119 1 4 #[31, 53, 75, 97], 31) := by decide +kernel
theorem dX4_go_32 : decode cX4_go 32 = .ok (.aload_n 0, 1) := by decide +kernel
theorem dX4_go_33 : decode cX4_go 33 = .ok (.aload_n 0, 1) := by decide +kernel
theorem dX4_go_34 : decode cX4_go 34 = .ok (.getfield 31, 3) := by decide +kernel
theorem dX4_go_37 : decode cX4_go 37 = .ok (.iload_n 2, 1) := by decide +kernel
theorem dX4_go_38 : decode cX4_go 38 = .ok (.invokevirtual 49, 3) := by decide +kernel
theorem dX4_go_41 : decode cX4_go 41 = .ok (.aload_n 0, 1) := by decide +kernel
theorem dX4_go_42 : decode cX4_go 42 = .ok (.dup, 1) := by decide +kernel
theorem dX4_go_43 : decode cX4_go 43 = .ok (.getfield 31, 3) := by decide +kernel
theorem dX4_go_46 : decode cX4_go 46 = .ok (.iconst 1, 1) := by decide +kernel
theorem dX4_go_47 : decode cX4_go 47 = .ok (.iadd, 1) := by decide +kernel
theorem dX4_go_48 : decode cX4_go 48 = .ok (.putfield 31, 3) := by decide +kernel
theorem dX4_go_51 : decode cX4_go 51 = .ok (.goto 85, 3) := by decide +kernel
theorem dX4_go_54 : decode cX4_go 54 = .ok (.aload_n 0, 1) := by decide +kernel
theorem dX4_go_55 : decode cX4_go 55 = .ok (.dup, 1) := by decide +kernel
theorem dX4_go_56 : decode cX4_go 56 = .ok (.getfield 31, 3) := by decide +kernel
theorem dX4_go_59 : decode cX4_go 59 = .ok (.iconst 1, 1) := by decide +kernel
theorem dX4_go_60 : decode cX4_go 60 = .ok (.isub, 1) := by decide +kernel
theorem dX4_go_61 : decode cX4_go 61 = .ok (.putfield 31, 3) := by decide +kernel
theorem dX4_go_64 : decode cX4_go 64 = .ok (.aload_n 0, 1) := by decide +kernel
theorem dX4_go_65 : decode cX4_go 65 = .ok (.aload_n 0, 1) := by decide +kernel
theorem dX4_go_66 : decode cX4_go 66 = .ok (.getfield 31, 3) := by decide +kernel
theorem dX4_go_69 : decode cX4_go 69 = .ok (.iload_n 2, 1) := by decide +kernel
theorem dX4_go_70 : decode cX4_go 70 = .ok (.invokevirtual 49, 3) := by decide +kernel
theorem dX4_go_73 : decode cX4_go 73 = .ok (.goto 63, 3) := by decide +kernel
theorem dX4_go_76 : decode cX4_go 76 = .ok (.aload_n 0, 1) := by decide +kernel
theorem dX4_go_77 : decode cX4_go 77 = .ok (.aload_n 0, 1) := by decide +kernel
theorem dX4_go_78 : decode cX4_go 78 = .ok (.getfield 38, 3) := by decide +kernel
theorem dX4_go_81 : decode cX4_go 81 = .ok (.iload_n 2, 1) := by decide +kernel
theorem dX4_go_82 : decode cX4_go 82 = .ok (.invokevirtual 52, 3) := by decide +kernel
theorem dX4_go_85 : decode cX4_go 85 = .ok (.aload_n 0, 1) := by decide +kernel
theorem dX4_go_86 : decode cX4_go 86 = .ok (.dup, 1) := by decide +kernel
theorem dX4_go_87 : decode cX4_go 87 = .ok (.getfield 38, 3) := by decide +kernel
theorem dX4_go_90 : decode cX4_go 90 = .ok (.iconst 1, 1) := by decide +kernel
theorem dX4_go_91 : decode cX4_go 91 = .ok (.iadd, 1) := by decide +kernel
theorem dX4_go_92 : decode cX4_go 92 = .ok (.putfield 38, 3) := by decide +kernel
theorem dX4_go_95 : decode cX4_go 95 = .ok (.goto 41, 3) := by decide +kernel
theorem dX4_go_98 : decode cX4_go 98 = .ok (.aload_n 0, 1) := by decide +kernel
theorem dX4_go_99 : decode cX4_go 99 = .ok (.dup, 1) := by decide +kernel
theorem dX4_go_100 : decode cX4_go 100 = .ok (.getfield 38, 3) := by decide +kernel
theorem dX4_go_103 : decode cX4_go 103 = .ok (.iconst 1, 1) := by decide +kernel
theorem dX4_go_104 : decode cX4_go 104 = .ok (.isub, 1) := by decide +kernel
theorem dX4_go_105 : decode cX4_go 105 = .ok (.putfield 38, 3) := by decide +kernel
theorem dX4_go_108 : decode cX4_go 108 = .ok (.aload_n 0, 1) := by decide +kernel
theorem dX4_go_109 : decode cX4_go 109 = .ok (.aload_n 0, 1) := by decide +kernel
theorem dX4_go_110 : decode cX4_go 110 = .ok (.getfield 38, 3) := by decide +kernel
theorem dX4_go_113 : decode cX4_go 113 = .ok (.iload_n 2, 1) := by decide +kernel
theorem dX4_go_114 : decode cX4_go 114 = .ok (.invokevirtual 52, 3) := by decide +kernel
theorem dX4_go_117 : decode cX4_go 117 = .ok (.goto 19, 3) := by decide +kernel
theorem dX4_go_120 : decode cX4_go 120 = .ok (.aload_n 0, 1) := by decide +kernel
theorem dX4_go_121 : decode cX4_go 121 = .ok (.aload_n 0, 1) := by decide +kernel
theorem dX4_go_122 : decode cX4_go 122 = .ok (.getfield 34, 3) := by decide +kernel
theorem dX4_go_125 : decode cX4_go 125 = .ok (.ifCond .ne 7, 3) := by decide +kernel
theorem dX4_go_128 : decode cX4_go 128 = .ok (.iconst 1, 1) := by decide +kernel
theorem dX4_go_129 : decode cX4_go 129 = .ok (.goto 4, 3) := by decide +kernel
theorem dX4_go_132 : decode cX4_go 132 = .ok (.iconst 0, 1) := by decide +kernel
theorem dX4_go_133 : decode cX4_go 133 = .ok (.putfield 34, 3) := by decide +kernel
theorem dX4_go_136 : decode cX4_go 136 = .ok (.return_, 1) := by decide +kernel
theorem dX4_pass_0 : decode cX4_pass 0 = .ok (.aload_n 0, 1) := by decide +kernel
theorem dX4_pass_1 : decode cX4_pass 1 = .ok (.dup, 1) := by decide +kernel
theorem dX4_pass_2 : decode cX4_pass 2 = .ok (.getfield 55, 3) := by decide +kernel
theorem dX4_pass_5 : decode cX4_pass 5 = .ok (.iload_n 2, 1) := by decide +kernel
theorem dX4_pass_6 : decode cX4_pass 6 = .ok (.bipush 10, 2) := by decide +kernel
theorem dX4_pass_8 : decode cX4_pass 8 = .ok (.imul, 1) := by decide +kernel
theorem dX4_pass_9 : decode cX4_pass 9 = .ok (.iadd, 1) := by decide +kernel
theorem dX4_pass_10 : decode cX4_pass 10 = .ok (.putfield 55, 3) := by decide +kernel
theorem dX4_pass_13 : decode cX4_pass 13 = .ok (.aload_n 0, 1) := by decide +kernel
theorem dX4_pass_14 : decode cX4_pass 14 = .ok (.getfield 38, 3) := by decide +kernel
theorem dX4_pass_17 : decode cX4_pass 17 = .ok (.iconst 5, 1) := by decide +kernel
theorem dX4_pass_18 : decode cX4_pass 18 = .ok (.imul, 1) := by decide +kernel
theorem dX4_pass_19 : decode cX4_pass 19 = .ok (.iload_n 1, 1) := by decide +kernel
theorem dX4_pass_20 : decode cX4_pass 20 = .ok (.iadd, 1) := by decide +kernel
theorem dX4_pass_21 : decode cX4_pass 21 = .ok (.istore_n 3, 1) := by decide +kernel
theorem dX4_pass_22 : decode cX4_pass 22 = .ok (.aload_n 0, 1) := by decide +kernel
theorem dX4_pass_23 : decode cX4_pass 23 = .ok (.getfield 34, 3) := by decide +kernel
theorem dX4_pass_26 : decode cX4_pass 26 = .ok (.ifCond .eq 26, 3) := by decide +kernel
theorem dX4_pass_29 : decode cX4_pass 29 = .ok (.iload_n 3, 1) := by decide +kernel
theorem dX4_pass_30 : decode cX4_pass 30 = .ok (.ifCond .lt 22, 3) := by decide +kernel
theorem dX4_pass_33 : decode cX4_pass 33 = .ok (.iload_n 3, 1) := by decide +kernel
theorem dX4_pass_34 : decode cX4_pass 34 = .ok (.aload_n 0, 1) := by decide +kernel
theorem dX4_pass_35 : decode cX4_pass 35 = .ok (.getfield 9, 3) := by decide +kernel
theorem dX4_pass_38 : decode cX4_pass 38 = .ok (.arraylength, 1) := by decide +kernel
theorem dX4_pass_39 : decode cX4_pass 39 = .ok (.if_icmp .ge 13, 3) := by decide +kernel
theorem dX4_pass_42 : decode cX4_pass 42 = .ok (.aload_n 0, 1) := by decide +kernel
theorem dX4_pass_43 : decode cX4_pass 43 = .ok (.getfield 9, 3) := by decide +kernel
theorem dX4_pass_46 : decode cX4_pass 46 = .ok (.iload_n 3, 1) := by decide +kernel
theorem dX4_pass_47 : decode cX4_pass 47 = .ok (.dup2, 1) := by decide +kernel
theorem dX4_pass_48 : decode cX4_pass 48 = .ok (.iaload, 1) := by decide +kernel
theorem dX4_pass_49 : decode cX4_pass 49 = .ok (.iload_n 2, 1) := by decide +kernel
theorem dX4_pass_50 : decode cX4_pass 50 = .ok (.iadd, 1) := by decide +kernel
theorem dX4_pass_51 : decode cX4_pass 51 = .ok (.iastore, 1) := by decide +kernel
theorem dX4_pass_52 : decode cX4_pass 52 = .ok (.return_, 1) := by decide +kernel
theorem dX4_link_0 : decode cX4_link 0 = .ok (.aload_n 0, 1) := by decide +kernel
theorem dX4_link_1 : decode cX4_link 1 = .ok (.dup, 1) := by decide +kernel
theorem dX4_link_2 : decode cX4_link 2 = .ok (.getfield 55, 3) := by decide +kernel
theorem dX4_link_5 : decode cX4_link 5 = .ok (.iload_n 2, 1) := by decide +kernel
theorem dX4_link_6 : decode cX4_link 6 = .ok (.iconst 4, 1) := by decide +kernel
theorem dX4_link_7 : decode cX4_link 7 = .ok (.imul, 1) := by decide +kernel
theorem dX4_link_8 : decode cX4_link 8 = .ok (.iadd, 1) := by decide +kernel
theorem dX4_link_9 : decode cX4_link 9 = .ok (.putfield 55, 3) := by decide +kernel
theorem dX4_link_12 : decode cX4_link 12 = .ok (.iload_n 1, 1) := by decide +kernel
theorem dX4_link_13 : decode cX4_link 13 = .ok (.ifCond .lt 22, 3) := by decide +kernel
theorem dX4_link_16 : decode cX4_link 16 = .ok (.iload_n 1, 1) := by decide +kernel
theorem dX4_link_17 : decode cX4_link 17 = .ok (.aload_n 0, 1) := by decide +kernel
theorem dX4_link_18 : decode cX4_link 18 = .ok (.getfield 15, 3) := by decide +kernel
theorem dX4_link_21 : decode cX4_link 21 = .ok (.arraylength, 1) := by decide +kernel
theorem dX4_link_22 : decode cX4_link 22 = .ok (.if_icmp .ge 13, 3) := by decide +kernel
theorem dX4_link_25 : decode cX4_link 25 = .ok (.aload_n 0, 1) := by decide +kernel
theorem dX4_link_26 : decode cX4_link 26 = .ok (.getfield 15, 3) := by decide +kernel
theorem dX4_link_29 : decode cX4_link 29 = .ok (.iload_n 1, 1) := by decide +kernel
theorem dX4_link_30 : decode cX4_link 30 = .ok (.dup2, 1) := by decide +kernel
theorem dX4_link_31 : decode cX4_link 31 = .ok (.iaload, 1) := by decide +kernel
theorem dX4_link_32 : decode cX4_link 32 = .ok (.iload_n 2, 1) := by decide +kernel
theorem dX4_link_33 : decode cX4_link 33 = .ok (.iadd, 1) := by decide +kernel
theorem dX4_link_34 : decode cX4_link 34 = .ok (.iastore, 1) := by decide +kernel
theorem dX4_link_35 : decode cX4_link 35 = .ok (.return_, 1) := by decide +kernel
theorem dX4_stitchesAt_0 : decode cX4_stitchesAt 0 = .ok (.iload_n 1, 1) := by decide +kernel
theorem dX4_stitchesAt_1 : decode cX4_stitchesAt 1 = .ok (.iconst 5, 1) := by decide +kernel
theorem dX4_stitchesAt_2 : decode cX4_stitchesAt 2 = .ok (.imul, 1) := by decide +kernel
theorem dX4_stitchesAt_3 : decode cX4_stitchesAt 3 = .ok (.iload_n 2, 1) := by decide +kernel
theorem dX4_stitchesAt_4 : decode cX4_stitchesAt 4 = .ok (.iadd, 1) := by decide +kernel
theorem dX4_stitchesAt_5 : decode cX4_stitchesAt 5 = .ok (.istore_n 3, 1) := by decide +kernel
theorem dX4_stitchesAt_6 : decode cX4_stitchesAt 6 = .ok (.iload_n 3, 1) := by decide +kernel
theorem dX4_stitchesAt_7 : decode cX4_stitchesAt 7 = .ok (.ifCond .lt 21, 3) := by decide +kernel
theorem dX4_stitchesAt_10 : decode cX4_stitchesAt 10 = .ok (.iload_n 3, 1) := by decide +kernel
theorem dX4_stitchesAt_11 : decode cX4_stitchesAt 11 = .ok (.aload_n 0, 1) := by decide +kernel
theorem dX4_stitchesAt_12 : decode cX4_stitchesAt 12 = .ok (.getfield 9, 3) := by decide +kernel
theorem dX4_stitchesAt_15 : decode cX4_stitchesAt 15 = .ok (.arraylength, 1) := by decide +kernel
theorem dX4_stitchesAt_16 : decode cX4_stitchesAt 16 = .ok (.if_icmp .ge 12, 3) := by decide +kernel
theorem dX4_stitchesAt_19 : decode cX4_stitchesAt 19 = .ok (.aload_n 0, 1) := by decide +kernel
theorem dX4_stitchesAt_20 : decode cX4_stitchesAt 20 = .ok (.getfield 9, 3) := by decide +kernel
theorem dX4_stitchesAt_23 : decode cX4_stitchesAt 23 = .ok (.iload_n 3, 1) := by decide +kernel
theorem dX4_stitchesAt_24 : decode cX4_stitchesAt 24 = .ok (.iaload, 1) := by decide +kernel
theorem dX4_stitchesAt_25 : decode cX4_stitchesAt 25 = .ok (.goto 4, 3) := by decide +kernel
theorem dX4_stitchesAt_28 : decode cX4_stitchesAt 28 = .ok (.iconst 0, 1) := by decide +kernel
theorem dX4_stitchesAt_29 : decode cX4_stitchesAt 29 = .ok (.ireturn, 1) := by decide +kernel
set_option maxRecDepth 20000 in
theorem ggX4_holds_X4_stitchesAt : GoodIn wsX4_holds wsX4_stitchesAt := goodIn_r _ [6, 7, 8, 9, 10, 11, 12, 13, 14, 15, 16, 17] (by decide +kernel) (by decide +kernel)
set_option maxRecDepth 20000 in
theorem gX4_holds_X4_stitchesAt : GoodIn wsX4_holds (wsV RX4 58 RX4 yX4_stitchesAt wsX4_stitchesAt) := goodIn_app (goodIn_of _ (by decide +kernel)) ggX4_holds_X4_stitchesAt
theorem dX4_holds_0 : decode cX4_holds 0 = .ok (.iconst 0, 1) := by decide +kernel
theorem dX4_holds_1 : decode cX4_holds 1 = .ok (.istore_n 2, 1) := by decide +kernel
theorem dX4_holds_2 : decode cX4_holds 2 = .ok (.iconst 0, 1) := by decide +kernel
theorem dX4_holds_3 : decode cX4_holds 3 = .ok (.istore_n 3, 1) := by decide +kernel
theorem dX4_holds_4 : decode cX4_holds 4 = .ok (.iload_n 3, 1) := by decide +kernel
theorem dX4_holds_5 : decode cX4_holds 5 = .ok (.aload_n 0, 1) := by decide +kernel
theorem dX4_holds_6 : decode cX4_holds 6 = .ok (.getfield 25, 3) := by decide +kernel
theorem dX4_holds_9 : decode cX4_holds 9 = .ok (.iconst 1, 1) := by decide +kernel
theorem dX4_holds_10 : decode cX4_holds 10 = .ok (.isub, 1) := by decide +kernel
theorem dX4_holds_11 : decode cX4_holds 11 = .ok (.if_icmp .ge 26, 3) := by decide +kernel
theorem dX4_holds_14 : decode cX4_holds 14 = .ok (.iload_n 2, 1) := by decide +kernel
theorem dX4_holds_15 : decode cX4_holds 15 = .ok (.aload_n 0, 1) := by decide +kernel
theorem dX4_holds_16 : decode cX4_holds 16 = .ok (.iload_n 1, 1) := by decide +kernel
theorem dX4_holds_17 : decode cX4_holds 17 = .ok (.iload_n 3, 1) := by decide +kernel
theorem dX4_holds_18 : decode cX4_holds 18 = .ok (.invokevirtual 58, 3) := by decide +kernel
theorem dX4_holds_21 : decode cX4_holds 21 = .ok (.ifCond .le 7, 3) := by decide +kernel
theorem dX4_holds_24 : decode cX4_holds 24 = .ok (.iconst 1, 1) := by decide +kernel
theorem dX4_holds_25 : decode cX4_holds 25 = .ok (.goto 4, 3) := by decide +kernel
theorem dX4_holds_28 : decode cX4_holds 28 = .ok (.iconst 0, 1) := by decide +kernel
theorem dX4_holds_29 : decode cX4_holds 29 = .ok (.iadd, 1) := by decide +kernel
theorem dX4_holds_30 : decode cX4_holds 30 = .ok (.istore_n 2, 1) := by decide +kernel
theorem dX4_holds_31 : decode cX4_holds 31 = .ok (.iinc 3 1, 3) := by decide +kernel
theorem dX4_holds_34 : decode cX4_holds 34 = .ok (.goto (-30), 3) := by decide +kernel
theorem dX4_holds_37 : decode cX4_holds 37 = .ok (.iload_n 2, 1) := by decide +kernel
theorem dX4_holds_38 : decode cX4_holds 38 = .ok (.aload_n 0, 1) := by decide +kernel
theorem dX4_holds_39 : decode cX4_holds 39 = .ok (.getfield 25, 3) := by decide +kernel
theorem dX4_holds_42 : decode cX4_holds 42 = .ok (.iconst 2, 1) := by decide +kernel
theorem dX4_holds_43 : decode cX4_holds 43 = .ok (.idiv, 1) := by decide +kernel
theorem dX4_holds_44 : decode cX4_holds 44 = .ok (.if_icmp .lt 7, 3) := by decide +kernel
theorem dX4_holds_47 : decode cX4_holds 47 = .ok (.iconst 1, 1) := by decide +kernel
theorem dX4_holds_48 : decode cX4_holds 48 = .ok (.goto 4, 3) := by decide +kernel
theorem dX4_holds_51 : decode cX4_holds 51 = .ok (.iconst 0, 1) := by decide +kernel
theorem dX4_holds_52 : decode cX4_holds 52 = .ok (.ireturn, 1) := by decide +kernel
set_option maxRecDepth 20000 in
theorem ggX4_isSewn_X4_holds : GoodIn wsX4_isSewn wsX4_holds := goodIn_r _ [8, 9, 10, 11, 12, 7, 13, 14, 15, 16, 17, 18, 19, 20, 21, 22, 23, 24] (by decide +kernel) (by decide +kernel)
set_option maxRecDepth 20000 in
theorem gX4_isSewn_X4_holds : GoodIn wsX4_isSewn (wsV RX4 62 RX4 yX4_holds wsX4_holds) := goodIn_app (goodIn_of _ (by decide +kernel)) ggX4_isSewn_X4_holds
theorem dX4_isSewn_0 : decode cX4_isSewn 0 = .ok (.aload_n 0, 1) := by decide +kernel
theorem dX4_isSewn_1 : decode cX4_isSewn 1 = .ok (.getfield 34, 3) := by decide +kernel
theorem dX4_isSewn_4 : decode cX4_isSewn 4 = .ok (.ifCond .ne 7, 3) := by decide +kernel
theorem dX4_isSewn_7 : decode cX4_isSewn 7 = .ok (.iconst 1, 1) := by decide +kernel
theorem dX4_isSewn_8 : decode cX4_isSewn 8 = .ok (.goto 4, 3) := by decide +kernel
theorem dX4_isSewn_11 : decode cX4_isSewn 11 = .ok (.iconst 0, 1) := by decide +kernel
theorem dX4_isSewn_12 : decode cX4_isSewn 12 = .ok (.istore_n 1, 1) := by decide +kernel
theorem dX4_isSewn_13 : decode cX4_isSewn 13 = .ok (.iconst 0, 1) := by decide +kernel
theorem dX4_isSewn_14 : decode cX4_isSewn 14 = .ok (.istore_n 2, 1) := by decide +kernel
theorem dX4_isSewn_15 : decode cX4_isSewn 15 = .ok (.iload_n 2, 1) := by decide +kernel
theorem dX4_isSewn_16 : decode cX4_isSewn 16 = .ok (.aload_n 0, 1) := by decide +kernel
theorem dX4_isSewn_17 : decode cX4_isSewn 17 = .ok (.getfield 21, 3) := by decide +kernel
theorem dX4_isSewn_20 : decode cX4_isSewn 20 = .ok (.if_icmp .ge 27, 3) := by decide +kernel
theorem dX4_isSewn_23 : decode cX4_isSewn 23 = .ok (.iload_n 1, 1) := by decide +kernel
theorem dX4_isSewn_24 : decode cX4_isSewn 24 = .ok (.ifCond .eq 15, 3) := by decide +kernel
theorem dX4_isSewn_27 : decode cX4_isSewn 27 = .ok (.aload_n 0, 1) := by decide +kernel
theorem dX4_isSewn_28 : decode cX4_isSewn 28 = .ok (.iload_n 2, 1) := by decide +kernel
theorem dX4_isSewn_29 : decode cX4_isSewn 29 = .ok (.invokevirtual 62, 3) := by decide +kernel
theorem dX4_isSewn_32 : decode cX4_isSewn 32 = .ok (.ifCond .eq 7, 3) := by decide +kernel
theorem dX4_isSewn_35 : decode cX4_isSewn 35 = .ok (.iconst 1, 1) := by decide +kernel
theorem dX4_isSewn_36 : decode cX4_isSewn 36 = .ok (.goto 4, 3) := by decide +kernel
theorem dX4_isSewn_39 : decode cX4_isSewn 39 = .ok (.iconst 0, 1) := by decide +kernel
theorem dX4_isSewn_40 : decode cX4_isSewn 40 = .ok (.istore_n 1, 1) := by decide +kernel
theorem dX4_isSewn_41 : decode cX4_isSewn 41 = .ok (.iinc 2 1, 3) := by decide +kernel
theorem dX4_isSewn_44 : decode cX4_isSewn 44 = .ok (.goto (-29), 3) := by decide +kernel
theorem dX4_isSewn_47 : decode cX4_isSewn 47 = .ok (.iconst 0, 1) := by decide +kernel
theorem dX4_isSewn_48 : decode cX4_isSewn 48 = .ok (.istore_n 2, 1) := by decide +kernel
theorem dX4_isSewn_49 : decode cX4_isSewn 49 = .ok (.iload_n 2, 1) := by decide +kernel
theorem dX4_isSewn_50 : decode cX4_isSewn 50 = .ok (.aload_n 0, 1) := by decide +kernel
theorem dX4_isSewn_51 : decode cX4_isSewn 51 = .ok (.getfield 21, 3) := by decide +kernel
theorem dX4_isSewn_54 : decode cX4_isSewn 54 = .ok (.iconst 1, 1) := by decide +kernel
theorem dX4_isSewn_55 : decode cX4_isSewn 55 = .ok (.isub, 1) := by decide +kernel
theorem dX4_isSewn_56 : decode cX4_isSewn 56 = .ok (.if_icmp .ge 37, 3) := by decide +kernel
theorem dX4_isSewn_59 : decode cX4_isSewn 59 = .ok (.iload_n 2, 1) := by decide +kernel
theorem dX4_isSewn_60 : decode cX4_isSewn 60 = .ok (.aload_n 0, 1) := by decide +kernel
theorem dX4_isSewn_61 : decode cX4_isSewn 61 = .ok (.getfield 15, 3) := by decide +kernel
theorem dX4_isSewn_64 : decode cX4_isSewn 64 = .ok (.arraylength, 1) := by decide +kernel
theorem dX4_isSewn_65 : decode cX4_isSewn 65 = .ok (.if_icmp .ge 28, 3) := by decide +kernel
theorem dX4_isSewn_68 : decode cX4_isSewn 68 = .ok (.iload_n 1, 1) := by decide +kernel
theorem dX4_isSewn_69 : decode cX4_isSewn 69 = .ok (.ifCond .eq 16, 3) := by decide +kernel
theorem dX4_isSewn_72 : decode cX4_isSewn 72 = .ok (.aload_n 0, 1) := by decide +kernel
theorem dX4_isSewn_73 : decode cX4_isSewn 73 = .ok (.getfield 15, 3) := by decide +kernel
theorem dX4_isSewn_76 : decode cX4_isSewn 76 = .ok (.iload_n 2, 1) := by decide +kernel
theorem dX4_isSewn_77 : decode cX4_isSewn 77 = .ok (.iaload, 1) := by decide +kernel
theorem dX4_isSewn_78 : decode cX4_isSewn 78 = .ok (.ifCond .le 7, 3) := by decide +kernel
theorem dX4_isSewn_81 : decode cX4_isSewn 81 = .ok (.iconst 1, 1) := by decide +kernel
theorem dX4_isSewn_82 : decode cX4_isSewn 82 = .ok (.goto 4, 3) := by decide +kernel
theorem dX4_isSewn_85 : decode cX4_isSewn 85 = .ok (.iconst 0, 1) := by decide +kernel
theorem dX4_isSewn_86 : decode cX4_isSewn 86 = .ok (.istore_n 1, 1) := by decide +kernel
theorem dX4_isSewn_87 : decode cX4_isSewn 87 = .ok (.iinc 2 1, 3) := by decide +kernel
theorem dX4_isSewn_90 : decode cX4_isSewn 90 = .ok (.goto (-41), 3) := by decide +kernel
theorem dX4_isSewn_93 : decode cX4_isSewn 93 = .ok (.iload_n 1, 1) := by decide +kernel
theorem dX4_isSewn_94 : decode cX4_isSewn 94 = .ok (.ireturn, 1) := by decide +kernel
set_option maxRecDepth 20000 in
theorem ggX4_swell_X4_mostStitches : GoodIn wsX4_swell wsX4_mostStitches := goodIn_r _ [6, 7, 8, 9, 10, 11, 12, 13, 14, 5, 15, 16, 17, 18, 19, 20, 21, 22, 23, 24, 25, 26] (by decide +kernel) (by decide +kernel)
set_option maxRecDepth 20000 in
theorem gX4_swell_X4_mostStitches : GoodIn wsX4_swell (wsV RX4 66 RX4 yX4_mostStitches wsX4_mostStitches) := goodIn_app (goodIn_of _ (by decide +kernel)) ggX4_swell_X4_mostStitches
theorem dX4_swell_0 : decode cX4_swell 0 = .ok (.iconst 0, 1) := by decide +kernel
theorem dX4_swell_1 : decode cX4_swell 1 = .ok (.istore_n 1, 1) := by decide +kernel
theorem dX4_swell_2 : decode cX4_swell 2 = .ok (.iconst 0, 1) := by decide +kernel
theorem dX4_swell_3 : decode cX4_swell 3 = .ok (.istore_n 2, 1) := by decide +kernel
theorem dX4_swell_4 : decode cX4_swell 4 = .ok (.iload_n 2, 1) := by decide +kernel
theorem dX4_swell_5 : decode cX4_swell 5 = .ok (.aload_n 0, 1) := by decide +kernel
theorem dX4_swell_6 : decode cX4_swell 6 = .ok (.getfield 21, 3) := by decide +kernel
theorem dX4_swell_9 : decode cX4_swell 9 = .ok (.if_icmp .ge 17, 3) := by decide +kernel
theorem dX4_swell_12 : decode cX4_swell 12 = .ok (.iload_n 1, 1) := by decide +kernel
theorem dX4_swell_13 : decode cX4_swell 13 = .ok (.aload_n 0, 1) := by decide +kernel
theorem dX4_swell_14 : decode cX4_swell 14 = .ok (.iload_n 2, 1) := by decide +kernel
theorem dX4_swell_15 : decode cX4_swell 15 = .ok (.invokevirtual 66, 3) := by decide +kernel
theorem dX4_swell_18 : decode cX4_swell 18 = .ok (.iadd, 1) := by decide +kernel
theorem dX4_swell_19 : decode cX4_swell 19 = .ok (.istore_n 1, 1) := by decide +kernel
theorem dX4_swell_20 : decode cX4_swell 20 = .ok (.iinc 2 1, 3) := by decide +kernel
theorem dX4_swell_23 : decode cX4_swell 23 = .ok (.goto (-19), 3) := by decide +kernel
theorem dX4_swell_26 : decode cX4_swell 26 = .ok (.iconst 3, 1) := by decide +kernel
theorem dX4_swell_27 : decode cX4_swell 27 = .ok (.iload_n 1, 1) := by decide +kernel
theorem dX4_swell_28 : decode cX4_swell 28 = .ok (.imul, 1) := by decide +kernel
theorem dX4_swell_29 : decode cX4_swell 29 = .ok (.ireturn, 1) := by decide +kernel
set_option maxRecDepth 20000 in
theorem ggX4_mostStitches_X4_stitchesAt : GoodIn wsX4_mostStitches wsX4_stitchesAt := goodIn_r _ [10, 11, 12, 13, 14, 15, 16, 17, 18, 19, 20, 21] (by decide +kernel) (by decide +kernel)
set_option maxRecDepth 20000 in
theorem gX4_mostStitches_X4_stitchesAt : GoodIn wsX4_mostStitches (wsV RX4 58 RX4 yX4_stitchesAt wsX4_stitchesAt) := goodIn_app (goodIn_of _ (by decide +kernel)) ggX4_mostStitches_X4_stitchesAt
theorem dX4_mostStitches_0 : decode cX4_mostStitches 0 = .ok (.iconst 0, 1) := by decide +kernel
theorem dX4_mostStitches_1 : decode cX4_mostStitches 1 = .ok (.istore_n 2, 1) := by decide +kernel
theorem dX4_mostStitches_2 : decode cX4_mostStitches 2 = .ok (.iconst 0, 1) := by decide +kernel
theorem dX4_mostStitches_3 : decode cX4_mostStitches 3 = .ok (.istore_n 3, 1) := by decide +kernel
theorem dX4_mostStitches_4 : decode cX4_mostStitches 4 = .ok (.iload_n 3, 1) := by decide +kernel
theorem dX4_mostStitches_5 : decode cX4_mostStitches 5 = .ok (.aload_n 0, 1) := by decide +kernel
theorem dX4_mostStitches_6 : decode cX4_mostStitches 6 = .ok (.getfield 25, 3) := by decide +kernel
theorem dX4_mostStitches_9 : decode cX4_mostStitches 9 = .ok (.iconst 1, 1) := by decide +kernel
theorem dX4_mostStitches_10 : decode cX4_mostStitches 10 = .ok (.isub, 1) := by decide +kernel
theorem dX4_mostStitches_11 : decode cX4_mostStitches 11 = .ok (.if_icmp .ge 20, 3) := by decide +kernel
theorem dX4_mostStitches_14 : decode cX4_mostStitches 14 = .ok (.iload_n 2, 1) := by decide +kernel
theorem dX4_mostStitches_15 : decode cX4_mostStitches 15 = .ok (.aload_n 0, 1) := by decide +kernel
theorem dX4_mostStitches_16 : decode cX4_mostStitches 16 = .ok (.iload_n 1, 1) := by decide +kernel
theorem dX4_mostStitches_17 : decode cX4_mostStitches 17 = .ok (.iload_n 3, 1) := by decide +kernel
theorem dX4_mostStitches_18 : decode cX4_mostStitches 18 = .ok (.invokevirtual 58, 3) := by decide +kernel
theorem dX4_mostStitches_21 : decode cX4_mostStitches 21 = .ok (.invokestatic 69, 3) := by decide +kernel
theorem dX4_mostStitches_24 : decode cX4_mostStitches 24 = .ok (.istore_n 2, 1) := by decide +kernel
theorem dX4_mostStitches_25 : decode cX4_mostStitches 25 = .ok (.iinc 3 1, 3) := by decide +kernel
theorem dX4_mostStitches_28 : decode cX4_mostStitches 28 = .ok (.goto (-24), 3) := by decide +kernel
theorem dX4_mostStitches_31 : decode cX4_mostStitches 31 = .ok (.iload_n 2, 1) := by decide +kernel
theorem dX4_mostStitches_32 : decode cX4_mostStitches 32 = .ok (.ireturn, 1) := by decide +kernel
theorem dX5_init_0 : decode cX5_init 0 = .ok (.aload_n 0, 1) := by decide +kernel
theorem dX5_init_1 : decode cX5_init 1 = .ok (.invokespecial 3, 3) := by decide +kernel
theorem dX5_init_4 : decode cX5_init 4 = .ok (.aload_n 0, 1) := by decide +kernel
theorem dX5_init_5 : decode cX5_init 5 = .ok (.bipush 64, 2) := by decide +kernel
theorem dX5_init_7 : decode cX5_init 7 = .ok (.newarray .int, 2) := by decide +kernel
theorem dX5_init_9 : decode cX5_init 9 = .ok (.putfield 9, 3) := by decide +kernel
theorem dX5_init_12 : decode cX5_init 12 = .ok (.iconst 0, 1) := by decide +kernel
theorem dX5_init_13 : decode cX5_init 13 = .ok (.istore_n 2, 1) := by decide +kernel
theorem dX5_init_14 : decode cX5_init 14 = .ok (.iload_n 2, 1) := by decide +kernel
theorem dX5_init_15 : decode cX5_init 15 = .ok (.bipush 64, 2) := by decide +kernel
theorem dX5_init_17 : decode cX5_init 17 = .ok (.if_icmp .ge 16, 3) := by decide +kernel
theorem dX5_init_20 : decode cX5_init 20 = .ok (.aload_n 0, 1) := by decide +kernel
theorem dX5_init_21 : decode cX5_init 21 = .ok (.getfield 9, 3) := by decide +kernel
theorem dX5_init_24 : decode cX5_init 24 = .ok (.iload_n 2, 1) := by decide +kernel
theorem dX5_init_25 : decode cX5_init 25 = .ok (.iload_n 1, 1) := by decide +kernel
theorem dX5_init_26 : decode cX5_init 26 = .ok (.iastore, 1) := by decide +kernel
theorem dX5_init_27 : decode cX5_init 27 = .ok (.iinc 2 1, 3) := by decide +kernel
theorem dX5_init_30 : decode cX5_init 30 = .ok (.goto (-16), 3) := by decide +kernel
theorem dX5_init_33 : decode cX5_init 33 = .ok (.return_, 1) := by decide +kernel
set_option maxRecDepth 20000 in
theorem ggX5_thinnest_X7_cellOf : GoodIn wsX5_thinnest wsX7_cellOf := goodIn_r _ [8] (by decide +kernel) (by decide +kernel)
set_option maxRecDepth 20000 in
theorem gX5_thinnest_X7_cellOf_n15 : GoodIn wsX5_thinnest (wsX7_cellOf) := ggX5_thinnest_X7_cellOf
theorem dX5_thinnest_0 : decode cX5_thinnest 0 = .ok (.bipush 30, 2) := by decide +kernel
theorem dX5_thinnest_2 : decode cX5_thinnest 2 = .ok (.istore 5, 2) := by decide +kernel
theorem dX5_thinnest_4 : decode cX5_thinnest 4 = .ok (.iload_n 3, 1) := by decide +kernel
theorem dX5_thinnest_5 : decode cX5_thinnest 5 = .ok (.istore 6, 2) := by decide +kernel
theorem dX5_thinnest_7 : decode cX5_thinnest 7 = .ok (.iload 6, 2) := by decide +kernel
theorem dX5_thinnest_9 : decode cX5_thinnest 9 = .ok (.iload 4, 2) := by decide +kernel
theorem dX5_thinnest_11 : decode cX5_thinnest 11 = .ok (.if_icmp .gt 43, 3) := by decide +kernel
theorem dX5_thinnest_14 : decode cX5_thinnest 14 = .ok (.iload_n 1, 1) := by decide +kernel
theorem dX5_thinnest_15 : decode cX5_thinnest 15 = .ok (.istore 7, 2) := by decide +kernel
theorem dX5_thinnest_17 : decode cX5_thinnest 17 = .ok (.iload 7, 2) := by decide +kernel
theorem dX5_thinnest_19 : decode cX5_thinnest 19 = .ok (.iload_n 2, 1) := by decide +kernel
theorem dX5_thinnest_20 : decode cX5_thinnest 20 = .ok (.if_icmp .gt 28, 3) := by decide +kernel
theorem dX5_thinnest_23 : decode cX5_thinnest 23 = .ok (.iload 5, 2) := by decide +kernel
theorem dX5_thinnest_25 : decode cX5_thinnest 25 = .ok (.aload_n 0, 1) := by decide +kernel
theorem dX5_thinnest_26 : decode cX5_thinnest 26 = .ok (.getfield 9, 3) := by decide +kernel
theorem dX5_thinnest_29 : decode cX5_thinnest 29 = .ok (.iload 7, 2) := by decide +kernel
theorem dX5_thinnest_31 : decode cX5_thinnest 31 = .ok (.iload 6, 2) := by decide +kernel
theorem dX5_thinnest_33 : decode cX5_thinnest 33 = .ok (.invokestatic 15, 3) := by decide +kernel
theorem dX5_thinnest_36 : decode cX5_thinnest 36 = .ok (.iaload, 1) := by decide +kernel
theorem dX5_thinnest_37 : decode cX5_thinnest 37 = .ok (.invokestatic 19, 3) := by decide +kernel
theorem dX5_thinnest_40 : decode cX5_thinnest 40 = .ok (.istore 5, 2) := by decide +kernel
theorem dX5_thinnest_42 : decode cX5_thinnest 42 = .ok (.iinc 7 1, 3) := by decide +kernel
theorem dX5_thinnest_45 : decode cX5_thinnest 45 = .ok (.goto (-28), 3) := by decide +kernel
theorem dX5_thinnest_48 : decode cX5_thinnest 48 = .ok (.iinc 6 1, 3) := by decide +kernel
theorem dX5_thinnest_51 : decode cX5_thinnest 51 = .ok (.goto (-44), 3) := by decide +kernel
theorem dX5_thinnest_54 : decode cX5_thinnest 54 = .ok (.iload 5, 2) := by decide +kernel
theorem dX5_thinnest_56 : decode cX5_thinnest 56 = .ok (.ireturn, 1) := by decide +kernel
set_option maxRecDepth 20000 in
theorem ggX5_thin_X7_cellOf : GoodIn wsX5_thin wsX7_cellOf := goodIn_r _ [4] (by decide +kernel) (by decide +kernel)
set_option maxRecDepth 20000 in
theorem gX5_thin_X7_cellOf_n15 : GoodIn wsX5_thin (wsX7_cellOf) := ggX5_thin_X7_cellOf
theorem dX5_thin_0 : decode cX5_thin 0 = .ok (.iload_n 3, 1) := by decide +kernel
theorem dX5_thin_1 : decode cX5_thin 1 = .ok (.istore 6, 2) := by decide +kernel
theorem dX5_thin_3 : decode cX5_thin 3 = .ok (.iload 6, 2) := by decide +kernel
theorem dX5_thin_5 : decode cX5_thin 5 = .ok (.iload 4, 2) := by decide +kernel
theorem dX5_thin_7 : decode cX5_thin 7 = .ok (.if_icmp .gt 41, 3) := by decide +kernel
theorem dX5_thin_10 : decode cX5_thin 10 = .ok (.iload_n 1, 1) := by decide +kernel
theorem dX5_thin_11 : decode cX5_thin 11 = .ok (.istore 7, 2) := by decide +kernel
theorem dX5_thin_13 : decode cX5_thin 13 = .ok (.iload 7, 2) := by decide +kernel
theorem dX5_thin_15 : decode cX5_thin 15 = .ok (.iload_n 2, 1) := by decide +kernel
theorem dX5_thin_16 : decode cX5_thin 16 = .ok (.if_icmp .gt 26, 3) := by decide +kernel
theorem dX5_thin_19 : decode cX5_thin 19 = .ok (.aload_n 0, 1) := by decide +kernel
theorem dX5_thin_20 : decode cX5_thin 20 = .ok (.getfield 9, 3) := by decide +kernel
theorem dX5_thin_23 : decode cX5_thin 23 = .ok (.iload 7, 2) := by decide +kernel
theorem dX5_thin_25 : decode cX5_thin 25 = .ok (.iload 6, 2) := by decide +kernel
theorem dX5_thin_27 : decode cX5_thin 27 = .ok (.invokestatic 15, 3) := by decide +kernel
theorem dX5_thin_30 : decode cX5_thin 30 = .ok (.dup2, 1) := by decide +kernel
theorem dX5_thin_31 : decode cX5_thin 31 = .ok (.iaload, 1) := by decide +kernel
theorem dX5_thin_32 : decode cX5_thin 32 = .ok (.iload 5, 2) := by decide +kernel
theorem dX5_thin_34 : decode cX5_thin 34 = .ok (.isub, 1) := by decide +kernel
theorem dX5_thin_35 : decode cX5_thin 35 = .ok (.iastore, 1) := by decide +kernel
theorem dX5_thin_36 : decode cX5_thin 36 = .ok (.iinc 7 1, 3) := by decide +kernel
theorem dX5_thin_39 : decode cX5_thin 39 = .ok (.goto (-26), 3) := by decide +kernel
theorem dX5_thin_42 : decode cX5_thin 42 = .ok (.iinc 6 1, 3) := by decide +kernel
theorem dX5_thin_45 : decode cX5_thin 45 = .ok (.goto (-42), 3) := by decide +kernel
theorem dX5_thin_48 : decode cX5_thin 48 = .ok (.return_, 1) := by decide +kernel
set_option maxRecDepth 20000 in
theorem ggX5_placesTooThick_X7_cellOf : GoodIn wsX5_placesTooThick wsX7_cellOf := goodIn_r _ [4] (by decide +kernel) (by decide +kernel)
set_option maxRecDepth 20000 in
theorem gX5_placesTooThick_X7_cellOf_n15 : GoodIn wsX5_placesTooThick (wsX7_cellOf) := ggX5_placesTooThick_X7_cellOf
set_option maxRecDepth 20000 in
theorem ggX5_placesTooThick_X5_mostAt : GoodIn wsX5_placesTooThick wsX5_mostAt := goodIn_r _ [8, 9, 3, 10] (by decide +kernel) (by decide +kernel)
set_option maxRecDepth 20000 in
theorem gX5_placesTooThick_X5_mostAt : GoodIn wsX5_placesTooThick (va_wsS RX5 24 yX5_mostAt wsX5_mostAt) := goodIn_app (goodIn_of _ (by decide +kernel)) ggX5_placesTooThick_X5_mostAt
theorem dX5_placesTooThick_0 : decode cX5_placesTooThick 0 = .ok (.iconst 0, 1) := by decide +kernel
theorem dX5_placesTooThick_1 : decode cX5_placesTooThick 1 = .ok (.istore_n 1, 1) := by decide +kernel
theorem dX5_placesTooThick_2 : decode cX5_placesTooThick 2 = .ok (.iconst 0, 1) := by decide +kernel
theorem dX5_placesTooThick_3 : decode cX5_placesTooThick 3 = .ok (.istore_n 2, 1) := by decide +kernel
theorem dX5_placesTooThick_4 : decode cX5_placesTooThick 4 = .ok (.iload_n 2, 1) := by decide +kernel
theorem dX5_placesTooThick_5 : decode cX5_placesTooThick 5 = .ok (.bipush 8, 2) := by decide +kernel
theorem dX5_placesTooThick_7 : decode cX5_placesTooThick 7 = .ok (.if_icmp .ge 49, 3) := by decide +kernel
theorem dX5_placesTooThick_10 : decode cX5_placesTooThick 10 = .ok (.iconst 0, 1) := by decide +kernel
theorem dX5_placesTooThick_11 : decode cX5_placesTooThick 11 = .ok (.istore_n 3, 1) := by decide +kernel
theorem dX5_placesTooThick_12 : decode cX5_placesTooThick 12 = .ok (.iload_n 3, 1) := by decide +kernel
theorem dX5_placesTooThick_13 : decode cX5_placesTooThick 13 = .ok (.bipush 8, 2) := by decide +kernel
theorem dX5_placesTooThick_15 : decode cX5_placesTooThick 15 = .ok (.if_icmp .ge 35, 3) := by decide +kernel
theorem dX5_placesTooThick_18 : decode cX5_placesTooThick 18 = .ok (.iload_n 1, 1) := by decide +kernel
theorem dX5_placesTooThick_19 : decode cX5_placesTooThick 19 = .ok (.aload_n 0, 1) := by decide +kernel
theorem dX5_placesTooThick_20 : decode cX5_placesTooThick 20 = .ok (.getfield 9, 3) := by decide +kernel
theorem dX5_placesTooThick_23 : decode cX5_placesTooThick 23 = .ok (.iload_n 3, 1) := by decide +kernel
theorem dX5_placesTooThick_24 : decode cX5_placesTooThick 24 = .ok (.iload_n 2, 1) := by decide +kernel
theorem dX5_placesTooThick_25 : decode cX5_placesTooThick 25 = .ok (.invokestatic 15, 3) := by decide +kernel
theorem dX5_placesTooThick_28 : decode cX5_placesTooThick 28 = .ok (.iaload, 1) := by decide +kernel
theorem dX5_placesTooThick_29 : decode cX5_placesTooThick 29 = .ok (.iload_n 3, 1) := by decide +kernel
theorem dX5_placesTooThick_30 : decode cX5_placesTooThick 30 = .ok (.iload_n 2, 1) := by decide +kernel
theorem dX5_placesTooThick_31 : decode cX5_placesTooThick 31 = .ok (.invokestatic 24, 3) := by decide +kernel
theorem dX5_placesTooThick_34 : decode cX5_placesTooThick 34 = .ok (.if_icmp .le 7, 3) := by decide +kernel
theorem dX5_placesTooThick_37 : decode cX5_placesTooThick 37 = .ok (.iconst 1, 1) := by decide +kernel
theorem dX5_placesTooThick_38 : decode cX5_placesTooThick 38 = .ok (.goto 4, 3) := by decide +kernel
theorem dX5_placesTooThick_41 : decode cX5_placesTooThick 41 = .ok (.iconst 0, 1) := by decide +kernel
theorem dX5_placesTooThick_42 : decode cX5_placesTooThick 42 = .ok (.iadd, 1) := by decide +kernel
theorem dX5_placesTooThick_43 : decode cX5_placesTooThick 43 = .ok (.istore_n 1, 1) := by decide +kernel
theorem dX5_placesTooThick_44 : decode cX5_placesTooThick 44 = .ok (.iinc 3 1, 3) := by decide +kernel
theorem dX5_placesTooThick_47 : decode cX5_placesTooThick 47 = .ok (.goto (-35), 3) := by decide +kernel
theorem dX5_placesTooThick_50 : decode cX5_placesTooThick 50 = .ok (.iinc 2 1, 3) := by decide +kernel
theorem dX5_placesTooThick_53 : decode cX5_placesTooThick 53 = .ok (.goto (-49), 3) := by decide +kernel
theorem dX5_placesTooThick_56 : decode cX5_placesTooThick 56 = .ok (.iload_n 1, 1) := by decide +kernel
theorem dX5_placesTooThick_57 : decode cX5_placesTooThick 57 = .ok (.ireturn, 1) := by decide +kernel
set_option maxRecDepth 20000 in
theorem ggX5_mostAt_X7_isWithin : GoodIn wsX5_mostAt wsX7_isWithin := goodIn_r _ [3] (by decide +kernel) (by decide +kernel)
set_option maxRecDepth 20000 in
theorem gX5_mostAt_X7_isWithin_n27 : GoodIn wsX5_mostAt (wsX7_isWithin) := ggX5_mostAt_X7_isWithin
theorem dX5_mostAt_0 : decode cX5_mostAt 0 = .ok (.iload_n 0, 1) := by decide +kernel
theorem dX5_mostAt_1 : decode cX5_mostAt 1 = .ok (.iconst 1, 1) := by decide +kernel
theorem dX5_mostAt_2 : decode cX5_mostAt 2 = .ok (.bipush 6, 2) := by decide +kernel
theorem dX5_mostAt_4 : decode cX5_mostAt 4 = .ok (.invokestatic 27, 3) := by decide +kernel
theorem dX5_mostAt_7 : decode cX5_mostAt 7 = .ok (.ifCond .eq 17, 3) := by decide +kernel
theorem dX5_mostAt_10 : decode cX5_mostAt 10 = .ok (.iload_n 1, 1) := by decide +kernel
theorem dX5_mostAt_11 : decode cX5_mostAt 11 = .ok (.iconst 1, 1) := by decide +kernel
theorem dX5_mostAt_12 : decode cX5_mostAt 12 = .ok (.bipush 6, 2) := by decide +kernel
theorem dX5_mostAt_14 : decode cX5_mostAt 14 = .ok (.invokestatic 27, 3) := by decide +kernel
theorem dX5_mostAt_17 : decode cX5_mostAt 17 = .ok (.ifCond .eq 7, 3) := by decide +kernel
theorem dX5_mostAt_20 : decode cX5_mostAt 20 = .ok (.iconst 1, 1) := by decide +kernel
theorem dX5_mostAt_21 : decode cX5_mostAt 21 = .ok (.goto 4, 3) := by decide +kernel
theorem dX5_mostAt_24 : decode cX5_mostAt 24 = .ok (.iconst 0, 1) := by decide +kernel
theorem dX5_mostAt_25 : decode cX5_mostAt 25 = .ok (.istore_n 2, 1) := by decide +kernel
theorem dX5_mostAt_26 : decode cX5_mostAt 26 = .ok (.iload_n 2, 1) := by decide +kernel
theorem dX5_mostAt_27 : decode cX5_mostAt 27 = .ok (.ifCond .eq 8, 3) := by decide +kernel
theorem dX5_mostAt_30 : decode cX5_mostAt 30 = .ok (.bipush 12, 2) := by decide +kernel
theorem dX5_mostAt_32 : decode cX5_mostAt 32 = .ok (.goto 5, 3) := by decide +kernel
theorem dX5_mostAt_35 : decode cX5_mostAt 35 = .ok (.bipush 6, 2) := by decide +kernel
theorem dX5_mostAt_37 : decode cX5_mostAt 37 = .ok (.ireturn, 1) := by decide +kernel
theorem dX6_init_0 : decode cX6_init 0 = .ok (.aload_n 0, 1) := by decide +kernel
theorem dX6_init_1 : decode cX6_init 1 = .ok (.invokespecial 3, 3) := by decide +kernel
theorem dX6_init_4 : decode cX6_init 4 = .ok (.aload_n 0, 1) := by decide +kernel
theorem dX6_init_5 : decode cX6_init 5 = .ok (.bipush 20, 2) := by decide +kernel
theorem dX6_init_7 : decode cX6_init 7 = .ok (.newarray .int, 2) := by decide +kernel
theorem dX6_init_9 : decode cX6_init 9 = .ok (.putfield 9, 3) := by decide +kernel
theorem dX6_init_12 : decode cX6_init 12 = .ok (.aload_n 0, 1) := by decide +kernel
theorem dX6_init_13 : decode cX6_init 13 = .ok (.bipush 20, 2) := by decide +kernel
theorem dX6_init_15 : decode cX6_init 15 = .ok (.newarray .int, 2) := by decide +kernel
theorem dX6_init_17 : decode cX6_init 17 = .ok (.putfield 15, 3) := by decide +kernel
theorem dX6_init_20 : decode cX6_init 20 = .ok (.aload_n 0, 1) := by decide +kernel
theorem dX6_init_21 : decode cX6_init 21 = .ok (.bipush 20, 2) := by decide +kernel
theorem dX6_init_23 : decode cX6_init 23 = .ok (.newarray .int, 2) := by decide +kernel
theorem dX6_init_25 : decode cX6_init 25 = .ok (.putfield 18, 3) := by decide +kernel
theorem dX6_init_28 : decode cX6_init 28 = .ok (.return_, 1) := by decide +kernel
theorem dX6_add_0 : decode cX6_add 0 = .ok (.aload_n 0, 1) := by decide +kernel
theorem dX6_add_1 : decode cX6_add 1 = .ok (.getfield 21, 3) := by decide +kernel
theorem dX6_add_4 : decode cX6_add 4 = .ok (.bipush 20, 2) := by decide +kernel
theorem dX6_add_6 : decode cX6_add 6 = .ok (.if_icmp .ge 43, 3) := by decide +kernel
theorem dX6_add_9 : decode cX6_add 9 = .ok (.aload_n 0, 1) := by decide +kernel
theorem dX6_add_10 : decode cX6_add 10 = .ok (.getfield 9, 3) := by decide +kernel
theorem dX6_add_13 : decode cX6_add 13 = .ok (.aload_n 0, 1) := by decide +kernel
theorem dX6_add_14 : decode cX6_add 14 = .ok (.getfield 21, 3) := by decide +kernel
theorem dX6_add_17 : decode cX6_add 17 = .ok (.iload_n 1, 1) := by decide +kernel
theorem dX6_add_18 : decode cX6_add 18 = .ok (.iastore, 1) := by decide +kernel
theorem dX6_add_19 : decode cX6_add 19 = .ok (.aload_n 0, 1) := by decide +kernel
theorem dX6_add_20 : decode cX6_add 20 = .ok (.getfield 15, 3) := by decide +kernel
theorem dX6_add_23 : decode cX6_add 23 = .ok (.aload_n 0, 1) := by decide +kernel
theorem dX6_add_24 : decode cX6_add 24 = .ok (.getfield 21, 3) := by decide +kernel
theorem dX6_add_27 : decode cX6_add 27 = .ok (.iload_n 2, 1) := by decide +kernel
theorem dX6_add_28 : decode cX6_add 28 = .ok (.iastore, 1) := by decide +kernel
theorem dX6_add_29 : decode cX6_add 29 = .ok (.aload_n 0, 1) := by decide +kernel
theorem dX6_add_30 : decode cX6_add 30 = .ok (.getfield 18, 3) := by decide +kernel
theorem dX6_add_33 : decode cX6_add 33 = .ok (.aload_n 0, 1) := by decide +kernel
theorem dX6_add_34 : decode cX6_add 34 = .ok (.getfield 21, 3) := by decide +kernel
theorem dX6_add_37 : decode cX6_add 37 = .ok (.iload_n 3, 1) := by decide +kernel
theorem dX6_add_38 : decode cX6_add 38 = .ok (.iastore, 1) := by decide +kernel
theorem dX6_add_39 : decode cX6_add 39 = .ok (.aload_n 0, 1) := by decide +kernel
theorem dX6_add_40 : decode cX6_add 40 = .ok (.dup, 1) := by decide +kernel
theorem dX6_add_41 : decode cX6_add 41 = .ok (.getfield 21, 3) := by decide +kernel
theorem dX6_add_44 : decode cX6_add 44 = .ok (.iconst 1, 1) := by decide +kernel
theorem dX6_add_45 : decode cX6_add 45 = .ok (.iadd, 1) := by decide +kernel
theorem dX6_add_46 : decode cX6_add 46 = .ok (.putfield 21, 3) := by decide +kernel
theorem dX6_add_49 : decode cX6_add 49 = .ok (.return_, 1) := by decide +kernel
set_option maxRecDepth 20000 in
theorem ggX6_weightIn_X7_isWithin : GoodIn wsX6_weightIn wsX7_isWithin := goodIn_r _ [7] (by decide +kernel) (by decide +kernel)
set_option maxRecDepth 20000 in
theorem gX6_weightIn_X7_isWithin_n25 : GoodIn wsX6_weightIn (wsX7_isWithin) := ggX6_weightIn_X7_isWithin
theorem dX6_weightIn_0 : decode cX6_weightIn 0 = .ok (.iconst 0, 1) := by decide +kernel
theorem dX6_weightIn_1 : decode cX6_weightIn 1 = .ok (.istore_n 2, 1) := by decide +kernel
theorem dX6_weightIn_2 : decode cX6_weightIn 2 = .ok (.iconst 0, 1) := by decide +kernel
theorem dX6_weightIn_3 : decode cX6_weightIn 3 = .ok (.istore_n 3, 1) := by decide +kernel
theorem dX6_weightIn_4 : decode cX6_weightIn 4 = .ok (.iload_n 3, 1) := by decide +kernel
theorem dX6_weightIn_5 : decode cX6_weightIn 5 = .ok (.aload_n 0, 1) := by decide +kernel
theorem dX6_weightIn_6 : decode cX6_weightIn 6 = .ok (.getfield 21, 3) := by decide +kernel
theorem dX6_weightIn_9 : decode cX6_weightIn 9 = .ok (.if_icmp .ge 47, 3) := by decide +kernel
theorem dX6_weightIn_12 : decode cX6_weightIn 12 = .ok (.iload_n 3, 1) := by decide +kernel
theorem dX6_weightIn_13 : decode cX6_weightIn 13 = .ok (.bipush 20, 2) := by decide +kernel
theorem dX6_weightIn_15 : decode cX6_weightIn 15 = .ok (.if_icmp .ge 41, 3) := by decide +kernel
theorem dX6_weightIn_18 : decode cX6_weightIn 18 = .ok (.iload_n 2, 1) := by decide +kernel
theorem dX6_weightIn_19 : decode cX6_weightIn 19 = .ok (.iload_n 1, 1) := by decide +kernel
theorem dX6_weightIn_20 : decode cX6_weightIn 20 = .ok (.aload_n 0, 1) := by decide +kernel
theorem dX6_weightIn_21 : decode cX6_weightIn 21 = .ok (.getfield 9, 3) := by decide +kernel
theorem dX6_weightIn_24 : decode cX6_weightIn 24 = .ok (.iload_n 3, 1) := by decide +kernel
theorem dX6_weightIn_25 : decode cX6_weightIn 25 = .ok (.iaload, 1) := by decide +kernel
theorem dX6_weightIn_26 : decode cX6_weightIn 26 = .ok (.aload_n 0, 1) := by decide +kernel
theorem dX6_weightIn_27 : decode cX6_weightIn 27 = .ok (.getfield 15, 3) := by decide +kernel
theorem dX6_weightIn_30 : decode cX6_weightIn 30 = .ok (.iload_n 3, 1) := by decide +kernel
theorem dX6_weightIn_31 : decode cX6_weightIn 31 = .ok (.iaload, 1) := by decide +kernel
theorem dX6_weightIn_32 : decode cX6_weightIn 32 = .ok (.invokestatic 25, 3) := by decide +kernel
theorem dX6_weightIn_35 : decode cX6_weightIn 35 = .ok (.ifCond .eq 12, 3) := by decide +kernel
theorem dX6_weightIn_38 : decode cX6_weightIn 38 = .ok (.aload_n 0, 1) := by decide +kernel
theorem dX6_weightIn_39 : decode cX6_weightIn 39 = .ok (.getfield 18, 3) := by decide +kernel
theorem dX6_weightIn_42 : decode cX6_weightIn 42 = .ok (.iload_n 3, 1) := by decide +kernel
theorem dX6_weightIn_43 : decode cX6_weightIn 43 = .ok (.iaload, 1) := by decide +kernel
theorem dX6_weightIn_44 : decode cX6_weightIn 44 = .ok (.goto 4, 3) := by decide +kernel
theorem dX6_weightIn_47 : decode cX6_weightIn 47 = .ok (.iconst 0, 1) := by decide +kernel
theorem dX6_weightIn_48 : decode cX6_weightIn 48 = .ok (.iadd, 1) := by decide +kernel
theorem dX6_weightIn_49 : decode cX6_weightIn 49 = .ok (.istore_n 2, 1) := by decide +kernel
theorem dX6_weightIn_50 : decode cX6_weightIn 50 = .ok (.iinc 3 1, 3) := by decide +kernel
theorem dX6_weightIn_53 : decode cX6_weightIn 53 = .ok (.goto (-49), 3) := by decide +kernel
theorem dX6_weightIn_56 : decode cX6_weightIn 56 = .ok (.iload_n 2, 1) := by decide +kernel
theorem dX6_weightIn_57 : decode cX6_weightIn 57 = .ok (.ireturn, 1) := by decide +kernel
set_option maxRecDepth 20000 in
theorem ggX6_firstByEnds_X6_weightIn : GoodIn wsX6_firstByEnds wsX6_weightIn := goodIn_r _ [7, 1, 2, 8, 9, 10, 11, 12, 13, 14, 15, 16] (by decide +kernel) (by decide +kernel)
set_option maxRecDepth 20000 in
theorem gX6_firstByEnds_X6_weightIn : GoodIn wsX6_firstByEnds (wsV RX6 29 RX6 yX6_weightIn wsX6_weightIn) := goodIn_app (goodIn_of _ (by decide +kernel)) ggX6_firstByEnds_X6_weightIn
theorem dX6_firstByEnds_0 : decode cX6_firstByEnds 0 = .ok (.iconst 0, 1) := by decide +kernel
theorem dX6_firstByEnds_1 : decode cX6_firstByEnds 1 = .ok (.istore_n 1, 1) := by decide +kernel
theorem dX6_firstByEnds_2 : decode cX6_firstByEnds 2 = .ok (.iconst (-1), 1) := by decide +kernel
theorem dX6_firstByEnds_3 : decode cX6_firstByEnds 3 = .ok (.istore_n 2, 1) := by decide +kernel
theorem dX6_firstByEnds_4 : decode cX6_firstByEnds 4 = .ok (.iconst 0, 1) := by decide +kernel
theorem dX6_firstByEnds_5 : decode cX6_firstByEnds 5 = .ok (.istore_n 3, 1) := by decide +kernel
theorem dX6_firstByEnds_6 : decode cX6_firstByEnds 6 = .ok (.iload_n 3, 1) := by decide +kernel
theorem dX6_firstByEnds_7 : decode cX6_firstByEnds 7 = .ok (.aload_n 0, 1) := by decide +kernel
theorem dX6_firstByEnds_8 : decode cX6_firstByEnds 8 = .ok (.getfield 21, 3) := by decide +kernel
theorem dX6_firstByEnds_11 : decode cX6_firstByEnds 11 = .ok (.if_icmp .ge 59, 3) := by decide +kernel
theorem dX6_firstByEnds_14 : decode cX6_firstByEnds 14 = .ok (.iload_n 3, 1) := by decide +kernel
theorem dX6_firstByEnds_15 : decode cX6_firstByEnds 15 = .ok (.bipush 20, 2) := by decide +kernel
theorem dX6_firstByEnds_17 : decode cX6_firstByEnds 17 = .ok (.if_icmp .ge 53, 3) := by decide +kernel
theorem dX6_firstByEnds_20 : decode cX6_firstByEnds 20 = .ok (.aload_n 0, 1) := by decide +kernel
theorem dX6_firstByEnds_21 : decode cX6_firstByEnds 21 = .ok (.aload_n 0, 1) := by decide +kernel
theorem dX6_firstByEnds_22 : decode cX6_firstByEnds 22 = .ok (.getfield 9, 3) := by decide +kernel
theorem dX6_firstByEnds_25 : decode cX6_firstByEnds 25 = .ok (.iload_n 3, 1) := by decide +kernel
theorem dX6_firstByEnds_26 : decode cX6_firstByEnds 26 = .ok (.iaload, 1) := by decide +kernel
theorem dX6_firstByEnds_27 : decode cX6_firstByEnds 27 = .ok (.invokevirtual 29, 3) := by decide +kernel
theorem dX6_firstByEnds_30 : decode cX6_firstByEnds 30 = .ok (.istore 4, 2) := by decide +kernel
theorem dX6_firstByEnds_32 : decode cX6_firstByEnds 32 = .ok (.iload 4, 2) := by decide +kernel
theorem dX6_firstByEnds_34 : decode cX6_firstByEnds 34 = .ok (.iload_n 1, 1) := by decide +kernel
theorem dX6_firstByEnds_35 : decode cX6_firstByEnds 35 = .ok (.if_icmp .gt 19, 3) := by decide +kernel
theorem dX6_firstByEnds_38 : decode cX6_firstByEnds 38 = .ok (.iload 4, 2) := by decide +kernel
theorem dX6_firstByEnds_40 : decode cX6_firstByEnds 40 = .ok (.iload_n 1, 1) := by decide +kernel
theorem dX6_firstByEnds_41 : decode cX6_firstByEnds 41 = .ok (.if_icmp .ne 23, 3) := by decide +kernel
theorem dX6_firstByEnds_44 : decode cX6_firstByEnds 44 = .ok (.aload_n 0, 1) := by decide +kernel
theorem dX6_firstByEnds_45 : decode cX6_firstByEnds 45 = .ok (.getfield 9, 3) := by decide +kernel
theorem dX6_firstByEnds_48 : decode cX6_firstByEnds 48 = .ok (.iload_n 3, 1) := by decide +kernel
theorem dX6_firstByEnds_49 : decode cX6_firstByEnds 49 = .ok (.iaload, 1) := by decide +kernel
theorem dX6_firstByEnds_50 : decode cX6_firstByEnds 50 = .ok (.iload_n 2, 1) := by decide +kernel
theorem dX6_firstByEnds_51 : decode cX6_firstByEnds 51 = .ok (.if_icmp .ge 13, 3) := by decide +kernel
theorem dX6_firstByEnds_54 : decode cX6_firstByEnds 54 = .ok (.iload 4, 2) := by decide +kernel
theorem dX6_firstByEnds_56 : decode cX6_firstByEnds 56 = .ok (.istore_n 1, 1) := by decide +kernel
theorem dX6_firstByEnds_57 : decode cX6_firstByEnds 57 = .ok (.aload_n 0, 1) := by decide +kernel
theorem dX6_firstByEnds_58 : decode cX6_firstByEnds 58 = .ok (.getfield 9, 3) := by decide +kernel
theorem dX6_firstByEnds_61 : decode cX6_firstByEnds 61 = .ok (.iload_n 3, 1) := by decide +kernel
theorem dX6_firstByEnds_62 : decode cX6_firstByEnds 62 = .ok (.iaload, 1) := by decide +kernel
theorem dX6_firstByEnds_63 : decode cX6_firstByEnds 63 = .ok (.istore_n 2, 1) := by decide +kernel
theorem dX6_firstByEnds_64 : decode cX6_firstByEnds 64 = .ok (.iinc 3 1, 3) := by decide +kernel
theorem dX6_firstByEnds_67 : decode cX6_firstByEnds 67 = .ok (.goto (-61), 3) := by decide +kernel
theorem dX6_firstByEnds_70 : decode cX6_firstByEnds 70 = .ok (.iload_n 2, 1) := by decide +kernel
theorem dX6_firstByEnds_71 : decode cX6_firstByEnds 71 = .ok (.ireturn, 1) := by decide +kernel
set_option maxRecDepth 20000 in
theorem ggX6_lastByEnds_X6_weightIn : GoodIn wsX6_lastByEnds wsX6_weightIn := goodIn_r _ [7, 1, 8, 2, 9, 10, 11, 12, 13, 14, 15, 16] (by decide +kernel) (by decide +kernel)
set_option maxRecDepth 20000 in
theorem gX6_lastByEnds_X6_weightIn : GoodIn wsX6_lastByEnds (wsV RX6 29 RX6 yX6_weightIn wsX6_weightIn) := goodIn_app (goodIn_of _ (by decide +kernel)) ggX6_lastByEnds_X6_weightIn
set_option maxRecDepth 20000 in
theorem ggX6_lastByEnds_X7_isWithin : GoodIn wsX6_lastByEnds wsX7_isWithin := goodIn_r _ [12] (by decide +kernel) (by decide +kernel)
set_option maxRecDepth 20000 in
theorem gX6_lastByEnds_X7_isWithin_n25 : GoodIn wsX6_lastByEnds (wsX7_isWithin) := ggX6_lastByEnds_X7_isWithin
theorem dX6_lastByEnds_0 : decode cX6_lastByEnds 0 = .ok (.aload_n 0, 1) := by decide +kernel
theorem dX6_lastByEnds_1 : decode cX6_lastByEnds 1 = .ok (.iload_n 1, 1) := by decide +kernel
theorem dX6_lastByEnds_2 : decode cX6_lastByEnds 2 = .ok (.invokevirtual 29, 3) := by decide +kernel
theorem dX6_lastByEnds_5 : decode cX6_lastByEnds 5 = .ok (.istore_n 2, 1) := by decide +kernel
theorem dX6_lastByEnds_6 : decode cX6_lastByEnds 6 = .ok (.sipush 2000, 3) := by decide +kernel
theorem dX6_lastByEnds_9 : decode cX6_lastByEnds 9 = .ok (.istore_n 3, 1) := by decide +kernel
theorem dX6_lastByEnds_10 : decode cX6_lastByEnds 10 = .ok (.iconst 0, 1) := by decide +kernel
theorem dX6_lastByEnds_11 : decode cX6_lastByEnds 11 = .ok (.istore 4, 2) := by decide +kernel
theorem dX6_lastByEnds_13 : decode cX6_lastByEnds 13 = .ok (.iload 4, 2) := by decide +kernel
theorem dX6_lastByEnds_15 : decode cX6_lastByEnds 15 = .ok (.aload_n 0, 1) := by decide +kernel
theorem dX6_lastByEnds_16 : decode cX6_lastByEnds 16 = .ok (.getfield 21, 3) := by decide +kernel
theorem dX6_lastByEnds_19 : decode cX6_lastByEnds 19 = .ok (.if_icmp .ge 56, 3) := by decide +kernel
theorem dX6_lastByEnds_22 : decode cX6_lastByEnds 22 = .ok (.iload 4, 2) := by decide +kernel
theorem dX6_lastByEnds_24 : decode cX6_lastByEnds 24 = .ok (.bipush 20, 2) := by decide +kernel
theorem dX6_lastByEnds_26 : decode cX6_lastByEnds 26 = .ok (.if_icmp .ge 49, 3) := by decide +kernel
theorem dX6_lastByEnds_29 : decode cX6_lastByEnds 29 = .ok (.aload_n 0, 1) := by decide +kernel
theorem dX6_lastByEnds_30 : decode cX6_lastByEnds 30 = .ok (.getfield 15, 3) := by decide +kernel
theorem dX6_lastByEnds_33 : decode cX6_lastByEnds 33 = .ok (.iload 4, 2) := by decide +kernel
theorem dX6_lastByEnds_35 : decode cX6_lastByEnds 35 = .ok (.iaload, 1) := by decide +kernel
theorem dX6_lastByEnds_36 : decode cX6_lastByEnds 36 = .ok (.iload_n 1, 1) := by decide +kernel
theorem dX6_lastByEnds_37 : decode cX6_lastByEnds 37 = .ok (.iload_n 3, 1) := by decide +kernel
theorem dX6_lastByEnds_38 : decode cX6_lastByEnds 38 = .ok (.invokestatic 25, 3) := by decide +kernel
theorem dX6_lastByEnds_41 : decode cX6_lastByEnds 41 = .ok (.ifCond .eq 28, 3) := by decide +kernel
theorem dX6_lastByEnds_44 : decode cX6_lastByEnds 44 = .ok (.aload_n 0, 1) := by decide +kernel
theorem dX6_lastByEnds_45 : decode cX6_lastByEnds 45 = .ok (.aload_n 0, 1) := by decide +kernel
theorem dX6_lastByEnds_46 : decode cX6_lastByEnds 46 = .ok (.getfield 15, 3) := by decide +kernel
theorem dX6_lastByEnds_49 : decode cX6_lastByEnds 49 = .ok (.iload 4, 2) := by decide +kernel
theorem dX6_lastByEnds_51 : decode cX6_lastByEnds 51 = .ok (.iaload, 1) := by decide +kernel
theorem dX6_lastByEnds_52 : decode cX6_lastByEnds 52 = .ok (.iconst 1, 1) := by decide +kernel
theorem dX6_lastByEnds_53 : decode cX6_lastByEnds 53 = .ok (.iadd, 1) := by decide +kernel
theorem dX6_lastByEnds_54 : decode cX6_lastByEnds 54 = .ok (.invokevirtual 29, 3) := by decide +kernel
theorem dX6_lastByEnds_57 : decode cX6_lastByEnds 57 = .ok (.iload_n 2, 1) := by decide +kernel
theorem dX6_lastByEnds_58 : decode cX6_lastByEnds 58 = .ok (.if_icmp .ge 11, 3) := by decide +kernel
theorem dX6_lastByEnds_61 : decode cX6_lastByEnds 61 = .ok (.aload_n 0, 1) := by decide +kernel
theorem dX6_lastByEnds_62 : decode cX6_lastByEnds 62 = .ok (.getfield 15, 3) := by decide +kernel
theorem dX6_lastByEnds_65 : decode cX6_lastByEnds 65 = .ok (.iload 4, 2) := by decide +kernel
theorem dX6_lastByEnds_67 : decode cX6_lastByEnds 67 = .ok (.iaload, 1) := by decide +kernel
theorem dX6_lastByEnds_68 : decode cX6_lastByEnds 68 = .ok (.istore_n 3, 1) := by decide +kernel
theorem dX6_lastByEnds_69 : decode cX6_lastByEnds 69 = .ok (.iinc 4 1, 3) := by decide +kernel
theorem dX6_lastByEnds_72 : decode cX6_lastByEnds 72 = .ok (.goto (-59), 3) := by decide +kernel
theorem dX6_lastByEnds_75 : decode cX6_lastByEnds 75 = .ok (.iload_n 3, 1) := by decide +kernel
theorem dX6_lastByEnds_76 : decode cX6_lastByEnds 76 = .ok (.ireturn, 1) := by decide +kernel
set_option maxRecDepth 20000 in
theorem ggX6_firstByYears_X6_weightIn : GoodIn wsX6_firstByYears wsX6_weightIn := goodIn_r _ [5, 6, 7, 8, 9, 10, 11, 12, 13, 14, 15, 16] (by decide +kernel) (by decide +kernel)
set_option maxRecDepth 20000 in
theorem gX6_firstByYears_X6_weightIn : GoodIn wsX6_firstByYears (wsV RX6 29 RX6 yX6_weightIn wsX6_weightIn) := goodIn_app (goodIn_of _ (by decide +kernel)) ggX6_firstByYears_X6_weightIn
theorem dX6_firstByYears_0 : decode cX6_firstByYears 0 = .ok (.iconst 0, 1) := by decide +kernel
theorem dX6_firstByYears_1 : decode cX6_firstByYears 1 = .ok (.istore_n 1, 1) := by decide +kernel
theorem dX6_firstByYears_2 : decode cX6_firstByYears 2 = .ok (.iconst (-1), 1) := by decide +kernel
theorem dX6_firstByYears_3 : decode cX6_firstByYears 3 = .ok (.istore_n 2, 1) := by decide +kernel
theorem dX6_firstByYears_4 : decode cX6_firstByYears 4 = .ok (.sipush 1400, 3) := by decide +kernel
theorem dX6_firstByYears_7 : decode cX6_firstByYears 7 = .ok (.istore_n 3, 1) := by decide +kernel
theorem dX6_firstByYears_8 : decode cX6_firstByYears 8 = .ok (.iload_n 3, 1) := by decide +kernel
theorem dX6_firstByYears_9 : decode cX6_firstByYears 9 = .ok (.sipush 2000, 3) := by decide +kernel
theorem dX6_firstByYears_12 : decode cX6_firstByYears 12 = .ok (.if_icmp .gt 27, 3) := by decide +kernel
theorem dX6_firstByYears_15 : decode cX6_firstByYears 15 = .ok (.aload_n 0, 1) := by decide +kernel
theorem dX6_firstByYears_16 : decode cX6_firstByYears 16 = .ok (.iload_n 3, 1) := by decide +kernel
theorem dX6_firstByYears_17 : decode cX6_firstByYears 17 = .ok (.invokevirtual 29, 3) := by decide +kernel
theorem dX6_firstByYears_20 : decode cX6_firstByYears 20 = .ok (.istore 4, 2) := by decide +kernel
theorem dX6_firstByYears_22 : decode cX6_firstByYears 22 = .ok (.iload 4, 2) := by decide +kernel
theorem dX6_firstByYears_24 : decode cX6_firstByYears 24 = .ok (.iload_n 1, 1) := by decide +kernel
theorem dX6_firstByYears_25 : decode cX6_firstByYears 25 = .ok (.if_icmp .le 8, 3) := by decide +kernel
theorem dX6_firstByYears_28 : decode cX6_firstByYears 28 = .ok (.iload 4, 2) := by decide +kernel
theorem dX6_firstByYears_30 : decode cX6_firstByYears 30 = .ok (.istore_n 1, 1) := by decide +kernel
theorem dX6_firstByYears_31 : decode cX6_firstByYears 31 = .ok (.iload_n 3, 1) := by decide +kernel
theorem dX6_firstByYears_32 : decode cX6_firstByYears 32 = .ok (.istore_n 2, 1) := by decide +kernel
theorem dX6_firstByYears_33 : decode cX6_firstByYears 33 = .ok (.iinc 3 1, 3) := by decide +kernel
theorem dX6_firstByYears_36 : decode cX6_firstByYears 36 = .ok (.goto (-28), 3) := by decide +kernel
theorem dX6_firstByYears_39 : decode cX6_firstByYears 39 = .ok (.iload_n 2, 1) := by decide +kernel
theorem dX6_firstByYears_40 : decode cX6_firstByYears 40 = .ok (.ireturn, 1) := by decide +kernel
set_option maxRecDepth 20000 in
theorem ggX6_lastByYears_X6_weightIn : GoodIn wsX6_lastByYears wsX6_weightIn := goodIn_r _ [5, 6, 7, 8, 9, 10, 11, 12, 13, 14, 15, 16] (by decide +kernel) (by decide +kernel)
set_option maxRecDepth 20000 in
theorem gX6_lastByYears_X6_weightIn : GoodIn wsX6_lastByYears (wsV RX6 29 RX6 yX6_weightIn wsX6_weightIn) := goodIn_app (goodIn_of _ (by decide +kernel)) ggX6_lastByYears_X6_weightIn
theorem dX6_lastByYears_0 : decode cX6_lastByYears 0 = .ok (.aload_n 0, 1) := by decide +kernel
theorem dX6_lastByYears_1 : decode cX6_lastByYears 1 = .ok (.iload_n 1, 1) := by decide +kernel
theorem dX6_lastByYears_2 : decode cX6_lastByYears 2 = .ok (.invokevirtual 29, 3) := by decide +kernel
theorem dX6_lastByYears_5 : decode cX6_lastByYears 5 = .ok (.istore_n 2, 1) := by decide +kernel
theorem dX6_lastByYears_6 : decode cX6_lastByYears 6 = .ok (.iload_n 1, 1) := by decide +kernel
theorem dX6_lastByYears_7 : decode cX6_lastByYears 7 = .ok (.istore_n 3, 1) := by decide +kernel
theorem dX6_lastByYears_8 : decode cX6_lastByYears 8 = .ok (.iload_n 3, 1) := by decide +kernel
theorem dX6_lastByYears_9 : decode cX6_lastByYears 9 = .ok (.sipush 2000, 3) := by decide +kernel
theorem dX6_lastByYears_12 : decode cX6_lastByYears 12 = .ok (.if_icmp .ge 20, 3) := by decide +kernel
theorem dX6_lastByYears_15 : decode cX6_lastByYears 15 = .ok (.aload_n 0, 1) := by decide +kernel
theorem dX6_lastByYears_16 : decode cX6_lastByYears 16 = .ok (.iload_n 3, 1) := by decide +kernel
theorem dX6_lastByYears_17 : decode cX6_lastByYears 17 = .ok (.iconst 1, 1) := by decide +kernel
theorem dX6_lastByYears_18 : decode cX6_lastByYears 18 = .ok (.iadd, 1) := by decide +kernel
theorem dX6_lastByYears_19 : decode cX6_lastByYears 19 = .ok (.invokevirtual 29, 3) := by decide +kernel
theorem dX6_lastByYears_22 : decode cX6_lastByYears 22 = .ok (.iload_n 2, 1) := by decide +kernel
theorem dX6_lastByYears_23 : decode cX6_lastByYears 23 = .ok (.if_icmp .ne 9, 3) := by decide +kernel
theorem dX6_lastByYears_26 : decode cX6_lastByYears 26 = .ok (.iinc 3 1, 3) := by decide +kernel
theorem dX6_lastByYears_29 : decode cX6_lastByYears 29 = .ok (.goto (-21), 3) := by decide +kernel
theorem dX6_lastByYears_32 : decode cX6_lastByYears 32 = .ok (.iload_n 3, 1) := by decide +kernel
theorem dX6_lastByYears_33 : decode cX6_lastByYears 33 = .ok (.ireturn, 1) := by decide +kernel
set_option maxRecDepth 20000 in
theorem ggX7_init_X0_init : GoodIn wsX7_init wsX0_init := goodIn_r _ [16, 17, 2, 3, 18, 19, 20, 21, 22, 23, 24, 25, 26, 27, 28] (by decide +kernel) (by decide +kernel)
set_option maxRecDepth 20000 in
theorem gX7_init_X0_init : GoodIn wsX7_init (wsX0_init) := ggX7_init_X0_init
theorem dX7_init_0 : decode cX7_init 0 = .ok (.aload_n 0, 1) := by decide +kernel
theorem dX7_init_1 : decode cX7_init 1 = .ok (.invokespecial 3, 3) := by decide +kernel
theorem dX7_init_4 : decode cX7_init 4 = .ok (.aload_n 0, 1) := by decide +kernel
theorem dX7_init_5 : decode cX7_init 5 = .ok (.new 9, 3) := by decide +kernel
theorem dX7_init_8 : decode cX7_init 8 = .ok (.dup, 1) := by decide +kernel
theorem dX7_init_9 : decode cX7_init 9 = .ok (.invokespecial 11, 3) := by decide +kernel
theorem dX7_init_12 : decode cX7_init 12 = .ok (.putfield 12, 3) := by decide +kernel
theorem dX7_init_15 : decode cX7_init 15 = .ok (.aload_n 0, 1) := by decide +kernel
theorem dX7_init_16 : decode cX7_init 16 = .ok (.bipush 10, 2) := by decide +kernel
theorem dX7_init_18 : decode cX7_init 18 = .ok (.anewarray 16, 3) := by decide +kernel
theorem dX7_init_21 : decode cX7_init 21 = .ok (.putfield 18, 3) := by decide +kernel
theorem dX7_init_24 : decode cX7_init 24 = .ok (.aload_n 0, 1) := by decide +kernel
theorem dX7_init_25 : decode cX7_init 25 = .ok (.iconst 4, 1) := by decide +kernel
theorem dX7_init_26 : decode cX7_init 26 = .ok (.anewarray 22, 3) := by decide +kernel
theorem dX7_init_29 : decode cX7_init 29 = .ok (.putfield 24, 3) := by decide +kernel
theorem dX7_init_32 : decode cX7_init 32 = .ok (.aload_n 0, 1) := by decide +kernel
theorem dX7_init_33 : decode cX7_init 33 = .ok (.iconst 3, 1) := by decide +kernel
theorem dX7_init_34 : decode cX7_init 34 = .ok (.anewarray 28, 3) := by decide +kernel
theorem dX7_init_37 : decode cX7_init 37 = .ok (.putfield 30, 3) := by decide +kernel
theorem dX7_init_40 : decode cX7_init 40 = .ok (.return_, 1) := by decide +kernel
set_option maxRecDepth 20000 in
theorem ggX7_drop_X7_isOnGrid : GoodIn wsX7_drop wsX7_isOnGrid := goodIn_r _ [5, 6, 7, 4, 8, 9, 10, 11] (by decide +kernel) (by decide +kernel)
set_option maxRecDepth 20000 in
theorem gX7_drop_X7_isOnGrid : GoodIn wsX7_drop (va_wsS RX7 34 yX7_isOnGrid wsX7_isOnGrid) := goodIn_app (goodIn_of _ (by decide +kernel)) ggX7_drop_X7_isOnGrid
set_option maxRecDepth 20000 in
theorem ggX7_drop_X7_demandPlace : GoodIn wsX7_drop wsX7_demandPlace := goodIn_ca (goodIn_r _ [14, 15, 16] (by decide +kernel) (by decide +kernel)) (goodIn_sub (fun _ h => List.mem_cons_of_mem _ (List.mem_append_left _ (List.mem_append_right _ h))) (by decide +kernel))
set_option maxRecDepth 20000 in
theorem gX7_drop_X7_demandPlace : GoodIn wsX7_drop (va_wsS RX7 38 yX7_demandPlace wsX7_demandPlace) := goodIn_app (goodIn_of _ (by decide +kernel)) ggX7_drop_X7_demandPlace
set_option maxRecDepth 20000 in
theorem ggX7_drop_X7_isWithin : GoodIn wsX7_drop wsX7_isWithin := goodIn_r _ [11] (by decide +kernel) (by decide +kernel)
set_option maxRecDepth 20000 in
theorem gX7_drop_X7_isWithin : GoodIn wsX7_drop (va_wsS RX7 42 yX7_isWithin wsX7_isWithin) := goodIn_app (goodIn_of _ (by decide +kernel)) ggX7_drop_X7_isWithin
set_option maxRecDepth 20000 in
theorem ggX7_drop_X7_demandArgument : GoodIn wsX7_drop wsX7_demandArgument := goodIn_ca (goodIn_r _ [19, 20, 21] (by decide +kernel) (by decide +kernel)) (goodIn_sub (fun _ h => List.mem_cons_of_mem _ (List.mem_append_right _ h)) (by decide +kernel))
set_option maxRecDepth 20000 in
theorem gX7_drop_X7_demandArgument : GoodIn wsX7_drop (va_wsS RX7 46 yX7_demandArgument wsX7_demandArgument) := goodIn_app (goodIn_of _ (by decide +kernel)) ggX7_drop_X7_demandArgument
set_option maxRecDepth 20000 in
theorem ggX7_drop_X0_spread : GoodIn wsX7_drop wsX0_spread := goodIn_r _ [26, 27, 28, 29, 30, 31, 32, 25, 33, 34, 35, 36, 44, 45, 46, 47, 48] (by decide +kernel) (by decide +kernel)
set_option maxRecDepth 20000 in
theorem gX7_drop_X0_spread : GoodIn wsX7_drop (wsV RX7 49 RX0 yX0_spread wsX0_spread) := goodIn_app (goodIn_of _ (by decide +kernel)) ggX7_drop_X0_spread
theorem dX7_drop_0 : decode cX7_drop 0 = .ok (.iload_n 1, 1) := by decide +kernel
theorem dX7_drop_1 : decode cX7_drop 1 = .ok (.iload_n 2, 1) := by decide +kernel
theorem dX7_drop_2 : decode cX7_drop 2 = .ok (.invokestatic 34, 3) := by decide +kernel
theorem dX7_drop_5 : decode cX7_drop 5 = .ok (.invokestatic 38, 3) := by decide +kernel
theorem dX7_drop_8 : decode cX7_drop 8 = .ok (.iload_n 3, 1) := by decide +kernel
theorem dX7_drop_9 : decode cX7_drop 9 = .ok (.iconst 0, 1) := by decide +kernel
theorem dX7_drop_10 : decode cX7_drop 10 = .ok (.iconst 5, 1) := by decide +kernel
theorem dX7_drop_11 : decode cX7_drop 11 = .ok (.invokestatic 42, 3) := by decide +kernel
theorem dX7_drop_14 : decode cX7_drop 14 = .ok (.ifCond .eq 18, 3) := by decide +kernel
theorem dX7_drop_17 : decode cX7_drop 17 = .ok (.iload 4, 2) := by decide +kernel
theorem dX7_drop_19 : decode cX7_drop 19 = .ok (.iconst 1, 1) := by decide +kernel
theorem dX7_drop_20 : decode cX7_drop 20 = .ok (.bipush 64, 2) := by decide +kernel
theorem dX7_drop_22 : decode cX7_drop 22 = .ok (.invokestatic 42, 3) := by decide +kernel
theorem dX7_drop_25 : decode cX7_drop 25 = .ok (.ifCond .eq 7, 3) := by decide +kernel
theorem dX7_drop_28 : decode cX7_drop 28 = .ok (.iconst 1, 1) := by decide +kernel
theorem dX7_drop_29 : decode cX7_drop 29 = .ok (.goto 4, 3) := by decide +kernel
theorem dX7_drop_32 : decode cX7_drop 32 = .ok (.iconst 0, 1) := by decide +kernel
theorem dX7_drop_33 : decode cX7_drop 33 = .ok (.invokestatic 46, 3) := by decide +kernel
theorem dX7_drop_36 : decode cX7_drop 36 = .ok (.aload_n 0, 1) := by decide +kernel
theorem dX7_drop_37 : decode cX7_drop 37 = .ok (.getfield 12, 3) := by decide +kernel
theorem dX7_drop_40 : decode cX7_drop 40 = .ok (.iload_n 1, 1) := by decide +kernel
theorem dX7_drop_41 : decode cX7_drop 41 = .ok (.iload_n 2, 1) := by decide +kernel
theorem dX7_drop_42 : decode cX7_drop 42 = .ok (.iload_n 3, 1) := by decide +kernel
theorem dX7_drop_43 : decode cX7_drop 43 = .ok (.iload 4, 2) := by decide +kernel
theorem dX7_drop_45 : decode cX7_drop 45 = .ok (.invokevirtual 49, 3) := by decide +kernel
theorem dX7_drop_48 : decode cX7_drop 48 = .ok (.ireturn, 1) := by decide +kernel
set_option maxRecDepth 20000 in
theorem ggX7_comb_X7_isOnSide : GoodIn wsX7_comb wsX7_isOnSide := goodIn_r _ [5, 6, 7, 4, 8] (by decide +kernel) (by decide +kernel)
set_option maxRecDepth 20000 in
theorem gX7_comb_X7_isOnSide : GoodIn wsX7_comb (va_wsS RX7 53 yX7_isOnSide wsX7_isOnSide) := goodIn_app (goodIn_of _ (by decide +kernel)) ggX7_comb_X7_isOnSide
set_option maxRecDepth 20000 in
theorem ggX7_comb_X7_demandPlace : GoodIn wsX7_comb wsX7_demandPlace := goodIn_ca (goodIn_r _ [11, 12, 13] (by decide +kernel) (by decide +kernel)) (goodIn_sub (fun _ h => List.mem_cons_of_mem _ (List.mem_append_left _ (List.mem_append_right _ h))) (by decide +kernel))
set_option maxRecDepth 20000 in
theorem gX7_comb_X7_demandPlace : GoodIn wsX7_comb (va_wsS RX7 38 yX7_demandPlace wsX7_demandPlace) := goodIn_app (goodIn_of _ (by decide +kernel)) ggX7_comb_X7_demandPlace
set_option maxRecDepth 20000 in
theorem ggX7_comb_X7_isWithin : GoodIn wsX7_comb wsX7_isWithin := goodIn_r _ [8] (by decide +kernel) (by decide +kernel)
set_option maxRecDepth 20000 in
theorem gX7_comb_X7_isWithin : GoodIn wsX7_comb (va_wsS RX7 42 yX7_isWithin wsX7_isWithin) := goodIn_app (goodIn_of _ (by decide +kernel)) ggX7_comb_X7_isWithin
set_option maxRecDepth 20000 in
theorem ggX7_comb_X7_demandArgument : GoodIn wsX7_comb wsX7_demandArgument := goodIn_ca (goodIn_r _ [16, 17, 18] (by decide +kernel) (by decide +kernel)) (goodIn_sub (fun _ h => List.mem_cons_of_mem _ (List.mem_append_right _ h)) (by decide +kernel))
set_option maxRecDepth 20000 in
theorem gX7_comb_X7_demandArgument : GoodIn wsX7_comb (va_wsS RX7 46 yX7_demandArgument wsX7_demandArgument) := goodIn_app (goodIn_of _ (by decide +kernel)) ggX7_comb_X7_demandArgument
set_option maxRecDepth 20000 in
theorem ggX7_comb_X0_shift : GoodIn wsX7_comb wsX0_shift := goodIn_r _ [23, 24, 25, 26, 27, 28, 4, 29, 30, 31, 32, 33, 41, 42, 43, 44, 45] (by decide +kernel) (by decide +kernel)
set_option maxRecDepth 20000 in
theorem gX7_comb_X0_shift : GoodIn wsX7_comb (wsV RX7 57 RX0 yX0_shift wsX0_shift) := goodIn_app (goodIn_of _ (by decide +kernel)) ggX7_comb_X0_shift
theorem dX7_comb_0 : decode cX7_comb 0 = .ok (.iload_n 2, 1) := by decide +kernel
theorem dX7_comb_1 : decode cX7_comb 1 = .ok (.invokestatic 53, 3) := by decide +kernel
theorem dX7_comb_4 : decode cX7_comb 4 = .ok (.invokestatic 38, 3) := by decide +kernel
theorem dX7_comb_7 : decode cX7_comb 7 = .ok (.iload_n 3, 1) := by decide +kernel
theorem dX7_comb_8 : decode cX7_comb 8 = .ok (.bipush (-7), 2) := by decide +kernel
theorem dX7_comb_10 : decode cX7_comb 10 = .ok (.bipush 7, 2) := by decide +kernel
theorem dX7_comb_12 : decode cX7_comb 12 = .ok (.invokestatic 42, 3) := by decide +kernel
theorem dX7_comb_15 : decode cX7_comb 15 = .ok (.invokestatic 46, 3) := by decide +kernel
theorem dX7_comb_18 : decode cX7_comb 18 = .ok (.aload_n 0, 1) := by decide +kernel
theorem dX7_comb_19 : decode cX7_comb 19 = .ok (.getfield 12, 3) := by decide +kernel
theorem dX7_comb_22 : decode cX7_comb 22 = .ok (.iload_n 1, 1) := by decide +kernel
theorem dX7_comb_23 : decode cX7_comb 23 = .ok (.iload_n 2, 1) := by decide +kernel
theorem dX7_comb_24 : decode cX7_comb 24 = .ok (.iload_n 3, 1) := by decide +kernel
theorem dX7_comb_25 : decode cX7_comb 25 = .ok (.invokevirtual 57, 3) := by decide +kernel
theorem dX7_comb_28 : decode cX7_comb 28 = .ok (.ireturn, 1) := by decide +kernel
set_option maxRecDepth 20000 in
theorem ggX7_lift_X7_demandState : GoodIn wsX7_lift wsX7_demandState := goodIn_ca (goodIn_r _ [7, 8, 9] (by decide +kernel) (by decide +kernel)) (goodIn_sub (fun _ h => List.mem_cons_of_mem _ (List.mem_append_right _ h)) (by decide +kernel))
set_option maxRecDepth 20000 in
theorem gX7_lift_X7_demandState : GoodIn wsX7_lift (va_wsS RX7 65 yX7_demandState wsX7_demandState) := goodIn_app (goodIn_of _ (by decide +kernel)) ggX7_lift_X7_demandState
set_option maxRecDepth 20000 in
theorem ggX7_lift_X0_press : GoodIn wsX7_lift wsX0_press := goodIn_r _ [14, 15, 16, 17, 18, 19, 20, 21, 22, 23, 24, 25, 38, 39, 40, 41, 42, 43] (by decide +kernel) (by decide +kernel)
set_option maxRecDepth 20000 in
theorem gX7_lift_X0_press : GoodIn wsX7_lift (wsV RX7 68 RX0 yX0_press wsX0_press) := goodIn_app (goodIn_of _ (by decide +kernel)) ggX7_lift_X0_press
set_option maxRecDepth 20000 in
theorem ggX7_lift_X0_fade : GoodIn wsX7_lift wsX0_fade := goodIn_r _ [29, 18, 30, 39, 40, 41, 42, 43] (by decide +kernel) (by decide +kernel)
set_option maxRecDepth 20000 in
theorem gX7_lift_X0_fade : GoodIn wsX7_lift (wsV RX7 72 RX0 yX0_fade wsX0_fade) := goodIn_app (goodIn_of _ (by decide +kernel)) ggX7_lift_X0_fade
theorem dX7_lift_0 : decode cX7_lift 0 = .ok (.aload_n 0, 1) := by decide +kernel
theorem dX7_lift_1 : decode cX7_lift 1 = .ok (.getfield 61, 3) := by decide +kernel
theorem dX7_lift_4 : decode cX7_lift 4 = .ok (.bipush 10, 2) := by decide +kernel
theorem dX7_lift_6 : decode cX7_lift 6 = .ok (.if_icmp .ge 7, 3) := by decide +kernel
theorem dX7_lift_9 : decode cX7_lift 9 = .ok (.iconst 1, 1) := by decide +kernel
theorem dX7_lift_10 : decode cX7_lift 10 = .ok (.goto 4, 3) := by decide +kernel
theorem dX7_lift_13 : decode cX7_lift 13 = .ok (.iconst 0, 1) := by decide +kernel
theorem dX7_lift_14 : decode cX7_lift 14 = .ok (.invokestatic 65, 3) := by decide +kernel
theorem dX7_lift_17 : decode cX7_lift 17 = .ok (.aload_n 0, 1) := by decide +kernel
theorem dX7_lift_18 : decode cX7_lift 18 = .ok (.getfield 61, 3) := by decide +kernel
theorem dX7_lift_21 : decode cX7_lift 21 = .ok (.istore_n 1, 1) := by decide +kernel
theorem dX7_lift_22 : decode cX7_lift 22 = .ok (.aload_n 0, 1) := by decide +kernel
theorem dX7_lift_23 : decode cX7_lift 23 = .ok (.getfield 18, 3) := by decide +kernel
theorem dX7_lift_26 : decode cX7_lift 26 = .ok (.iload_n 1, 1) := by decide +kernel
theorem dX7_lift_27 : decode cX7_lift 27 = .ok (.aload_n 0, 1) := by decide +kernel
theorem dX7_lift_28 : decode cX7_lift 28 = .ok (.getfield 12, 3) := by decide +kernel
theorem dX7_lift_31 : decode cX7_lift 31 = .ok (.invokevirtual 68, 3) := by decide +kernel
theorem dX7_lift_34 : decode cX7_lift 34 = .ok (.aastore, 1) := by decide +kernel
theorem dX7_lift_35 : decode cX7_lift 35 = .ok (.aload_n 0, 1) := by decide +kernel
theorem dX7_lift_36 : decode cX7_lift 36 = .ok (.dup, 1) := by decide +kernel
theorem dX7_lift_37 : decode cX7_lift 37 = .ok (.getfield 61, 3) := by decide +kernel
theorem dX7_lift_40 : decode cX7_lift 40 = .ok (.iconst 1, 1) := by decide +kernel
theorem dX7_lift_41 : decode cX7_lift 41 = .ok (.iadd, 1) := by decide +kernel
theorem dX7_lift_42 : decode cX7_lift 42 = .ok (.putfield 61, 3) := by decide +kernel
theorem dX7_lift_45 : decode cX7_lift 45 = .ok (.aload_n 0, 1) := by decide +kernel
theorem dX7_lift_46 : decode cX7_lift 46 = .ok (.getfield 12, 3) := by decide +kernel
theorem dX7_lift_49 : decode cX7_lift 49 = .ok (.invokevirtual 72, 3) := by decide +kernel
theorem dX7_lift_52 : decode cX7_lift 52 = .ok (.iload_n 1, 1) := by decide +kernel
theorem dX7_lift_53 : decode cX7_lift 53 = .ok (.ireturn, 1) := by decide +kernel
set_option maxRecDepth 20000 in
theorem ggX7_clean_X0_empty : GoodIn wsX7_clean wsX0_empty := goodIn_r _ [6, 7, 8, 16, 17, 18, 19, 20] (by decide +kernel) (by decide +kernel)
set_option maxRecDepth 20000 in
theorem gX7_clean_X0_empty : GoodIn wsX7_clean (wsV RX7 75 RX0 yX0_empty wsX0_empty) := goodIn_app (goodIn_of _ (by decide +kernel)) ggX7_clean_X0_empty
theorem dX7_clean_0 : decode cX7_clean 0 = .ok (.aload_n 0, 1) := by decide +kernel
theorem dX7_clean_1 : decode cX7_clean 1 = .ok (.getfield 12, 3) := by decide +kernel
theorem dX7_clean_4 : decode cX7_clean 4 = .ok (.invokevirtual 75, 3) := by decide +kernel
theorem dX7_clean_7 : decode cX7_clean 7 = .ok (.ireturn, 1) := by decide +kernel
set_option maxRecDepth 20000 in
theorem ggX7_cellAt_X7_isOnGrid : GoodIn wsX7_cellAt wsX7_isOnGrid := goodIn_r _ [5, 6, 7, 4, 8, 9, 10, 11] (by decide +kernel) (by decide +kernel)
set_option maxRecDepth 20000 in
theorem gX7_cellAt_X7_isOnGrid : GoodIn wsX7_cellAt (va_wsS RX7 34 yX7_isOnGrid wsX7_isOnGrid) := goodIn_app (goodIn_of _ (by decide +kernel)) ggX7_cellAt_X7_isOnGrid
set_option maxRecDepth 20000 in
theorem ggX7_cellAt_X7_demandPlace : GoodIn wsX7_cellAt wsX7_demandPlace := goodIn_ca (goodIn_r _ [14, 15, 16] (by decide +kernel) (by decide +kernel)) (goodIn_sub (fun _ h => List.mem_cons_of_mem _ (List.mem_append_left _ (List.mem_append_right _ h))) (by decide +kernel))
set_option maxRecDepth 20000 in
theorem gX7_cellAt_X7_demandPlace : GoodIn wsX7_cellAt (va_wsS RX7 38 yX7_demandPlace wsX7_demandPlace) := goodIn_app (goodIn_of _ (by decide +kernel)) ggX7_cellAt_X7_demandPlace
set_option maxRecDepth 20000 in
theorem ggX7_cellAt_X7_isWithin : GoodIn wsX7_cellAt wsX7_isWithin := goodIn_r _ [11] (by decide +kernel) (by decide +kernel)
set_option maxRecDepth 20000 in
theorem gX7_cellAt_X7_isWithin : GoodIn wsX7_cellAt (va_wsS RX7 42 yX7_isWithin wsX7_isWithin) := goodIn_app (goodIn_of _ (by decide +kernel)) ggX7_cellAt_X7_isWithin
set_option maxRecDepth 20000 in
theorem ggX7_cellAt_X7_demandArgument : GoodIn wsX7_cellAt wsX7_demandArgument := goodIn_ca (goodIn_r _ [19, 20, 21] (by decide +kernel) (by decide +kernel)) (goodIn_sub (fun _ h => List.mem_cons_of_mem _ (List.mem_append_right _ h)) (by decide +kernel))
set_option maxRecDepth 20000 in
theorem gX7_cellAt_X7_demandArgument : GoodIn wsX7_cellAt (va_wsS RX7 46 yX7_demandArgument wsX7_demandArgument) := goodIn_app (goodIn_of _ (by decide +kernel)) ggX7_cellAt_X7_demandArgument
set_option maxRecDepth 20000 in
theorem ggX7_cellAt_X7_cellOf : GoodIn wsX7_cellAt wsX7_cellOf := goodIn_r _ [24] (by decide +kernel) (by decide +kernel)
set_option maxRecDepth 20000 in
theorem gX7_cellAt_X7_cellOf : GoodIn wsX7_cellAt (va_wsS RX7 79 yX7_cellOf wsX7_cellOf) := goodIn_app (goodIn_of _ (by decide +kernel)) ggX7_cellAt_X7_cellOf
theorem dX7_cellAt_0 : decode cX7_cellAt 0 = .ok (.iload_n 1, 1) := by decide +kernel
theorem dX7_cellAt_1 : decode cX7_cellAt 1 = .ok (.iload_n 2, 1) := by decide +kernel
theorem dX7_cellAt_2 : decode cX7_cellAt 2 = .ok (.invokestatic 34, 3) := by decide +kernel
theorem dX7_cellAt_5 : decode cX7_cellAt 5 = .ok (.invokestatic 38, 3) := by decide +kernel
theorem dX7_cellAt_8 : decode cX7_cellAt 8 = .ok (.iload_n 3, 1) := by decide +kernel
theorem dX7_cellAt_9 : decode cX7_cellAt 9 = .ok (.iconst 0, 1) := by decide +kernel
theorem dX7_cellAt_10 : decode cX7_cellAt 10 = .ok (.iconst 1, 1) := by decide +kernel
theorem dX7_cellAt_11 : decode cX7_cellAt 11 = .ok (.invokestatic 42, 3) := by decide +kernel
theorem dX7_cellAt_14 : decode cX7_cellAt 14 = .ok (.invokestatic 46, 3) := by decide +kernel
theorem dX7_cellAt_17 : decode cX7_cellAt 17 = .ok (.iload_n 1, 1) := by decide +kernel
theorem dX7_cellAt_18 : decode cX7_cellAt 18 = .ok (.iload_n 2, 1) := by decide +kernel
theorem dX7_cellAt_19 : decode cX7_cellAt 19 = .ok (.invokestatic 79, 3) := by decide +kernel
theorem dX7_cellAt_22 : decode cX7_cellAt 22 = .ok (.istore 4, 2) := by decide +kernel
theorem dX7_cellAt_24 : decode cX7_cellAt 24 = .ok (.iload_n 3, 1) := by decide +kernel
theorem dX7_cellAt_25 : decode cX7_cellAt 25 = .ok (.ifCond .ne 16, 3) := by decide +kernel
theorem dX7_cellAt_28 : decode cX7_cellAt 28 = .ok (.aload_n 0, 1) := by decide +kernel
theorem dX7_cellAt_29 : decode cX7_cellAt 29 = .ok (.getfield 12, 3) := by decide +kernel
theorem dX7_cellAt_32 : decode cX7_cellAt 32 = .ok (.getfield 83, 3) := by decide +kernel
theorem dX7_cellAt_35 : decode cX7_cellAt 35 = .ok (.iload 4, 2) := by decide +kernel
theorem dX7_cellAt_37 : decode cX7_cellAt 37 = .ok (.iaload, 1) := by decide +kernel
theorem dX7_cellAt_38 : decode cX7_cellAt 38 = .ok (.goto 13, 3) := by decide +kernel
theorem dX7_cellAt_41 : decode cX7_cellAt 41 = .ok (.aload_n 0, 1) := by decide +kernel
theorem dX7_cellAt_42 : decode cX7_cellAt 42 = .ok (.getfield 12, 3) := by decide +kernel
theorem dX7_cellAt_45 : decode cX7_cellAt 45 = .ok (.getfield 87, 3) := by decide +kernel
theorem dX7_cellAt_48 : decode cX7_cellAt 48 = .ok (.iload 4, 2) := by decide +kernel
theorem dX7_cellAt_50 : decode cX7_cellAt 50 = .ok (.iaload, 1) := by decide +kernel
theorem dX7_cellAt_51 : decode cX7_cellAt 51 = .ok (.ireturn, 1) := by decide +kernel
set_option maxRecDepth 20000 in
theorem ggX7_printAt_X7_printOf : GoodIn wsX7_printAt wsX7_printOf := goodIn_ca (goodIn_r _ [5, 6, 7, 8, 9, 10, 4, 11, 25, 26, 27, 28, 29, 30, 31] (by decide +kernel) (by decide +kernel)) (goodIn_sub (fun _ h => List.mem_cons_of_mem _ (List.mem_append_right _ h)) (by decide +kernel))
set_option maxRecDepth 20000 in
theorem gX7_printAt_X7_printOf : GoodIn wsX7_printAt (wsV RX7 90 RX7 yX7_printOf wsX7_printOf) := goodIn_app (goodIn_of _ (by decide +kernel)) ggX7_printAt_X7_printOf
set_option maxRecDepth 20000 in
theorem ggX7_printAt_X7_isOnGrid : GoodIn wsX7_printAt wsX7_isOnGrid := goodIn_r _ [14, 15, 16, 4, 17, 9, 10, 11] (by decide +kernel) (by decide +kernel)
set_option maxRecDepth 20000 in
theorem gX7_printAt_X7_isOnGrid : GoodIn wsX7_printAt (va_wsS RX7 34 yX7_isOnGrid wsX7_isOnGrid) := goodIn_app (goodIn_of _ (by decide +kernel)) ggX7_printAt_X7_isOnGrid
set_option maxRecDepth 20000 in
theorem ggX7_printAt_X7_demandPlace : GoodIn wsX7_printAt wsX7_demandPlace := goodIn_ca (goodIn_r _ [20, 6, 7] (by decide +kernel) (by decide +kernel)) (goodIn_sub (fun _ h => List.mem_cons_of_mem _ (List.mem_append_right _ h)) (by decide +kernel))
set_option maxRecDepth 20000 in
theorem gX7_printAt_X7_demandPlace : GoodIn wsX7_printAt (va_wsS RX7 38 yX7_demandPlace wsX7_demandPlace) := goodIn_app (goodIn_of _ (by decide +kernel)) ggX7_printAt_X7_demandPlace
set_option maxRecDepth 20000 in
theorem ggX7_printAt_X7_cellOf : GoodIn wsX7_printAt wsX7_cellOf := goodIn_r _ [23] (by decide +kernel) (by decide +kernel)
set_option maxRecDepth 20000 in
theorem gX7_printAt_X7_cellOf : GoodIn wsX7_printAt (va_wsS RX7 79 yX7_cellOf wsX7_cellOf) := goodIn_app (goodIn_of _ (by decide +kernel)) ggX7_printAt_X7_cellOf
theorem dX7_printAt_0 : decode cX7_printAt 0 = .ok (.aload_n 0, 1) := by decide +kernel
theorem dX7_printAt_1 : decode cX7_printAt 1 = .ok (.iload_n 1, 1) := by decide +kernel
theorem dX7_printAt_2 : decode cX7_printAt 2 = .ok (.invokevirtual 90, 3) := by decide +kernel
theorem dX7_printAt_5 : decode cX7_printAt 5 = .ok (.astore 4, 2) := by decide +kernel
theorem dX7_printAt_7 : decode cX7_printAt 7 = .ok (.iload_n 2, 1) := by decide +kernel
theorem dX7_printAt_8 : decode cX7_printAt 8 = .ok (.iload_n 3, 1) := by decide +kernel
theorem dX7_printAt_9 : decode cX7_printAt 9 = .ok (.invokestatic 34, 3) := by decide +kernel
theorem dX7_printAt_12 : decode cX7_printAt 12 = .ok (.invokestatic 38, 3) := by decide +kernel
theorem dX7_printAt_15 : decode cX7_printAt 15 = .ok (.aload 4, 2) := by decide +kernel
theorem dX7_printAt_17 : decode cX7_printAt 17 = .ok (.getfield 94, 3) := by decide +kernel
theorem dX7_printAt_20 : decode cX7_printAt 20 = .ok (.iload_n 2, 1) := by decide +kernel
theorem dX7_printAt_21 : decode cX7_printAt 21 = .ok (.iload_n 3, 1) := by decide +kernel
theorem dX7_printAt_22 : decode cX7_printAt 22 = .ok (.invokestatic 79, 3) := by decide +kernel
theorem dX7_printAt_25 : decode cX7_printAt 25 = .ok (.iaload, 1) := by decide +kernel
theorem dX7_printAt_26 : decode cX7_printAt 26 = .ok (.ireturn, 1) := by decide +kernel
set_option maxRecDepth 20000 in
theorem ggX7_count_X7_printOf : GoodIn wsX7_count wsX7_printOf := goodIn_ca (goodIn_r _ [5, 6, 7, 8, 9, 10, 4, 11, 23, 24, 25, 26, 27, 28, 29] (by decide +kernel) (by decide +kernel)) (goodIn_sub (fun _ h => List.mem_cons_of_mem _ (List.mem_append_left _ (List.mem_append_right _ h))) (by decide +kernel))
set_option maxRecDepth 20000 in
theorem gX7_count_X7_printOf : GoodIn wsX7_count (wsV RX7 90 RX7 yX7_printOf wsX7_printOf) := goodIn_app (goodIn_of _ (by decide +kernel)) ggX7_count_X7_printOf
set_option maxRecDepth 20000 in
theorem ggX7_count_X7_isWithin : GoodIn wsX7_count wsX7_isWithin := goodIn_r _ [11] (by decide +kernel) (by decide +kernel)
set_option maxRecDepth 20000 in
theorem gX7_count_X7_isWithin : GoodIn wsX7_count (va_wsS RX7 42 yX7_isWithin wsX7_isWithin) := goodIn_app (goodIn_of _ (by decide +kernel)) ggX7_count_X7_isWithin
set_option maxRecDepth 20000 in
theorem ggX7_count_X7_demandArgument : GoodIn wsX7_count wsX7_demandArgument := goodIn_ca (goodIn_r _ [14, 15, 16] (by decide +kernel) (by decide +kernel)) (goodIn_sub (fun _ h => List.mem_cons_of_mem _ (List.mem_append_right _ h)) (by decide +kernel))
set_option maxRecDepth 20000 in
theorem gX7_count_X7_demandArgument : GoodIn wsX7_count (va_wsS RX7 46 yX7_demandArgument wsX7_demandArgument) := goodIn_app (goodIn_of _ (by decide +kernel)) ggX7_count_X7_demandArgument
set_option maxRecDepth 20000 in
theorem ggX7_count_X2_cellsWith : GoodIn wsX7_count wsX2_cellsWith := goodIn_r _ [21, 22, 30] (by decide +kernel) (by decide +kernel)
set_option maxRecDepth 20000 in
theorem gX7_count_X2_cellsWith : GoodIn wsX7_count (wsV RX7 95 RX2 yX2_cellsWith wsX2_cellsWith) := goodIn_app (goodIn_of _ (by decide +kernel)) ggX7_count_X2_cellsWith
theorem dX7_count_0 : decode cX7_count 0 = .ok (.aload_n 0, 1) := by decide +kernel
theorem dX7_count_1 : decode cX7_count 1 = .ok (.iload_n 1, 1) := by decide +kernel
theorem dX7_count_2 : decode cX7_count 2 = .ok (.invokevirtual 90, 3) := by decide +kernel
theorem dX7_count_5 : decode cX7_count 5 = .ok (.astore_n 3, 1) := by decide +kernel
theorem dX7_count_6 : decode cX7_count 6 = .ok (.iload_n 2, 1) := by decide +kernel
theorem dX7_count_7 : decode cX7_count 7 = .ok (.iconst (-1), 1) := by decide +kernel
theorem dX7_count_8 : decode cX7_count 8 = .ok (.iconst 5, 1) := by decide +kernel
theorem dX7_count_9 : decode cX7_count 9 = .ok (.invokestatic 42, 3) := by decide +kernel
theorem dX7_count_12 : decode cX7_count 12 = .ok (.invokestatic 46, 3) := by decide +kernel
theorem dX7_count_15 : decode cX7_count 15 = .ok (.aload_n 3, 1) := by decide +kernel
theorem dX7_count_16 : decode cX7_count 16 = .ok (.iload_n 2, 1) := by decide +kernel
theorem dX7_count_17 : decode cX7_count 17 = .ok (.invokevirtual 95, 3) := by decide +kernel
theorem dX7_count_20 : decode cX7_count 20 = .ok (.ireturn, 1) := by decide +kernel
set_option maxRecDepth 20000 in
theorem ggX7_pageAt_X7_isWithin : GoodIn wsX7_pageAt wsX7_isWithin := goodIn_r _ [4] (by decide +kernel) (by decide +kernel)
set_option maxRecDepth 20000 in
theorem gX7_pageAt_X7_isWithin : GoodIn wsX7_pageAt (va_wsS RX7 42 yX7_isWithin wsX7_isWithin) := goodIn_app (goodIn_of _ (by decide +kernel)) ggX7_pageAt_X7_isWithin
set_option maxRecDepth 20000 in
theorem ggX7_pageAt_X7_demandArgument : GoodIn wsX7_pageAt wsX7_demandArgument := goodIn_ca (goodIn_r _ [7, 8, 9] (by decide +kernel) (by decide +kernel)) (goodIn_sub (fun _ h => List.mem_cons_of_mem _ (List.mem_append_right _ h)) (by decide +kernel))
set_option maxRecDepth 20000 in
theorem gX7_pageAt_X7_demandArgument : GoodIn wsX7_pageAt (va_wsS RX7 46 yX7_demandArgument wsX7_demandArgument) := goodIn_app (goodIn_of _ (by decide +kernel)) ggX7_pageAt_X7_demandArgument
set_option maxRecDepth 20000 in
theorem ggX7_pageAt_X7_columnsOf : GoodIn wsX7_pageAt wsX7_columnsOf := goodIn_r _ [12] (by decide +kernel) (by decide +kernel)
set_option maxRecDepth 20000 in
theorem gX7_pageAt_X7_columnsOf : GoodIn wsX7_pageAt (va_wsS RX7 99 yX7_columnsOf wsX7_columnsOf) := goodIn_app (goodIn_of _ (by decide +kernel)) ggX7_pageAt_X7_columnsOf
set_option maxRecDepth 20000 in
theorem ggX7_pageAt_X7_rowsOf : GoodIn wsX7_pageAt wsX7_rowsOf := goodIn_r _ [15] (by decide +kernel) (by decide +kernel)
set_option maxRecDepth 20000 in
theorem gX7_pageAt_X7_rowsOf : GoodIn wsX7_pageAt (va_wsS RX7 102 yX7_rowsOf wsX7_rowsOf) := goodIn_app (goodIn_of _ (by decide +kernel)) ggX7_pageAt_X7_rowsOf
set_option maxRecDepth 20000 in
theorem ggX7_pageAt_X7_foldedPage : GoodIn wsX7_pageAt wsX7_foldedPage := goodIn_r _ [18, 10, 11, 3, 12, 13, 14, 15] (by decide +kernel) (by decide +kernel)
set_option maxRecDepth 20000 in
theorem gX7_pageAt_X7_foldedPage : GoodIn wsX7_pageAt (va_wsS RX7 105 yX7_foldedPage wsX7_foldedPage) := goodIn_app (goodIn_of _ (by decide +kernel)) ggX7_pageAt_X7_foldedPage
theorem dX7_pageAt_0 : decode cX7_pageAt 0 = .ok (.iload_n 1, 1) := by decide +kernel
theorem dX7_pageAt_1 : decode cX7_pageAt 1 = .ok (.iconst 1, 1) := by decide +kernel
theorem dX7_pageAt_2 : decode cX7_pageAt 2 = .ok (.iconst 4, 1) := by decide +kernel
theorem dX7_pageAt_3 : decode cX7_pageAt 3 = .ok (.invokestatic 42, 3) := by decide +kernel
theorem dX7_pageAt_6 : decode cX7_pageAt 6 = .ok (.invokestatic 46, 3) := by decide +kernel
theorem dX7_pageAt_9 : decode cX7_pageAt 9 = .ok (.iload_n 3, 1) := by decide +kernel
theorem dX7_pageAt_10 : decode cX7_pageAt 10 = .ok (.iconst 0, 1) := by decide +kernel
theorem dX7_pageAt_11 : decode cX7_pageAt 11 = .ok (.iload_n 1, 1) := by decide +kernel
theorem dX7_pageAt_12 : decode cX7_pageAt 12 = .ok (.invokestatic 99, 3) := by decide +kernel
theorem dX7_pageAt_15 : decode cX7_pageAt 15 = .ok (.iconst 1, 1) := by decide +kernel
theorem dX7_pageAt_16 : decode cX7_pageAt 16 = .ok (.isub, 1) := by decide +kernel
theorem dX7_pageAt_17 : decode cX7_pageAt 17 = .ok (.invokestatic 42, 3) := by decide +kernel
theorem dX7_pageAt_20 : decode cX7_pageAt 20 = .ok (.ifCond .eq 22, 3) := by decide +kernel
theorem dX7_pageAt_23 : decode cX7_pageAt 23 = .ok (.iload 4, 2) := by decide +kernel
theorem dX7_pageAt_25 : decode cX7_pageAt 25 = .ok (.iconst 0, 1) := by decide +kernel
theorem dX7_pageAt_26 : decode cX7_pageAt 26 = .ok (.iload_n 1, 1) := by decide +kernel
theorem dX7_pageAt_27 : decode cX7_pageAt 27 = .ok (.invokestatic 102, 3) := by decide +kernel
theorem dX7_pageAt_30 : decode cX7_pageAt 30 = .ok (.iconst 1, 1) := by decide +kernel
theorem dX7_pageAt_31 : decode cX7_pageAt 31 = .ok (.isub, 1) := by decide +kernel
theorem dX7_pageAt_32 : decode cX7_pageAt 32 = .ok (.invokestatic 42, 3) := by decide +kernel
theorem dX7_pageAt_35 : decode cX7_pageAt 35 = .ok (.ifCond .eq 7, 3) := by decide +kernel
theorem dX7_pageAt_38 : decode cX7_pageAt 38 = .ok (.iconst 1, 1) := by decide +kernel
theorem dX7_pageAt_39 : decode cX7_pageAt 39 = .ok (.goto 4, 3) := by decide +kernel
theorem dX7_pageAt_42 : decode cX7_pageAt 42 = .ok (.iconst 0, 1) := by decide +kernel
theorem dX7_pageAt_43 : decode cX7_pageAt 43 = .ok (.invokestatic 46, 3) := by decide +kernel
theorem dX7_pageAt_46 : decode cX7_pageAt 46 = .ok (.iload_n 1, 1) := by decide +kernel
theorem dX7_pageAt_47 : decode cX7_pageAt 47 = .ok (.iload_n 2, 1) := by decide +kernel
theorem dX7_pageAt_48 : decode cX7_pageAt 48 = .ok (.iload_n 3, 1) := by decide +kernel
theorem dX7_pageAt_49 : decode cX7_pageAt 49 = .ok (.iload 4, 2) := by decide +kernel
theorem dX7_pageAt_51 : decode cX7_pageAt 51 = .ok (.invokestatic 105, 3) := by decide +kernel
theorem dX7_pageAt_54 : decode cX7_pageAt 54 = .ok (.ireturn, 1) := by decide +kernel
set_option maxRecDepth 20000 in
theorem ggX7_placeOf_X7_isWithin : GoodIn wsX7_placeOf wsX7_isWithin := goodIn_r _ [4] (by decide +kernel) (by decide +kernel)
set_option maxRecDepth 20000 in
theorem gX7_placeOf_X7_isWithin : GoodIn wsX7_placeOf (va_wsS RX7 42 yX7_isWithin wsX7_isWithin) := goodIn_app (goodIn_of _ (by decide +kernel)) ggX7_placeOf_X7_isWithin
set_option maxRecDepth 20000 in
theorem ggX7_placeOf_X7_demandArgument : GoodIn wsX7_placeOf wsX7_demandArgument := goodIn_ca (goodIn_r _ [7, 8, 9] (by decide +kernel) (by decide +kernel)) (goodIn_sub (fun _ h => List.mem_cons_of_mem _ (List.mem_append_right _ h)) (by decide +kernel))
set_option maxRecDepth 20000 in
theorem gX7_placeOf_X7_demandArgument : GoodIn wsX7_placeOf (va_wsS RX7 46 yX7_demandArgument wsX7_demandArgument) := goodIn_app (goodIn_of _ (by decide +kernel)) ggX7_placeOf_X7_demandArgument
set_option maxRecDepth 20000 in
theorem ggX7_placeOf_X7_columnsOf : GoodIn wsX7_placeOf wsX7_columnsOf := goodIn_r _ [12] (by decide +kernel) (by decide +kernel)
set_option maxRecDepth 20000 in
theorem gX7_placeOf_X7_columnsOf : GoodIn wsX7_placeOf (va_wsS RX7 99 yX7_columnsOf wsX7_columnsOf) := goodIn_app (goodIn_of _ (by decide +kernel)) ggX7_placeOf_X7_columnsOf
set_option maxRecDepth 20000 in
theorem ggX7_placeOf_X7_rowsOf : GoodIn wsX7_placeOf wsX7_rowsOf := goodIn_r _ [15] (by decide +kernel) (by decide +kernel)
set_option maxRecDepth 20000 in
theorem gX7_placeOf_X7_rowsOf : GoodIn wsX7_placeOf (va_wsS RX7 102 yX7_rowsOf wsX7_rowsOf) := goodIn_app (goodIn_of _ (by decide +kernel)) ggX7_placeOf_X7_rowsOf
set_option maxRecDepth 20000 in
theorem ggX7_placeOf_X7_unfoldedPlace : GoodIn wsX7_placeOf wsX7_unfoldedPlace := goodIn_r _ [18, 13, 14, 3, 15, 10, 11, 12, 19, 20, 21] (by decide +kernel) (by decide +kernel)
set_option maxRecDepth 20000 in
theorem gX7_placeOf_X7_unfoldedPlace : GoodIn wsX7_placeOf (va_wsS RX7 109 yX7_unfoldedPlace wsX7_unfoldedPlace) := goodIn_app (goodIn_of _ (by decide +kernel)) ggX7_placeOf_X7_unfoldedPlace
theorem dX7_placeOf_0 : decode cX7_placeOf 0 = .ok (.iload_n 1, 1) := by decide +kernel
theorem dX7_placeOf_1 : decode cX7_placeOf 1 = .ok (.iconst 1, 1) := by decide +kernel
theorem dX7_placeOf_2 : decode cX7_placeOf 2 = .ok (.iconst 4, 1) := by decide +kernel
theorem dX7_placeOf_3 : decode cX7_placeOf 3 = .ok (.invokestatic 42, 3) := by decide +kernel
theorem dX7_placeOf_6 : decode cX7_placeOf 6 = .ok (.invokestatic 46, 3) := by decide +kernel
theorem dX7_placeOf_9 : decode cX7_placeOf 9 = .ok (.iload_n 2, 1) := by decide +kernel
theorem dX7_placeOf_10 : decode cX7_placeOf 10 = .ok (.iconst 1, 1) := by decide +kernel
theorem dX7_placeOf_11 : decode cX7_placeOf 11 = .ok (.iconst 2, 1) := by decide +kernel
theorem dX7_placeOf_12 : decode cX7_placeOf 12 = .ok (.iload_n 1, 1) := by decide +kernel
theorem dX7_placeOf_13 : decode cX7_placeOf 13 = .ok (.invokestatic 99, 3) := by decide +kernel
theorem dX7_placeOf_16 : decode cX7_placeOf 16 = .ok (.imul, 1) := by decide +kernel
theorem dX7_placeOf_17 : decode cX7_placeOf 17 = .ok (.iload_n 1, 1) := by decide +kernel
theorem dX7_placeOf_18 : decode cX7_placeOf 18 = .ok (.invokestatic 102, 3) := by decide +kernel
theorem dX7_placeOf_21 : decode cX7_placeOf 21 = .ok (.imul, 1) := by decide +kernel
theorem dX7_placeOf_22 : decode cX7_placeOf 22 = .ok (.invokestatic 42, 3) := by decide +kernel
theorem dX7_placeOf_25 : decode cX7_placeOf 25 = .ok (.invokestatic 46, 3) := by decide +kernel
theorem dX7_placeOf_28 : decode cX7_placeOf 28 = .ok (.iload_n 1, 1) := by decide +kernel
theorem dX7_placeOf_29 : decode cX7_placeOf 29 = .ok (.iload_n 2, 1) := by decide +kernel
theorem dX7_placeOf_30 : decode cX7_placeOf 30 = .ok (.invokestatic 109, 3) := by decide +kernel
theorem dX7_placeOf_33 : decode cX7_placeOf 33 = .ok (.ireturn, 1) := by decide +kernel
set_option maxRecDepth 20000 in
theorem ggX7_book_X7_isWithin : GoodIn wsX7_book wsX7_isWithin := goodIn_r _ [9] (by decide +kernel) (by decide +kernel)
set_option maxRecDepth 20000 in
theorem gX7_book_X7_isWithin : GoodIn wsX7_book (va_wsS RX7 42 yX7_isWithin wsX7_isWithin) := goodIn_app (goodIn_of _ (by decide +kernel)) ggX7_book_X7_isWithin
set_option maxRecDepth 20000 in
theorem ggX7_book_X7_demandArgument : GoodIn wsX7_book wsX7_demandArgument := goodIn_ca (goodIn_r _ [12, 13, 14] (by decide +kernel) (by decide +kernel)) (goodIn_sub (fun _ h => List.mem_cons_of_mem _ (List.mem_append_left _ (List.mem_append_right _ h))) (by decide +kernel))
set_option maxRecDepth 20000 in
theorem gX7_book_X7_demandArgument : GoodIn wsX7_book (va_wsS RX7 46 yX7_demandArgument wsX7_demandArgument) := goodIn_app (goodIn_of _ (by decide +kernel)) ggX7_book_X7_demandArgument
set_option maxRecDepth 20000 in
theorem ggX7_book_X7_demandState : GoodIn wsX7_book wsX7_demandState := goodIn_ca (goodIn_r _ [17, 18, 19] (by decide +kernel) (by decide +kernel)) (goodIn_sub (fun _ h => List.mem_cons_of_mem _ (List.mem_append_right _ h)) (by decide +kernel))
set_option maxRecDepth 20000 in
theorem gX7_book_X7_demandState : GoodIn wsX7_book (va_wsS RX7 65 yX7_demandState wsX7_demandState) := goodIn_app (goodIn_of _ (by decide +kernel)) ggX7_book_X7_demandState
set_option maxRecDepth 20000 in
theorem ggX7_book_X1_init : GoodIn wsX7_book wsX1_init := goodIn_r _ [22, 23, 24, 25, 26, 27, 28, 29, 30, 31, 32, 33, 34, 35, 36, 37, 38, 39, 40, 41, 42, 43, 44, 45, 46, 47, 48, 49, 50, 51, 52, 53, 54, 55, 56, 57, 58, 59, 60, 61, 76, 77, 69, 70, 71, 72, 73, 74, 75, 78, 79, 80, 81, 82, 83, 84, 85, 86, 87, 88, 89, 90, 91] (by decide +kernel) (by decide +kernel)
set_option maxRecDepth 20000 in
theorem gX7_book_X1_init : GoodIn wsX7_book (wsX1_init) := ggX7_book_X1_init
theorem dX7_book_0 : decode cX7_book 0 = .ok (.iload_n 1, 1) := by decide +kernel
theorem dX7_book_1 : decode cX7_book 1 = .ok (.iconst 1, 1) := by decide +kernel
theorem dX7_book_2 : decode cX7_book 2 = .ok (.bipush 8, 2) := by decide +kernel
theorem dX7_book_4 : decode cX7_book 4 = .ok (.invokestatic 42, 3) := by decide +kernel
theorem dX7_book_7 : decode cX7_book 7 = .ok (.ifCond .eq 17, 3) := by decide +kernel
theorem dX7_book_10 : decode cX7_book 10 = .ok (.iload_n 2, 1) := by decide +kernel
theorem dX7_book_11 : decode cX7_book 11 = .ok (.iconst 2, 1) := by decide +kernel
theorem dX7_book_12 : decode cX7_book 12 = .ok (.bipush 16, 2) := by decide +kernel
theorem dX7_book_14 : decode cX7_book 14 = .ok (.invokestatic 42, 3) := by decide +kernel
theorem dX7_book_17 : decode cX7_book 17 = .ok (.ifCond .eq 7, 3) := by decide +kernel
theorem dX7_book_20 : decode cX7_book 20 = .ok (.iconst 1, 1) := by decide +kernel
theorem dX7_book_21 : decode cX7_book 21 = .ok (.goto 4, 3) := by decide +kernel
theorem dX7_book_24 : decode cX7_book 24 = .ok (.iconst 0, 1) := by decide +kernel
theorem dX7_book_25 : decode cX7_book 25 = .ok (.invokestatic 46, 3) := by decide +kernel
theorem dX7_book_28 : decode cX7_book 28 = .ok (.iload_n 3, 1) := by decide +kernel
theorem dX7_book_29 : decode cX7_book 29 = .ok (.iconst 3, 1) := by decide +kernel
theorem dX7_book_30 : decode cX7_book 30 = .ok (.bipush 6, 2) := by decide +kernel
theorem dX7_book_32 : decode cX7_book 32 = .ok (.invokestatic 42, 3) := by decide +kernel
theorem dX7_book_35 : decode cX7_book 35 = .ok (.ifCond .eq 18, 3) := by decide +kernel
theorem dX7_book_38 : decode cX7_book 38 = .ok (.iload 4, 2) := by decide +kernel
theorem dX7_book_40 : decode cX7_book 40 = .ok (.iconst 1, 1) := by decide +kernel
theorem dX7_book_41 : decode cX7_book 41 = .ok (.bipush 9, 2) := by decide +kernel
theorem dX7_book_43 : decode cX7_book 43 = .ok (.invokestatic 42, 3) := by decide +kernel
theorem dX7_book_46 : decode cX7_book 46 = .ok (.ifCond .eq 7, 3) := by decide +kernel
theorem dX7_book_49 : decode cX7_book 49 = .ok (.iconst 1, 1) := by decide +kernel
theorem dX7_book_50 : decode cX7_book 50 = .ok (.goto 4, 3) := by decide +kernel
theorem dX7_book_53 : decode cX7_book 53 = .ok (.iconst 0, 1) := by decide +kernel
theorem dX7_book_54 : decode cX7_book 54 = .ok (.invokestatic 46, 3) := by decide +kernel
theorem dX7_book_57 : decode cX7_book 57 = .ok (.aload_n 0, 1) := by decide +kernel
theorem dX7_book_58 : decode cX7_book 58 = .ok (.getfield 112, 3) := by decide +kernel
theorem dX7_book_61 : decode cX7_book 61 = .ok (.iconst 4, 1) := by decide +kernel
theorem dX7_book_62 : decode cX7_book 62 = .ok (.if_icmp .ge 7, 3) := by decide +kernel
theorem dX7_book_65 : decode cX7_book 65 = .ok (.iconst 1, 1) := by decide +kernel
theorem dX7_book_66 : decode cX7_book 66 = .ok (.goto 4, 3) := by decide +kernel
theorem dX7_book_69 : decode cX7_book 69 = .ok (.iconst 0, 1) := by decide +kernel
theorem dX7_book_70 : decode cX7_book 70 = .ok (.invokestatic 65, 3) := by decide +kernel
theorem dX7_book_73 : decode cX7_book 73 = .ok (.aload_n 0, 1) := by decide +kernel
theorem dX7_book_74 : decode cX7_book 74 = .ok (.getfield 112, 3) := by decide +kernel
theorem dX7_book_77 : decode cX7_book 77 = .ok (.istore 6, 2) := by decide +kernel
theorem dX7_book_79 : decode cX7_book 79 = .ok (.aload_n 0, 1) := by decide +kernel
theorem dX7_book_80 : decode cX7_book 80 = .ok (.getfield 24, 3) := by decide +kernel
theorem dX7_book_83 : decode cX7_book 83 = .ok (.iload 6, 2) := by decide +kernel
theorem dX7_book_85 : decode cX7_book 85 = .ok (.new 22, 3) := by decide +kernel
theorem dX7_book_88 : decode cX7_book 88 = .ok (.dup, 1) := by decide +kernel
theorem dX7_book_89 : decode cX7_book 89 = .ok (.iload_n 1, 1) := by decide +kernel
theorem dX7_book_90 : decode cX7_book 90 = .ok (.iload_n 2, 1) := by decide +kernel
theorem dX7_book_91 : decode cX7_book 91 = .ok (.iload_n 3, 1) := by decide +kernel
theorem dX7_book_92 : decode cX7_book 92 = .ok (.iload 4, 2) := by decide +kernel
theorem dX7_book_94 : decode cX7_book 94 = .ok (.iload 5, 2) := by decide +kernel
theorem dX7_book_96 : decode cX7_book 96 = .ok (.invokespecial 115, 3) := by decide +kernel
theorem dX7_book_99 : decode cX7_book 99 = .ok (.aastore, 1) := by decide +kernel
theorem dX7_book_100 : decode cX7_book 100 = .ok (.aload_n 0, 1) := by decide +kernel
theorem dX7_book_101 : decode cX7_book 101 = .ok (.dup, 1) := by decide +kernel
theorem dX7_book_102 : decode cX7_book 102 = .ok (.getfield 112, 3) := by decide +kernel
theorem dX7_book_105 : decode cX7_book 105 = .ok (.iconst 1, 1) := by decide +kernel
theorem dX7_book_106 : decode cX7_book 106 = .ok (.iadd, 1) := by decide +kernel
theorem dX7_book_107 : decode cX7_book 107 = .ok (.putfield 112, 3) := by decide +kernel
theorem dX7_book_110 : decode cX7_book 110 = .ok (.iload 6, 2) := by decide +kernel
theorem dX7_book_112 : decode cX7_book 112 = .ok (.ireturn, 1) := by decide +kernel
set_option maxRecDepth 20000 in
theorem ggX7_sew_X7_bookOf : GoodIn wsX7_sew wsX7_bookOf := goodIn_ca (goodIn_r _ [5, 6, 7, 8, 9, 10, 4, 11, 70, 71, 72, 73, 74, 75, 76] (by decide +kernel) (by decide +kernel)) (goodIn_sub (fun _ h => List.mem_cons_of_mem _ (List.mem_append_left _ (List.mem_append_left _ (List.mem_append_right _ h)))) (by decide +kernel))
set_option maxRecDepth 20000 in
theorem gX7_sew_X7_bookOf : GoodIn wsX7_sew (wsV RX7 118 RX7 yX7_bookOf wsX7_bookOf) := goodIn_app (goodIn_of _ (by decide +kernel)) ggX7_sew_X7_bookOf
set_option maxRecDepth 20000 in
theorem ggX7_sew_X7_isWithin : GoodIn wsX7_sew wsX7_isWithin := goodIn_r _ [11] (by decide +kernel) (by decide +kernel)
set_option maxRecDepth 20000 in
theorem gX7_sew_X7_isWithin : GoodIn wsX7_sew (va_wsS RX7 42 yX7_isWithin wsX7_isWithin) := goodIn_app (goodIn_of _ (by decide +kernel)) ggX7_sew_X7_isWithin
set_option maxRecDepth 20000 in
theorem ggX7_sew_X7_demandArgument : GoodIn wsX7_sew wsX7_demandArgument := goodIn_ca (goodIn_r _ [14, 15, 16] (by decide +kernel) (by decide +kernel)) (goodIn_sub (fun _ h => List.mem_cons_of_mem _ (List.mem_append_left _ (List.mem_append_right _ h))) (by decide +kernel))
set_option maxRecDepth 20000 in
theorem gX7_sew_X7_demandArgument : GoodIn wsX7_sew (va_wsS RX7 46 yX7_demandArgument wsX7_demandArgument) := goodIn_app (goodIn_of _ (by decide +kernel)) ggX7_sew_X7_demandArgument
set_option maxRecDepth 20000 in
theorem ggX7_sew_X4_allows : GoodIn wsX7_sew wsX4_allows := goodIn_r _ [21, 22, 23, 24, 25, 26, 27, 60, 61, 62, 63, 64, 65, 66, 67, 68, 69] (by decide +kernel) (by decide +kernel)
set_option maxRecDepth 20000 in
theorem gX7_sew_X4_allows : GoodIn wsX7_sew (wsV RX7 126 RX4 yX4_allows wsX4_allows) := goodIn_app (goodIn_of _ (by decide +kernel)) ggX7_sew_X4_allows
set_option maxRecDepth 20000 in
theorem ggX7_sew_X7_demandState : GoodIn wsX7_sew wsX7_demandState := goodIn_ca (goodIn_r _ [30, 31, 32] (by decide +kernel) (by decide +kernel)) (goodIn_sub (fun _ h => List.mem_cons_of_mem _ (List.mem_append_right _ h)) (by decide +kernel))
set_option maxRecDepth 20000 in
theorem gX7_sew_X7_demandState : GoodIn wsX7_sew (va_wsS RX7 65 yX7_demandState wsX7_demandState) := goodIn_app (goodIn_of _ (by decide +kernel)) ggX7_sew_X7_demandState
set_option maxRecDepth 20000 in
theorem ggX7_sew_X4_make : GoodIn wsX7_sew wsX4_make := goodIn_r _ [36, 22, 37, 38, 39, 40, 20, 41, 23, 26, 25, 42, 43, 44, 45, 46, 47, 48, 49, 50, 51, 52, 60, 61, 62, 63, 64, 65, 66, 67, 68, 69] (by decide +kernel) (by decide +kernel)
set_option maxRecDepth 20000 in
theorem gX7_sew_X4_make : GoodIn wsX7_sew (wsV RX7 131 RX4 yX4_make wsX4_make) := goodIn_app (goodIn_of _ (by decide +kernel)) ggX7_sew_X4_make
theorem dX7_sew_0 : decode cX7_sew 0 = .ok (.aload_n 0, 1) := by decide +kernel
theorem dX7_sew_1 : decode cX7_sew 1 = .ok (.iload_n 1, 1) := by decide +kernel
theorem dX7_sew_2 : decode cX7_sew 2 = .ok (.invokevirtual 118, 3) := by decide +kernel
theorem dX7_sew_5 : decode cX7_sew 5 = .ok (.getfield 122, 3) := by decide +kernel
theorem dX7_sew_8 : decode cX7_sew 8 = .ok (.astore_n 3, 1) := by decide +kernel
theorem dX7_sew_9 : decode cX7_sew 9 = .ok (.iload_n 2, 1) := by decide +kernel
theorem dX7_sew_10 : decode cX7_sew 10 = .ok (.iconst 0, 1) := by decide +kernel
theorem dX7_sew_11 : decode cX7_sew 11 = .ok (.iconst 4, 1) := by decide +kernel
theorem dX7_sew_12 : decode cX7_sew 12 = .ok (.invokestatic 42, 3) := by decide +kernel
theorem dX7_sew_15 : decode cX7_sew 15 = .ok (.invokestatic 46, 3) := by decide +kernel
theorem dX7_sew_18 : decode cX7_sew 18 = .ok (.aload_n 3, 1) := by decide +kernel
theorem dX7_sew_19 : decode cX7_sew 19 = .ok (.iload_n 2, 1) := by decide +kernel
theorem dX7_sew_20 : decode cX7_sew 20 = .ok (.invokevirtual 126, 3) := by decide +kernel
theorem dX7_sew_23 : decode cX7_sew 23 = .ok (.invokestatic 65, 3) := by decide +kernel
theorem dX7_sew_26 : decode cX7_sew 26 = .ok (.aload_n 3, 1) := by decide +kernel
theorem dX7_sew_27 : decode cX7_sew 27 = .ok (.iload_n 2, 1) := by decide +kernel
theorem dX7_sew_28 : decode cX7_sew 28 = .ok (.invokevirtual 131, 3) := by decide +kernel
theorem dX7_sew_31 : decode cX7_sew 31 = .ok (.aload_n 3, 1) := by decide +kernel
theorem dX7_sew_32 : decode cX7_sew 32 = .ok (.getfield 135, 3) := by decide +kernel
theorem dX7_sew_35 : decode cX7_sew 35 = .ok (.ireturn, 1) := by decide +kernel
set_option maxRecDepth 20000 in
theorem ggX7_unsew_X7_bookOf : GoodIn wsX7_unsew wsX7_bookOf := goodIn_ca (goodIn_r _ [5, 6, 7, 8, 9, 10, 4, 11, 67, 68, 69, 70, 71, 72, 73] (by decide +kernel) (by decide +kernel)) (goodIn_sub (fun _ h => List.mem_cons_of_mem _ (List.mem_append_left _ (List.mem_append_left _ (List.mem_append_right _ h)))) (by decide +kernel))
set_option maxRecDepth 20000 in
theorem gX7_unsew_X7_bookOf : GoodIn wsX7_unsew (wsV RX7 118 RX7 yX7_bookOf wsX7_bookOf) := goodIn_app (goodIn_of _ (by decide +kernel)) ggX7_unsew_X7_bookOf
set_option maxRecDepth 20000 in
theorem ggX7_unsew_X7_isWithin : GoodIn wsX7_unsew wsX7_isWithin := goodIn_r _ [11] (by decide +kernel) (by decide +kernel)
set_option maxRecDepth 20000 in
theorem gX7_unsew_X7_isWithin : GoodIn wsX7_unsew (va_wsS RX7 42 yX7_isWithin wsX7_isWithin) := goodIn_app (goodIn_of _ (by decide +kernel)) ggX7_unsew_X7_isWithin
set_option maxRecDepth 20000 in
theorem ggX7_unsew_X7_demandArgument : GoodIn wsX7_unsew wsX7_demandArgument := goodIn_ca (goodIn_r _ [14, 15, 16] (by decide +kernel) (by decide +kernel)) (goodIn_sub (fun _ h => List.mem_cons_of_mem _ (List.mem_append_left _ (List.mem_append_right _ h))) (by decide +kernel))
set_option maxRecDepth 20000 in
theorem gX7_unsew_X7_demandArgument : GoodIn wsX7_unsew (va_wsS RX7 46 yX7_demandArgument wsX7_demandArgument) := goodIn_app (goodIn_of _ (by decide +kernel)) ggX7_unsew_X7_demandArgument
set_option maxRecDepth 20000 in
theorem ggX7_unsew_X7_demandState : GoodIn wsX7_unsew wsX7_demandState := goodIn_ca (goodIn_r _ [19, 20, 21] (by decide +kernel) (by decide +kernel)) (goodIn_sub (fun _ h => List.mem_cons_of_mem _ (List.mem_append_right _ h)) (by decide +kernel))
set_option maxRecDepth 20000 in
theorem gX7_unsew_X7_demandState : GoodIn wsX7_unsew (va_wsS RX7 65 yX7_demandState wsX7_demandState) := goodIn_app (goodIn_of _ (by decide +kernel)) ggX7_unsew_X7_demandState
set_option maxRecDepth 20000 in
theorem ggX7_unsew_X4_takeBack : GoodIn wsX7_unsew wsX4_takeBack := goodIn_r _ [26, 27, 28, 29, 30, 25, 31, 32, 33, 34, 35, 36, 37, 38, 39, 40, 41, 42, 43, 44, 45, 46, 47, 48, 49, 57, 58, 59, 60, 61, 62, 63, 64, 65, 66] (by decide +kernel) (by decide +kernel)
set_option maxRecDepth 20000 in
theorem gX7_unsew_X4_takeBack : GoodIn wsX7_unsew (wsV RX7 141 RX4 yX4_takeBack wsX4_takeBack) := goodIn_app (goodIn_of _ (by decide +kernel)) ggX7_unsew_X4_takeBack
theorem dX7_unsew_0 : decode cX7_unsew 0 = .ok (.aload_n 0, 1) := by decide +kernel
theorem dX7_unsew_1 : decode cX7_unsew 1 = .ok (.iload_n 1, 1) := by decide +kernel
theorem dX7_unsew_2 : decode cX7_unsew 2 = .ok (.invokevirtual 118, 3) := by decide +kernel
theorem dX7_unsew_5 : decode cX7_unsew 5 = .ok (.getfield 122, 3) := by decide +kernel
theorem dX7_unsew_8 : decode cX7_unsew 8 = .ok (.astore_n 3, 1) := by decide +kernel
theorem dX7_unsew_9 : decode cX7_unsew 9 = .ok (.iload_n 2, 1) := by decide +kernel
theorem dX7_unsew_10 : decode cX7_unsew 10 = .ok (.iconst 1, 1) := by decide +kernel
theorem dX7_unsew_11 : decode cX7_unsew 11 = .ok (.sipush 200, 3) := by decide +kernel
theorem dX7_unsew_14 : decode cX7_unsew 14 = .ok (.invokestatic 42, 3) := by decide +kernel
theorem dX7_unsew_17 : decode cX7_unsew 17 = .ok (.invokestatic 46, 3) := by decide +kernel
theorem dX7_unsew_20 : decode cX7_unsew 20 = .ok (.iload_n 2, 1) := by decide +kernel
theorem dX7_unsew_21 : decode cX7_unsew 21 = .ok (.aload_n 3, 1) := by decide +kernel
theorem dX7_unsew_22 : decode cX7_unsew 22 = .ok (.getfield 138, 3) := by decide +kernel
theorem dX7_unsew_25 : decode cX7_unsew 25 = .ok (.if_icmp .gt 7, 3) := by decide +kernel
theorem dX7_unsew_28 : decode cX7_unsew 28 = .ok (.iconst 1, 1) := by decide +kernel
theorem dX7_unsew_29 : decode cX7_unsew 29 = .ok (.goto 4, 3) := by decide +kernel
theorem dX7_unsew_32 : decode cX7_unsew 32 = .ok (.iconst 0, 1) := by decide +kernel
theorem dX7_unsew_33 : decode cX7_unsew 33 = .ok (.invokestatic 65, 3) := by decide +kernel
theorem dX7_unsew_36 : decode cX7_unsew 36 = .ok (.iconst 0, 1) := by decide +kernel
theorem dX7_unsew_37 : decode cX7_unsew 37 = .ok (.istore 4, 2) := by decide +kernel
theorem dX7_unsew_39 : decode cX7_unsew 39 = .ok (.iload 4, 2) := by decide +kernel
theorem dX7_unsew_41 : decode cX7_unsew 41 = .ok (.iload_n 2, 1) := by decide +kernel
theorem dX7_unsew_42 : decode cX7_unsew 42 = .ok (.if_icmp .ge 13, 3) := by decide +kernel
theorem dX7_unsew_45 : decode cX7_unsew 45 = .ok (.aload_n 3, 1) := by decide +kernel
theorem dX7_unsew_46 : decode cX7_unsew 46 = .ok (.invokevirtual 141, 3) := by decide +kernel
theorem dX7_unsew_49 : decode cX7_unsew 49 = .ok (.iinc 4 1, 3) := by decide +kernel
theorem dX7_unsew_52 : decode cX7_unsew 52 = .ok (.goto (-13), 3) := by decide +kernel
theorem dX7_unsew_55 : decode cX7_unsew 55 = .ok (.aload_n 3, 1) := by decide +kernel
theorem dX7_unsew_56 : decode cX7_unsew 56 = .ok (.getfield 135, 3) := by decide +kernel
theorem dX7_unsew_59 : decode cX7_unsew 59 = .ok (.ireturn, 1) := by decide +kernel
set_option maxRecDepth 20000 in
theorem ggX7_ofThread_X7_bookOf : GoodIn wsX7_ofThread wsX7_bookOf := goodIn_ca (goodIn_r _ [5, 6, 7, 8, 9, 10, 4, 11, 52, 53, 54, 55, 56, 57, 58] (by decide +kernel) (by decide +kernel)) (goodIn_sub (fun _ h => List.mem_cons_of_mem _ (List.mem_append_left _ (List.mem_append_right _ h))) (by decide +kernel))
set_option maxRecDepth 20000 in
theorem gX7_ofThread_X7_bookOf : GoodIn wsX7_ofThread (wsV RX7 118 RX7 yX7_bookOf wsX7_bookOf) := goodIn_app (goodIn_of _ (by decide +kernel)) ggX7_ofThread_X7_bookOf
set_option maxRecDepth 20000 in
theorem ggX7_ofThread_X7_isWithin : GoodIn wsX7_ofThread wsX7_isWithin := goodIn_r _ [11] (by decide +kernel) (by decide +kernel)
set_option maxRecDepth 20000 in
theorem gX7_ofThread_X7_isWithin : GoodIn wsX7_ofThread (va_wsS RX7 42 yX7_isWithin wsX7_isWithin) := goodIn_app (goodIn_of _ (by decide +kernel)) ggX7_ofThread_X7_isWithin
set_option maxRecDepth 20000 in
theorem ggX7_ofThread_X7_demandArgument : GoodIn wsX7_ofThread wsX7_demandArgument := goodIn_ca (goodIn_r _ [14, 15, 16] (by decide +kernel) (by decide +kernel)) (goodIn_sub (fun _ h => List.mem_cons_of_mem _ (List.mem_append_right _ h)) (by decide +kernel))
set_option maxRecDepth 20000 in
theorem gX7_ofThread_X7_demandArgument : GoodIn wsX7_ofThread (va_wsS RX7 46 yX7_demandArgument wsX7_demandArgument) := goodIn_app (goodIn_of _ (by decide +kernel)) ggX7_ofThread_X7_demandArgument
set_option maxRecDepth 20000 in
theorem ggX7_ofThread_X4_isSewn : GoodIn wsX7_ofThread wsX4_isSewn := goodIn_r _ [21, 22, 23, 24, 25, 26, 27, 20, 28, 29, 30, 31, 32, 33, 34, 42, 43, 44, 45, 46, 47, 48, 49, 50, 51] (by decide +kernel) (by decide +kernel)
set_option maxRecDepth 20000 in
theorem gX7_ofThread_X4_isSewn : GoodIn wsX7_ofThread (wsV RX7 154 RX4 yX4_isSewn wsX4_isSewn) := goodIn_app (goodIn_of _ (by decide +kernel)) ggX7_ofThread_X4_isSewn
theorem dX7_ofThread_0 : decode cX7_ofThread 0 = .ok (.aload_n 0, 1) := by decide +kernel
theorem dX7_ofThread_1 : decode cX7_ofThread 1 = .ok (.iload_n 1, 1) := by decide +kernel
theorem dX7_ofThread_2 : decode cX7_ofThread 2 = .ok (.invokevirtual 118, 3) := by decide +kernel
theorem dX7_ofThread_5 : decode cX7_ofThread 5 = .ok (.getfield 122, 3) := by decide +kernel
theorem dX7_ofThread_8 : decode cX7_ofThread 8 = .ok (.astore_n 3, 1) := by decide +kernel
theorem dX7_ofThread_9 : decode cX7_ofThread 9 = .ok (.iload_n 2, 1) := by decide +kernel
theorem dX7_ofThread_10 : decode cX7_ofThread 10 = .ok (.iconst 0, 1) := by decide +kernel
theorem dX7_ofThread_11 : decode cX7_ofThread 11 = .ok (.iconst 5, 1) := by decide +kernel
theorem dX7_ofThread_12 : decode cX7_ofThread 12 = .ok (.invokestatic 42, 3) := by decide +kernel
theorem dX7_ofThread_15 : decode cX7_ofThread 15 = .ok (.invokestatic 46, 3) := by decide +kernel
theorem dX7_ofThread_18 : decode cX7_ofThread 18 = .ok (.iload_n 2, 1) := by decide +kernel
theorem dX7_ofThread_19 : decode cX7_ofThread 19 = .ok (.tableswitch 66 0 4 #[33, 38, 43, 48, 61], 33) := by decide +kernel
theorem dX7_ofThread_52 : decode cX7_ofThread 52 = .ok (.aload_n 3, 1) := by decide +kernel
theorem dX7_ofThread_53 : decode cX7_ofThread 53 = .ok (.getfield 135, 3) := by decide +kernel
theorem dX7_ofThread_56 : decode cX7_ofThread 56 = .ok (.ireturn, 1) := by decide +kernel
theorem dX7_ofThread_57 : decode cX7_ofThread 57 = .ok (.aload_n 3, 1) := by decide +kernel
theorem dX7_ofThread_58 : decode cX7_ofThread 58 = .ok (.getfield 144, 3) := by decide +kernel
theorem dX7_ofThread_61 : decode cX7_ofThread 61 = .ok (.ireturn, 1) := by decide +kernel
theorem dX7_ofThread_62 : decode cX7_ofThread 62 = .ok (.aload_n 3, 1) := by decide +kernel
theorem dX7_ofThread_63 : decode cX7_ofThread 63 = .ok (.getfield 147, 3) := by decide +kernel
theorem dX7_ofThread_66 : decode cX7_ofThread 66 = .ok (.ireturn, 1) := by decide +kernel
theorem dX7_ofThread_67 : decode cX7_ofThread 67 = .ok (.aload_n 3, 1) := by decide +kernel
theorem dX7_ofThread_68 : decode cX7_ofThread 68 = .ok (.getfield 150, 3) := by decide +kernel
theorem dX7_ofThread_71 : decode cX7_ofThread 71 = .ok (.ifCond .eq 7, 3) := by decide +kernel
theorem dX7_ofThread_74 : decode cX7_ofThread 74 = .ok (.iconst 1, 1) := by decide +kernel
theorem dX7_ofThread_75 : decode cX7_ofThread 75 = .ok (.goto 4, 3) := by decide +kernel
theorem dX7_ofThread_78 : decode cX7_ofThread 78 = .ok (.iconst 0, 1) := by decide +kernel
theorem dX7_ofThread_79 : decode cX7_ofThread 79 = .ok (.ireturn, 1) := by decide +kernel
theorem dX7_ofThread_80 : decode cX7_ofThread 80 = .ok (.aload_n 3, 1) := by decide +kernel
theorem dX7_ofThread_81 : decode cX7_ofThread 81 = .ok (.getfield 138, 3) := by decide +kernel
theorem dX7_ofThread_84 : decode cX7_ofThread 84 = .ok (.ireturn, 1) := by decide +kernel
theorem dX7_ofThread_85 : decode cX7_ofThread 85 = .ok (.aload_n 3, 1) := by decide +kernel
theorem dX7_ofThread_86 : decode cX7_ofThread 86 = .ok (.invokevirtual 154, 3) := by decide +kernel
theorem dX7_ofThread_89 : decode cX7_ofThread 89 = .ok (.ifCond .eq 7, 3) := by decide +kernel
theorem dX7_ofThread_92 : decode cX7_ofThread 92 = .ok (.iconst 1, 1) := by decide +kernel
theorem dX7_ofThread_93 : decode cX7_ofThread 93 = .ok (.goto 4, 3) := by decide +kernel
theorem dX7_ofThread_96 : decode cX7_ofThread 96 = .ok (.iconst 0, 1) := by decide +kernel
theorem dX7_ofThread_97 : decode cX7_ofThread 97 = .ok (.ireturn, 1) := by decide +kernel
set_option maxRecDepth 20000 in
theorem ggX7_stitches_X7_bookOf : GoodIn wsX7_stitches wsX7_bookOf := goodIn_ca (goodIn_r _ [5, 6, 7, 8, 9, 10, 4, 11, 38, 39, 40, 41, 42, 43, 44] (by decide +kernel) (by decide +kernel)) (goodIn_sub (fun _ h => List.mem_cons_of_mem _ (List.mem_append_right _ h)) (by decide +kernel))
set_option maxRecDepth 20000 in
theorem gX7_stitches_X7_bookOf : GoodIn wsX7_stitches (wsV RX7 118 RX7 yX7_bookOf wsX7_bookOf) := goodIn_app (goodIn_of _ (by decide +kernel)) ggX7_stitches_X7_bookOf
set_option maxRecDepth 20000 in
theorem ggX7_stitches_X7_isWithin : GoodIn wsX7_stitches wsX7_isWithin := goodIn_r _ [11] (by decide +kernel) (by decide +kernel)
set_option maxRecDepth 20000 in
theorem gX7_stitches_X7_isWithin : GoodIn wsX7_stitches (va_wsS RX7 42 yX7_isWithin wsX7_isWithin) := goodIn_app (goodIn_of _ (by decide +kernel)) ggX7_stitches_X7_isWithin
set_option maxRecDepth 20000 in
theorem ggX7_stitches_X7_demandPlace : GoodIn wsX7_stitches wsX7_demandPlace := goodIn_ca (goodIn_r _ [14, 6, 7] (by decide +kernel) (by decide +kernel)) (goodIn_sub (fun _ h => List.mem_cons_of_mem _ (List.mem_append_right _ h)) (by decide +kernel))
set_option maxRecDepth 20000 in
theorem gX7_stitches_X7_demandPlace : GoodIn wsX7_stitches (va_wsS RX7 38 yX7_demandPlace wsX7_demandPlace) := goodIn_app (goodIn_of _ (by decide +kernel)) ggX7_stitches_X7_demandPlace
set_option maxRecDepth 20000 in
theorem ggX7_stitches_X4_stitchesAt : GoodIn wsX7_stitches wsX4_stitchesAt := goodIn_r _ [19, 20, 28, 29, 30, 31, 32, 33, 34, 35, 36, 37] (by decide +kernel) (by decide +kernel)
set_option maxRecDepth 20000 in
theorem gX7_stitches_X4_stitchesAt : GoodIn wsX7_stitches (wsV RX7 164 RX4 yX4_stitchesAt wsX4_stitchesAt) := goodIn_app (goodIn_of _ (by decide +kernel)) ggX7_stitches_X4_stitchesAt
theorem dX7_stitches_0 : decode cX7_stitches 0 = .ok (.aload_n 0, 1) := by decide +kernel
theorem dX7_stitches_1 : decode cX7_stitches 1 = .ok (.iload_n 1, 1) := by decide +kernel
theorem dX7_stitches_2 : decode cX7_stitches 2 = .ok (.invokevirtual 118, 3) := by decide +kernel
theorem dX7_stitches_5 : decode cX7_stitches 5 = .ok (.getfield 122, 3) := by decide +kernel
theorem dX7_stitches_8 : decode cX7_stitches 8 = .ok (.astore 4, 2) := by decide +kernel
theorem dX7_stitches_10 : decode cX7_stitches 10 = .ok (.iload_n 2, 1) := by decide +kernel
theorem dX7_stitches_11 : decode cX7_stitches 11 = .ok (.iconst 0, 1) := by decide +kernel
theorem dX7_stitches_12 : decode cX7_stitches 12 = .ok (.aload 4, 2) := by decide +kernel
theorem dX7_stitches_14 : decode cX7_stitches 14 = .ok (.getfield 158, 3) := by decide +kernel
theorem dX7_stitches_17 : decode cX7_stitches 17 = .ok (.iconst 1, 1) := by decide +kernel
theorem dX7_stitches_18 : decode cX7_stitches 18 = .ok (.isub, 1) := by decide +kernel
theorem dX7_stitches_19 : decode cX7_stitches 19 = .ok (.invokestatic 42, 3) := by decide +kernel
theorem dX7_stitches_22 : decode cX7_stitches 22 = .ok (.ifCond .eq 22, 3) := by decide +kernel
theorem dX7_stitches_25 : decode cX7_stitches 25 = .ok (.iload_n 3, 1) := by decide +kernel
theorem dX7_stitches_26 : decode cX7_stitches 26 = .ok (.iconst 0, 1) := by decide +kernel
theorem dX7_stitches_27 : decode cX7_stitches 27 = .ok (.aload 4, 2) := by decide +kernel
theorem dX7_stitches_29 : decode cX7_stitches 29 = .ok (.getfield 161, 3) := by decide +kernel
theorem dX7_stitches_32 : decode cX7_stitches 32 = .ok (.iconst 2, 1) := by decide +kernel
theorem dX7_stitches_33 : decode cX7_stitches 33 = .ok (.isub, 1) := by decide +kernel
theorem dX7_stitches_34 : decode cX7_stitches 34 = .ok (.invokestatic 42, 3) := by decide +kernel
theorem dX7_stitches_37 : decode cX7_stitches 37 = .ok (.ifCond .eq 7, 3) := by decide +kernel
theorem dX7_stitches_40 : decode cX7_stitches 40 = .ok (.iconst 1, 1) := by decide +kernel
theorem dX7_stitches_41 : decode cX7_stitches 41 = .ok (.goto 4, 3) := by decide +kernel
theorem dX7_stitches_44 : decode cX7_stitches 44 = .ok (.iconst 0, 1) := by decide +kernel
theorem dX7_stitches_45 : decode cX7_stitches 45 = .ok (.invokestatic 38, 3) := by decide +kernel
theorem dX7_stitches_48 : decode cX7_stitches 48 = .ok (.aload 4, 2) := by decide +kernel
theorem dX7_stitches_50 : decode cX7_stitches 50 = .ok (.iload_n 2, 1) := by decide +kernel
theorem dX7_stitches_51 : decode cX7_stitches 51 = .ok (.iload_n 3, 1) := by decide +kernel
theorem dX7_stitches_52 : decode cX7_stitches 52 = .ok (.invokevirtual 164, 3) := by decide +kernel
theorem dX7_stitches_55 : decode cX7_stitches 55 = .ok (.ireturn, 1) := by decide +kernel
set_option maxRecDepth 20000 in
theorem ggX7_isHeld_X7_bookOf : GoodIn wsX7_isHeld wsX7_bookOf := goodIn_ca (goodIn_r _ [5, 6, 7, 8, 9, 10, 4, 11, 43, 44, 45, 46, 47, 48, 49] (by decide +kernel) (by decide +kernel)) (goodIn_sub (fun _ h => List.mem_cons_of_mem _ (List.mem_append_right _ h)) (by decide +kernel))
set_option maxRecDepth 20000 in
theorem gX7_isHeld_X7_bookOf : GoodIn wsX7_isHeld (wsV RX7 118 RX7 yX7_bookOf wsX7_bookOf) := goodIn_app (goodIn_of _ (by decide +kernel)) ggX7_isHeld_X7_bookOf
set_option maxRecDepth 20000 in
theorem ggX7_isHeld_X7_isWithin : GoodIn wsX7_isHeld wsX7_isWithin := goodIn_r _ [11] (by decide +kernel) (by decide +kernel)
set_option maxRecDepth 20000 in
theorem gX7_isHeld_X7_isWithin : GoodIn wsX7_isHeld (va_wsS RX7 42 yX7_isWithin wsX7_isWithin) := goodIn_app (goodIn_of _ (by decide +kernel)) ggX7_isHeld_X7_isWithin
set_option maxRecDepth 20000 in
theorem ggX7_isHeld_X7_demandPlace : GoodIn wsX7_isHeld wsX7_demandPlace := goodIn_ca (goodIn_r _ [14, 6, 7] (by decide +kernel) (by decide +kernel)) (goodIn_sub (fun _ h => List.mem_cons_of_mem _ (List.mem_append_right _ h)) (by decide +kernel))
set_option maxRecDepth 20000 in
theorem gX7_isHeld_X7_demandPlace : GoodIn wsX7_isHeld (va_wsS RX7 38 yX7_demandPlace wsX7_demandPlace) := goodIn_app (goodIn_of _ (by decide +kernel)) ggX7_isHeld_X7_demandPlace
set_option maxRecDepth 20000 in
theorem ggX7_isHeld_X4_holds : GoodIn wsX7_isHeld wsX4_holds := goodIn_r _ [19, 20, 21, 22, 23, 18, 24, 25, 33, 34, 35, 36, 37, 38, 39, 40, 41, 42] (by decide +kernel) (by decide +kernel)
set_option maxRecDepth 20000 in
theorem gX7_isHeld_X4_holds : GoodIn wsX7_isHeld (wsV RX7 167 RX4 yX4_holds wsX4_holds) := goodIn_app (goodIn_of _ (by decide +kernel)) ggX7_isHeld_X4_holds
theorem dX7_isHeld_0 : decode cX7_isHeld 0 = .ok (.aload_n 0, 1) := by decide +kernel
theorem dX7_isHeld_1 : decode cX7_isHeld 1 = .ok (.iload_n 1, 1) := by decide +kernel
theorem dX7_isHeld_2 : decode cX7_isHeld 2 = .ok (.invokevirtual 118, 3) := by decide +kernel
theorem dX7_isHeld_5 : decode cX7_isHeld 5 = .ok (.getfield 122, 3) := by decide +kernel
theorem dX7_isHeld_8 : decode cX7_isHeld 8 = .ok (.astore_n 3, 1) := by decide +kernel
theorem dX7_isHeld_9 : decode cX7_isHeld 9 = .ok (.iload_n 2, 1) := by decide +kernel
theorem dX7_isHeld_10 : decode cX7_isHeld 10 = .ok (.iconst 0, 1) := by decide +kernel
theorem dX7_isHeld_11 : decode cX7_isHeld 11 = .ok (.aload_n 3, 1) := by decide +kernel
theorem dX7_isHeld_12 : decode cX7_isHeld 12 = .ok (.getfield 158, 3) := by decide +kernel
theorem dX7_isHeld_15 : decode cX7_isHeld 15 = .ok (.iconst 1, 1) := by decide +kernel
theorem dX7_isHeld_16 : decode cX7_isHeld 16 = .ok (.isub, 1) := by decide +kernel
theorem dX7_isHeld_17 : decode cX7_isHeld 17 = .ok (.invokestatic 42, 3) := by decide +kernel
theorem dX7_isHeld_20 : decode cX7_isHeld 20 = .ok (.invokestatic 38, 3) := by decide +kernel
theorem dX7_isHeld_23 : decode cX7_isHeld 23 = .ok (.aload_n 3, 1) := by decide +kernel
theorem dX7_isHeld_24 : decode cX7_isHeld 24 = .ok (.iload_n 2, 1) := by decide +kernel
theorem dX7_isHeld_25 : decode cX7_isHeld 25 = .ok (.invokevirtual 167, 3) := by decide +kernel
theorem dX7_isHeld_28 : decode cX7_isHeld 28 = .ok (.ireturn, 1) := by decide +kernel
set_option maxRecDepth 20000 in
theorem ggX7_back_X7_bookOf : GoodIn wsX7_back wsX7_bookOf := goodIn_ca (goodIn_r _ [5, 6, 7, 8, 9, 10, 4, 11, 24, 25, 26, 27, 28, 29, 30] (by decide +kernel) (by decide +kernel)) (goodIn_sub (fun _ h => List.mem_cons_of_mem _ (List.mem_append_left _ (List.mem_append_right _ h))) (by decide +kernel))
set_option maxRecDepth 20000 in
theorem gX7_back_X7_bookOf : GoodIn wsX7_back (wsV RX7 118 RX7 yX7_bookOf wsX7_bookOf) := goodIn_app (goodIn_of _ (by decide +kernel)) ggX7_back_X7_bookOf
set_option maxRecDepth 20000 in
theorem ggX7_back_X7_isWithin : GoodIn wsX7_back wsX7_isWithin := goodIn_r _ [11] (by decide +kernel) (by decide +kernel)
set_option maxRecDepth 20000 in
theorem gX7_back_X7_isWithin : GoodIn wsX7_back (va_wsS RX7 42 yX7_isWithin wsX7_isWithin) := goodIn_app (goodIn_of _ (by decide +kernel)) ggX7_back_X7_isWithin
set_option maxRecDepth 20000 in
theorem ggX7_back_X7_demandArgument : GoodIn wsX7_back wsX7_demandArgument := goodIn_ca (goodIn_r _ [14, 15, 16] (by decide +kernel) (by decide +kernel)) (goodIn_sub (fun _ h => List.mem_cons_of_mem _ (List.mem_append_right _ h)) (by decide +kernel))
set_option maxRecDepth 20000 in
theorem gX7_back_X7_demandArgument : GoodIn wsX7_back (va_wsS RX7 46 yX7_demandArgument wsX7_demandArgument) := goodIn_app (goodIn_of _ (by decide +kernel)) ggX7_back_X7_demandArgument
theorem dX7_back_0 : decode cX7_back 0 = .ok (.aload_n 0, 1) := by decide +kernel
theorem dX7_back_1 : decode cX7_back 1 = .ok (.iload_n 1, 1) := by decide +kernel
theorem dX7_back_2 : decode cX7_back 2 = .ok (.invokevirtual 118, 3) := by decide +kernel
theorem dX7_back_5 : decode cX7_back 5 = .ok (.astore_n 3, 1) := by decide +kernel
theorem dX7_back_6 : decode cX7_back 6 = .ok (.iload_n 2, 1) := by decide +kernel
theorem dX7_back_7 : decode cX7_back 7 = .ok (.iconst 0, 1) := by decide +kernel
theorem dX7_back_8 : decode cX7_back 8 = .ok (.iconst 2, 1) := by decide +kernel
theorem dX7_back_9 : decode cX7_back 9 = .ok (.invokestatic 42, 3) := by decide +kernel
theorem dX7_back_12 : decode cX7_back 12 = .ok (.invokestatic 46, 3) := by decide +kernel
theorem dX7_back_15 : decode cX7_back 15 = .ok (.aload_n 3, 1) := by decide +kernel
theorem dX7_back_16 : decode cX7_back 16 = .ok (.getfield 170, 3) := by decide +kernel
theorem dX7_back_19 : decode cX7_back 19 = .ok (.istore 4, 2) := by decide +kernel
theorem dX7_back_21 : decode cX7_back 21 = .ok (.aload_n 3, 1) := by decide +kernel
theorem dX7_back_22 : decode cX7_back 22 = .ok (.iload_n 2, 1) := by decide +kernel
theorem dX7_back_23 : decode cX7_back 23 = .ok (.putfield 170, 3) := by decide +kernel
theorem dX7_back_26 : decode cX7_back 26 = .ok (.iload 4, 2) := by decide +kernel
theorem dX7_back_28 : decode cX7_back 28 = .ok (.ireturn, 1) := by decide +kernel
set_option maxRecDepth 20000 in
theorem ggX7_swelling_X7_bookOf : GoodIn wsX7_swelling wsX7_bookOf := goodIn_ca (goodIn_r _ [5, 6, 7, 8, 9, 10, 4, 11, 39, 40, 41, 42, 43, 44, 45] (by decide +kernel) (by decide +kernel)) (goodIn_sub (fun _ h => List.mem_cons_of_mem _ (List.mem_append_right _ h)) (by decide +kernel))
set_option maxRecDepth 20000 in
theorem gX7_swelling_X7_bookOf : GoodIn wsX7_swelling (wsV RX7 118 RX7 yX7_bookOf wsX7_bookOf) := goodIn_app (goodIn_of _ (by decide +kernel)) ggX7_swelling_X7_bookOf
set_option maxRecDepth 20000 in
theorem ggX7_swelling_X4_swell : GoodIn wsX7_swelling wsX4_swell := goodIn_r _ [16, 17, 18, 19, 20, 15, 21, 22, 23, 24, 25, 26, 27, 28, 29, 30, 31, 46, 47, 48, 49, 50, 51, 52, 53, 54, 55] (by decide +kernel) (by decide +kernel)
set_option maxRecDepth 20000 in
theorem gX7_swelling_X4_swell : GoodIn wsX7_swelling (wsV RX7 173 RX4 yX4_swell wsX4_swell) := goodIn_app (goodIn_of _ (by decide +kernel)) ggX7_swelling_X4_swell
theorem dX7_swelling_0 : decode cX7_swelling 0 = .ok (.aload_n 0, 1) := by decide +kernel
theorem dX7_swelling_1 : decode cX7_swelling 1 = .ok (.iload_n 1, 1) := by decide +kernel
theorem dX7_swelling_2 : decode cX7_swelling 2 = .ok (.invokevirtual 118, 3) := by decide +kernel
theorem dX7_swelling_5 : decode cX7_swelling 5 = .ok (.getfield 122, 3) := by decide +kernel
theorem dX7_swelling_8 : decode cX7_swelling 8 = .ok (.invokevirtual 173, 3) := by decide +kernel
theorem dX7_swelling_11 : decode cX7_swelling 11 = .ok (.ireturn, 1) := by decide +kernel
set_option maxRecDepth 20000 in
theorem ggX7_strain_X7_bookOf : GoodIn wsX7_strain wsX7_bookOf := goodIn_ca (goodIn_r _ [5, 6, 7, 8, 9, 10, 4, 11, 59, 60, 61, 62, 63, 64, 65] (by decide +kernel) (by decide +kernel)) (goodIn_sub (fun _ h => List.mem_cons_of_mem _ (List.mem_append_left _ (List.mem_append_right _ h))) (by decide +kernel))
set_option maxRecDepth 20000 in
theorem gX7_strain_X7_bookOf : GoodIn wsX7_strain (wsV RX7 118 RX7 yX7_bookOf wsX7_bookOf) := goodIn_app (goodIn_of _ (by decide +kernel)) ggX7_strain_X7_bookOf
set_option maxRecDepth 20000 in
theorem ggX7_strain_X7_isWithin : GoodIn wsX7_strain wsX7_isWithin := goodIn_r _ [11] (by decide +kernel) (by decide +kernel)
set_option maxRecDepth 20000 in
theorem gX7_strain_X7_isWithin : GoodIn wsX7_strain (va_wsS RX7 42 yX7_isWithin wsX7_isWithin) := goodIn_app (goodIn_of _ (by decide +kernel)) ggX7_strain_X7_isWithin
set_option maxRecDepth 20000 in
theorem ggX7_strain_X7_demandArgument : GoodIn wsX7_strain wsX7_demandArgument := goodIn_ca (goodIn_r _ [14, 15, 16] (by decide +kernel) (by decide +kernel)) (goodIn_sub (fun _ h => List.mem_cons_of_mem _ (List.mem_append_right _ h)) (by decide +kernel))
set_option maxRecDepth 20000 in
theorem gX7_strain_X7_demandArgument : GoodIn wsX7_strain (va_wsS RX7 46 yX7_demandArgument wsX7_demandArgument) := goodIn_app (goodIn_of _ (by decide +kernel)) ggX7_strain_X7_demandArgument
set_option maxRecDepth 20000 in
theorem ggX7_strain_X1_bendAt : GoodIn wsX7_strain wsX1_bendAt := goodIn_r _ [21, 22, 23, 24, 25, 26, 27, 28, 29, 30, 20, 31, 32, 52, 53, 54, 55, 56, 57, 58] (by decide +kernel) (by decide +kernel)
set_option maxRecDepth 20000 in
theorem gX7_strain_X1_bendAt : GoodIn wsX7_strain (wsV RX7 179 RX1 yX1_bendAt wsX1_bendAt) := goodIn_app (goodIn_of _ (by decide +kernel)) ggX7_strain_X1_bendAt
set_option maxRecDepth 20000 in
theorem ggX7_strain_X4_swell : GoodIn wsX7_strain wsX4_swell := goodIn_r _ [37, 38, 39, 40, 41, 36, 42, 43, 44, 45, 25, 46, 47, 48, 49, 50, 51, 66, 67, 68, 69, 70, 71, 72, 73, 74, 75] (by decide +kernel) (by decide +kernel)
set_option maxRecDepth 20000 in
theorem gX7_strain_X4_swell : GoodIn wsX7_strain (wsV RX7 173 RX4 yX4_swell wsX4_swell) := goodIn_app (goodIn_of _ (by decide +kernel)) ggX7_strain_X4_swell
theorem dX7_strain_0 : decode cX7_strain 0 = .ok (.aload_n 0, 1) := by decide +kernel
theorem dX7_strain_1 : decode cX7_strain 1 = .ok (.iload_n 1, 1) := by decide +kernel
theorem dX7_strain_2 : decode cX7_strain 2 = .ok (.invokevirtual 118, 3) := by decide +kernel
theorem dX7_strain_5 : decode cX7_strain 5 = .ok (.astore_n 3, 1) := by decide +kernel
theorem dX7_strain_6 : decode cX7_strain 6 = .ok (.iload_n 2, 1) := by decide +kernel
theorem dX7_strain_7 : decode cX7_strain 7 = .ok (.iconst 0, 1) := by decide +kernel
theorem dX7_strain_8 : decode cX7_strain 8 = .ok (.aload_n 3, 1) := by decide +kernel
theorem dX7_strain_9 : decode cX7_strain 9 = .ok (.getfield 176, 3) := by decide +kernel
theorem dX7_strain_12 : decode cX7_strain 12 = .ok (.invokestatic 42, 3) := by decide +kernel
theorem dX7_strain_15 : decode cX7_strain 15 = .ok (.invokestatic 46, 3) := by decide +kernel
theorem dX7_strain_18 : decode cX7_strain 18 = .ok (.aload_n 3, 1) := by decide +kernel
theorem dX7_strain_19 : decode cX7_strain 19 = .ok (.iload_n 2, 1) := by decide +kernel
theorem dX7_strain_20 : decode cX7_strain 20 = .ok (.invokevirtual 179, 3) := by decide +kernel
theorem dX7_strain_23 : decode cX7_strain 23 = .ok (.aload_n 3, 1) := by decide +kernel
theorem dX7_strain_24 : decode cX7_strain 24 = .ok (.getfield 122, 3) := by decide +kernel
theorem dX7_strain_27 : decode cX7_strain 27 = .ok (.invokevirtual 173, 3) := by decide +kernel
theorem dX7_strain_30 : decode cX7_strain 30 = .ok (.iadd, 1) := by decide +kernel
theorem dX7_strain_31 : decode cX7_strain 31 = .ok (.ireturn, 1) := by decide +kernel
set_option maxRecDepth 20000 in
theorem ggX7_worst_X7_bookOf : GoodIn wsX7_worst wsX7_bookOf := goodIn_ca (goodIn_r _ [5, 6, 7, 8, 9, 10, 4, 11, 32, 33, 34, 35, 36, 37, 38] (by decide +kernel) (by decide +kernel)) (goodIn_sub (fun _ h => List.mem_cons_of_mem _ (List.mem_append_right _ h)) (by decide +kernel))
set_option maxRecDepth 20000 in
theorem gX7_worst_X7_bookOf : GoodIn wsX7_worst (wsV RX7 118 RX7 yX7_bookOf wsX7_bookOf) := goodIn_app (goodIn_of _ (by decide +kernel)) ggX7_worst_X7_bookOf
set_option maxRecDepth 20000 in
theorem ggX7_worst_X1_stiffestOpening : GoodIn wsX7_worst wsX1_stiffestOpening := goodIn_r _ [16, 17, 18, 19, 20, 15, 21, 22, 23, 24, 25, 26, 27, 28, 29, 30, 31, 39, 40, 41, 42, 43, 44, 45] (by decide +kernel) (by decide +kernel)
set_option maxRecDepth 20000 in
theorem gX7_worst_X1_stiffestOpening : GoodIn wsX7_worst (wsV RX7 182 RX1 yX1_stiffestOpening wsX1_stiffestOpening) := goodIn_app (goodIn_of _ (by decide +kernel)) ggX7_worst_X1_stiffestOpening
theorem dX7_worst_0 : decode cX7_worst 0 = .ok (.aload_n 0, 1) := by decide +kernel
theorem dX7_worst_1 : decode cX7_worst 1 = .ok (.iload_n 1, 1) := by decide +kernel
theorem dX7_worst_2 : decode cX7_worst 2 = .ok (.invokevirtual 118, 3) := by decide +kernel
theorem dX7_worst_5 : decode cX7_worst 5 = .ok (.invokevirtual 182, 3) := by decide +kernel
theorem dX7_worst_8 : decode cX7_worst 8 = .ok (.ireturn, 1) := by decide +kernel
set_option maxRecDepth 20000 in
theorem ggX7_opens_X7_bookOf : GoodIn wsX7_opens wsX7_bookOf := goodIn_ca (goodIn_r _ [6, 7, 8, 9, 10, 11, 5, 12, 58, 59, 60, 61, 62, 63, 64] (by decide +kernel) (by decide +kernel)) (goodIn_sub (fun _ h => List.mem_cons_of_mem _ (List.mem_append_left _ (List.mem_append_right _ h))) (by decide +kernel))
set_option maxRecDepth 20000 in
theorem gX7_opens_X7_bookOf : GoodIn wsX7_opens (wsV RX7 118 RX7 yX7_bookOf wsX7_bookOf) := goodIn_app (goodIn_of _ (by decide +kernel)) ggX7_opens_X7_bookOf
set_option maxRecDepth 20000 in
theorem ggX7_opens_X7_isWithin : GoodIn wsX7_opens wsX7_isWithin := goodIn_r _ [12] (by decide +kernel) (by decide +kernel)
set_option maxRecDepth 20000 in
theorem gX7_opens_X7_isWithin : GoodIn wsX7_opens (va_wsS RX7 42 yX7_isWithin wsX7_isWithin) := goodIn_app (goodIn_of _ (by decide +kernel)) ggX7_opens_X7_isWithin
set_option maxRecDepth 20000 in
theorem ggX7_opens_X7_demandArgument : GoodIn wsX7_opens wsX7_demandArgument := goodIn_ca (goodIn_r _ [15, 16, 17] (by decide +kernel) (by decide +kernel)) (goodIn_sub (fun _ h => List.mem_cons_of_mem _ (List.mem_append_right _ h)) (by decide +kernel))
set_option maxRecDepth 20000 in
theorem gX7_opens_X7_demandArgument : GoodIn wsX7_opens (va_wsS RX7 46 yX7_demandArgument wsX7_demandArgument) := goodIn_app (goodIn_of _ (by decide +kernel)) ggX7_opens_X7_demandArgument
set_option maxRecDepth 20000 in
theorem ggX7_opens_X1_openingsWithin : GoodIn wsX7_opens wsX1_openingsWithin := goodIn_r _ [22, 23, 24, 25, 26, 27, 28, 29, 30, 31, 32, 33, 34, 35, 36, 37, 38, 39, 40, 41, 42, 43, 44, 45, 46, 47, 21, 48, 49, 50, 51, 52, 53, 54, 55, 56, 57, 65, 66, 67, 68, 69, 70, 71, 72, 73, 74, 75, 76, 77, 78, 79, 80, 81] (by decide +kernel) (by decide +kernel)
set_option maxRecDepth 20000 in
theorem gX7_opens_X1_openingsWithin : GoodIn wsX7_opens (wsV RX7 186 RX1 yX1_openingsWithin wsX1_openingsWithin) := goodIn_app (goodIn_of _ (by decide +kernel)) ggX7_opens_X1_openingsWithin
theorem dX7_opens_0 : decode cX7_opens 0 = .ok (.aload_n 0, 1) := by decide +kernel
theorem dX7_opens_1 : decode cX7_opens 1 = .ok (.iload_n 1, 1) := by decide +kernel
theorem dX7_opens_2 : decode cX7_opens 2 = .ok (.invokevirtual 118, 3) := by decide +kernel
theorem dX7_opens_5 : decode cX7_opens 5 = .ok (.astore_n 3, 1) := by decide +kernel
theorem dX7_opens_6 : decode cX7_opens 6 = .ok (.iload_n 2, 1) := by decide +kernel
theorem dX7_opens_7 : decode cX7_opens 7 = .ok (.iconst 0, 1) := by decide +kernel
theorem dX7_opens_8 : decode cX7_opens 8 = .ok (.ldc 185, 2) := by decide +kernel
theorem dX7_opens_10 : decode cX7_opens 10 = .ok (.invokestatic 42, 3) := by decide +kernel
theorem dX7_opens_13 : decode cX7_opens 13 = .ok (.invokestatic 46, 3) := by decide +kernel
theorem dX7_opens_16 : decode cX7_opens 16 = .ok (.aload_n 3, 1) := by decide +kernel
theorem dX7_opens_17 : decode cX7_opens 17 = .ok (.iload_n 2, 1) := by decide +kernel
theorem dX7_opens_18 : decode cX7_opens 18 = .ok (.invokevirtual 186, 3) := by decide +kernel
theorem dX7_opens_21 : decode cX7_opens 21 = .ok (.ireturn, 1) := by decide +kernel
set_option maxRecDepth 20000 in
theorem ggX7_skin_X7_isWithin : GoodIn wsX7_skin wsX7_isWithin := goodIn_r _ [9] (by decide +kernel) (by decide +kernel)
set_option maxRecDepth 20000 in
theorem gX7_skin_X7_isWithin : GoodIn wsX7_skin (va_wsS RX7 42 yX7_isWithin wsX7_isWithin) := goodIn_app (goodIn_of _ (by decide +kernel)) ggX7_skin_X7_isWithin
set_option maxRecDepth 20000 in
theorem ggX7_skin_X7_demandArgument : GoodIn wsX7_skin wsX7_demandArgument := goodIn_ca (goodIn_r _ [12, 13, 14] (by decide +kernel) (by decide +kernel)) (goodIn_sub (fun _ h => List.mem_cons_of_mem _ (List.mem_append_left _ (List.mem_append_right _ h))) (by decide +kernel))
set_option maxRecDepth 20000 in
theorem gX7_skin_X7_demandArgument : GoodIn wsX7_skin (va_wsS RX7 46 yX7_demandArgument wsX7_demandArgument) := goodIn_app (goodIn_of _ (by decide +kernel)) ggX7_skin_X7_demandArgument
set_option maxRecDepth 20000 in
theorem ggX7_skin_X7_demandState : GoodIn wsX7_skin wsX7_demandState := goodIn_ca (goodIn_r _ [17, 18, 19] (by decide +kernel) (by decide +kernel)) (goodIn_sub (fun _ h => List.mem_cons_of_mem _ (List.mem_append_right _ h)) (by decide +kernel))
set_option maxRecDepth 20000 in
theorem gX7_skin_X7_demandState : GoodIn wsX7_skin (va_wsS RX7 65 yX7_demandState wsX7_demandState) := goodIn_app (goodIn_of _ (by decide +kernel)) ggX7_skin_X7_demandState
set_option maxRecDepth 20000 in
theorem ggX7_skin_X5_init : GoodIn wsX7_skin wsX5_init := goodIn_r _ [22, 23, 24, 25, 26, 27, 35] (by decide +kernel) (by decide +kernel)
set_option maxRecDepth 20000 in
theorem gX7_skin_X5_init : GoodIn wsX7_skin (wsX5_init) := ggX7_skin_X5_init
theorem dX7_skin_0 : decode cX7_skin 0 = .ok (.iload_n 1, 1) := by decide +kernel
theorem dX7_skin_1 : decode cX7_skin 1 = .ok (.bipush 8, 2) := by decide +kernel
theorem dX7_skin_3 : decode cX7_skin 3 = .ok (.bipush 30, 2) := by decide +kernel
theorem dX7_skin_5 : decode cX7_skin 5 = .ok (.invokestatic 42, 3) := by decide +kernel
theorem dX7_skin_8 : decode cX7_skin 8 = .ok (.invokestatic 46, 3) := by decide +kernel
theorem dX7_skin_11 : decode cX7_skin 11 = .ok (.aload_n 0, 1) := by decide +kernel
theorem dX7_skin_12 : decode cX7_skin 12 = .ok (.getfield 189, 3) := by decide +kernel
theorem dX7_skin_15 : decode cX7_skin 15 = .ok (.iconst 3, 1) := by decide +kernel
theorem dX7_skin_16 : decode cX7_skin 16 = .ok (.if_icmp .ge 7, 3) := by decide +kernel
theorem dX7_skin_19 : decode cX7_skin 19 = .ok (.iconst 1, 1) := by decide +kernel
theorem dX7_skin_20 : decode cX7_skin 20 = .ok (.goto 4, 3) := by decide +kernel
theorem dX7_skin_23 : decode cX7_skin 23 = .ok (.iconst 0, 1) := by decide +kernel
theorem dX7_skin_24 : decode cX7_skin 24 = .ok (.invokestatic 65, 3) := by decide +kernel
theorem dX7_skin_27 : decode cX7_skin 27 = .ok (.aload_n 0, 1) := by decide +kernel
theorem dX7_skin_28 : decode cX7_skin 28 = .ok (.getfield 189, 3) := by decide +kernel
theorem dX7_skin_31 : decode cX7_skin 31 = .ok (.istore_n 2, 1) := by decide +kernel
theorem dX7_skin_32 : decode cX7_skin 32 = .ok (.aload_n 0, 1) := by decide +kernel
theorem dX7_skin_33 : decode cX7_skin 33 = .ok (.getfield 30, 3) := by decide +kernel
theorem dX7_skin_36 : decode cX7_skin 36 = .ok (.iload_n 2, 1) := by decide +kernel
theorem dX7_skin_37 : decode cX7_skin 37 = .ok (.new 28, 3) := by decide +kernel
theorem dX7_skin_40 : decode cX7_skin 40 = .ok (.dup, 1) := by decide +kernel
theorem dX7_skin_41 : decode cX7_skin 41 = .ok (.iload_n 1, 1) := by decide +kernel
theorem dX7_skin_42 : decode cX7_skin 42 = .ok (.invokespecial 192, 3) := by decide +kernel
theorem dX7_skin_45 : decode cX7_skin 45 = .ok (.aastore, 1) := by decide +kernel
theorem dX7_skin_46 : decode cX7_skin 46 = .ok (.aload_n 0, 1) := by decide +kernel
theorem dX7_skin_47 : decode cX7_skin 47 = .ok (.dup, 1) := by decide +kernel
theorem dX7_skin_48 : decode cX7_skin 48 = .ok (.getfield 189, 3) := by decide +kernel
theorem dX7_skin_51 : decode cX7_skin 51 = .ok (.iconst 1, 1) := by decide +kernel
theorem dX7_skin_52 : decode cX7_skin 52 = .ok (.iadd, 1) := by decide +kernel
theorem dX7_skin_53 : decode cX7_skin 53 = .ok (.putfield 189, 3) := by decide +kernel
theorem dX7_skin_56 : decode cX7_skin 56 = .ok (.iload_n 2, 1) := by decide +kernel
theorem dX7_skin_57 : decode cX7_skin 57 = .ok (.ireturn, 1) := by decide +kernel
set_option maxRecDepth 20000 in
theorem ggX7_pare_X7_skinOf : GoodIn wsX7_pare wsX7_skinOf := goodIn_ca (goodIn_r _ [5, 6, 7, 8, 9, 10, 4, 11, 47, 48, 49, 50, 51, 52, 53] (by decide +kernel) (by decide +kernel)) (goodIn_sub (fun _ h => List.mem_cons_of_mem _ (List.mem_append_left _ (List.mem_append_left _ (List.mem_append_right _ h)))) (by decide +kernel))
set_option maxRecDepth 20000 in
theorem gX7_pare_X7_skinOf : GoodIn wsX7_pare (wsV RX7 194 RX7 yX7_skinOf wsX7_skinOf) := goodIn_app (goodIn_of _ (by decide +kernel)) ggX7_pare_X7_skinOf
set_option maxRecDepth 20000 in
theorem ggX7_pare_X7_isOnGrid : GoodIn wsX7_pare wsX7_isOnGrid := goodIn_r _ [14, 15, 16, 4, 17, 9, 10, 11] (by decide +kernel) (by decide +kernel)
set_option maxRecDepth 20000 in
theorem gX7_pare_X7_isOnGrid : GoodIn wsX7_pare (va_wsS RX7 34 yX7_isOnGrid wsX7_isOnGrid) := goodIn_app (goodIn_of _ (by decide +kernel)) ggX7_pare_X7_isOnGrid
set_option maxRecDepth 20000 in
theorem ggX7_pare_X7_demandPlace : GoodIn wsX7_pare wsX7_demandPlace := goodIn_ca (goodIn_r _ [20, 6, 7] (by decide +kernel) (by decide +kernel)) (goodIn_sub (fun _ h => List.mem_cons_of_mem _ (List.mem_append_left _ (List.mem_append_left _ (List.mem_append_right _ h)))) (by decide +kernel))
set_option maxRecDepth 20000 in
theorem gX7_pare_X7_demandPlace : GoodIn wsX7_pare (va_wsS RX7 38 yX7_demandPlace wsX7_demandPlace) := goodIn_app (goodIn_of _ (by decide +kernel)) ggX7_pare_X7_demandPlace
set_option maxRecDepth 20000 in
theorem ggX7_pare_X7_isWithin : GoodIn wsX7_pare wsX7_isWithin := goodIn_r _ [11] (by decide +kernel) (by decide +kernel)
set_option maxRecDepth 20000 in
theorem gX7_pare_X7_isWithin : GoodIn wsX7_pare (va_wsS RX7 42 yX7_isWithin wsX7_isWithin) := goodIn_app (goodIn_of _ (by decide +kernel)) ggX7_pare_X7_isWithin
set_option maxRecDepth 20000 in
theorem ggX7_pare_X7_demandArgument : GoodIn wsX7_pare wsX7_demandArgument := goodIn_ca (goodIn_r _ [23, 24, 25] (by decide +kernel) (by decide +kernel)) (goodIn_sub (fun _ h => List.mem_cons_of_mem _ (List.mem_append_left _ (List.mem_append_right _ h))) (by decide +kernel))
set_option maxRecDepth 20000 in
theorem gX7_pare_X7_demandArgument : GoodIn wsX7_pare (va_wsS RX7 46 yX7_demandArgument wsX7_demandArgument) := goodIn_app (goodIn_of _ (by decide +kernel)) ggX7_pare_X7_demandArgument
set_option maxRecDepth 20000 in
theorem ggX7_pare_X5_thinnest : GoodIn wsX7_pare wsX5_thinnest := goodIn_r _ [30, 31, 32, 33, 34, 35, 36, 4, 37, 54] (by decide +kernel) (by decide +kernel)
set_option maxRecDepth 20000 in
theorem gX7_pare_X5_thinnest : GoodIn wsX7_pare (wsV RX7 198 RX5 yX5_thinnest wsX5_thinnest) := goodIn_app (goodIn_of _ (by decide +kernel)) ggX7_pare_X5_thinnest
set_option maxRecDepth 20000 in
theorem ggX7_pare_X7_demandState : GoodIn wsX7_pare wsX7_demandState := goodIn_ca (goodIn_r _ [40, 41, 42] (by decide +kernel) (by decide +kernel)) (goodIn_sub (fun _ h => List.mem_cons_of_mem _ (List.mem_append_right _ h)) (by decide +kernel))
set_option maxRecDepth 20000 in
theorem gX7_pare_X7_demandState : GoodIn wsX7_pare (va_wsS RX7 65 yX7_demandState wsX7_demandState) := goodIn_app (goodIn_of _ (by decide +kernel)) ggX7_pare_X7_demandState
set_option maxRecDepth 20000 in
theorem ggX7_pare_X5_thin : GoodIn wsX7_pare wsX5_thin := goodIn_r _ [46, 31, 36, 4, 37, 54] (by decide +kernel) (by decide +kernel)
set_option maxRecDepth 20000 in
theorem gX7_pare_X5_thin : GoodIn wsX7_pare (wsV RX7 201 RX5 yX5_thin wsX5_thin) := goodIn_app (goodIn_of _ (by decide +kernel)) ggX7_pare_X5_thin
theorem dX7_pare_0 : decode cX7_pare 0 = .ok (.aload_n 0, 1) := by decide +kernel
theorem dX7_pare_1 : decode cX7_pare 1 = .ok (.iload_n 1, 1) := by decide +kernel
theorem dX7_pare_2 : decode cX7_pare 2 = .ok (.invokevirtual 194, 3) := by decide +kernel
theorem dX7_pare_5 : decode cX7_pare 5 = .ok (.astore 7, 2) := by decide +kernel
theorem dX7_pare_7 : decode cX7_pare 7 = .ok (.iload_n 2, 1) := by decide +kernel
theorem dX7_pare_8 : decode cX7_pare 8 = .ok (.iload 4, 2) := by decide +kernel
theorem dX7_pare_10 : decode cX7_pare 10 = .ok (.invokestatic 34, 3) := by decide +kernel
theorem dX7_pare_13 : decode cX7_pare 13 = .ok (.ifCond .eq 28, 3) := by decide +kernel
theorem dX7_pare_16 : decode cX7_pare 16 = .ok (.iload_n 3, 1) := by decide +kernel
theorem dX7_pare_17 : decode cX7_pare 17 = .ok (.iload 5, 2) := by decide +kernel
theorem dX7_pare_19 : decode cX7_pare 19 = .ok (.invokestatic 34, 3) := by decide +kernel
theorem dX7_pare_22 : decode cX7_pare 22 = .ok (.ifCond .eq 19, 3) := by decide +kernel
theorem dX7_pare_25 : decode cX7_pare 25 = .ok (.iload_n 2, 1) := by decide +kernel
theorem dX7_pare_26 : decode cX7_pare 26 = .ok (.iload_n 3, 1) := by decide +kernel
theorem dX7_pare_27 : decode cX7_pare 27 = .ok (.if_icmp .gt 14, 3) := by decide +kernel
theorem dX7_pare_30 : decode cX7_pare 30 = .ok (.iload 4, 2) := by decide +kernel
theorem dX7_pare_32 : decode cX7_pare 32 = .ok (.iload 5, 2) := by decide +kernel
theorem dX7_pare_34 : decode cX7_pare 34 = .ok (.if_icmp .gt 7, 3) := by decide +kernel
theorem dX7_pare_37 : decode cX7_pare 37 = .ok (.iconst 1, 1) := by decide +kernel
theorem dX7_pare_38 : decode cX7_pare 38 = .ok (.goto 4, 3) := by decide +kernel
theorem dX7_pare_41 : decode cX7_pare 41 = .ok (.iconst 0, 1) := by decide +kernel
theorem dX7_pare_42 : decode cX7_pare 42 = .ok (.invokestatic 38, 3) := by decide +kernel
theorem dX7_pare_45 : decode cX7_pare 45 = .ok (.iload 6, 2) := by decide +kernel
theorem dX7_pare_47 : decode cX7_pare 47 = .ok (.iconst 1, 1) := by decide +kernel
theorem dX7_pare_48 : decode cX7_pare 48 = .ok (.bipush 27, 2) := by decide +kernel
theorem dX7_pare_50 : decode cX7_pare 50 = .ok (.invokestatic 42, 3) := by decide +kernel
theorem dX7_pare_53 : decode cX7_pare 53 = .ok (.invokestatic 46, 3) := by decide +kernel
theorem dX7_pare_56 : decode cX7_pare 56 = .ok (.aload 7, 2) := by decide +kernel
theorem dX7_pare_58 : decode cX7_pare 58 = .ok (.iload_n 2, 1) := by decide +kernel
theorem dX7_pare_59 : decode cX7_pare 59 = .ok (.iload_n 3, 1) := by decide +kernel
theorem dX7_pare_60 : decode cX7_pare 60 = .ok (.iload 4, 2) := by decide +kernel
theorem dX7_pare_62 : decode cX7_pare 62 = .ok (.iload 5, 2) := by decide +kernel
theorem dX7_pare_64 : decode cX7_pare 64 = .ok (.invokevirtual 198, 3) := by decide +kernel
theorem dX7_pare_67 : decode cX7_pare 67 = .ok (.iload 6, 2) := by decide +kernel
theorem dX7_pare_69 : decode cX7_pare 69 = .ok (.isub, 1) := by decide +kernel
theorem dX7_pare_70 : decode cX7_pare 70 = .ok (.istore 8, 2) := by decide +kernel
theorem dX7_pare_72 : decode cX7_pare 72 = .ok (.iload 8, 2) := by decide +kernel
theorem dX7_pare_74 : decode cX7_pare 74 = .ok (.iconst 3, 1) := by decide +kernel
theorem dX7_pare_75 : decode cX7_pare 75 = .ok (.if_icmp .lt 7, 3) := by decide +kernel
theorem dX7_pare_78 : decode cX7_pare 78 = .ok (.iconst 1, 1) := by decide +kernel
theorem dX7_pare_79 : decode cX7_pare 79 = .ok (.goto 4, 3) := by decide +kernel
theorem dX7_pare_82 : decode cX7_pare 82 = .ok (.iconst 0, 1) := by decide +kernel
theorem dX7_pare_83 : decode cX7_pare 83 = .ok (.invokestatic 65, 3) := by decide +kernel
theorem dX7_pare_86 : decode cX7_pare 86 = .ok (.aload 7, 2) := by decide +kernel
theorem dX7_pare_88 : decode cX7_pare 88 = .ok (.iload_n 2, 1) := by decide +kernel
theorem dX7_pare_89 : decode cX7_pare 89 = .ok (.iload_n 3, 1) := by decide +kernel
theorem dX7_pare_90 : decode cX7_pare 90 = .ok (.iload 4, 2) := by decide +kernel
theorem dX7_pare_92 : decode cX7_pare 92 = .ok (.iload 5, 2) := by decide +kernel
theorem dX7_pare_94 : decode cX7_pare 94 = .ok (.iload 6, 2) := by decide +kernel
theorem dX7_pare_96 : decode cX7_pare 96 = .ok (.invokevirtual 201, 3) := by decide +kernel
theorem dX7_pare_99 : decode cX7_pare 99 = .ok (.iload 8, 2) := by decide +kernel
theorem dX7_pare_101 : decode cX7_pare 101 = .ok (.ireturn, 1) := by decide +kernel
set_option maxRecDepth 20000 in
theorem ggX7_thickAt_X7_skinOf : GoodIn wsX7_thickAt wsX7_skinOf := goodIn_ca (goodIn_r _ [5, 6, 7, 8, 9, 10, 4, 11, 25, 26, 27, 28, 29, 30, 31] (by decide +kernel) (by decide +kernel)) (goodIn_sub (fun _ h => List.mem_cons_of_mem _ (List.mem_append_right _ h)) (by decide +kernel))
set_option maxRecDepth 20000 in
theorem gX7_thickAt_X7_skinOf : GoodIn wsX7_thickAt (wsV RX7 194 RX7 yX7_skinOf wsX7_skinOf) := goodIn_app (goodIn_of _ (by decide +kernel)) ggX7_thickAt_X7_skinOf
set_option maxRecDepth 20000 in
theorem ggX7_thickAt_X7_isOnGrid : GoodIn wsX7_thickAt wsX7_isOnGrid := goodIn_r _ [14, 15, 16, 4, 17, 9, 10, 11] (by decide +kernel) (by decide +kernel)
set_option maxRecDepth 20000 in
theorem gX7_thickAt_X7_isOnGrid : GoodIn wsX7_thickAt (va_wsS RX7 34 yX7_isOnGrid wsX7_isOnGrid) := goodIn_app (goodIn_of _ (by decide +kernel)) ggX7_thickAt_X7_isOnGrid
set_option maxRecDepth 20000 in
theorem ggX7_thickAt_X7_demandPlace : GoodIn wsX7_thickAt wsX7_demandPlace := goodIn_ca (goodIn_r _ [20, 6, 7] (by decide +kernel) (by decide +kernel)) (goodIn_sub (fun _ h => List.mem_cons_of_mem _ (List.mem_append_right _ h)) (by decide +kernel))
set_option maxRecDepth 20000 in
theorem gX7_thickAt_X7_demandPlace : GoodIn wsX7_thickAt (va_wsS RX7 38 yX7_demandPlace wsX7_demandPlace) := goodIn_app (goodIn_of _ (by decide +kernel)) ggX7_thickAt_X7_demandPlace
set_option maxRecDepth 20000 in
theorem ggX7_thickAt_X7_cellOf : GoodIn wsX7_thickAt wsX7_cellOf := goodIn_r _ [23] (by decide +kernel) (by decide +kernel)
set_option maxRecDepth 20000 in
theorem gX7_thickAt_X7_cellOf : GoodIn wsX7_thickAt (va_wsS RX7 79 yX7_cellOf wsX7_cellOf) := goodIn_app (goodIn_of _ (by decide +kernel)) ggX7_thickAt_X7_cellOf
theorem dX7_thickAt_0 : decode cX7_thickAt 0 = .ok (.aload_n 0, 1) := by decide +kernel
theorem dX7_thickAt_1 : decode cX7_thickAt 1 = .ok (.iload_n 1, 1) := by decide +kernel
theorem dX7_thickAt_2 : decode cX7_thickAt 2 = .ok (.invokevirtual 194, 3) := by decide +kernel
theorem dX7_thickAt_5 : decode cX7_thickAt 5 = .ok (.astore 4, 2) := by decide +kernel
theorem dX7_thickAt_7 : decode cX7_thickAt 7 = .ok (.iload_n 2, 1) := by decide +kernel
theorem dX7_thickAt_8 : decode cX7_thickAt 8 = .ok (.iload_n 3, 1) := by decide +kernel
theorem dX7_thickAt_9 : decode cX7_thickAt 9 = .ok (.invokestatic 34, 3) := by decide +kernel
theorem dX7_thickAt_12 : decode cX7_thickAt 12 = .ok (.invokestatic 38, 3) := by decide +kernel
theorem dX7_thickAt_15 : decode cX7_thickAt 15 = .ok (.aload 4, 2) := by decide +kernel
theorem dX7_thickAt_17 : decode cX7_thickAt 17 = .ok (.getfield 205, 3) := by decide +kernel
theorem dX7_thickAt_20 : decode cX7_thickAt 20 = .ok (.iload_n 2, 1) := by decide +kernel
theorem dX7_thickAt_21 : decode cX7_thickAt 21 = .ok (.iload_n 3, 1) := by decide +kernel
theorem dX7_thickAt_22 : decode cX7_thickAt 22 = .ok (.invokestatic 79, 3) := by decide +kernel
theorem dX7_thickAt_25 : decode cX7_thickAt 25 = .ok (.iaload, 1) := by decide +kernel
theorem dX7_thickAt_26 : decode cX7_thickAt 26 = .ok (.ireturn, 1) := by decide +kernel
set_option maxRecDepth 20000 in
theorem ggX7_tooThick_X7_skinOf : GoodIn wsX7_tooThick wsX7_skinOf := goodIn_ca (goodIn_r _ [5, 6, 7, 8, 9, 10, 4, 11, 23, 24, 25, 26, 27, 28, 29] (by decide +kernel) (by decide +kernel)) (goodIn_sub (fun _ h => List.mem_cons_of_mem _ (List.mem_append_right _ h)) (by decide +kernel))
set_option maxRecDepth 20000 in
theorem gX7_tooThick_X7_skinOf : GoodIn wsX7_tooThick (wsV RX7 194 RX7 yX7_skinOf wsX7_skinOf) := goodIn_app (goodIn_of _ (by decide +kernel)) ggX7_tooThick_X7_skinOf
set_option maxRecDepth 20000 in
theorem ggX7_tooThick_X5_placesTooThick : GoodIn wsX7_tooThick wsX5_placesTooThick := goodIn_r _ [16, 17, 18, 4, 19, 20, 21, 15, 22, 10, 11, 30] (by decide +kernel) (by decide +kernel)
set_option maxRecDepth 20000 in
theorem gX7_tooThick_X5_placesTooThick : GoodIn wsX7_tooThick (wsV RX7 208 RX5 yX5_placesTooThick wsX5_placesTooThick) := goodIn_app (goodIn_of _ (by decide +kernel)) ggX7_tooThick_X5_placesTooThick
theorem dX7_tooThick_0 : decode cX7_tooThick 0 = .ok (.aload_n 0, 1) := by decide +kernel
theorem dX7_tooThick_1 : decode cX7_tooThick 1 = .ok (.iload_n 1, 1) := by decide +kernel
theorem dX7_tooThick_2 : decode cX7_tooThick 2 = .ok (.invokevirtual 194, 3) := by decide +kernel
theorem dX7_tooThick_5 : decode cX7_tooThick 5 = .ok (.invokevirtual 208, 3) := by decide +kernel
theorem dX7_tooThick_8 : decode cX7_tooThick 8 = .ok (.ireturn, 1) := by decide +kernel
set_option maxRecDepth 20000 in
theorem ggX7_repair_X7_bookOf : GoodIn wsX7_repair wsX7_bookOf := goodIn_ca (goodIn_r _ [5, 6, 7, 8, 9, 10, 4, 11, 41, 42, 43, 44, 45, 46, 47] (by decide +kernel) (by decide +kernel)) (goodIn_sub (fun _ h => List.mem_cons_of_mem _ (List.mem_append_left _ (List.mem_append_left _ (List.mem_append_right _ h)))) (by decide +kernel))
set_option maxRecDepth 20000 in
theorem gX7_repair_X7_bookOf : GoodIn wsX7_repair (wsV RX7 118 RX7 yX7_bookOf wsX7_bookOf) := goodIn_app (goodIn_of _ (by decide +kernel)) ggX7_repair_X7_bookOf
set_option maxRecDepth 20000 in
theorem ggX7_repair_X7_isWithin : GoodIn wsX7_repair wsX7_isWithin := goodIn_r _ [11] (by decide +kernel) (by decide +kernel)
set_option maxRecDepth 20000 in
theorem gX7_repair_X7_isWithin : GoodIn wsX7_repair (va_wsS RX7 42 yX7_isWithin wsX7_isWithin) := goodIn_app (goodIn_of _ (by decide +kernel)) ggX7_repair_X7_isWithin
set_option maxRecDepth 20000 in
theorem ggX7_repair_X7_demandArgument : GoodIn wsX7_repair wsX7_demandArgument := goodIn_ca (goodIn_r _ [14, 15, 16] (by decide +kernel) (by decide +kernel)) (goodIn_sub (fun _ h => List.mem_cons_of_mem _ (List.mem_append_left _ (List.mem_append_right _ h))) (by decide +kernel))
set_option maxRecDepth 20000 in
theorem gX7_repair_X7_demandArgument : GoodIn wsX7_repair (va_wsS RX7 46 yX7_demandArgument wsX7_demandArgument) := goodIn_app (goodIn_of _ (by decide +kernel)) ggX7_repair_X7_demandArgument
set_option maxRecDepth 20000 in
theorem ggX7_repair_X7_canBeUndone : GoodIn wsX7_repair wsX7_canBeUndone := goodIn_r _ [19] (by decide +kernel) (by decide +kernel)
set_option maxRecDepth 20000 in
theorem gX7_repair_X7_canBeUndone : GoodIn wsX7_repair (va_wsS RX7 214 yX7_canBeUndone wsX7_canBeUndone) := goodIn_app (goodIn_of _ (by decide +kernel)) ggX7_repair_X7_canBeUndone
set_option maxRecDepth 20000 in
theorem ggX7_repair_X7_demandState : GoodIn wsX7_repair wsX7_demandState := goodIn_ca (goodIn_r _ [22, 23, 24] (by decide +kernel) (by decide +kernel)) (goodIn_sub (fun _ h => List.mem_cons_of_mem _ (List.mem_append_right _ h)) (by decide +kernel))
set_option maxRecDepth 20000 in
theorem gX7_repair_X7_demandState : GoodIn wsX7_repair (va_wsS RX7 65 yX7_demandState wsX7_demandState) := goodIn_app (goodIn_of _ (by decide +kernel)) ggX7_repair_X7_demandState
set_option maxRecDepth 20000 in
theorem ggX7_repair_X3_add : GoodIn wsX7_repair wsX3_add := goodIn_r _ [29, 30, 31, 39, 40] (by decide +kernel) (by decide +kernel)
set_option maxRecDepth 20000 in
theorem gX7_repair_X3_add : GoodIn wsX7_repair (wsV RX7 226 RX3 yX3_add wsX3_add) := goodIn_app (goodIn_of _ (by decide +kernel)) ggX7_repair_X3_add
theorem dX7_repair_0 : decode cX7_repair 0 = .ok (.aload_n 0, 1) := by decide +kernel
theorem dX7_repair_1 : decode cX7_repair 1 = .ok (.iload_n 1, 1) := by decide +kernel
theorem dX7_repair_2 : decode cX7_repair 2 = .ok (.invokevirtual 118, 3) := by decide +kernel
theorem dX7_repair_5 : decode cX7_repair 5 = .ok (.astore_n 3, 1) := by decide +kernel
theorem dX7_repair_6 : decode cX7_repair 6 = .ok (.iload_n 2, 1) := by decide +kernel
theorem dX7_repair_7 : decode cX7_repair 7 = .ok (.iconst 0, 1) := by decide +kernel
theorem dX7_repair_8 : decode cX7_repair 8 = .ok (.iconst 4, 1) := by decide +kernel
theorem dX7_repair_9 : decode cX7_repair 9 = .ok (.invokestatic 42, 3) := by decide +kernel
theorem dX7_repair_12 : decode cX7_repair 12 = .ok (.invokestatic 46, 3) := by decide +kernel
theorem dX7_repair_15 : decode cX7_repair 15 = .ok (.aload_n 3, 1) := by decide +kernel
theorem dX7_repair_16 : decode cX7_repair 16 = .ok (.getfield 211, 3) := by decide +kernel
theorem dX7_repair_19 : decode cX7_repair 19 = .ok (.ifCond .eq 10, 3) := by decide +kernel
theorem dX7_repair_22 : decode cX7_repair 22 = .ok (.iload_n 2, 1) := by decide +kernel
theorem dX7_repair_23 : decode cX7_repair 23 = .ok (.invokestatic 214, 3) := by decide +kernel
theorem dX7_repair_26 : decode cX7_repair 26 = .ok (.ifCond .eq 7, 3) := by decide +kernel
theorem dX7_repair_29 : decode cX7_repair 29 = .ok (.iconst 1, 1) := by decide +kernel
theorem dX7_repair_30 : decode cX7_repair 30 = .ok (.goto 4, 3) := by decide +kernel
theorem dX7_repair_33 : decode cX7_repair 33 = .ok (.iconst 0, 1) := by decide +kernel
theorem dX7_repair_34 : decode cX7_repair 34 = .ok (.invokestatic 65, 3) := by decide +kernel
theorem dX7_repair_37 : decode cX7_repair 37 = .ok (.aload_n 3, 1) := by decide +kernel
theorem dX7_repair_38 : decode cX7_repair 38 = .ok (.getfield 217, 3) := by decide +kernel
theorem dX7_repair_41 : decode cX7_repair 41 = .ok (.getfield 221, 3) := by decide +kernel
theorem dX7_repair_44 : decode cX7_repair 44 = .ok (.bipush 20, 2) := by decide +kernel
theorem dX7_repair_46 : decode cX7_repair 46 = .ok (.if_icmp .ge 7, 3) := by decide +kernel
theorem dX7_repair_49 : decode cX7_repair 49 = .ok (.iconst 1, 1) := by decide +kernel
theorem dX7_repair_50 : decode cX7_repair 50 = .ok (.goto 4, 3) := by decide +kernel
theorem dX7_repair_53 : decode cX7_repair 53 = .ok (.iconst 0, 1) := by decide +kernel
theorem dX7_repair_54 : decode cX7_repair 54 = .ok (.invokestatic 65, 3) := by decide +kernel
theorem dX7_repair_57 : decode cX7_repair 57 = .ok (.aload_n 3, 1) := by decide +kernel
theorem dX7_repair_58 : decode cX7_repair 58 = .ok (.getfield 217, 3) := by decide +kernel
theorem dX7_repair_61 : decode cX7_repair 61 = .ok (.iload_n 2, 1) := by decide +kernel
theorem dX7_repair_62 : decode cX7_repair 62 = .ok (.invokevirtual 226, 3) := by decide +kernel
theorem dX7_repair_65 : decode cX7_repair 65 = .ok (.aload_n 3, 1) := by decide +kernel
theorem dX7_repair_66 : decode cX7_repair 66 = .ok (.getfield 217, 3) := by decide +kernel
theorem dX7_repair_69 : decode cX7_repair 69 = .ok (.getfield 221, 3) := by decide +kernel
theorem dX7_repair_72 : decode cX7_repair 72 = .ok (.ireturn, 1) := by decide +kernel
set_option maxRecDepth 20000 in
theorem ggX7_undo_X7_bookOf : GoodIn wsX7_undo wsX7_bookOf := goodIn_ca (goodIn_r _ [5, 6, 7, 8, 9, 10, 4, 11, 38, 39, 40, 41, 42, 43, 44] (by decide +kernel) (by decide +kernel)) (goodIn_sub (fun _ h => List.mem_cons_of_mem _ (List.mem_append_left _ (List.mem_append_right _ h))) (by decide +kernel))
set_option maxRecDepth 20000 in
theorem gX7_undo_X7_bookOf : GoodIn wsX7_undo (wsV RX7 118 RX7 yX7_bookOf wsX7_bookOf) := goodIn_app (goodIn_of _ (by decide +kernel)) ggX7_undo_X7_bookOf
set_option maxRecDepth 20000 in
theorem ggX7_undo_X3_latest : GoodIn wsX7_undo wsX3_latest := goodIn_r _ [16, 17, 18, 45, 46] (by decide +kernel) (by decide +kernel)
set_option maxRecDepth 20000 in
theorem gX7_undo_X3_latest : GoodIn wsX7_undo (wsV RX7 229 RX3 yX3_latest wsX3_latest) := goodIn_app (goodIn_of _ (by decide +kernel)) ggX7_undo_X3_latest
set_option maxRecDepth 20000 in
theorem ggX7_undo_X7_canBeUndone : GoodIn wsX7_undo wsX7_canBeUndone := goodIn_r _ [21] (by decide +kernel) (by decide +kernel)
set_option maxRecDepth 20000 in
theorem gX7_undo_X7_canBeUndone : GoodIn wsX7_undo (va_wsS RX7 214 yX7_canBeUndone wsX7_canBeUndone) := goodIn_app (goodIn_of _ (by decide +kernel)) ggX7_undo_X7_canBeUndone
set_option maxRecDepth 20000 in
theorem ggX7_undo_X7_demandState : GoodIn wsX7_undo wsX7_demandState := goodIn_ca (goodIn_r _ [24, 25, 26] (by decide +kernel) (by decide +kernel)) (goodIn_sub (fun _ h => List.mem_cons_of_mem _ (List.mem_append_right _ h)) (by decide +kernel))
set_option maxRecDepth 20000 in
theorem gX7_undo_X7_demandState : GoodIn wsX7_undo (va_wsS RX7 65 yX7_demandState wsX7_demandState) := goodIn_app (goodIn_of _ (by decide +kernel)) ggX7_undo_X7_demandState
set_option maxRecDepth 20000 in
theorem ggX7_undo_X3_dropLatest : GoodIn wsX7_undo wsX3_dropLatest := goodIn_r _ [30, 17, 45, 46] (by decide +kernel) (by decide +kernel)
set_option maxRecDepth 20000 in
theorem gX7_undo_X3_dropLatest : GoodIn wsX7_undo (wsV RX7 232 RX3 yX3_dropLatest wsX3_dropLatest) := goodIn_app (goodIn_of _ (by decide +kernel)) ggX7_undo_X3_dropLatest
theorem dX7_undo_0 : decode cX7_undo 0 = .ok (.aload_n 0, 1) := by decide +kernel
theorem dX7_undo_1 : decode cX7_undo 1 = .ok (.iload_n 1, 1) := by decide +kernel
theorem dX7_undo_2 : decode cX7_undo 2 = .ok (.invokevirtual 118, 3) := by decide +kernel
theorem dX7_undo_5 : decode cX7_undo 5 = .ok (.getfield 217, 3) := by decide +kernel
theorem dX7_undo_8 : decode cX7_undo 8 = .ok (.astore_n 2, 1) := by decide +kernel
theorem dX7_undo_9 : decode cX7_undo 9 = .ok (.aload_n 2, 1) := by decide +kernel
theorem dX7_undo_10 : decode cX7_undo 10 = .ok (.invokevirtual 229, 3) := by decide +kernel
theorem dX7_undo_13 : decode cX7_undo 13 = .ok (.istore_n 3, 1) := by decide +kernel
theorem dX7_undo_14 : decode cX7_undo 14 = .ok (.iload_n 3, 1) := by decide +kernel
theorem dX7_undo_15 : decode cX7_undo 15 = .ok (.iconst (-1), 1) := by decide +kernel
theorem dX7_undo_16 : decode cX7_undo 16 = .ok (.if_icmp .eq 14, 3) := by decide +kernel
theorem dX7_undo_19 : decode cX7_undo 19 = .ok (.iload_n 3, 1) := by decide +kernel
theorem dX7_undo_20 : decode cX7_undo 20 = .ok (.invokestatic 214, 3) := by decide +kernel
theorem dX7_undo_23 : decode cX7_undo 23 = .ok (.ifCond .eq 7, 3) := by decide +kernel
theorem dX7_undo_26 : decode cX7_undo 26 = .ok (.iconst 1, 1) := by decide +kernel
theorem dX7_undo_27 : decode cX7_undo 27 = .ok (.goto 4, 3) := by decide +kernel
theorem dX7_undo_30 : decode cX7_undo 30 = .ok (.iconst 0, 1) := by decide +kernel
theorem dX7_undo_31 : decode cX7_undo 31 = .ok (.invokestatic 65, 3) := by decide +kernel
theorem dX7_undo_34 : decode cX7_undo 34 = .ok (.aload_n 2, 1) := by decide +kernel
theorem dX7_undo_35 : decode cX7_undo 35 = .ok (.invokevirtual 232, 3) := by decide +kernel
theorem dX7_undo_38 : decode cX7_undo 38 = .ok (.iload_n 3, 1) := by decide +kernel
theorem dX7_undo_39 : decode cX7_undo 39 = .ok (.ireturn, 1) := by decide +kernel
set_option maxRecDepth 20000 in
theorem ggX7_speak_X7_bookOf : GoodIn wsX7_speak wsX7_bookOf := goodIn_ca (goodIn_r _ [5, 6, 7, 8, 9, 10, 4, 11, 42, 43, 44, 45, 46, 47, 48] (by decide +kernel) (by decide +kernel)) (goodIn_sub (fun _ h => List.mem_cons_of_mem _ (List.mem_append_left _ (List.mem_append_left _ (List.mem_append_right _ h)))) (by decide +kernel))
set_option maxRecDepth 20000 in
theorem gX7_speak_X7_bookOf : GoodIn wsX7_speak (wsV RX7 118 RX7 yX7_bookOf wsX7_bookOf) := goodIn_app (goodIn_of _ (by decide +kernel)) ggX7_speak_X7_bookOf
set_option maxRecDepth 20000 in
theorem ggX7_speak_X7_isWithin : GoodIn wsX7_speak wsX7_isWithin := goodIn_r _ [11] (by decide +kernel) (by decide +kernel)
set_option maxRecDepth 20000 in
theorem gX7_speak_X7_isWithin : GoodIn wsX7_speak (va_wsS RX7 42 yX7_isWithin wsX7_isWithin) := goodIn_app (goodIn_of _ (by decide +kernel)) ggX7_speak_X7_isWithin
set_option maxRecDepth 20000 in
theorem ggX7_speak_X7_demandArgument : GoodIn wsX7_speak wsX7_demandArgument := goodIn_ca (goodIn_r _ [14, 15, 16] (by decide +kernel) (by decide +kernel)) (goodIn_sub (fun _ h => List.mem_cons_of_mem _ (List.mem_append_left _ (List.mem_append_right _ h))) (by decide +kernel))
set_option maxRecDepth 20000 in
theorem gX7_speak_X7_demandArgument : GoodIn wsX7_speak (va_wsS RX7 46 yX7_demandArgument wsX7_demandArgument) := goodIn_app (goodIn_of _ (by decide +kernel)) ggX7_speak_X7_demandArgument
set_option maxRecDepth 20000 in
theorem ggX7_speak_X7_demandState : GoodIn wsX7_speak wsX7_demandState := goodIn_ca (goodIn_r _ [19, 20, 21] (by decide +kernel) (by decide +kernel)) (goodIn_sub (fun _ h => List.mem_cons_of_mem _ (List.mem_append_right _ h)) (by decide +kernel))
set_option maxRecDepth 20000 in
theorem gX7_speak_X7_demandState : GoodIn wsX7_speak (va_wsS RX7 65 yX7_demandState wsX7_demandState) := goodIn_app (goodIn_of _ (by decide +kernel)) ggX7_speak_X7_demandState
set_option maxRecDepth 20000 in
theorem ggX7_speak_X6_add : GoodIn wsX7_speak wsX6_add := goodIn_r _ [26, 27, 28, 29, 30, 38, 39, 40, 41] (by decide +kernel) (by decide +kernel)
set_option maxRecDepth 20000 in
theorem gX7_speak_X6_add : GoodIn wsX7_speak (wsV RX7 242 RX6 yX6_add wsX6_add) := goodIn_app (goodIn_of _ (by decide +kernel)) ggX7_speak_X6_add
theorem dX7_speak_0 : decode cX7_speak 0 = .ok (.aload_n 0, 1) := by decide +kernel
theorem dX7_speak_1 : decode cX7_speak 1 = .ok (.iload_n 1, 1) := by decide +kernel
theorem dX7_speak_2 : decode cX7_speak 2 = .ok (.invokevirtual 118, 3) := by decide +kernel
theorem dX7_speak_5 : decode cX7_speak 5 = .ok (.getfield 235, 3) := by decide +kernel
theorem dX7_speak_8 : decode cX7_speak 8 = .ok (.astore 5, 2) := by decide +kernel
theorem dX7_speak_10 : decode cX7_speak 10 = .ok (.iload_n 2, 1) := by decide +kernel
theorem dX7_speak_11 : decode cX7_speak 11 = .ok (.sipush 1400, 3) := by decide +kernel
theorem dX7_speak_14 : decode cX7_speak 14 = .ok (.sipush 2000, 3) := by decide +kernel
theorem dX7_speak_17 : decode cX7_speak 17 = .ok (.invokestatic 42, 3) := by decide +kernel
theorem dX7_speak_20 : decode cX7_speak 20 = .ok (.ifCond .eq 18, 3) := by decide +kernel
theorem dX7_speak_23 : decode cX7_speak 23 = .ok (.iload_n 3, 1) := by decide +kernel
theorem dX7_speak_24 : decode cX7_speak 24 = .ok (.iload_n 2, 1) := by decide +kernel
theorem dX7_speak_25 : decode cX7_speak 25 = .ok (.sipush 2000, 3) := by decide +kernel
theorem dX7_speak_28 : decode cX7_speak 28 = .ok (.invokestatic 42, 3) := by decide +kernel
theorem dX7_speak_31 : decode cX7_speak 31 = .ok (.ifCond .eq 7, 3) := by decide +kernel
theorem dX7_speak_34 : decode cX7_speak 34 = .ok (.iconst 1, 1) := by decide +kernel
theorem dX7_speak_35 : decode cX7_speak 35 = .ok (.goto 4, 3) := by decide +kernel
theorem dX7_speak_38 : decode cX7_speak 38 = .ok (.iconst 0, 1) := by decide +kernel
theorem dX7_speak_39 : decode cX7_speak 39 = .ok (.invokestatic 46, 3) := by decide +kernel
theorem dX7_speak_42 : decode cX7_speak 42 = .ok (.iload 4, 2) := by decide +kernel
theorem dX7_speak_44 : decode cX7_speak 44 = .ok (.iconst 1, 1) := by decide +kernel
theorem dX7_speak_45 : decode cX7_speak 45 = .ok (.bipush 9, 2) := by decide +kernel
theorem dX7_speak_47 : decode cX7_speak 47 = .ok (.invokestatic 42, 3) := by decide +kernel
theorem dX7_speak_50 : decode cX7_speak 50 = .ok (.invokestatic 46, 3) := by decide +kernel
theorem dX7_speak_53 : decode cX7_speak 53 = .ok (.aload 5, 2) := by decide +kernel
theorem dX7_speak_55 : decode cX7_speak 55 = .ok (.getfield 239, 3) := by decide +kernel
theorem dX7_speak_58 : decode cX7_speak 58 = .ok (.bipush 20, 2) := by decide +kernel
theorem dX7_speak_60 : decode cX7_speak 60 = .ok (.if_icmp .ge 7, 3) := by decide +kernel
theorem dX7_speak_63 : decode cX7_speak 63 = .ok (.iconst 1, 1) := by decide +kernel
theorem dX7_speak_64 : decode cX7_speak 64 = .ok (.goto 4, 3) := by decide +kernel
theorem dX7_speak_67 : decode cX7_speak 67 = .ok (.iconst 0, 1) := by decide +kernel
theorem dX7_speak_68 : decode cX7_speak 68 = .ok (.invokestatic 65, 3) := by decide +kernel
theorem dX7_speak_71 : decode cX7_speak 71 = .ok (.aload 5, 2) := by decide +kernel
theorem dX7_speak_73 : decode cX7_speak 73 = .ok (.iload_n 2, 1) := by decide +kernel
theorem dX7_speak_74 : decode cX7_speak 74 = .ok (.iload_n 3, 1) := by decide +kernel
theorem dX7_speak_75 : decode cX7_speak 75 = .ok (.iload 4, 2) := by decide +kernel
theorem dX7_speak_77 : decode cX7_speak 77 = .ok (.invokevirtual 242, 3) := by decide +kernel
theorem dX7_speak_80 : decode cX7_speak 80 = .ok (.aload 5, 2) := by decide +kernel
theorem dX7_speak_82 : decode cX7_speak 82 = .ok (.getfield 239, 3) := by decide +kernel
theorem dX7_speak_85 : decode cX7_speak 85 = .ok (.ireturn, 1) := by decide +kernel
set_option maxRecDepth 20000 in
theorem ggX7_year_X7_bookOf : GoodIn wsX7_year wsX7_bookOf := goodIn_ca (goodIn_r _ [5, 6, 7, 8, 9, 10, 4, 11, 36, 37, 38, 39, 40, 41, 42] (by decide +kernel) (by decide +kernel)) (goodIn_sub (fun _ h => List.mem_cons_of_mem _ (List.mem_append_right _ h)) (by decide +kernel))
set_option maxRecDepth 20000 in
theorem gX7_year_X7_bookOf : GoodIn wsX7_year (wsV RX7 118 RX7 yX7_bookOf wsX7_bookOf) := goodIn_app (goodIn_of _ (by decide +kernel)) ggX7_year_X7_bookOf
set_option maxRecDepth 20000 in
theorem ggX7_year_X6_firstByEnds : GoodIn wsX7_year wsX6_firstByEnds := goodIn_r _ [16, 17, 18, 19, 20, 21, 15, 22, 23, 24, 10, 4, 11, 43, 44, 45, 46] (by decide +kernel) (by decide +kernel)
set_option maxRecDepth 20000 in
theorem gX7_year_X6_firstByEnds : GoodIn wsX7_year (wsV RX7 245 RX6 yX6_firstByEnds wsX6_firstByEnds) := goodIn_app (goodIn_of _ (by decide +kernel)) ggX7_year_X6_firstByEnds
set_option maxRecDepth 20000 in
theorem ggX7_year_X6_lastByEnds : GoodIn wsX7_year wsX6_lastByEnds := goodIn_r _ [28, 17, 23, 19, 20, 21, 15, 22, 18, 24, 10, 4, 11, 43, 44, 45, 46] (by decide +kernel) (by decide +kernel)
set_option maxRecDepth 20000 in
theorem gX7_year_X6_lastByEnds : GoodIn wsX7_year (wsV RX7 248 RX6 yX6_lastByEnds wsX6_lastByEnds) := goodIn_app (goodIn_of _ (by decide +kernel)) ggX7_year_X6_lastByEnds
theorem dX7_year_0 : decode cX7_year 0 = .ok (.aload_n 0, 1) := by decide +kernel
theorem dX7_year_1 : decode cX7_year 1 = .ok (.iload_n 1, 1) := by decide +kernel
theorem dX7_year_2 : decode cX7_year 2 = .ok (.invokevirtual 118, 3) := by decide +kernel
theorem dX7_year_5 : decode cX7_year 5 = .ok (.getfield 235, 3) := by decide +kernel
theorem dX7_year_8 : decode cX7_year 8 = .ok (.astore_n 3, 1) := by decide +kernel
theorem dX7_year_9 : decode cX7_year 9 = .ok (.aload_n 3, 1) := by decide +kernel
theorem dX7_year_10 : decode cX7_year 10 = .ok (.invokevirtual 245, 3) := by decide +kernel
theorem dX7_year_13 : decode cX7_year 13 = .ok (.istore 4, 2) := by decide +kernel
theorem dX7_year_15 : decode cX7_year 15 = .ok (.iload_n 2, 1) := by decide +kernel
theorem dX7_year_16 : decode cX7_year 16 = .ok (.ifCond .eq 18, 3) := by decide +kernel
theorem dX7_year_19 : decode cX7_year 19 = .ok (.iload 4, 2) := by decide +kernel
theorem dX7_year_21 : decode cX7_year 21 = .ok (.iconst (-1), 1) := by decide +kernel
theorem dX7_year_22 : decode cX7_year 22 = .ok (.if_icmp .eq 12, 3) := by decide +kernel
theorem dX7_year_25 : decode cX7_year 25 = .ok (.aload_n 3, 1) := by decide +kernel
theorem dX7_year_26 : decode cX7_year 26 = .ok (.iload 4, 2) := by decide +kernel
theorem dX7_year_28 : decode cX7_year 28 = .ok (.invokevirtual 248, 3) := by decide +kernel
theorem dX7_year_31 : decode cX7_year 31 = .ok (.goto 5, 3) := by decide +kernel
theorem dX7_year_34 : decode cX7_year 34 = .ok (.iload 4, 2) := by decide +kernel
theorem dX7_year_36 : decode cX7_year 36 = .ok (.ireturn, 1) := by decide +kernel
set_option maxRecDepth 20000 in
theorem ggX7_yearAnew_X7_bookOf : GoodIn wsX7_yearAnew wsX7_bookOf := goodIn_ca (goodIn_r _ [5, 6, 7, 8, 9, 10, 4, 11, 36, 37, 38, 39, 40, 41, 42] (by decide +kernel) (by decide +kernel)) (goodIn_sub (fun _ h => List.mem_cons_of_mem _ (List.mem_append_right _ h)) (by decide +kernel))
set_option maxRecDepth 20000 in
theorem gX7_yearAnew_X7_bookOf : GoodIn wsX7_yearAnew (wsV RX7 118 RX7 yX7_bookOf wsX7_bookOf) := goodIn_app (goodIn_of _ (by decide +kernel)) ggX7_yearAnew_X7_bookOf
set_option maxRecDepth 20000 in
theorem ggX7_yearAnew_X6_firstByYears : GoodIn wsX7_yearAnew wsX6_firstByYears := goodIn_r _ [16, 17, 18, 19, 15, 20, 21, 22, 23, 24, 10, 4, 11, 43, 44, 45, 46] (by decide +kernel) (by decide +kernel)
set_option maxRecDepth 20000 in
theorem gX7_yearAnew_X6_firstByYears : GoodIn wsX7_yearAnew (wsV RX7 251 RX6 yX6_firstByYears wsX6_firstByYears) := goodIn_app (goodIn_of _ (by decide +kernel)) ggX7_yearAnew_X6_firstByYears
set_option maxRecDepth 20000 in
theorem ggX7_yearAnew_X6_lastByYears : GoodIn wsX7_yearAnew wsX6_lastByYears := goodIn_r _ [28, 17, 18, 19, 15, 20, 21, 22, 23, 24, 10, 4, 11, 43, 44, 45, 46] (by decide +kernel) (by decide +kernel)
set_option maxRecDepth 20000 in
theorem gX7_yearAnew_X6_lastByYears : GoodIn wsX7_yearAnew (wsV RX7 254 RX6 yX6_lastByYears wsX6_lastByYears) := goodIn_app (goodIn_of _ (by decide +kernel)) ggX7_yearAnew_X6_lastByYears
theorem dX7_yearAnew_0 : decode cX7_yearAnew 0 = .ok (.aload_n 0, 1) := by decide +kernel
theorem dX7_yearAnew_1 : decode cX7_yearAnew 1 = .ok (.iload_n 1, 1) := by decide +kernel
theorem dX7_yearAnew_2 : decode cX7_yearAnew 2 = .ok (.invokevirtual 118, 3) := by decide +kernel
theorem dX7_yearAnew_5 : decode cX7_yearAnew 5 = .ok (.getfield 235, 3) := by decide +kernel
theorem dX7_yearAnew_8 : decode cX7_yearAnew 8 = .ok (.astore_n 3, 1) := by decide +kernel
theorem dX7_yearAnew_9 : decode cX7_yearAnew 9 = .ok (.aload_n 3, 1) := by decide +kernel
theorem dX7_yearAnew_10 : decode cX7_yearAnew 10 = .ok (.invokevirtual 251, 3) := by decide +kernel
theorem dX7_yearAnew_13 : decode cX7_yearAnew 13 = .ok (.istore 4, 2) := by decide +kernel
theorem dX7_yearAnew_15 : decode cX7_yearAnew 15 = .ok (.iload_n 2, 1) := by decide +kernel
theorem dX7_yearAnew_16 : decode cX7_yearAnew 16 = .ok (.ifCond .eq 18, 3) := by decide +kernel
theorem dX7_yearAnew_19 : decode cX7_yearAnew 19 = .ok (.iload 4, 2) := by decide +kernel
theorem dX7_yearAnew_21 : decode cX7_yearAnew 21 = .ok (.iconst (-1), 1) := by decide +kernel
theorem dX7_yearAnew_22 : decode cX7_yearAnew 22 = .ok (.if_icmp .eq 12, 3) := by decide +kernel
theorem dX7_yearAnew_25 : decode cX7_yearAnew 25 = .ok (.aload_n 3, 1) := by decide +kernel
theorem dX7_yearAnew_26 : decode cX7_yearAnew 26 = .ok (.iload 4, 2) := by decide +kernel
theorem dX7_yearAnew_28 : decode cX7_yearAnew 28 = .ok (.invokevirtual 254, 3) := by decide +kernel
theorem dX7_yearAnew_31 : decode cX7_yearAnew 31 = .ok (.goto 5, 3) := by decide +kernel
theorem dX7_yearAnew_34 : decode cX7_yearAnew 34 = .ok (.iload 4, 2) := by decide +kernel
theorem dX7_yearAnew_36 : decode cX7_yearAnew 36 = .ok (.ireturn, 1) := by decide +kernel
theorem dX7_isWithin_0 : decode cX7_isWithin 0 = .ok (.iload_n 0, 1) := by decide +kernel
theorem dX7_isWithin_1 : decode cX7_isWithin 1 = .ok (.iload_n 1, 1) := by decide +kernel
theorem dX7_isWithin_2 : decode cX7_isWithin 2 = .ok (.if_icmp .lt 12, 3) := by decide +kernel
theorem dX7_isWithin_5 : decode cX7_isWithin 5 = .ok (.iload_n 0, 1) := by decide +kernel
theorem dX7_isWithin_6 : decode cX7_isWithin 6 = .ok (.iload_n 2, 1) := by decide +kernel
theorem dX7_isWithin_7 : decode cX7_isWithin 7 = .ok (.if_icmp .gt 7, 3) := by decide +kernel
theorem dX7_isWithin_10 : decode cX7_isWithin 10 = .ok (.iconst 1, 1) := by decide +kernel
theorem dX7_isWithin_11 : decode cX7_isWithin 11 = .ok (.goto 4, 3) := by decide +kernel
theorem dX7_isWithin_14 : decode cX7_isWithin 14 = .ok (.iconst 0, 1) := by decide +kernel
theorem dX7_isWithin_15 : decode cX7_isWithin 15 = .ok (.ireturn, 1) := by decide +kernel
set_option maxRecDepth 20000 in
theorem ggX7_isOnSide_X7_isWithin : GoodIn wsX7_isOnSide wsX7_isWithin := goodIn_r _ [4] (by decide +kernel) (by decide +kernel)
set_option maxRecDepth 20000 in
theorem gX7_isOnSide_X7_isWithin : GoodIn wsX7_isOnSide (va_wsS RX7 42 yX7_isWithin wsX7_isWithin) := goodIn_app (goodIn_of _ (by decide +kernel)) ggX7_isOnSide_X7_isWithin
theorem dX7_isOnSide_0 : decode cX7_isOnSide 0 = .ok (.iload_n 0, 1) := by decide +kernel
theorem dX7_isOnSide_1 : decode cX7_isOnSide 1 = .ok (.iconst 0, 1) := by decide +kernel
theorem dX7_isOnSide_2 : decode cX7_isOnSide 2 = .ok (.bipush 7, 2) := by decide +kernel
theorem dX7_isOnSide_4 : decode cX7_isOnSide 4 = .ok (.invokestatic 42, 3) := by decide +kernel
theorem dX7_isOnSide_7 : decode cX7_isOnSide 7 = .ok (.ireturn, 1) := by decide +kernel
set_option maxRecDepth 20000 in
theorem ggX7_isOnGrid_X7_isOnSide : GoodIn wsX7_isOnGrid wsX7_isOnSide := goodIn_r _ [4, 5, 6, 3, 7] (by decide +kernel) (by decide +kernel)
set_option maxRecDepth 20000 in
theorem gX7_isOnGrid_X7_isOnSide : GoodIn wsX7_isOnGrid (va_wsS RX7 53 yX7_isOnSide wsX7_isOnSide) := goodIn_app (goodIn_of _ (by decide +kernel)) ggX7_isOnGrid_X7_isOnSide
theorem dX7_isOnGrid_0 : decode cX7_isOnGrid 0 = .ok (.iload_n 0, 1) := by decide +kernel
theorem dX7_isOnGrid_1 : decode cX7_isOnGrid 1 = .ok (.invokestatic 53, 3) := by decide +kernel
theorem dX7_isOnGrid_4 : decode cX7_isOnGrid 4 = .ok (.ifCond .eq 14, 3) := by decide +kernel
theorem dX7_isOnGrid_7 : decode cX7_isOnGrid 7 = .ok (.iload_n 1, 1) := by decide +kernel
theorem dX7_isOnGrid_8 : decode cX7_isOnGrid 8 = .ok (.invokestatic 53, 3) := by decide +kernel
theorem dX7_isOnGrid_11 : decode cX7_isOnGrid 11 = .ok (.ifCond .eq 7, 3) := by decide +kernel
theorem dX7_isOnGrid_14 : decode cX7_isOnGrid 14 = .ok (.iconst 1, 1) := by decide +kernel
theorem dX7_isOnGrid_15 : decode cX7_isOnGrid 15 = .ok (.goto 4, 3) := by decide +kernel
theorem dX7_isOnGrid_18 : decode cX7_isOnGrid 18 = .ok (.iconst 0, 1) := by decide +kernel
theorem dX7_isOnGrid_19 : decode cX7_isOnGrid 19 = .ok (.ireturn, 1) := by decide +kernel
theorem dX7_cellOf_0 : decode cX7_cellOf 0 = .ok (.iload_n 1, 1) := by decide +kernel
theorem dX7_cellOf_1 : decode cX7_cellOf 1 = .ok (.bipush 8, 2) := by decide +kernel
theorem dX7_cellOf_3 : decode cX7_cellOf 3 = .ok (.imul, 1) := by decide +kernel
theorem dX7_cellOf_4 : decode cX7_cellOf 4 = .ok (.iload_n 0, 1) := by decide +kernel
theorem dX7_cellOf_5 : decode cX7_cellOf 5 = .ok (.iadd, 1) := by decide +kernel
theorem dX7_cellOf_6 : decode cX7_cellOf 6 = .ok (.ireturn, 1) := by decide +kernel
theorem dX7_canBeUndone_0 : decode cX7_canBeUndone 0 = .ok (.iload_n 0, 1) := by decide +kernel
theorem dX7_canBeUndone_1 : decode cX7_canBeUndone 1 = .ok (.iconst 2, 1) := by decide +kernel
theorem dX7_canBeUndone_2 : decode cX7_canBeUndone 2 = .ok (.if_icmp .gt 7, 3) := by decide +kernel
theorem dX7_canBeUndone_5 : decode cX7_canBeUndone 5 = .ok (.iconst 1, 1) := by decide +kernel
theorem dX7_canBeUndone_6 : decode cX7_canBeUndone 6 = .ok (.goto 4, 3) := by decide +kernel
theorem dX7_canBeUndone_9 : decode cX7_canBeUndone 9 = .ok (.iconst 0, 1) := by decide +kernel
theorem dX7_canBeUndone_10 : decode cX7_canBeUndone 10 = .ok (.ireturn, 1) := by decide +kernel
theorem dX7_demandPlace_0 : decode cX7_demandPlace 0 = .ok (.iload_n 0, 1) := by decide +kernel
theorem dX7_demandPlace_1 : decode cX7_demandPlace 1 = .ok (.ifCond .ne 14, 3) := by decide +kernel
theorem dX7_demandPlace_4 : decode cX7_demandPlace 4 = .ok (.new 257, 3) := by decide +kernel
theorem dX7_demandPlace_7 : decode cX7_demandPlace 7 = .ok (.dup, 1) := by decide +kernel
theorem dX7_demandPlace_8 : decode cX7_demandPlace 8 = .ok (.ldc_w 259, 3) := by decide +kernel
theorem dX7_demandPlace_11 : decode cX7_demandPlace 11 = .ok (.invokespecial 261, 3) := by decide +kernel
theorem dX7_demandPlace_14 : decode cX7_demandPlace 14 = .ok (.athrow, 1) := by decide +kernel
theorem dX7_demandPlace_15 : decode cX7_demandPlace 15 = .ok (.return_, 1) := by decide +kernel
theorem dX7_demandArgument_0 : decode cX7_demandArgument 0 = .ok (.iload_n 0, 1) := by decide +kernel
theorem dX7_demandArgument_1 : decode cX7_demandArgument 1 = .ok (.ifCond .ne 14, 3) := by decide +kernel
theorem dX7_demandArgument_4 : decode cX7_demandArgument 4 = .ok (.new 264, 3) := by decide +kernel
theorem dX7_demandArgument_7 : decode cX7_demandArgument 7 = .ok (.dup, 1) := by decide +kernel
theorem dX7_demandArgument_8 : decode cX7_demandArgument 8 = .ok (.ldc_w 266, 3) := by decide +kernel
theorem dX7_demandArgument_11 : decode cX7_demandArgument 11 = .ok (.invokespecial 268, 3) := by decide +kernel
theorem dX7_demandArgument_14 : decode cX7_demandArgument 14 = .ok (.athrow, 1) := by decide +kernel
theorem dX7_demandArgument_15 : decode cX7_demandArgument 15 = .ok (.return_, 1) := by decide +kernel
theorem dX7_demandState_0 : decode cX7_demandState 0 = .ok (.iload_n 0, 1) := by decide +kernel
theorem dX7_demandState_1 : decode cX7_demandState 1 = .ok (.ifCond .ne 14, 3) := by decide +kernel
theorem dX7_demandState_4 : decode cX7_demandState 4 = .ok (.new 269, 3) := by decide +kernel
theorem dX7_demandState_7 : decode cX7_demandState 7 = .ok (.dup, 1) := by decide +kernel
theorem dX7_demandState_8 : decode cX7_demandState 8 = .ok (.ldc_w 271, 3) := by decide +kernel
theorem dX7_demandState_11 : decode cX7_demandState 11 = .ok (.invokespecial 273, 3) := by decide +kernel
theorem dX7_demandState_14 : decode cX7_demandState 14 = .ok (.athrow, 1) := by decide +kernel
theorem dX7_demandState_15 : decode cX7_demandState 15 = .ok (.return_, 1) := by decide +kernel
set_option maxRecDepth 20000 in
theorem ggX7_printOf_X7_isWithin : GoodIn wsX7_printOf wsX7_isWithin := goodIn_r _ [7] (by decide +kernel) (by decide +kernel)
set_option maxRecDepth 20000 in
theorem gX7_printOf_X7_isWithin : GoodIn wsX7_printOf (va_wsS RX7 42 yX7_isWithin wsX7_isWithin) := goodIn_app (goodIn_of _ (by decide +kernel)) ggX7_printOf_X7_isWithin
theorem dX7_printOf_0 : decode cX7_printOf 0 = .ok (.iload_n 1, 1) := by decide +kernel
theorem dX7_printOf_1 : decode cX7_printOf 1 = .ok (.iconst 0, 1) := by decide +kernel
theorem dX7_printOf_2 : decode cX7_printOf 2 = .ok (.bipush 9, 2) := by decide +kernel
theorem dX7_printOf_4 : decode cX7_printOf 4 = .ok (.invokestatic 42, 3) := by decide +kernel
theorem dX7_printOf_7 : decode cX7_printOf 7 = .ok (.ifCond .eq 12, 3) := by decide +kernel
theorem dX7_printOf_10 : decode cX7_printOf 10 = .ok (.aload_n 0, 1) := by decide +kernel
theorem dX7_printOf_11 : decode cX7_printOf 11 = .ok (.getfield 18, 3) := by decide +kernel
theorem dX7_printOf_14 : decode cX7_printOf 14 = .ok (.iload_n 1, 1) := by decide +kernel
theorem dX7_printOf_15 : decode cX7_printOf 15 = .ok (.aaload, 1) := by decide +kernel
theorem dX7_printOf_16 : decode cX7_printOf 16 = .ok (.goto 4, 3) := by decide +kernel
theorem dX7_printOf_19 : decode cX7_printOf 19 = .ok (.aconst_null, 1) := by decide +kernel
theorem dX7_printOf_20 : decode cX7_printOf 20 = .ok (.astore_n 2, 1) := by decide +kernel
theorem dX7_printOf_21 : decode cX7_printOf 21 = .ok (.aload_n 2, 1) := by decide +kernel
theorem dX7_printOf_22 : decode cX7_printOf 22 = .ok (.ifnonnull 14, 3) := by decide +kernel
theorem dX7_printOf_25 : decode cX7_printOf 25 = .ok (.new 257, 3) := by decide +kernel
theorem dX7_printOf_28 : decode cX7_printOf 28 = .ok (.dup, 1) := by decide +kernel
theorem dX7_printOf_29 : decode cX7_printOf 29 = .ok (.ldc_w 274, 3) := by decide +kernel
theorem dX7_printOf_32 : decode cX7_printOf 32 = .ok (.invokespecial 261, 3) := by decide +kernel
theorem dX7_printOf_35 : decode cX7_printOf 35 = .ok (.athrow, 1) := by decide +kernel
theorem dX7_printOf_36 : decode cX7_printOf 36 = .ok (.aload_n 2, 1) := by decide +kernel
theorem dX7_printOf_37 : decode cX7_printOf 37 = .ok (.areturn, 1) := by decide +kernel
set_option maxRecDepth 20000 in
theorem ggX7_bookOf_X7_isWithin : GoodIn wsX7_bookOf wsX7_isWithin := goodIn_r _ [7] (by decide +kernel) (by decide +kernel)
set_option maxRecDepth 20000 in
theorem gX7_bookOf_X7_isWithin : GoodIn wsX7_bookOf (va_wsS RX7 42 yX7_isWithin wsX7_isWithin) := goodIn_app (goodIn_of _ (by decide +kernel)) ggX7_bookOf_X7_isWithin
theorem dX7_bookOf_0 : decode cX7_bookOf 0 = .ok (.iload_n 1, 1) := by decide +kernel
theorem dX7_bookOf_1 : decode cX7_bookOf 1 = .ok (.iconst 0, 1) := by decide +kernel
theorem dX7_bookOf_2 : decode cX7_bookOf 2 = .ok (.iconst 3, 1) := by decide +kernel
theorem dX7_bookOf_3 : decode cX7_bookOf 3 = .ok (.invokestatic 42, 3) := by decide +kernel
theorem dX7_bookOf_6 : decode cX7_bookOf 6 = .ok (.ifCond .eq 12, 3) := by decide +kernel
theorem dX7_bookOf_9 : decode cX7_bookOf 9 = .ok (.aload_n 0, 1) := by decide +kernel
theorem dX7_bookOf_10 : decode cX7_bookOf 10 = .ok (.getfield 24, 3) := by decide +kernel
theorem dX7_bookOf_13 : decode cX7_bookOf 13 = .ok (.iload_n 1, 1) := by decide +kernel
theorem dX7_bookOf_14 : decode cX7_bookOf 14 = .ok (.aaload, 1) := by decide +kernel
theorem dX7_bookOf_15 : decode cX7_bookOf 15 = .ok (.goto 4, 3) := by decide +kernel
theorem dX7_bookOf_18 : decode cX7_bookOf 18 = .ok (.aconst_null, 1) := by decide +kernel
theorem dX7_bookOf_19 : decode cX7_bookOf 19 = .ok (.astore_n 2, 1) := by decide +kernel
theorem dX7_bookOf_20 : decode cX7_bookOf 20 = .ok (.aload_n 2, 1) := by decide +kernel
theorem dX7_bookOf_21 : decode cX7_bookOf 21 = .ok (.ifnonnull 14, 3) := by decide +kernel
theorem dX7_bookOf_24 : decode cX7_bookOf 24 = .ok (.new 257, 3) := by decide +kernel
theorem dX7_bookOf_27 : decode cX7_bookOf 27 = .ok (.dup, 1) := by decide +kernel
theorem dX7_bookOf_28 : decode cX7_bookOf 28 = .ok (.ldc_w 276, 3) := by decide +kernel
theorem dX7_bookOf_31 : decode cX7_bookOf 31 = .ok (.invokespecial 261, 3) := by decide +kernel
theorem dX7_bookOf_34 : decode cX7_bookOf 34 = .ok (.athrow, 1) := by decide +kernel
theorem dX7_bookOf_35 : decode cX7_bookOf 35 = .ok (.aload_n 2, 1) := by decide +kernel
theorem dX7_bookOf_36 : decode cX7_bookOf 36 = .ok (.areturn, 1) := by decide +kernel
set_option maxRecDepth 20000 in
theorem ggX7_skinOf_X7_isWithin : GoodIn wsX7_skinOf wsX7_isWithin := goodIn_r _ [7] (by decide +kernel) (by decide +kernel)
set_option maxRecDepth 20000 in
theorem gX7_skinOf_X7_isWithin : GoodIn wsX7_skinOf (va_wsS RX7 42 yX7_isWithin wsX7_isWithin) := goodIn_app (goodIn_of _ (by decide +kernel)) ggX7_skinOf_X7_isWithin
theorem dX7_skinOf_0 : decode cX7_skinOf 0 = .ok (.iload_n 1, 1) := by decide +kernel
theorem dX7_skinOf_1 : decode cX7_skinOf 1 = .ok (.iconst 0, 1) := by decide +kernel
theorem dX7_skinOf_2 : decode cX7_skinOf 2 = .ok (.iconst 2, 1) := by decide +kernel
theorem dX7_skinOf_3 : decode cX7_skinOf 3 = .ok (.invokestatic 42, 3) := by decide +kernel
theorem dX7_skinOf_6 : decode cX7_skinOf 6 = .ok (.ifCond .eq 12, 3) := by decide +kernel
theorem dX7_skinOf_9 : decode cX7_skinOf 9 = .ok (.aload_n 0, 1) := by decide +kernel
theorem dX7_skinOf_10 : decode cX7_skinOf 10 = .ok (.getfield 30, 3) := by decide +kernel
theorem dX7_skinOf_13 : decode cX7_skinOf 13 = .ok (.iload_n 1, 1) := by decide +kernel
theorem dX7_skinOf_14 : decode cX7_skinOf 14 = .ok (.aaload, 1) := by decide +kernel
theorem dX7_skinOf_15 : decode cX7_skinOf 15 = .ok (.goto 4, 3) := by decide +kernel
theorem dX7_skinOf_18 : decode cX7_skinOf 18 = .ok (.aconst_null, 1) := by decide +kernel
theorem dX7_skinOf_19 : decode cX7_skinOf 19 = .ok (.astore_n 2, 1) := by decide +kernel
theorem dX7_skinOf_20 : decode cX7_skinOf 20 = .ok (.aload_n 2, 1) := by decide +kernel
theorem dX7_skinOf_21 : decode cX7_skinOf 21 = .ok (.ifnonnull 14, 3) := by decide +kernel
theorem dX7_skinOf_24 : decode cX7_skinOf 24 = .ok (.new 257, 3) := by decide +kernel
theorem dX7_skinOf_27 : decode cX7_skinOf 27 = .ok (.dup, 1) := by decide +kernel
theorem dX7_skinOf_28 : decode cX7_skinOf 28 = .ok (.ldc_w 278, 3) := by decide +kernel
theorem dX7_skinOf_31 : decode cX7_skinOf 31 = .ok (.invokespecial 261, 3) := by decide +kernel
theorem dX7_skinOf_34 : decode cX7_skinOf 34 = .ok (.athrow, 1) := by decide +kernel
theorem dX7_skinOf_35 : decode cX7_skinOf 35 = .ok (.aload_n 2, 1) := by decide +kernel
theorem dX7_skinOf_36 : decode cX7_skinOf 36 = .ok (.areturn, 1) := by decide +kernel
theorem dX7_columnsOf_0 : decode cX7_columnsOf 0 = .ok (.iconst 1, 1) := by decide +kernel
theorem dX7_columnsOf_1 : decode cX7_columnsOf 1 = .ok (.iload_n 0, 1) := by decide +kernel
theorem dX7_columnsOf_2 : decode cX7_columnsOf 2 = .ok (.iconst 1, 1) := by decide +kernel
theorem dX7_columnsOf_3 : decode cX7_columnsOf 3 = .ok (.iadd, 1) := by decide +kernel
theorem dX7_columnsOf_4 : decode cX7_columnsOf 4 = .ok (.iconst 2, 1) := by decide +kernel
theorem dX7_columnsOf_5 : decode cX7_columnsOf 5 = .ok (.idiv, 1) := by decide +kernel
theorem dX7_columnsOf_6 : decode cX7_columnsOf 6 = .ok (.ishl, 1) := by decide +kernel
theorem dX7_columnsOf_7 : decode cX7_columnsOf 7 = .ok (.ireturn, 1) := by decide +kernel
theorem dX7_rowsOf_0 : decode cX7_rowsOf 0 = .ok (.iconst 1, 1) := by decide +kernel
theorem dX7_rowsOf_1 : decode cX7_rowsOf 1 = .ok (.iload_n 0, 1) := by decide +kernel
theorem dX7_rowsOf_2 : decode cX7_rowsOf 2 = .ok (.iconst 2, 1) := by decide +kernel
theorem dX7_rowsOf_3 : decode cX7_rowsOf 3 = .ok (.idiv, 1) := by decide +kernel
theorem dX7_rowsOf_4 : decode cX7_rowsOf 4 = .ok (.ishl, 1) := by decide +kernel
theorem dX7_rowsOf_5 : decode cX7_rowsOf 5 = .ok (.ireturn, 1) := by decide +kernel
set_option maxRecDepth 20000 in
theorem ggX7_foldedPage_X7_columnsOf : GoodIn wsX7_foldedPage wsX7_columnsOf := goodIn_r _ [4] (by decide +kernel) (by decide +kernel)
set_option maxRecDepth 20000 in
theorem gX7_foldedPage_X7_columnsOf : GoodIn wsX7_foldedPage (va_wsS RX7 99 yX7_columnsOf wsX7_columnsOf) := goodIn_app (goodIn_of _ (by decide +kernel)) ggX7_foldedPage_X7_columnsOf
set_option maxRecDepth 20000 in
theorem ggX7_foldedPage_X7_rowsOf : GoodIn wsX7_foldedPage wsX7_rowsOf := goodIn_r _ [7] (by decide +kernel) (by decide +kernel)
set_option maxRecDepth 20000 in
theorem gX7_foldedPage_X7_rowsOf : GoodIn wsX7_foldedPage (va_wsS RX7 102 yX7_rowsOf wsX7_rowsOf) := goodIn_app (goodIn_of _ (by decide +kernel)) ggX7_foldedPage_X7_rowsOf
theorem dX7_foldedPage_0 : decode cX7_foldedPage 0 = .ok (.iload_n 0, 1) := by decide +kernel
theorem dX7_foldedPage_1 : decode cX7_foldedPage 1 = .ok (.invokestatic 99, 3) := by decide +kernel
theorem dX7_foldedPage_4 : decode cX7_foldedPage 4 = .ok (.istore 4, 2) := by decide +kernel
theorem dX7_foldedPage_6 : decode cX7_foldedPage 6 = .ok (.iload_n 0, 1) := by decide +kernel
theorem dX7_foldedPage_7 : decode cX7_foldedPage 7 = .ok (.invokestatic 102, 3) := by decide +kernel
theorem dX7_foldedPage_10 : decode cX7_foldedPage 10 = .ok (.istore 5, 2) := by decide +kernel
theorem dX7_foldedPage_12 : decode cX7_foldedPage 12 = .ok (.iconst 2, 1) := by decide +kernel
theorem dX7_foldedPage_13 : decode cX7_foldedPage 13 = .ok (.istore 6, 2) := by decide +kernel
theorem dX7_foldedPage_15 : decode cX7_foldedPage 15 = .ok (.iload_n 1, 1) := by decide +kernel
theorem dX7_foldedPage_16 : decode cX7_foldedPage 16 = .ok (.ifCond .eq 7, 3) := by decide +kernel
theorem dX7_foldedPage_19 : decode cX7_foldedPage 19 = .ok (.iconst 2, 1) := by decide +kernel
theorem dX7_foldedPage_20 : decode cX7_foldedPage 20 = .ok (.goto 4, 3) := by decide +kernel
theorem dX7_foldedPage_23 : decode cX7_foldedPage 23 = .ok (.iconst 1, 1) := by decide +kernel
theorem dX7_foldedPage_24 : decode cX7_foldedPage 24 = .ok (.istore 7, 2) := by decide +kernel
theorem dX7_foldedPage_26 : decode cX7_foldedPage 26 = .ok (.iconst 0, 1) := by decide +kernel
theorem dX7_foldedPage_27 : decode cX7_foldedPage 27 = .ok (.istore 8, 2) := by decide +kernel
theorem dX7_foldedPage_29 : decode cX7_foldedPage 29 = .ok (.iload 8, 2) := by decide +kernel
theorem dX7_foldedPage_31 : decode cX7_foldedPage 31 = .ok (.iload_n 0, 1) := by decide +kernel
theorem dX7_foldedPage_32 : decode cX7_foldedPage 32 = .ok (.if_icmp .ge 121, 3) := by decide +kernel
theorem dX7_foldedPage_35 : decode cX7_foldedPage 35 = .ok (.iload 8, 2) := by decide +kernel
theorem dX7_foldedPage_37 : decode cX7_foldedPage 37 = .ok (.iconst 2, 1) := by decide +kernel
theorem dX7_foldedPage_38 : decode cX7_foldedPage 38 = .ok (.irem, 1) := by decide +kernel
theorem dX7_foldedPage_39 : decode cX7_foldedPage 39 = .ok (.ifCond .ne 43, 3) := by decide +kernel
theorem dX7_foldedPage_42 : decode cX7_foldedPage 42 = .ok (.iload 4, 2) := by decide +kernel
theorem dX7_foldedPage_44 : decode cX7_foldedPage 44 = .ok (.iconst 2, 1) := by decide +kernel
theorem dX7_foldedPage_45 : decode cX7_foldedPage 45 = .ok (.idiv, 1) := by decide +kernel
theorem dX7_foldedPage_46 : decode cX7_foldedPage 46 = .ok (.istore 4, 2) := by decide +kernel
theorem dX7_foldedPage_48 : decode cX7_foldedPage 48 = .ok (.iload_n 2, 1) := by decide +kernel
theorem dX7_foldedPage_49 : decode cX7_foldedPage 49 = .ok (.iload 4, 2) := by decide +kernel
theorem dX7_foldedPage_51 : decode cX7_foldedPage 51 = .ok (.if_icmp .lt 7, 3) := by decide +kernel
theorem dX7_foldedPage_54 : decode cX7_foldedPage 54 = .ok (.iconst 1, 1) := by decide +kernel
theorem dX7_foldedPage_55 : decode cX7_foldedPage 55 = .ok (.goto 4, 3) := by decide +kernel
theorem dX7_foldedPage_58 : decode cX7_foldedPage 58 = .ok (.iconst 0, 1) := by decide +kernel
theorem dX7_foldedPage_59 : decode cX7_foldedPage 59 = .ok (.istore 9, 2) := by decide +kernel
theorem dX7_foldedPage_61 : decode cX7_foldedPage 61 = .ok (.iload 9, 2) := by decide +kernel
theorem dX7_foldedPage_63 : decode cX7_foldedPage 63 = .ok (.ifCond .eq 14, 3) := by decide +kernel
theorem dX7_foldedPage_66 : decode cX7_foldedPage 66 = .ok (.iconst 2, 1) := by decide +kernel
theorem dX7_foldedPage_67 : decode cX7_foldedPage 67 = .ok (.iload 4, 2) := by decide +kernel
theorem dX7_foldedPage_69 : decode cX7_foldedPage 69 = .ok (.imul, 1) := by decide +kernel
theorem dX7_foldedPage_70 : decode cX7_foldedPage 70 = .ok (.iconst 1, 1) := by decide +kernel
theorem dX7_foldedPage_71 : decode cX7_foldedPage 71 = .ok (.isub, 1) := by decide +kernel
theorem dX7_foldedPage_72 : decode cX7_foldedPage 72 = .ok (.iload_n 2, 1) := by decide +kernel
theorem dX7_foldedPage_73 : decode cX7_foldedPage 73 = .ok (.isub, 1) := by decide +kernel
theorem dX7_foldedPage_74 : decode cX7_foldedPage 74 = .ok (.goto 4, 3) := by decide +kernel
theorem dX7_foldedPage_77 : decode cX7_foldedPage 77 = .ok (.iload_n 2, 1) := by decide +kernel
theorem dX7_foldedPage_78 : decode cX7_foldedPage 78 = .ok (.istore_n 2, 1) := by decide +kernel
theorem dX7_foldedPage_79 : decode cX7_foldedPage 79 = .ok (.goto 40, 3) := by decide +kernel
theorem dX7_foldedPage_82 : decode cX7_foldedPage 82 = .ok (.iload 5, 2) := by decide +kernel
theorem dX7_foldedPage_84 : decode cX7_foldedPage 84 = .ok (.iconst 2, 1) := by decide +kernel
theorem dX7_foldedPage_85 : decode cX7_foldedPage 85 = .ok (.idiv, 1) := by decide +kernel
theorem dX7_foldedPage_86 : decode cX7_foldedPage 86 = .ok (.istore 5, 2) := by decide +kernel
theorem dX7_foldedPage_88 : decode cX7_foldedPage 88 = .ok (.iload_n 3, 1) := by decide +kernel
theorem dX7_foldedPage_89 : decode cX7_foldedPage 89 = .ok (.iload 5, 2) := by decide +kernel
theorem dX7_foldedPage_91 : decode cX7_foldedPage 91 = .ok (.if_icmp .lt 7, 3) := by decide +kernel
theorem dX7_foldedPage_94 : decode cX7_foldedPage 94 = .ok (.iconst 1, 1) := by decide +kernel
theorem dX7_foldedPage_95 : decode cX7_foldedPage 95 = .ok (.goto 4, 3) := by decide +kernel
theorem dX7_foldedPage_98 : decode cX7_foldedPage 98 = .ok (.iconst 0, 1) := by decide +kernel
theorem dX7_foldedPage_99 : decode cX7_foldedPage 99 = .ok (.istore 9, 2) := by decide +kernel
theorem dX7_foldedPage_101 : decode cX7_foldedPage 101 = .ok (.iload 9, 2) := by decide +kernel
theorem dX7_foldedPage_103 : decode cX7_foldedPage 103 = .ok (.ifCond .eq 14, 3) := by decide +kernel
theorem dX7_foldedPage_106 : decode cX7_foldedPage 106 = .ok (.iconst 2, 1) := by decide +kernel
theorem dX7_foldedPage_107 : decode cX7_foldedPage 107 = .ok (.iload 5, 2) := by decide +kernel
theorem dX7_foldedPage_109 : decode cX7_foldedPage 109 = .ok (.imul, 1) := by decide +kernel
theorem dX7_foldedPage_110 : decode cX7_foldedPage 110 = .ok (.iconst 1, 1) := by decide +kernel
theorem dX7_foldedPage_111 : decode cX7_foldedPage 111 = .ok (.isub, 1) := by decide +kernel
theorem dX7_foldedPage_112 : decode cX7_foldedPage 112 = .ok (.iload_n 3, 1) := by decide +kernel
theorem dX7_foldedPage_113 : decode cX7_foldedPage 113 = .ok (.isub, 1) := by decide +kernel
theorem dX7_foldedPage_114 : decode cX7_foldedPage 114 = .ok (.goto 4, 3) := by decide +kernel
theorem dX7_foldedPage_117 : decode cX7_foldedPage 117 = .ok (.iload_n 3, 1) := by decide +kernel
theorem dX7_foldedPage_118 : decode cX7_foldedPage 118 = .ok (.istore_n 3, 1) := by decide +kernel
theorem dX7_foldedPage_119 : decode cX7_foldedPage 119 = .ok (.iload 9, 2) := by decide +kernel
theorem dX7_foldedPage_121 : decode cX7_foldedPage 121 = .ok (.ifCond .eq 13, 3) := by decide +kernel
theorem dX7_foldedPage_124 : decode cX7_foldedPage 124 = .ok (.iload 6, 2) := by decide +kernel
theorem dX7_foldedPage_126 : decode cX7_foldedPage 126 = .ok (.iconst 1, 1) := by decide +kernel
theorem dX7_foldedPage_127 : decode cX7_foldedPage 127 = .ok (.iadd, 1) := by decide +kernel
theorem dX7_foldedPage_128 : decode cX7_foldedPage 128 = .ok (.iload 7, 2) := by decide +kernel
theorem dX7_foldedPage_130 : decode cX7_foldedPage 130 = .ok (.isub, 1) := by decide +kernel
theorem dX7_foldedPage_131 : decode cX7_foldedPage 131 = .ok (.goto 8, 3) := by decide +kernel
theorem dX7_foldedPage_134 : decode cX7_foldedPage 134 = .ok (.iload 6, 2) := by decide +kernel
theorem dX7_foldedPage_136 : decode cX7_foldedPage 136 = .ok (.iload 7, 2) := by decide +kernel
theorem dX7_foldedPage_138 : decode cX7_foldedPage 138 = .ok (.iadd, 1) := by decide +kernel
theorem dX7_foldedPage_139 : decode cX7_foldedPage 139 = .ok (.istore 7, 2) := by decide +kernel
theorem dX7_foldedPage_141 : decode cX7_foldedPage 141 = .ok (.iload 6, 2) := by decide +kernel
theorem dX7_foldedPage_143 : decode cX7_foldedPage 143 = .ok (.iconst 2, 1) := by decide +kernel
theorem dX7_foldedPage_144 : decode cX7_foldedPage 144 = .ok (.imul, 1) := by decide +kernel
theorem dX7_foldedPage_145 : decode cX7_foldedPage 145 = .ok (.istore 6, 2) := by decide +kernel
theorem dX7_foldedPage_147 : decode cX7_foldedPage 147 = .ok (.iinc 8 1, 3) := by decide +kernel
theorem dX7_foldedPage_150 : decode cX7_foldedPage 150 = .ok (.goto (-121), 3) := by decide +kernel
theorem dX7_foldedPage_153 : decode cX7_foldedPage 153 = .ok (.iload 7, 2) := by decide +kernel
theorem dX7_foldedPage_155 : decode cX7_foldedPage 155 = .ok (.ireturn, 1) := by decide +kernel
set_option maxRecDepth 20000 in
theorem ggX7_unfoldedPlace_X7_rowsOf : GoodIn wsX7_unfoldedPlace wsX7_rowsOf := goodIn_r _ [4] (by decide +kernel) (by decide +kernel)
set_option maxRecDepth 20000 in
theorem gX7_unfoldedPlace_X7_rowsOf : GoodIn wsX7_unfoldedPlace (va_wsS RX7 102 yX7_rowsOf wsX7_rowsOf) := goodIn_app (goodIn_of _ (by decide +kernel)) ggX7_unfoldedPlace_X7_rowsOf
set_option maxRecDepth 20000 in
theorem ggX7_unfoldedPlace_X7_columnsOf : GoodIn wsX7_unfoldedPlace wsX7_columnsOf := goodIn_r _ [7] (by decide +kernel) (by decide +kernel)
set_option maxRecDepth 20000 in
theorem gX7_unfoldedPlace_X7_columnsOf : GoodIn wsX7_unfoldedPlace (va_wsS RX7 99 yX7_columnsOf wsX7_columnsOf) := goodIn_app (goodIn_of _ (by decide +kernel)) ggX7_unfoldedPlace_X7_columnsOf
set_option maxRecDepth 20000 in
theorem ggX7_unfoldedPlace_X7_foldedPage : GoodIn wsX7_unfoldedPlace wsX7_foldedPage := goodIn_r _ [10, 5, 6, 3, 7, 1, 2, 4] (by decide +kernel) (by decide +kernel)
set_option maxRecDepth 20000 in
theorem gX7_unfoldedPlace_X7_foldedPage : GoodIn wsX7_unfoldedPlace (va_wsS RX7 105 yX7_foldedPage wsX7_foldedPage) := goodIn_app (goodIn_of _ (by decide +kernel)) ggX7_unfoldedPlace_X7_foldedPage
theorem dX7_unfoldedPlace_0 : decode cX7_unfoldedPlace 0 = .ok (.iconst 0, 1) := by decide +kernel
theorem dX7_unfoldedPlace_1 : decode cX7_unfoldedPlace 1 = .ok (.istore_n 2, 1) := by decide +kernel
theorem dX7_unfoldedPlace_2 : decode cX7_unfoldedPlace 2 = .ok (.iload_n 2, 1) := by decide +kernel
theorem dX7_unfoldedPlace_3 : decode cX7_unfoldedPlace 3 = .ok (.iload_n 0, 1) := by decide +kernel
theorem dX7_unfoldedPlace_4 : decode cX7_unfoldedPlace 4 = .ok (.invokestatic 102, 3) := by decide +kernel
theorem dX7_unfoldedPlace_7 : decode cX7_unfoldedPlace 7 = .ok (.if_icmp .ge 64, 3) := by decide +kernel
theorem dX7_unfoldedPlace_10 : decode cX7_unfoldedPlace 10 = .ok (.iconst 0, 1) := by decide +kernel
theorem dX7_unfoldedPlace_11 : decode cX7_unfoldedPlace 11 = .ok (.istore_n 3, 1) := by decide +kernel
theorem dX7_unfoldedPlace_12 : decode cX7_unfoldedPlace 12 = .ok (.iload_n 3, 1) := by decide +kernel
theorem dX7_unfoldedPlace_13 : decode cX7_unfoldedPlace 13 = .ok (.iload_n 0, 1) := by decide +kernel
theorem dX7_unfoldedPlace_14 : decode cX7_unfoldedPlace 14 = .ok (.invokestatic 99, 3) := by decide +kernel
theorem dX7_unfoldedPlace_17 : decode cX7_unfoldedPlace 17 = .ok (.if_icmp .ge 48, 3) := by decide +kernel
theorem dX7_unfoldedPlace_20 : decode cX7_unfoldedPlace 20 = .ok (.iload_n 0, 1) := by decide +kernel
theorem dX7_unfoldedPlace_21 : decode cX7_unfoldedPlace 21 = .ok (.iconst 0, 1) := by decide +kernel
theorem dX7_unfoldedPlace_22 : decode cX7_unfoldedPlace 22 = .ok (.iload_n 3, 1) := by decide +kernel
theorem dX7_unfoldedPlace_23 : decode cX7_unfoldedPlace 23 = .ok (.iload_n 2, 1) := by decide +kernel
theorem dX7_unfoldedPlace_24 : decode cX7_unfoldedPlace 24 = .ok (.invokestatic 105, 3) := by decide +kernel
theorem dX7_unfoldedPlace_27 : decode cX7_unfoldedPlace 27 = .ok (.iload_n 1, 1) := by decide +kernel
theorem dX7_unfoldedPlace_28 : decode cX7_unfoldedPlace 28 = .ok (.if_icmp .ne 10, 3) := by decide +kernel
theorem dX7_unfoldedPlace_31 : decode cX7_unfoldedPlace 31 = .ok (.bipush 10, 2) := by decide +kernel
theorem dX7_unfoldedPlace_33 : decode cX7_unfoldedPlace 33 = .ok (.iload_n 2, 1) := by decide +kernel
theorem dX7_unfoldedPlace_34 : decode cX7_unfoldedPlace 34 = .ok (.imul, 1) := by decide +kernel
theorem dX7_unfoldedPlace_35 : decode cX7_unfoldedPlace 35 = .ok (.iload_n 3, 1) := by decide +kernel
theorem dX7_unfoldedPlace_36 : decode cX7_unfoldedPlace 36 = .ok (.iadd, 1) := by decide +kernel
theorem dX7_unfoldedPlace_37 : decode cX7_unfoldedPlace 37 = .ok (.ireturn, 1) := by decide +kernel
theorem dX7_unfoldedPlace_38 : decode cX7_unfoldedPlace 38 = .ok (.iload_n 0, 1) := by decide +kernel
theorem dX7_unfoldedPlace_39 : decode cX7_unfoldedPlace 39 = .ok (.iconst 1, 1) := by decide +kernel
theorem dX7_unfoldedPlace_40 : decode cX7_unfoldedPlace 40 = .ok (.iload_n 3, 1) := by decide +kernel
theorem dX7_unfoldedPlace_41 : decode cX7_unfoldedPlace 41 = .ok (.iload_n 2, 1) := by decide +kernel
theorem dX7_unfoldedPlace_42 : decode cX7_unfoldedPlace 42 = .ok (.invokestatic 105, 3) := by decide +kernel
theorem dX7_unfoldedPlace_45 : decode cX7_unfoldedPlace 45 = .ok (.iload_n 1, 1) := by decide +kernel
theorem dX7_unfoldedPlace_46 : decode cX7_unfoldedPlace 46 = .ok (.if_icmp .ne 13, 3) := by decide +kernel
theorem dX7_unfoldedPlace_49 : decode cX7_unfoldedPlace 49 = .ok (.bipush 100, 2) := by decide +kernel
theorem dX7_unfoldedPlace_51 : decode cX7_unfoldedPlace 51 = .ok (.bipush 10, 2) := by decide +kernel
theorem dX7_unfoldedPlace_53 : decode cX7_unfoldedPlace 53 = .ok (.iload_n 2, 1) := by decide +kernel
theorem dX7_unfoldedPlace_54 : decode cX7_unfoldedPlace 54 = .ok (.imul, 1) := by decide +kernel
theorem dX7_unfoldedPlace_55 : decode cX7_unfoldedPlace 55 = .ok (.iadd, 1) := by decide +kernel
theorem dX7_unfoldedPlace_56 : decode cX7_unfoldedPlace 56 = .ok (.iload_n 3, 1) := by decide +kernel
theorem dX7_unfoldedPlace_57 : decode cX7_unfoldedPlace 57 = .ok (.iadd, 1) := by decide +kernel
theorem dX7_unfoldedPlace_58 : decode cX7_unfoldedPlace 58 = .ok (.ireturn, 1) := by decide +kernel
theorem dX7_unfoldedPlace_59 : decode cX7_unfoldedPlace 59 = .ok (.iinc 3 1, 3) := by decide +kernel
theorem dX7_unfoldedPlace_62 : decode cX7_unfoldedPlace 62 = .ok (.goto (-50), 3) := by decide +kernel
theorem dX7_unfoldedPlace_65 : decode cX7_unfoldedPlace 65 = .ok (.iinc 2 1, 3) := by decide +kernel
theorem dX7_unfoldedPlace_68 : decode cX7_unfoldedPlace 68 = .ok (.goto (-66), 3) := by decide +kernel
theorem dX7_unfoldedPlace_71 : decode cX7_unfoldedPlace 71 = .ok (.iconst (-1), 1) := by decide +kernel
theorem dX7_unfoldedPlace_72 : decode cX7_unfoldedPlace 72 = .ok (.ireturn, 1) := by decide +kernel
