theorem dX8_init_0 : decode cX8_init 0 = .ok (.aload_n 0, 1) := by decide +kernel
theorem dX8_init_1 : decode cX8_init 1 = .ok (.invokespecial 1, 3) := by decide +kernel
theorem dX8_init_4 : decode cX8_init 4 = .ok (.aload_n 0, 1) := by decide +kernel
theorem dX8_init_5 : decode cX8_init 5 = .ok (.bipush 64, 2) := by decide +kernel
theorem dX8_init_7 : decode cX8_init 7 = .ok (.newarray .int, 2) := by decide +kernel
theorem dX8_init_9 : decode cX8_init 9 = .ok (.putfield 7, 3) := by decide +kernel
theorem dX8_init_12 : decode cX8_init 12 = .ok (.aload_n 0, 1) := by decide +kernel
theorem dX8_init_13 : decode cX8_init 13 = .ok (.bipush 64, 2) := by decide +kernel
theorem dX8_init_15 : decode cX8_init 15 = .ok (.newarray .int, 2) := by decide +kernel
theorem dX8_init_17 : decode cX8_init 17 = .ok (.putfield 13, 3) := by decide +kernel
theorem dX8_init_20 : decode cX8_init 20 = .ok (.aload_n 0, 1) := by decide +kernel
theorem dX8_init_21 : decode cX8_init 21 = .ok (.sipush 640, 3) := by decide +kernel
theorem dX8_init_24 : decode cX8_init 24 = .ok (.newarray .int, 2) := by decide +kernel
theorem dX8_init_26 : decode cX8_init 26 = .ok (.putfield 16, 3) := by decide +kernel
theorem dX8_init_29 : decode cX8_init 29 = .ok (.aload_n 0, 1) := by decide +kernel
theorem dX8_init_30 : decode cX8_init 30 = .ok (.iconst 4, 1) := by decide +kernel
theorem dX8_init_31 : decode cX8_init 31 = .ok (.newarray .int, 2) := by decide +kernel
theorem dX8_init_33 : decode cX8_init 33 = .ok (.putfield 19, 3) := by decide +kernel
theorem dX8_init_36 : decode cX8_init 36 = .ok (.aload_n 0, 1) := by decide +kernel
theorem dX8_init_37 : decode cX8_init 37 = .ok (.iconst 4, 1) := by decide +kernel
theorem dX8_init_38 : decode cX8_init 38 = .ok (.newarray .int, 2) := by decide +kernel
theorem dX8_init_40 : decode cX8_init 40 = .ok (.putfield 22, 3) := by decide +kernel
theorem dX8_init_43 : decode cX8_init 43 = .ok (.aload_n 0, 1) := by decide +kernel
theorem dX8_init_44 : decode cX8_init 44 = .ok (.iconst 4, 1) := by decide +kernel
theorem dX8_init_45 : decode cX8_init 45 = .ok (.newarray .int, 2) := by decide +kernel
theorem dX8_init_47 : decode cX8_init 47 = .ok (.putfield 25, 3) := by decide +kernel
theorem dX8_init_50 : decode cX8_init 50 = .ok (.aload_n 0, 1) := by decide +kernel
theorem dX8_init_51 : decode cX8_init 51 = .ok (.iconst 4, 1) := by decide +kernel
theorem dX8_init_52 : decode cX8_init 52 = .ok (.newarray .int, 2) := by decide +kernel
theorem dX8_init_54 : decode cX8_init 54 = .ok (.putfield 28, 3) := by decide +kernel
theorem dX8_init_57 : decode cX8_init 57 = .ok (.aload_n 0, 1) := by decide +kernel
theorem dX8_init_58 : decode cX8_init 58 = .ok (.iconst 4, 1) := by decide +kernel
theorem dX8_init_59 : decode cX8_init 59 = .ok (.newarray .boolean, 2) := by decide +kernel
theorem dX8_init_61 : decode cX8_init 61 = .ok (.putfield 31, 3) := by decide +kernel
theorem dX8_init_64 : decode cX8_init 64 = .ok (.aload_n 0, 1) := by decide +kernel
theorem dX8_init_65 : decode cX8_init 65 = .ok (.iconst 4, 1) := by decide +kernel
theorem dX8_init_66 : decode cX8_init 66 = .ok (.newarray .int, 2) := by decide +kernel
theorem dX8_init_68 : decode cX8_init 68 = .ok (.putfield 35, 3) := by decide +kernel
theorem dX8_init_71 : decode cX8_init 71 = .ok (.aload_n 0, 1) := by decide +kernel
theorem dX8_init_72 : decode cX8_init 72 = .ok (.iconst 4, 1) := by decide +kernel
theorem dX8_init_73 : decode cX8_init 73 = .ok (.newarray .int, 2) := by decide +kernel
theorem dX8_init_75 : decode cX8_init 75 = .ok (.putfield 38, 3) := by decide +kernel
theorem dX8_init_78 : decode cX8_init 78 = .ok (.aload_n 0, 1) := by decide +kernel
theorem dX8_init_79 : decode cX8_init 79 = .ok (.sipush 800, 3) := by decide +kernel
theorem dX8_init_82 : decode cX8_init 82 = .ok (.newarray .int, 2) := by decide +kernel
theorem dX8_init_84 : decode cX8_init 84 = .ok (.putfield 41, 3) := by decide +kernel
theorem dX8_init_87 : decode cX8_init 87 = .ok (.aload_n 0, 1) := by decide +kernel
theorem dX8_init_88 : decode cX8_init 88 = .ok (.bipush 40, 2) := by decide +kernel
theorem dX8_init_90 : decode cX8_init 90 = .ok (.newarray .int, 2) := by decide +kernel
theorem dX8_init_92 : decode cX8_init 92 = .ok (.putfield 44, 3) := by decide +kernel
theorem dX8_init_95 : decode cX8_init 95 = .ok (.aload_n 0, 1) := by decide +kernel
theorem dX8_init_96 : decode cX8_init 96 = .ok (.bipush 8, 2) := by decide +kernel
theorem dX8_init_98 : decode cX8_init 98 = .ok (.newarray .boolean, 2) := by decide +kernel
theorem dX8_init_100 : decode cX8_init 100 = .ok (.putfield 47, 3) := by decide +kernel
theorem dX8_init_103 : decode cX8_init 103 = .ok (.aload_n 0, 1) := by decide +kernel
theorem dX8_init_104 : decode cX8_init 104 = .ok (.sipush 192, 3) := by decide +kernel
theorem dX8_init_107 : decode cX8_init 107 = .ok (.newarray .int, 2) := by decide +kernel
theorem dX8_init_109 : decode cX8_init 109 = .ok (.putfield 50, 3) := by decide +kernel
theorem dX8_init_112 : decode cX8_init 112 = .ok (.aload_n 0, 1) := by decide +kernel
theorem dX8_init_113 : decode cX8_init 113 = .ok (.iconst 4, 1) := by decide +kernel
theorem dX8_init_114 : decode cX8_init 114 = .ok (.newarray .int, 2) := by decide +kernel
theorem dX8_init_116 : decode cX8_init 116 = .ok (.putfield 53, 3) := by decide +kernel
theorem dX8_init_119 : decode cX8_init 119 = .ok (.aload_n 0, 1) := by decide +kernel
theorem dX8_init_120 : decode cX8_init 120 = .ok (.bipush 80, 2) := by decide +kernel
theorem dX8_init_122 : decode cX8_init 122 = .ok (.newarray .int, 2) := by decide +kernel
theorem dX8_init_124 : decode cX8_init 124 = .ok (.putfield 56, 3) := by decide +kernel
theorem dX8_init_127 : decode cX8_init 127 = .ok (.aload_n 0, 1) := by decide +kernel
theorem dX8_init_128 : decode cX8_init 128 = .ok (.iconst 4, 1) := by decide +kernel
theorem dX8_init_129 : decode cX8_init 129 = .ok (.newarray .int, 2) := by decide +kernel
theorem dX8_init_131 : decode cX8_init 131 = .ok (.putfield 59, 3) := by decide +kernel
theorem dX8_init_134 : decode cX8_init 134 = .ok (.aload_n 0, 1) := by decide +kernel
theorem dX8_init_135 : decode cX8_init 135 = .ok (.bipush 80, 2) := by decide +kernel
theorem dX8_init_137 : decode cX8_init 137 = .ok (.newarray .int, 2) := by decide +kernel
theorem dX8_init_139 : decode cX8_init 139 = .ok (.putfield 62, 3) := by decide +kernel
theorem dX8_init_142 : decode cX8_init 142 = .ok (.aload_n 0, 1) := by decide +kernel
theorem dX8_init_143 : decode cX8_init 143 = .ok (.bipush 80, 2) := by decide +kernel
theorem dX8_init_145 : decode cX8_init 145 = .ok (.newarray .int, 2) := by decide +kernel
theorem dX8_init_147 : decode cX8_init 147 = .ok (.putfield 65, 3) := by decide +kernel
theorem dX8_init_150 : decode cX8_init 150 = .ok (.aload_n 0, 1) := by decide +kernel
theorem dX8_init_151 : decode cX8_init 151 = .ok (.bipush 80, 2) := by decide +kernel
theorem dX8_init_153 : decode cX8_init 153 = .ok (.newarray .int, 2) := by decide +kernel
theorem dX8_init_155 : decode cX8_init 155 = .ok (.putfield 68, 3) := by decide +kernel
theorem dX8_init_158 : decode cX8_init 158 = .ok (.return_, 1) := by decide +kernel
theorem dX8_thrown_0 : decode cX8_thrown 0 = .ok (.aload_n 0, 1) := by decide +kernel
theorem dX8_thrown_1 : decode cX8_thrown 1 = .ok (.getfield 71, 3) := by decide +kernel
theorem dX8_thrown_4 : decode cX8_thrown 4 = .ok (.ireturn, 1) := by decide +kernel
theorem dX8_in_0 : decode cX8_in 0 = .ok (.iload_n 0, 1) := by decide +kernel
theorem dX8_in_1 : decode cX8_in 1 = .ok (.iload_n 1, 1) := by decide +kernel
theorem dX8_in_2 : decode cX8_in 2 = .ok (.if_icmp .lt 12, 3) := by decide +kernel
theorem dX8_in_5 : decode cX8_in 5 = .ok (.iload_n 0, 1) := by decide +kernel
theorem dX8_in_6 : decode cX8_in 6 = .ok (.iload_n 2, 1) := by decide +kernel
theorem dX8_in_7 : decode cX8_in 7 = .ok (.if_icmp .gt 7, 3) := by decide +kernel
theorem dX8_in_10 : decode cX8_in 10 = .ok (.iconst 1, 1) := by decide +kernel
theorem dX8_in_11 : decode cX8_in 11 = .ok (.goto 4, 3) := by decide +kernel
theorem dX8_in_14 : decode cX8_in 14 = .ok (.iconst 0, 1) := by decide +kernel
theorem dX8_in_15 : decode cX8_in 15 = .ok (.ireturn, 1) := by decide +kernel
theorem dX8_goes_0 : decode cX8_goes 0 = .ok (.aload_n 0, 1) := by decide +kernel
theorem dX8_goes_1 : decode cX8_goes 1 = .ok (.iload_n 1, 1) := by decide +kernel
theorem dX8_goes_2 : decode cX8_goes 2 = .ok (.ifCond .ne 7, 3) := by decide +kernel
theorem dX8_goes_5 : decode cX8_goes 5 = .ok (.iconst 1, 1) := by decide +kernel
theorem dX8_goes_6 : decode cX8_goes 6 = .ok (.goto 20, 3) := by decide +kernel
theorem dX8_goes_9 : decode cX8_goes 9 = .ok (.iload_n 2, 1) := by decide +kernel
theorem dX8_goes_10 : decode cX8_goes 10 = .ok (.ifCond .ne 7, 3) := by decide +kernel
theorem dX8_goes_13 : decode cX8_goes 13 = .ok (.iconst 2, 1) := by decide +kernel
theorem dX8_goes_14 : decode cX8_goes 14 = .ok (.goto 12, 3) := by decide +kernel
theorem dX8_goes_17 : decode cX8_goes 17 = .ok (.iload_n 3, 1) := by decide +kernel
theorem dX8_goes_18 : decode cX8_goes 18 = .ok (.ifCond .ne 7, 3) := by decide +kernel
theorem dX8_goes_21 : decode cX8_goes 21 = .ok (.iconst 3, 1) := by decide +kernel
theorem dX8_goes_22 : decode cX8_goes 22 = .ok (.goto 4, 3) := by decide +kernel
theorem dX8_goes_25 : decode cX8_goes 25 = .ok (.iconst 0, 1) := by decide +kernel
theorem dX8_goes_26 : decode cX8_goes 26 = .ok (.putfield 71, 3) := by decide +kernel
theorem dX8_goes_29 : decode cX8_goes 29 = .ok (.aload_n 0, 1) := by decide +kernel
theorem dX8_goes_30 : decode cX8_goes 30 = .ok (.getfield 71, 3) := by decide +kernel
theorem dX8_goes_33 : decode cX8_goes 33 = .ok (.ifCond .ne 7, 3) := by decide +kernel
theorem dX8_goes_36 : decode cX8_goes 36 = .ok (.iconst 1, 1) := by decide +kernel
theorem dX8_goes_37 : decode cX8_goes 37 = .ok (.goto 4, 3) := by decide +kernel
theorem dX8_goes_40 : decode cX8_goes 40 = .ok (.iconst 0, 1) := by decide +kernel
theorem dX8_goes_41 : decode cX8_goes 41 = .ok (.ireturn, 1) := by decide +kernel
set_option maxRecDepth 20000 in
theorem ggX8_isEdge_X8_in : GoodIn wsX8_isEdge wsX8_in := goodIn_r _ [4] (by decide +kernel) (by decide +kernel)
set_option maxRecDepth 20000 in
theorem gX8_isEdge_X8_in : GoodIn wsX8_isEdge (va_wsS RX8 75 yX8_in wsX8_in) := goodIn_app (goodIn_of _ (by decide +kernel)) ggX8_isEdge_X8_in
theorem dX8_isEdge_0 : decode cX8_isEdge 0 = .ok (.iload_n 0, 1) := by decide +kernel
theorem dX8_isEdge_1 : decode cX8_isEdge 1 = .ok (.iconst 0, 1) := by decide +kernel
theorem dX8_isEdge_2 : decode cX8_isEdge 2 = .ok (.bipush 7, 2) := by decide +kernel
theorem dX8_isEdge_4 : decode cX8_isEdge 4 = .ok (.invokestatic 75, 3) := by decide +kernel
theorem dX8_isEdge_7 : decode cX8_isEdge 7 = .ok (.ireturn, 1) := by decide +kernel
theorem dX8_order_0 : decode cX8_order 0 = .ok (.iload_n 0, 1) := by decide +kernel
theorem dX8_order_1 : decode cX8_order 1 = .ok (.bipush 8, 2) := by decide +kernel
theorem dX8_order_3 : decode cX8_order 3 = .ok (.irem, 1) := by decide +kernel
theorem dX8_order_4 : decode cX8_order 4 = .ok (.iload_n 1, 1) := by decide +kernel
theorem dX8_order_5 : decode cX8_order 5 = .ok (.isub, 1) := by decide +kernel
theorem dX8_order_6 : decode cX8_order 6 = .ok (.istore_n 3, 1) := by decide +kernel
theorem dX8_order_7 : decode cX8_order 7 = .ok (.iload_n 0, 1) := by decide +kernel
theorem dX8_order_8 : decode cX8_order 8 = .ok (.bipush 8, 2) := by decide +kernel
theorem dX8_order_10 : decode cX8_order 10 = .ok (.idiv, 1) := by decide +kernel
theorem dX8_order_11 : decode cX8_order 11 = .ok (.iload_n 2, 1) := by decide +kernel
theorem dX8_order_12 : decode cX8_order 12 = .ok (.isub, 1) := by decide +kernel
theorem dX8_order_13 : decode cX8_order 13 = .ok (.istore 4, 2) := by decide +kernel
theorem dX8_order_15 : decode cX8_order 15 = .ok (.bipush 64, 2) := by decide +kernel
theorem dX8_order_17 : decode cX8_order 17 = .ok (.iload_n 3, 1) := by decide +kernel
theorem dX8_order_18 : decode cX8_order 18 = .ok (.iload_n 3, 1) := by decide +kernel
theorem dX8_order_19 : decode cX8_order 19 = .ok (.imul, 1) := by decide +kernel
theorem dX8_order_20 : decode cX8_order 20 = .ok (.iload 4, 2) := by decide +kernel
theorem dX8_order_22 : decode cX8_order 22 = .ok (.iload 4, 2) := by decide +kernel
theorem dX8_order_24 : decode cX8_order 24 = .ok (.imul, 1) := by decide +kernel
theorem dX8_order_25 : decode cX8_order 25 = .ok (.iadd, 1) := by decide +kernel
theorem dX8_order_26 : decode cX8_order 26 = .ok (.imul, 1) := by decide +kernel
theorem dX8_order_27 : decode cX8_order 27 = .ok (.iload_n 0, 1) := by decide +kernel
theorem dX8_order_28 : decode cX8_order 28 = .ok (.iadd, 1) := by decide +kernel
theorem dX8_order_29 : decode cX8_order 29 = .ok (.ireturn, 1) := by decide +kernel
set_option maxRecDepth 20000 in
theorem ggX8_drop_X8_isEdge : GoodIn wsX8_drop wsX8_isEdge := goodIn_r _ [6, 7, 8, 5, 9] (by decide +kernel) (by decide +kernel)
set_option maxRecDepth 20000 in
theorem gX8_drop_X8_isEdge : GoodIn wsX8_drop (va_wsS RX8 79 yX8_isEdge wsX8_isEdge) := goodIn_app (goodIn_of _ (by decide +kernel)) ggX8_drop_X8_isEdge
set_option maxRecDepth 20000 in
theorem ggX8_drop_X8_in : GoodIn wsX8_drop wsX8_in := goodIn_r _ [9] (by decide +kernel) (by decide +kernel)
set_option maxRecDepth 20000 in
theorem gX8_drop_X8_in : GoodIn wsX8_drop (va_wsS RX8 75 yX8_in wsX8_in) := goodIn_app (goodIn_of _ (by decide +kernel)) ggX8_drop_X8_in
set_option maxRecDepth 20000 in
theorem ggX8_drop_X8_goes : GoodIn wsX8_drop wsX8_goes := goodIn_r _ [13, 14, 18, 19, 20, 21, 22, 23, 24, 25, 26, 27, 28, 29, 30, 31, 32, 33, 34, 35, 36, 37, 38, 39, 40, 41, 42, 43, 44, 45] (by decide +kernel) (by decide +kernel)
set_option maxRecDepth 20000 in
theorem gX8_drop_X8_goes : GoodIn wsX8_drop (wsV RX8 83 RX8 yX8_goes wsX8_goes) := goodIn_app (goodIn_of _ (by decide +kernel)) ggX8_drop_X8_goes
set_option maxRecDepth 20000 in
theorem ggX8_drop_X8_order : GoodIn wsX8_drop wsX8_order := goodIn_r _ [17] (by decide +kernel) (by decide +kernel)
set_option maxRecDepth 20000 in
theorem gX8_drop_X8_order : GoodIn wsX8_drop (va_wsS RX8 87 yX8_order wsX8_order) := goodIn_app (goodIn_of _ (by decide +kernel)) ggX8_drop_X8_order
theorem dX8_drop_0 : decode cX8_drop 0 = .ok (.aload_n 0, 1) := by decide +kernel
theorem dX8_drop_1 : decode cX8_drop 1 = .ok (.iload_n 1, 1) := by decide +kernel
theorem dX8_drop_2 : decode cX8_drop 2 = .ok (.invokestatic 79, 3) := by decide +kernel
theorem dX8_drop_5 : decode cX8_drop 5 = .ok (.ifCond .eq 14, 3) := by decide +kernel
theorem dX8_drop_8 : decode cX8_drop 8 = .ok (.iload_n 2, 1) := by decide +kernel
theorem dX8_drop_9 : decode cX8_drop 9 = .ok (.invokestatic 79, 3) := by decide +kernel
theorem dX8_drop_12 : decode cX8_drop 12 = .ok (.ifCond .eq 7, 3) := by decide +kernel
theorem dX8_drop_15 : decode cX8_drop 15 = .ok (.iconst 1, 1) := by decide +kernel
theorem dX8_drop_16 : decode cX8_drop 16 = .ok (.goto 4, 3) := by decide +kernel
theorem dX8_drop_19 : decode cX8_drop 19 = .ok (.iconst 0, 1) := by decide +kernel
theorem dX8_drop_20 : decode cX8_drop 20 = .ok (.iload_n 3, 1) := by decide +kernel
theorem dX8_drop_21 : decode cX8_drop 21 = .ok (.iconst 0, 1) := by decide +kernel
theorem dX8_drop_22 : decode cX8_drop 22 = .ok (.iconst 5, 1) := by decide +kernel
theorem dX8_drop_23 : decode cX8_drop 23 = .ok (.invokestatic 75, 3) := by decide +kernel
theorem dX8_drop_26 : decode cX8_drop 26 = .ok (.ifCond .eq 18, 3) := by decide +kernel
theorem dX8_drop_29 : decode cX8_drop 29 = .ok (.iload 4, 2) := by decide +kernel
theorem dX8_drop_31 : decode cX8_drop 31 = .ok (.iconst 1, 1) := by decide +kernel
theorem dX8_drop_32 : decode cX8_drop 32 = .ok (.bipush 64, 2) := by decide +kernel
theorem dX8_drop_34 : decode cX8_drop 34 = .ok (.invokestatic 75, 3) := by decide +kernel
theorem dX8_drop_37 : decode cX8_drop 37 = .ok (.ifCond .eq 7, 3) := by decide +kernel
theorem dX8_drop_40 : decode cX8_drop 40 = .ok (.iconst 1, 1) := by decide +kernel
theorem dX8_drop_41 : decode cX8_drop 41 = .ok (.goto 4, 3) := by decide +kernel
theorem dX8_drop_44 : decode cX8_drop 44 = .ok (.iconst 0, 1) := by decide +kernel
theorem dX8_drop_45 : decode cX8_drop 45 = .ok (.iconst 1, 1) := by decide +kernel
theorem dX8_drop_46 : decode cX8_drop 46 = .ok (.invokevirtual 83, 3) := by decide +kernel
theorem dX8_drop_49 : decode cX8_drop 49 = .ok (.ifCond .ne 5, 3) := by decide +kernel
theorem dX8_drop_52 : decode cX8_drop 52 = .ok (.iconst 0, 1) := by decide +kernel
theorem dX8_drop_53 : decode cX8_drop 53 = .ok (.ireturn, 1) := by decide +kernel
theorem dX8_drop_54 : decode cX8_drop 54 = .ok (.iconst 0, 1) := by decide +kernel
theorem dX8_drop_55 : decode cX8_drop 55 = .ok (.istore 5, 2) := by decide +kernel
theorem dX8_drop_57 : decode cX8_drop 57 = .ok (.iconst 0, 1) := by decide +kernel
theorem dX8_drop_58 : decode cX8_drop 58 = .ok (.istore 6, 2) := by decide +kernel
theorem dX8_drop_60 : decode cX8_drop 60 = .ok (.iload 6, 2) := by decide +kernel
theorem dX8_drop_62 : decode cX8_drop 62 = .ok (.bipush 64, 2) := by decide +kernel
theorem dX8_drop_64 : decode cX8_drop 64 = .ok (.if_icmp .ge 96, 3) := by decide +kernel
theorem dX8_drop_67 : decode cX8_drop 67 = .ok (.iconst 0, 1) := by decide +kernel
theorem dX8_drop_68 : decode cX8_drop 68 = .ok (.istore 7, 2) := by decide +kernel
theorem dX8_drop_70 : decode cX8_drop 70 = .ok (.iconst 0, 1) := by decide +kernel
theorem dX8_drop_71 : decode cX8_drop 71 = .ok (.istore 8, 2) := by decide +kernel
theorem dX8_drop_73 : decode cX8_drop 73 = .ok (.iload 8, 2) := by decide +kernel
theorem dX8_drop_75 : decode cX8_drop 75 = .ok (.bipush 64, 2) := by decide +kernel
theorem dX8_drop_77 : decode cX8_drop 77 = .ok (.if_icmp .ge 36, 3) := by decide +kernel
theorem dX8_drop_80 : decode cX8_drop 80 = .ok (.iload 7, 2) := by decide +kernel
theorem dX8_drop_82 : decode cX8_drop 82 = .ok (.iload 8, 2) := by decide +kernel
theorem dX8_drop_84 : decode cX8_drop 84 = .ok (.iload_n 1, 1) := by decide +kernel
theorem dX8_drop_85 : decode cX8_drop 85 = .ok (.iload_n 2, 1) := by decide +kernel
theorem dX8_drop_86 : decode cX8_drop 86 = .ok (.invokestatic 87, 3) := by decide +kernel
theorem dX8_drop_89 : decode cX8_drop 89 = .ok (.iload 6, 2) := by decide +kernel
theorem dX8_drop_91 : decode cX8_drop 91 = .ok (.iload_n 1, 1) := by decide +kernel
theorem dX8_drop_92 : decode cX8_drop 92 = .ok (.iload_n 2, 1) := by decide +kernel
theorem dX8_drop_93 : decode cX8_drop 93 = .ok (.invokestatic 87, 3) := by decide +kernel
theorem dX8_drop_96 : decode cX8_drop 96 = .ok (.if_icmp .ge 7, 3) := by decide +kernel
theorem dX8_drop_99 : decode cX8_drop 99 = .ok (.iconst 1, 1) := by decide +kernel
theorem dX8_drop_100 : decode cX8_drop 100 = .ok (.goto 4, 3) := by decide +kernel
theorem dX8_drop_103 : decode cX8_drop 103 = .ok (.iconst 0, 1) := by decide +kernel
theorem dX8_drop_104 : decode cX8_drop 104 = .ok (.iadd, 1) := by decide +kernel
theorem dX8_drop_105 : decode cX8_drop 105 = .ok (.istore 7, 2) := by decide +kernel
theorem dX8_drop_107 : decode cX8_drop 107 = .ok (.iinc 8 1, 3) := by decide +kernel
theorem dX8_drop_110 : decode cX8_drop 110 = .ok (.goto (-37), 3) := by decide +kernel
theorem dX8_drop_113 : decode cX8_drop 113 = .ok (.iload 7, 2) := by decide +kernel
theorem dX8_drop_115 : decode cX8_drop 115 = .ok (.iload 4, 2) := by decide +kernel
theorem dX8_drop_117 : decode cX8_drop 117 = .ok (.if_icmp .ge 37, 3) := by decide +kernel
theorem dX8_drop_120 : decode cX8_drop 120 = .ok (.aload_n 0, 1) := by decide +kernel
theorem dX8_drop_121 : decode cX8_drop 121 = .ok (.getfield 7, 3) := by decide +kernel
theorem dX8_drop_124 : decode cX8_drop 124 = .ok (.iload 6, 2) := by decide +kernel
theorem dX8_drop_126 : decode cX8_drop 126 = .ok (.iaload, 1) := by decide +kernel
theorem dX8_drop_127 : decode cX8_drop 127 = .ok (.iload_n 3, 1) := by decide +kernel
theorem dX8_drop_128 : decode cX8_drop 128 = .ok (.iconst 1, 1) := by decide +kernel
theorem dX8_drop_129 : decode cX8_drop 129 = .ok (.iadd, 1) := by decide +kernel
theorem dX8_drop_130 : decode cX8_drop 130 = .ok (.if_icmp .gt 24, 3) := by decide +kernel
theorem dX8_drop_133 : decode cX8_drop 133 = .ok (.aload_n 0, 1) := by decide +kernel
theorem dX8_drop_134 : decode cX8_drop 134 = .ok (.getfield 7, 3) := by decide +kernel
theorem dX8_drop_137 : decode cX8_drop 137 = .ok (.iload 6, 2) := by decide +kernel
theorem dX8_drop_139 : decode cX8_drop 139 = .ok (.iload_n 3, 1) := by decide +kernel
theorem dX8_drop_140 : decode cX8_drop 140 = .ok (.iconst 1, 1) := by decide +kernel
theorem dX8_drop_141 : decode cX8_drop 141 = .ok (.iadd, 1) := by decide +kernel
theorem dX8_drop_142 : decode cX8_drop 142 = .ok (.iastore, 1) := by decide +kernel
theorem dX8_drop_143 : decode cX8_drop 143 = .ok (.aload_n 0, 1) := by decide +kernel
theorem dX8_drop_144 : decode cX8_drop 144 = .ok (.getfield 13, 3) := by decide +kernel
theorem dX8_drop_147 : decode cX8_drop 147 = .ok (.iload 6, 2) := by decide +kernel
theorem dX8_drop_149 : decode cX8_drop 149 = .ok (.iconst 2, 1) := by decide +kernel
theorem dX8_drop_150 : decode cX8_drop 150 = .ok (.iastore, 1) := by decide +kernel
theorem dX8_drop_151 : decode cX8_drop 151 = .ok (.iinc 5 1, 3) := by decide +kernel
theorem dX8_drop_154 : decode cX8_drop 154 = .ok (.iinc 6 1, 3) := by decide +kernel
theorem dX8_drop_157 : decode cX8_drop 157 = .ok (.goto (-97), 3) := by decide +kernel
theorem dX8_drop_160 : decode cX8_drop 160 = .ok (.iload 5, 2) := by decide +kernel
theorem dX8_drop_162 : decode cX8_drop 162 = .ok (.ireturn, 1) := by decide +kernel
theorem dX8_cellIn_0 : decode cX8_cellIn 0 = .ok (.iload_n 0, 1) := by decide +kernel
theorem dX8_cellIn_1 : decode cX8_cellIn 1 = .ok (.ifCond .eq 12, 3) := by decide +kernel
theorem dX8_cellIn_4 : decode cX8_cellIn 4 = .ok (.bipush 8, 2) := by decide +kernel
theorem dX8_cellIn_6 : decode cX8_cellIn 6 = .ok (.iload_n 1, 1) := by decide +kernel
theorem dX8_cellIn_7 : decode cX8_cellIn 7 = .ok (.imul, 1) := by decide +kernel
theorem dX8_cellIn_8 : decode cX8_cellIn 8 = .ok (.iload_n 2, 1) := by decide +kernel
theorem dX8_cellIn_9 : decode cX8_cellIn 9 = .ok (.iadd, 1) := by decide +kernel
theorem dX8_cellIn_10 : decode cX8_cellIn 10 = .ok (.goto 9, 3) := by decide +kernel
theorem dX8_cellIn_13 : decode cX8_cellIn 13 = .ok (.bipush 8, 2) := by decide +kernel
theorem dX8_cellIn_15 : decode cX8_cellIn 15 = .ok (.iload_n 2, 1) := by decide +kernel
theorem dX8_cellIn_16 : decode cX8_cellIn 16 = .ok (.imul, 1) := by decide +kernel
theorem dX8_cellIn_17 : decode cX8_cellIn 17 = .ok (.iload_n 1, 1) := by decide +kernel
theorem dX8_cellIn_18 : decode cX8_cellIn 18 = .ok (.iadd, 1) := by decide +kernel
theorem dX8_cellIn_19 : decode cX8_cellIn 19 = .ok (.ireturn, 1) := by decide +kernel
set_option maxRecDepth 20000 in
theorem ggX8_turns_X8_cellIn : GoodIn wsX8_turns wsX8_cellIn := goodIn_r _ [6] (by decide +kernel) (by decide +kernel)
set_option maxRecDepth 20000 in
theorem gX8_turns_X8_cellIn : GoodIn wsX8_turns (va_wsS RX8 91 yX8_cellIn wsX8_cellIn) := goodIn_app (goodIn_of _ (by decide +kernel)) ggX8_turns_X8_cellIn
theorem dX8_turns_0 : decode cX8_turns 0 = .ok (.aload_n 0, 1) := by decide +kernel
theorem dX8_turns_1 : decode cX8_turns 1 = .ok (.getfield 7, 3) := by decide +kernel
theorem dX8_turns_4 : decode cX8_turns 4 = .ok (.iload_n 1, 1) := by decide +kernel
theorem dX8_turns_5 : decode cX8_turns 5 = .ok (.iload_n 2, 1) := by decide +kernel
theorem dX8_turns_6 : decode cX8_turns 6 = .ok (.bipush 7, 2) := by decide +kernel
theorem dX8_turns_8 : decode cX8_turns 8 = .ok (.invokestatic 91, 3) := by decide +kernel
theorem dX8_turns_11 : decode cX8_turns 11 = .ok (.iaload, 1) := by decide +kernel
theorem dX8_turns_12 : decode cX8_turns 12 = .ok (.istore_n 3, 1) := by decide +kernel
theorem dX8_turns_13 : decode cX8_turns 13 = .ok (.aload_n 0, 1) := by decide +kernel
theorem dX8_turns_14 : decode cX8_turns 14 = .ok (.getfield 13, 3) := by decide +kernel
theorem dX8_turns_17 : decode cX8_turns 17 = .ok (.iload_n 1, 1) := by decide +kernel
theorem dX8_turns_18 : decode cX8_turns 18 = .ok (.iload_n 2, 1) := by decide +kernel
theorem dX8_turns_19 : decode cX8_turns 19 = .ok (.bipush 7, 2) := by decide +kernel
theorem dX8_turns_21 : decode cX8_turns 21 = .ok (.invokestatic 91, 3) := by decide +kernel
theorem dX8_turns_24 : decode cX8_turns 24 = .ok (.iaload, 1) := by decide +kernel
theorem dX8_turns_25 : decode cX8_turns 25 = .ok (.istore 4, 2) := by decide +kernel
theorem dX8_turns_27 : decode cX8_turns 27 = .ok (.bipush 7, 2) := by decide +kernel
theorem dX8_turns_29 : decode cX8_turns 29 = .ok (.istore 5, 2) := by decide +kernel
theorem dX8_turns_31 : decode cX8_turns 31 = .ok (.iload 5, 2) := by decide +kernel
theorem dX8_turns_33 : decode cX8_turns 33 = .ok (.ifCond .le 61, 3) := by decide +kernel
theorem dX8_turns_36 : decode cX8_turns 36 = .ok (.aload_n 0, 1) := by decide +kernel
theorem dX8_turns_37 : decode cX8_turns 37 = .ok (.getfield 7, 3) := by decide +kernel
theorem dX8_turns_40 : decode cX8_turns 40 = .ok (.iload_n 1, 1) := by decide +kernel
theorem dX8_turns_41 : decode cX8_turns 41 = .ok (.iload_n 2, 1) := by decide +kernel
theorem dX8_turns_42 : decode cX8_turns 42 = .ok (.iload 5, 2) := by decide +kernel
theorem dX8_turns_44 : decode cX8_turns 44 = .ok (.invokestatic 91, 3) := by decide +kernel
theorem dX8_turns_47 : decode cX8_turns 47 = .ok (.aload_n 0, 1) := by decide +kernel
theorem dX8_turns_48 : decode cX8_turns 48 = .ok (.getfield 7, 3) := by decide +kernel
theorem dX8_turns_51 : decode cX8_turns 51 = .ok (.iload_n 1, 1) := by decide +kernel
theorem dX8_turns_52 : decode cX8_turns 52 = .ok (.iload_n 2, 1) := by decide +kernel
theorem dX8_turns_53 : decode cX8_turns 53 = .ok (.iload 5, 2) := by decide +kernel
theorem dX8_turns_55 : decode cX8_turns 55 = .ok (.iconst 1, 1) := by decide +kernel
theorem dX8_turns_56 : decode cX8_turns 56 = .ok (.isub, 1) := by decide +kernel
theorem dX8_turns_57 : decode cX8_turns 57 = .ok (.invokestatic 91, 3) := by decide +kernel
theorem dX8_turns_60 : decode cX8_turns 60 = .ok (.iaload, 1) := by decide +kernel
theorem dX8_turns_61 : decode cX8_turns 61 = .ok (.iastore, 1) := by decide +kernel
theorem dX8_turns_62 : decode cX8_turns 62 = .ok (.aload_n 0, 1) := by decide +kernel
theorem dX8_turns_63 : decode cX8_turns 63 = .ok (.getfield 13, 3) := by decide +kernel
theorem dX8_turns_66 : decode cX8_turns 66 = .ok (.iload_n 1, 1) := by decide +kernel
theorem dX8_turns_67 : decode cX8_turns 67 = .ok (.iload_n 2, 1) := by decide +kernel
theorem dX8_turns_68 : decode cX8_turns 68 = .ok (.iload 5, 2) := by decide +kernel
theorem dX8_turns_70 : decode cX8_turns 70 = .ok (.invokestatic 91, 3) := by decide +kernel
theorem dX8_turns_73 : decode cX8_turns 73 = .ok (.aload_n 0, 1) := by decide +kernel
theorem dX8_turns_74 : decode cX8_turns 74 = .ok (.getfield 13, 3) := by decide +kernel
theorem dX8_turns_77 : decode cX8_turns 77 = .ok (.iload_n 1, 1) := by decide +kernel
theorem dX8_turns_78 : decode cX8_turns 78 = .ok (.iload_n 2, 1) := by decide +kernel
theorem dX8_turns_79 : decode cX8_turns 79 = .ok (.iload 5, 2) := by decide +kernel
theorem dX8_turns_81 : decode cX8_turns 81 = .ok (.iconst 1, 1) := by decide +kernel
theorem dX8_turns_82 : decode cX8_turns 82 = .ok (.isub, 1) := by decide +kernel
theorem dX8_turns_83 : decode cX8_turns 83 = .ok (.invokestatic 91, 3) := by decide +kernel
theorem dX8_turns_86 : decode cX8_turns 86 = .ok (.iaload, 1) := by decide +kernel
theorem dX8_turns_87 : decode cX8_turns 87 = .ok (.iastore, 1) := by decide +kernel
theorem dX8_turns_88 : decode cX8_turns 88 = .ok (.iinc 5 (-1), 3) := by decide +kernel
theorem dX8_turns_91 : decode cX8_turns 91 = .ok (.goto (-60), 3) := by decide +kernel
theorem dX8_turns_94 : decode cX8_turns 94 = .ok (.aload_n 0, 1) := by decide +kernel
theorem dX8_turns_95 : decode cX8_turns 95 = .ok (.getfield 7, 3) := by decide +kernel
theorem dX8_turns_98 : decode cX8_turns 98 = .ok (.iload_n 1, 1) := by decide +kernel
theorem dX8_turns_99 : decode cX8_turns 99 = .ok (.iload_n 2, 1) := by decide +kernel
theorem dX8_turns_100 : decode cX8_turns 100 = .ok (.iconst 0, 1) := by decide +kernel
theorem dX8_turns_101 : decode cX8_turns 101 = .ok (.invokestatic 91, 3) := by decide +kernel
theorem dX8_turns_104 : decode cX8_turns 104 = .ok (.iload_n 3, 1) := by decide +kernel
theorem dX8_turns_105 : decode cX8_turns 105 = .ok (.iastore, 1) := by decide +kernel
theorem dX8_turns_106 : decode cX8_turns 106 = .ok (.aload_n 0, 1) := by decide +kernel
theorem dX8_turns_107 : decode cX8_turns 107 = .ok (.getfield 13, 3) := by decide +kernel
theorem dX8_turns_110 : decode cX8_turns 110 = .ok (.iload_n 1, 1) := by decide +kernel
theorem dX8_turns_111 : decode cX8_turns 111 = .ok (.iload_n 2, 1) := by decide +kernel
theorem dX8_turns_112 : decode cX8_turns 112 = .ok (.iconst 0, 1) := by decide +kernel
theorem dX8_turns_113 : decode cX8_turns 113 = .ok (.invokestatic 91, 3) := by decide +kernel
theorem dX8_turns_116 : decode cX8_turns 116 = .ok (.iload 4, 2) := by decide +kernel
theorem dX8_turns_118 : decode cX8_turns 118 = .ok (.iastore, 1) := by decide +kernel
theorem dX8_turns_119 : decode cX8_turns 119 = .ok (.return_, 1) := by decide +kernel
set_option maxRecDepth 20000 in
theorem ggX8_comb_X8_isEdge : GoodIn wsX8_comb wsX8_isEdge := goodIn_r _ [5, 6, 7, 4, 8] (by decide +kernel) (by decide +kernel)
set_option maxRecDepth 20000 in
theorem gX8_comb_X8_isEdge : GoodIn wsX8_comb (va_wsS RX8 79 yX8_isEdge wsX8_isEdge) := goodIn_app (goodIn_of _ (by decide +kernel)) ggX8_comb_X8_isEdge
set_option maxRecDepth 20000 in
theorem ggX8_comb_X8_in : GoodIn wsX8_comb wsX8_in := goodIn_r _ [8] (by decide +kernel) (by decide +kernel)
set_option maxRecDepth 20000 in
theorem gX8_comb_X8_in : GoodIn wsX8_comb (va_wsS RX8 75 yX8_in wsX8_in) := goodIn_app (goodIn_of _ (by decide +kernel)) ggX8_comb_X8_in
set_option maxRecDepth 20000 in
theorem ggX8_comb_X8_goes : GoodIn wsX8_comb wsX8_goes := goodIn_r _ [12, 13, 22, 23, 24, 25, 26, 27, 28, 29, 30, 31, 32, 33, 34, 35, 36, 37, 38, 39, 40, 41, 42, 43, 44, 45, 46, 47, 48, 49] (by decide +kernel) (by decide +kernel)
set_option maxRecDepth 20000 in
theorem gX8_comb_X8_goes : GoodIn wsX8_comb (wsV RX8 83 RX8 yX8_goes wsX8_goes) := goodIn_app (goodIn_of _ (by decide +kernel)) ggX8_comb_X8_goes
set_option maxRecDepth 20000 in
theorem ggX8_comb_X8_turns : GoodIn wsX8_comb wsX8_turns := goodIn_r _ [17, 1, 18, 19, 20, 4, 21, 22, 23, 24, 25, 26, 27, 28, 29, 30, 31, 32, 33, 34, 35, 36, 37, 38, 39, 40, 41, 42, 43, 44, 45, 46, 47, 48, 49] (by decide +kernel) (by decide +kernel)
set_option maxRecDepth 20000 in
theorem gX8_comb_X8_turns : GoodIn wsX8_comb (wsV RX8 95 RX8 yX8_turns wsX8_turns) := goodIn_app (goodIn_of _ (by decide +kernel)) ggX8_comb_X8_turns
set_option maxRecDepth 20000 in
theorem ggX8_comb_X8_cellIn : GoodIn wsX8_comb wsX8_cellIn := goodIn_r _ [21] (by decide +kernel) (by decide +kernel)
set_option maxRecDepth 20000 in
theorem gX8_comb_X8_cellIn : GoodIn wsX8_comb (va_wsS RX8 91 yX8_cellIn wsX8_cellIn) := goodIn_app (goodIn_of _ (by decide +kernel)) ggX8_comb_X8_cellIn
theorem dX8_comb_0 : decode cX8_comb 0 = .ok (.aload_n 0, 1) := by decide +kernel
theorem dX8_comb_1 : decode cX8_comb 1 = .ok (.iload_n 2, 1) := by decide +kernel
theorem dX8_comb_2 : decode cX8_comb 2 = .ok (.invokestatic 79, 3) := by decide +kernel
theorem dX8_comb_5 : decode cX8_comb 5 = .ok (.iload_n 3, 1) := by decide +kernel
theorem dX8_comb_6 : decode cX8_comb 6 = .ok (.bipush (-7), 2) := by decide +kernel
theorem dX8_comb_8 : decode cX8_comb 8 = .ok (.bipush 7, 2) := by decide +kernel
theorem dX8_comb_10 : decode cX8_comb 10 = .ok (.invokestatic 75, 3) := by decide +kernel
theorem dX8_comb_13 : decode cX8_comb 13 = .ok (.iconst 1, 1) := by decide +kernel
theorem dX8_comb_14 : decode cX8_comb 14 = .ok (.invokevirtual 83, 3) := by decide +kernel
theorem dX8_comb_17 : decode cX8_comb 17 = .ok (.ifCond .ne 5, 3) := by decide +kernel
theorem dX8_comb_20 : decode cX8_comb 20 = .ok (.iconst 0, 1) := by decide +kernel
theorem dX8_comb_21 : decode cX8_comb 21 = .ok (.ireturn, 1) := by decide +kernel
theorem dX8_comb_22 : decode cX8_comb 22 = .ok (.iconst 0, 1) := by decide +kernel
theorem dX8_comb_23 : decode cX8_comb 23 = .ok (.istore 4, 2) := by decide +kernel
theorem dX8_comb_25 : decode cX8_comb 25 = .ok (.iload 4, 2) := by decide +kernel
theorem dX8_comb_27 : decode cX8_comb 27 = .ok (.iload_n 3, 1) := by decide +kernel
theorem dX8_comb_28 : decode cX8_comb 28 = .ok (.bipush 8, 2) := by decide +kernel
theorem dX8_comb_30 : decode cX8_comb 30 = .ok (.iadd, 1) := by decide +kernel
theorem dX8_comb_31 : decode cX8_comb 31 = .ok (.bipush 8, 2) := by decide +kernel
theorem dX8_comb_33 : decode cX8_comb 33 = .ok (.irem, 1) := by decide +kernel
theorem dX8_comb_34 : decode cX8_comb 34 = .ok (.if_icmp .ge 15, 3) := by decide +kernel
theorem dX8_comb_37 : decode cX8_comb 37 = .ok (.aload_n 0, 1) := by decide +kernel
theorem dX8_comb_38 : decode cX8_comb 38 = .ok (.iload_n 1, 1) := by decide +kernel
theorem dX8_comb_39 : decode cX8_comb 39 = .ok (.iload_n 2, 1) := by decide +kernel
theorem dX8_comb_40 : decode cX8_comb 40 = .ok (.invokevirtual 95, 3) := by decide +kernel
theorem dX8_comb_43 : decode cX8_comb 43 = .ok (.iinc 4 1, 3) := by decide +kernel
theorem dX8_comb_46 : decode cX8_comb 46 = .ok (.goto (-21), 3) := by decide +kernel
theorem dX8_comb_49 : decode cX8_comb 49 = .ok (.iconst 0, 1) := by decide +kernel
theorem dX8_comb_50 : decode cX8_comb 50 = .ok (.istore 4, 2) := by decide +kernel
theorem dX8_comb_52 : decode cX8_comb 52 = .ok (.iconst 0, 1) := by decide +kernel
theorem dX8_comb_53 : decode cX8_comb 53 = .ok (.istore 5, 2) := by decide +kernel
theorem dX8_comb_55 : decode cX8_comb 55 = .ok (.iload 5, 2) := by decide +kernel
theorem dX8_comb_57 : decode cX8_comb 57 = .ok (.bipush 8, 2) := by decide +kernel
theorem dX8_comb_59 : decode cX8_comb 59 = .ok (.if_icmp .ge 34, 3) := by decide +kernel
theorem dX8_comb_62 : decode cX8_comb 62 = .ok (.iload 4, 2) := by decide +kernel
theorem dX8_comb_64 : decode cX8_comb 64 = .ok (.aload_n 0, 1) := by decide +kernel
theorem dX8_comb_65 : decode cX8_comb 65 = .ok (.getfield 7, 3) := by decide +kernel
theorem dX8_comb_68 : decode cX8_comb 68 = .ok (.iload_n 1, 1) := by decide +kernel
theorem dX8_comb_69 : decode cX8_comb 69 = .ok (.iload_n 2, 1) := by decide +kernel
theorem dX8_comb_70 : decode cX8_comb 70 = .ok (.iload 5, 2) := by decide +kernel
theorem dX8_comb_72 : decode cX8_comb 72 = .ok (.invokestatic 91, 3) := by decide +kernel
theorem dX8_comb_75 : decode cX8_comb 75 = .ok (.iaload, 1) := by decide +kernel
theorem dX8_comb_76 : decode cX8_comb 76 = .ok (.ifCond .le 7, 3) := by decide +kernel
theorem dX8_comb_79 : decode cX8_comb 79 = .ok (.iconst 1, 1) := by decide +kernel
theorem dX8_comb_80 : decode cX8_comb 80 = .ok (.goto 4, 3) := by decide +kernel
theorem dX8_comb_83 : decode cX8_comb 83 = .ok (.iconst 0, 1) := by decide +kernel
theorem dX8_comb_84 : decode cX8_comb 84 = .ok (.iadd, 1) := by decide +kernel
theorem dX8_comb_85 : decode cX8_comb 85 = .ok (.istore 4, 2) := by decide +kernel
theorem dX8_comb_87 : decode cX8_comb 87 = .ok (.iinc 5 1, 3) := by decide +kernel
theorem dX8_comb_90 : decode cX8_comb 90 = .ok (.goto (-35), 3) := by decide +kernel
theorem dX8_comb_93 : decode cX8_comb 93 = .ok (.iload 4, 2) := by decide +kernel
theorem dX8_comb_95 : decode cX8_comb 95 = .ok (.ireturn, 1) := by decide +kernel
set_option maxRecDepth 20000 in
theorem ggX8_lift_X8_goes : GoodIn wsX8_lift wsX8_goes := goodIn_r _ [9, 10, 11, 12, 13, 14, 15, 16, 17, 18, 19, 20, 21, 22, 23, 24, 25, 26, 27, 28, 29, 30, 31, 32, 33, 34, 35, 36, 37, 38] (by decide +kernel) (by decide +kernel)
set_option maxRecDepth 20000 in
theorem gX8_lift_X8_goes : GoodIn wsX8_lift (wsV RX8 83 RX8 yX8_goes wsX8_goes) := goodIn_app (goodIn_of _ (by decide +kernel)) ggX8_lift_X8_goes
theorem dX8_lift_0 : decode cX8_lift 0 = .ok (.aload_n 0, 1) := by decide +kernel
theorem dX8_lift_1 : decode cX8_lift 1 = .ok (.aload_n 0, 1) := by decide +kernel
theorem dX8_lift_2 : decode cX8_lift 2 = .ok (.getfield 99, 3) := by decide +kernel
theorem dX8_lift_5 : decode cX8_lift 5 = .ok (.bipush 10, 2) := by decide +kernel
theorem dX8_lift_7 : decode cX8_lift 7 = .ok (.if_icmp .ge 7, 3) := by decide +kernel
theorem dX8_lift_10 : decode cX8_lift 10 = .ok (.iconst 1, 1) := by decide +kernel
theorem dX8_lift_11 : decode cX8_lift 11 = .ok (.goto 4, 3) := by decide +kernel
theorem dX8_lift_14 : decode cX8_lift 14 = .ok (.iconst 0, 1) := by decide +kernel
theorem dX8_lift_15 : decode cX8_lift 15 = .ok (.iconst 1, 1) := by decide +kernel
theorem dX8_lift_16 : decode cX8_lift 16 = .ok (.iconst 1, 1) := by decide +kernel
theorem dX8_lift_17 : decode cX8_lift 17 = .ok (.invokevirtual 83, 3) := by decide +kernel
theorem dX8_lift_20 : decode cX8_lift 20 = .ok (.ifCond .ne 5, 3) := by decide +kernel
theorem dX8_lift_23 : decode cX8_lift 23 = .ok (.iconst 0, 1) := by decide +kernel
theorem dX8_lift_24 : decode cX8_lift 24 = .ok (.ireturn, 1) := by decide +kernel
theorem dX8_lift_25 : decode cX8_lift 25 = .ok (.iconst 0, 1) := by decide +kernel
theorem dX8_lift_26 : decode cX8_lift 26 = .ok (.istore_n 1, 1) := by decide +kernel
theorem dX8_lift_27 : decode cX8_lift 27 = .ok (.iload_n 1, 1) := by decide +kernel
theorem dX8_lift_28 : decode cX8_lift 28 = .ok (.bipush 64, 2) := by decide +kernel
theorem dX8_lift_30 : decode cX8_lift 30 = .ok (.if_icmp .ge 77, 3) := by decide +kernel
theorem dX8_lift_33 : decode cX8_lift 33 = .ok (.aload_n 0, 1) := by decide +kernel
theorem dX8_lift_34 : decode cX8_lift 34 = .ok (.getfield 16, 3) := by decide +kernel
theorem dX8_lift_37 : decode cX8_lift 37 = .ok (.bipush 64, 2) := by decide +kernel
theorem dX8_lift_39 : decode cX8_lift 39 = .ok (.aload_n 0, 1) := by decide +kernel
theorem dX8_lift_40 : decode cX8_lift 40 = .ok (.getfield 99, 3) := by decide +kernel
theorem dX8_lift_43 : decode cX8_lift 43 = .ok (.imul, 1) := by decide +kernel
theorem dX8_lift_44 : decode cX8_lift 44 = .ok (.iload_n 1, 1) := by decide +kernel
theorem dX8_lift_45 : decode cX8_lift 45 = .ok (.iadd, 1) := by decide +kernel
theorem dX8_lift_46 : decode cX8_lift 46 = .ok (.aload_n 0, 1) := by decide +kernel
theorem dX8_lift_47 : decode cX8_lift 47 = .ok (.getfield 7, 3) := by decide +kernel
theorem dX8_lift_50 : decode cX8_lift 50 = .ok (.iload_n 1, 1) := by decide +kernel
theorem dX8_lift_51 : decode cX8_lift 51 = .ok (.iaload, 1) := by decide +kernel
theorem dX8_lift_52 : decode cX8_lift 52 = .ok (.iastore, 1) := by decide +kernel
theorem dX8_lift_53 : decode cX8_lift 53 = .ok (.aload_n 0, 1) := by decide +kernel
theorem dX8_lift_54 : decode cX8_lift 54 = .ok (.getfield 13, 3) := by decide +kernel
theorem dX8_lift_57 : decode cX8_lift 57 = .ok (.iload_n 1, 1) := by decide +kernel
theorem dX8_lift_58 : decode cX8_lift 58 = .ok (.dup2, 1) := by decide +kernel
theorem dX8_lift_59 : decode cX8_lift 59 = .ok (.iaload, 1) := by decide +kernel
theorem dX8_lift_60 : decode cX8_lift 60 = .ok (.aload_n 0, 1) := by decide +kernel
theorem dX8_lift_61 : decode cX8_lift 61 = .ok (.getfield 7, 3) := by decide +kernel
theorem dX8_lift_64 : decode cX8_lift 64 = .ok (.iload_n 1, 1) := by decide +kernel
theorem dX8_lift_65 : decode cX8_lift 65 = .ok (.iaload, 1) := by decide +kernel
theorem dX8_lift_66 : decode cX8_lift 66 = .ok (.ifCond .le 7, 3) := by decide +kernel
theorem dX8_lift_69 : decode cX8_lift 69 = .ok (.iconst 1, 1) := by decide +kernel
theorem dX8_lift_70 : decode cX8_lift 70 = .ok (.goto 4, 3) := by decide +kernel
theorem dX8_lift_73 : decode cX8_lift 73 = .ok (.iconst 0, 1) := by decide +kernel
theorem dX8_lift_74 : decode cX8_lift 74 = .ok (.isub, 1) := by decide +kernel
theorem dX8_lift_75 : decode cX8_lift 75 = .ok (.iastore, 1) := by decide +kernel
theorem dX8_lift_76 : decode cX8_lift 76 = .ok (.aload_n 0, 1) := by decide +kernel
theorem dX8_lift_77 : decode cX8_lift 77 = .ok (.getfield 7, 3) := by decide +kernel
theorem dX8_lift_80 : decode cX8_lift 80 = .ok (.iload_n 1, 1) := by decide +kernel
theorem dX8_lift_81 : decode cX8_lift 81 = .ok (.aload_n 0, 1) := by decide +kernel
theorem dX8_lift_82 : decode cX8_lift 82 = .ok (.getfield 13, 3) := by decide +kernel
theorem dX8_lift_85 : decode cX8_lift 85 = .ok (.iload_n 1, 1) := by decide +kernel
theorem dX8_lift_86 : decode cX8_lift 86 = .ok (.iaload, 1) := by decide +kernel
theorem dX8_lift_87 : decode cX8_lift 87 = .ok (.ifCond .le 12, 3) := by decide +kernel
theorem dX8_lift_90 : decode cX8_lift 90 = .ok (.aload_n 0, 1) := by decide +kernel
theorem dX8_lift_91 : decode cX8_lift 91 = .ok (.getfield 7, 3) := by decide +kernel
theorem dX8_lift_94 : decode cX8_lift 94 = .ok (.iload_n 1, 1) := by decide +kernel
theorem dX8_lift_95 : decode cX8_lift 95 = .ok (.iaload, 1) := by decide +kernel
theorem dX8_lift_96 : decode cX8_lift 96 = .ok (.goto 4, 3) := by decide +kernel
theorem dX8_lift_99 : decode cX8_lift 99 = .ok (.iconst 0, 1) := by decide +kernel
theorem dX8_lift_100 : decode cX8_lift 100 = .ok (.iastore, 1) := by decide +kernel
theorem dX8_lift_101 : decode cX8_lift 101 = .ok (.iinc 1 1, 3) := by decide +kernel
theorem dX8_lift_104 : decode cX8_lift 104 = .ok (.goto (-77), 3) := by decide +kernel
theorem dX8_lift_107 : decode cX8_lift 107 = .ok (.aload_n 0, 1) := by decide +kernel
theorem dX8_lift_108 : decode cX8_lift 108 = .ok (.dup, 1) := by decide +kernel
theorem dX8_lift_109 : decode cX8_lift 109 = .ok (.getfield 99, 3) := by decide +kernel
theorem dX8_lift_112 : decode cX8_lift 112 = .ok (.iconst 1, 1) := by decide +kernel
theorem dX8_lift_113 : decode cX8_lift 113 = .ok (.iadd, 1) := by decide +kernel
theorem dX8_lift_114 : decode cX8_lift 114 = .ok (.putfield 99, 3) := by decide +kernel
theorem dX8_lift_117 : decode cX8_lift 117 = .ok (.aload_n 0, 1) := by decide +kernel
theorem dX8_lift_118 : decode cX8_lift 118 = .ok (.getfield 99, 3) := by decide +kernel
theorem dX8_lift_121 : decode cX8_lift 121 = .ok (.iconst 1, 1) := by decide +kernel
theorem dX8_lift_122 : decode cX8_lift 122 = .ok (.isub, 1) := by decide +kernel
theorem dX8_lift_123 : decode cX8_lift 123 = .ok (.ireturn, 1) := by decide +kernel
theorem dX8_clean_0 : decode cX8_clean 0 = .ok (.aload_n 0, 1) := by decide +kernel
theorem dX8_clean_1 : decode cX8_clean 1 = .ok (.iconst 0, 1) := by decide +kernel
theorem dX8_clean_2 : decode cX8_clean 2 = .ok (.putfield 71, 3) := by decide +kernel
theorem dX8_clean_5 : decode cX8_clean 5 = .ok (.iconst 0, 1) := by decide +kernel
theorem dX8_clean_6 : decode cX8_clean 6 = .ok (.istore_n 1, 1) := by decide +kernel
theorem dX8_clean_7 : decode cX8_clean 7 = .ok (.iconst 0, 1) := by decide +kernel
theorem dX8_clean_8 : decode cX8_clean 8 = .ok (.istore_n 2, 1) := by decide +kernel
theorem dX8_clean_9 : decode cX8_clean 9 = .ok (.iload_n 2, 1) := by decide +kernel
theorem dX8_clean_10 : decode cX8_clean 10 = .ok (.bipush 64, 2) := by decide +kernel
theorem dX8_clean_12 : decode cX8_clean 12 = .ok (.if_icmp .ge 40, 3) := by decide +kernel
theorem dX8_clean_15 : decode cX8_clean 15 = .ok (.iload_n 1, 1) := by decide +kernel
theorem dX8_clean_16 : decode cX8_clean 16 = .ok (.aload_n 0, 1) := by decide +kernel
theorem dX8_clean_17 : decode cX8_clean 17 = .ok (.getfield 7, 3) := by decide +kernel
theorem dX8_clean_20 : decode cX8_clean 20 = .ok (.iload_n 2, 1) := by decide +kernel
theorem dX8_clean_21 : decode cX8_clean 21 = .ok (.iaload, 1) := by decide +kernel
theorem dX8_clean_22 : decode cX8_clean 22 = .ok (.ifCond .le 7, 3) := by decide +kernel
theorem dX8_clean_25 : decode cX8_clean 25 = .ok (.iconst 1, 1) := by decide +kernel
theorem dX8_clean_26 : decode cX8_clean 26 = .ok (.goto 4, 3) := by decide +kernel
theorem dX8_clean_29 : decode cX8_clean 29 = .ok (.iconst 0, 1) := by decide +kernel
theorem dX8_clean_30 : decode cX8_clean 30 = .ok (.iadd, 1) := by decide +kernel
theorem dX8_clean_31 : decode cX8_clean 31 = .ok (.istore_n 1, 1) := by decide +kernel
theorem dX8_clean_32 : decode cX8_clean 32 = .ok (.aload_n 0, 1) := by decide +kernel
theorem dX8_clean_33 : decode cX8_clean 33 = .ok (.getfield 7, 3) := by decide +kernel
theorem dX8_clean_36 : decode cX8_clean 36 = .ok (.iload_n 2, 1) := by decide +kernel
theorem dX8_clean_37 : decode cX8_clean 37 = .ok (.iconst 0, 1) := by decide +kernel
theorem dX8_clean_38 : decode cX8_clean 38 = .ok (.iastore, 1) := by decide +kernel
theorem dX8_clean_39 : decode cX8_clean 39 = .ok (.aload_n 0, 1) := by decide +kernel
theorem dX8_clean_40 : decode cX8_clean 40 = .ok (.getfield 13, 3) := by decide +kernel
theorem dX8_clean_43 : decode cX8_clean 43 = .ok (.iload_n 2, 1) := by decide +kernel
theorem dX8_clean_44 : decode cX8_clean 44 = .ok (.iconst 0, 1) := by decide +kernel
theorem dX8_clean_45 : decode cX8_clean 45 = .ok (.iastore, 1) := by decide +kernel
theorem dX8_clean_46 : decode cX8_clean 46 = .ok (.iinc 2 1, 3) := by decide +kernel
theorem dX8_clean_49 : decode cX8_clean 49 = .ok (.goto (-40), 3) := by decide +kernel
theorem dX8_clean_52 : decode cX8_clean 52 = .ok (.iload_n 1, 1) := by decide +kernel
theorem dX8_clean_53 : decode cX8_clean 53 = .ok (.ireturn, 1) := by decide +kernel
set_option maxRecDepth 20000 in
theorem ggX8_cellAt_X8_isEdge : GoodIn wsX8_cellAt wsX8_isEdge := goodIn_r _ [6, 7, 8, 5, 9] (by decide +kernel) (by decide +kernel)
set_option maxRecDepth 20000 in
theorem gX8_cellAt_X8_isEdge : GoodIn wsX8_cellAt (va_wsS RX8 79 yX8_isEdge wsX8_isEdge) := goodIn_app (goodIn_of _ (by decide +kernel)) ggX8_cellAt_X8_isEdge
set_option maxRecDepth 20000 in
theorem ggX8_cellAt_X8_in : GoodIn wsX8_cellAt wsX8_in := goodIn_r _ [9] (by decide +kernel) (by decide +kernel)
set_option maxRecDepth 20000 in
theorem gX8_cellAt_X8_in : GoodIn wsX8_cellAt (va_wsS RX8 75 yX8_in wsX8_in) := goodIn_app (goodIn_of _ (by decide +kernel)) ggX8_cellAt_X8_in
set_option maxRecDepth 20000 in
theorem ggX8_cellAt_X8_goes : GoodIn wsX8_cellAt wsX8_goes := goodIn_r _ [13, 14, 15, 16, 17, 18, 19, 20, 21, 22, 23, 24, 25, 26, 27, 28, 29, 30, 31, 32, 33, 34, 35, 36, 37, 38, 39, 40, 41, 42] (by decide +kernel) (by decide +kernel)
set_option maxRecDepth 20000 in
theorem gX8_cellAt_X8_goes : GoodIn wsX8_cellAt (wsV RX8 83 RX8 yX8_goes wsX8_goes) := goodIn_app (goodIn_of _ (by decide +kernel)) ggX8_cellAt_X8_goes
theorem dX8_cellAt_0 : decode cX8_cellAt 0 = .ok (.aload_n 0, 1) := by decide +kernel
theorem dX8_cellAt_1 : decode cX8_cellAt 1 = .ok (.iload_n 1, 1) := by decide +kernel
theorem dX8_cellAt_2 : decode cX8_cellAt 2 = .ok (.invokestatic 79, 3) := by decide +kernel
theorem dX8_cellAt_5 : decode cX8_cellAt 5 = .ok (.ifCond .eq 14, 3) := by decide +kernel
theorem dX8_cellAt_8 : decode cX8_cellAt 8 = .ok (.iload_n 2, 1) := by decide +kernel
theorem dX8_cellAt_9 : decode cX8_cellAt 9 = .ok (.invokestatic 79, 3) := by decide +kernel
theorem dX8_cellAt_12 : decode cX8_cellAt 12 = .ok (.ifCond .eq 7, 3) := by decide +kernel
theorem dX8_cellAt_15 : decode cX8_cellAt 15 = .ok (.iconst 1, 1) := by decide +kernel
theorem dX8_cellAt_16 : decode cX8_cellAt 16 = .ok (.goto 4, 3) := by decide +kernel
theorem dX8_cellAt_19 : decode cX8_cellAt 19 = .ok (.iconst 0, 1) := by decide +kernel
theorem dX8_cellAt_20 : decode cX8_cellAt 20 = .ok (.iload_n 3, 1) := by decide +kernel
theorem dX8_cellAt_21 : decode cX8_cellAt 21 = .ok (.iconst 0, 1) := by decide +kernel
theorem dX8_cellAt_22 : decode cX8_cellAt 22 = .ok (.iconst 1, 1) := by decide +kernel
theorem dX8_cellAt_23 : decode cX8_cellAt 23 = .ok (.invokestatic 75, 3) := by decide +kernel
theorem dX8_cellAt_26 : decode cX8_cellAt 26 = .ok (.iconst 1, 1) := by decide +kernel
theorem dX8_cellAt_27 : decode cX8_cellAt 27 = .ok (.invokevirtual 83, 3) := by decide +kernel
theorem dX8_cellAt_30 : decode cX8_cellAt 30 = .ok (.ifCond .ne 5, 3) := by decide +kernel
theorem dX8_cellAt_33 : decode cX8_cellAt 33 = .ok (.iconst 0, 1) := by decide +kernel
theorem dX8_cellAt_34 : decode cX8_cellAt 34 = .ok (.ireturn, 1) := by decide +kernel
theorem dX8_cellAt_35 : decode cX8_cellAt 35 = .ok (.iload_n 3, 1) := by decide +kernel
theorem dX8_cellAt_36 : decode cX8_cellAt 36 = .ok (.ifCond .ne 19, 3) := by decide +kernel
theorem dX8_cellAt_39 : decode cX8_cellAt 39 = .ok (.aload_n 0, 1) := by decide +kernel
theorem dX8_cellAt_40 : decode cX8_cellAt 40 = .ok (.getfield 7, 3) := by decide +kernel
theorem dX8_cellAt_43 : decode cX8_cellAt 43 = .ok (.bipush 8, 2) := by decide +kernel
theorem dX8_cellAt_45 : decode cX8_cellAt 45 = .ok (.iload_n 2, 1) := by decide +kernel
theorem dX8_cellAt_46 : decode cX8_cellAt 46 = .ok (.imul, 1) := by decide +kernel
theorem dX8_cellAt_47 : decode cX8_cellAt 47 = .ok (.iload_n 1, 1) := by decide +kernel
theorem dX8_cellAt_48 : decode cX8_cellAt 48 = .ok (.iadd, 1) := by decide +kernel
theorem dX8_cellAt_49 : decode cX8_cellAt 49 = .ok (.iaload, 1) := by decide +kernel
theorem dX8_cellAt_50 : decode cX8_cellAt 50 = .ok (.iconst 1, 1) := by decide +kernel
theorem dX8_cellAt_51 : decode cX8_cellAt 51 = .ok (.isub, 1) := by decide +kernel
theorem dX8_cellAt_52 : decode cX8_cellAt 52 = .ok (.goto 14, 3) := by decide +kernel
theorem dX8_cellAt_55 : decode cX8_cellAt 55 = .ok (.aload_n 0, 1) := by decide +kernel
theorem dX8_cellAt_56 : decode cX8_cellAt 56 = .ok (.getfield 13, 3) := by decide +kernel
theorem dX8_cellAt_59 : decode cX8_cellAt 59 = .ok (.bipush 8, 2) := by decide +kernel
theorem dX8_cellAt_61 : decode cX8_cellAt 61 = .ok (.iload_n 2, 1) := by decide +kernel
theorem dX8_cellAt_62 : decode cX8_cellAt 62 = .ok (.imul, 1) := by decide +kernel
theorem dX8_cellAt_63 : decode cX8_cellAt 63 = .ok (.iload_n 1, 1) := by decide +kernel
theorem dX8_cellAt_64 : decode cX8_cellAt 64 = .ok (.iadd, 1) := by decide +kernel
theorem dX8_cellAt_65 : decode cX8_cellAt 65 = .ok (.iaload, 1) := by decide +kernel
theorem dX8_cellAt_66 : decode cX8_cellAt 66 = .ok (.ireturn, 1) := by decide +kernel
set_option maxRecDepth 20000 in
theorem ggX8_isPrint_X8_in : GoodIn wsX8_isPrint wsX8_in := goodIn_r _ [5] (by decide +kernel) (by decide +kernel)
set_option maxRecDepth 20000 in
theorem gX8_isPrint_X8_in : GoodIn wsX8_isPrint (va_wsS RX8 75 yX8_in wsX8_in) := goodIn_app (goodIn_of _ (by decide +kernel)) ggX8_isPrint_X8_in
theorem dX8_isPrint_0 : decode cX8_isPrint 0 = .ok (.iload_n 1, 1) := by decide +kernel
theorem dX8_isPrint_1 : decode cX8_isPrint 1 = .ok (.iconst 0, 1) := by decide +kernel
theorem dX8_isPrint_2 : decode cX8_isPrint 2 = .ok (.aload_n 0, 1) := by decide +kernel
theorem dX8_isPrint_3 : decode cX8_isPrint 3 = .ok (.getfield 99, 3) := by decide +kernel
theorem dX8_isPrint_6 : decode cX8_isPrint 6 = .ok (.iconst 1, 1) := by decide +kernel
theorem dX8_isPrint_7 : decode cX8_isPrint 7 = .ok (.isub, 1) := by decide +kernel
theorem dX8_isPrint_8 : decode cX8_isPrint 8 = .ok (.invokestatic 75, 3) := by decide +kernel
theorem dX8_isPrint_11 : decode cX8_isPrint 11 = .ok (.ireturn, 1) := by decide +kernel
set_option maxRecDepth 20000 in
theorem ggX8_printAt_X8_isPrint : GoodIn wsX8_printAt wsX8_isPrint := goodIn_r _ [6, 7, 8, 9, 5, 10, 19, 20, 21, 22, 23, 24, 25, 26, 27, 28, 29, 30, 31, 32, 33, 34, 35, 36, 37, 38, 39, 40, 41, 42, 43, 44, 45, 46] (by decide +kernel) (by decide +kernel)
set_option maxRecDepth 20000 in
theorem gX8_printAt_X8_isPrint : GoodIn wsX8_printAt (wsV RX8 102 RX8 yX8_isPrint wsX8_isPrint) := goodIn_app (goodIn_of _ (by decide +kernel)) ggX8_printAt_X8_isPrint
set_option maxRecDepth 20000 in
theorem ggX8_printAt_X8_isEdge : GoodIn wsX8_printAt wsX8_isEdge := goodIn_r _ [13, 8, 9, 5, 10] (by decide +kernel) (by decide +kernel)
set_option maxRecDepth 20000 in
theorem gX8_printAt_X8_isEdge : GoodIn wsX8_printAt (va_wsS RX8 79 yX8_isEdge wsX8_isEdge) := goodIn_app (goodIn_of _ (by decide +kernel)) ggX8_printAt_X8_isEdge
set_option maxRecDepth 20000 in
theorem ggX8_printAt_X8_goes : GoodIn wsX8_printAt wsX8_goes := goodIn_r _ [17, 18, 19, 20, 21, 22, 23, 24, 25, 26, 27, 28, 29, 30, 31, 32, 33, 34, 35, 36, 37, 38, 39, 40, 41, 42, 43, 44, 45, 46] (by decide +kernel) (by decide +kernel)
set_option maxRecDepth 20000 in
theorem gX8_printAt_X8_goes : GoodIn wsX8_printAt (wsV RX8 83 RX8 yX8_goes wsX8_goes) := goodIn_app (goodIn_of _ (by decide +kernel)) ggX8_printAt_X8_goes
theorem dX8_printAt_0 : decode cX8_printAt 0 = .ok (.aload_n 0, 1) := by decide +kernel
theorem dX8_printAt_1 : decode cX8_printAt 1 = .ok (.aload_n 0, 1) := by decide +kernel
theorem dX8_printAt_2 : decode cX8_printAt 2 = .ok (.iload_n 1, 1) := by decide +kernel
theorem dX8_printAt_3 : decode cX8_printAt 3 = .ok (.invokevirtual 102, 3) := by decide +kernel
theorem dX8_printAt_6 : decode cX8_printAt 6 = .ok (.ifCond .eq 21, 3) := by decide +kernel
theorem dX8_printAt_9 : decode cX8_printAt 9 = .ok (.iload_n 2, 1) := by decide +kernel
theorem dX8_printAt_10 : decode cX8_printAt 10 = .ok (.invokestatic 79, 3) := by decide +kernel
theorem dX8_printAt_13 : decode cX8_printAt 13 = .ok (.ifCond .eq 14, 3) := by decide +kernel
theorem dX8_printAt_16 : decode cX8_printAt 16 = .ok (.iload_n 3, 1) := by decide +kernel
theorem dX8_printAt_17 : decode cX8_printAt 17 = .ok (.invokestatic 79, 3) := by decide +kernel
theorem dX8_printAt_20 : decode cX8_printAt 20 = .ok (.ifCond .eq 7, 3) := by decide +kernel
theorem dX8_printAt_23 : decode cX8_printAt 23 = .ok (.iconst 1, 1) := by decide +kernel
theorem dX8_printAt_24 : decode cX8_printAt 24 = .ok (.goto 4, 3) := by decide +kernel
theorem dX8_printAt_27 : decode cX8_printAt 27 = .ok (.iconst 0, 1) := by decide +kernel
theorem dX8_printAt_28 : decode cX8_printAt 28 = .ok (.iconst 1, 1) := by decide +kernel
theorem dX8_printAt_29 : decode cX8_printAt 29 = .ok (.iconst 1, 1) := by decide +kernel
theorem dX8_printAt_30 : decode cX8_printAt 30 = .ok (.invokevirtual 83, 3) := by decide +kernel
theorem dX8_printAt_33 : decode cX8_printAt 33 = .ok (.ifCond .eq 24, 3) := by decide +kernel
theorem dX8_printAt_36 : decode cX8_printAt 36 = .ok (.aload_n 0, 1) := by decide +kernel
theorem dX8_printAt_37 : decode cX8_printAt 37 = .ok (.getfield 16, 3) := by decide +kernel
theorem dX8_printAt_40 : decode cX8_printAt 40 = .ok (.bipush 64, 2) := by decide +kernel
theorem dX8_printAt_42 : decode cX8_printAt 42 = .ok (.iload_n 1, 1) := by decide +kernel
theorem dX8_printAt_43 : decode cX8_printAt 43 = .ok (.imul, 1) := by decide +kernel
theorem dX8_printAt_44 : decode cX8_printAt 44 = .ok (.bipush 8, 2) := by decide +kernel
theorem dX8_printAt_46 : decode cX8_printAt 46 = .ok (.iload_n 3, 1) := by decide +kernel
theorem dX8_printAt_47 : decode cX8_printAt 47 = .ok (.imul, 1) := by decide +kernel
theorem dX8_printAt_48 : decode cX8_printAt 48 = .ok (.iadd, 1) := by decide +kernel
theorem dX8_printAt_49 : decode cX8_printAt 49 = .ok (.iload_n 2, 1) := by decide +kernel
theorem dX8_printAt_50 : decode cX8_printAt 50 = .ok (.iadd, 1) := by decide +kernel
theorem dX8_printAt_51 : decode cX8_printAt 51 = .ok (.iaload, 1) := by decide +kernel
theorem dX8_printAt_52 : decode cX8_printAt 52 = .ok (.iconst 1, 1) := by decide +kernel
theorem dX8_printAt_53 : decode cX8_printAt 53 = .ok (.isub, 1) := by decide +kernel
theorem dX8_printAt_54 : decode cX8_printAt 54 = .ok (.goto 4, 3) := by decide +kernel
theorem dX8_printAt_57 : decode cX8_printAt 57 = .ok (.iconst 0, 1) := by decide +kernel
theorem dX8_printAt_58 : decode cX8_printAt 58 = .ok (.ireturn, 1) := by decide +kernel
set_option maxRecDepth 20000 in
theorem ggX8_count_X8_isPrint : GoodIn wsX8_count wsX8_isPrint := goodIn_r _ [6, 7, 8, 9, 5, 10, 16, 17, 18, 19, 20, 21, 22, 23, 24, 25, 26, 27, 28, 29, 30, 31, 32, 33, 34, 35, 36, 37, 38, 39, 40, 41, 42, 43] (by decide +kernel) (by decide +kernel)
set_option maxRecDepth 20000 in
theorem gX8_count_X8_isPrint : GoodIn wsX8_count (wsV RX8 102 RX8 yX8_isPrint wsX8_isPrint) := goodIn_app (goodIn_of _ (by decide +kernel)) ggX8_count_X8_isPrint
set_option maxRecDepth 20000 in
theorem ggX8_count_X8_in : GoodIn wsX8_count wsX8_in := goodIn_r _ [10] (by decide +kernel) (by decide +kernel)
set_option maxRecDepth 20000 in
theorem gX8_count_X8_in : GoodIn wsX8_count (va_wsS RX8 75 yX8_in wsX8_in) := goodIn_app (goodIn_of _ (by decide +kernel)) ggX8_count_X8_in
set_option maxRecDepth 20000 in
theorem ggX8_count_X8_goes : GoodIn wsX8_count wsX8_goes := goodIn_r _ [14, 15, 16, 17, 18, 19, 20, 21, 22, 23, 24, 25, 26, 27, 28, 29, 30, 31, 32, 33, 34, 35, 36, 37, 38, 39, 40, 41, 42, 43] (by decide +kernel) (by decide +kernel)
set_option maxRecDepth 20000 in
theorem gX8_count_X8_goes : GoodIn wsX8_count (wsV RX8 83 RX8 yX8_goes wsX8_goes) := goodIn_app (goodIn_of _ (by decide +kernel)) ggX8_count_X8_goes
theorem dX8_count_0 : decode cX8_count 0 = .ok (.aload_n 0, 1) := by decide +kernel
theorem dX8_count_1 : decode cX8_count 1 = .ok (.aload_n 0, 1) := by decide +kernel
theorem dX8_count_2 : decode cX8_count 2 = .ok (.iload_n 1, 1) := by decide +kernel
theorem dX8_count_3 : decode cX8_count 3 = .ok (.invokevirtual 102, 3) := by decide +kernel
theorem dX8_count_6 : decode cX8_count 6 = .ok (.iload_n 2, 1) := by decide +kernel
theorem dX8_count_7 : decode cX8_count 7 = .ok (.iconst (-1), 1) := by decide +kernel
theorem dX8_count_8 : decode cX8_count 8 = .ok (.iconst 5, 1) := by decide +kernel
theorem dX8_count_9 : decode cX8_count 9 = .ok (.invokestatic 75, 3) := by decide +kernel
theorem dX8_count_12 : decode cX8_count 12 = .ok (.iconst 1, 1) := by decide +kernel
theorem dX8_count_13 : decode cX8_count 13 = .ok (.invokevirtual 83, 3) := by decide +kernel
theorem dX8_count_16 : decode cX8_count 16 = .ok (.ifCond .ne 5, 3) := by decide +kernel
theorem dX8_count_19 : decode cX8_count 19 = .ok (.iconst 0, 1) := by decide +kernel
theorem dX8_count_20 : decode cX8_count 20 = .ok (.ireturn, 1) := by decide +kernel
theorem dX8_count_21 : decode cX8_count 21 = .ok (.iconst 0, 1) := by decide +kernel
theorem dX8_count_22 : decode cX8_count 22 = .ok (.istore_n 3, 1) := by decide +kernel
theorem dX8_count_23 : decode cX8_count 23 = .ok (.bipush 64, 2) := by decide +kernel
theorem dX8_count_25 : decode cX8_count 25 = .ok (.iload_n 1, 1) := by decide +kernel
theorem dX8_count_26 : decode cX8_count 26 = .ok (.imul, 1) := by decide +kernel
theorem dX8_count_27 : decode cX8_count 27 = .ok (.istore 4, 2) := by decide +kernel
theorem dX8_count_29 : decode cX8_count 29 = .ok (.iload 4, 2) := by decide +kernel
theorem dX8_count_31 : decode cX8_count 31 = .ok (.bipush 64, 2) := by decide +kernel
theorem dX8_count_33 : decode cX8_count 33 = .ok (.iload_n 1, 1) := by decide +kernel
theorem dX8_count_34 : decode cX8_count 34 = .ok (.imul, 1) := by decide +kernel
theorem dX8_count_35 : decode cX8_count 35 = .ok (.bipush 64, 2) := by decide +kernel
theorem dX8_count_37 : decode cX8_count 37 = .ok (.iadd, 1) := by decide +kernel
theorem dX8_count_38 : decode cX8_count 38 = .ok (.if_icmp .ge 30, 3) := by decide +kernel
theorem dX8_count_41 : decode cX8_count 41 = .ok (.iload_n 3, 1) := by decide +kernel
theorem dX8_count_42 : decode cX8_count 42 = .ok (.aload_n 0, 1) := by decide +kernel
theorem dX8_count_43 : decode cX8_count 43 = .ok (.getfield 16, 3) := by decide +kernel
theorem dX8_count_46 : decode cX8_count 46 = .ok (.iload 4, 2) := by decide +kernel
theorem dX8_count_48 : decode cX8_count 48 = .ok (.iaload, 1) := by decide +kernel
theorem dX8_count_49 : decode cX8_count 49 = .ok (.iload_n 2, 1) := by decide +kernel
theorem dX8_count_50 : decode cX8_count 50 = .ok (.iconst 1, 1) := by decide +kernel
theorem dX8_count_51 : decode cX8_count 51 = .ok (.iadd, 1) := by decide +kernel
theorem dX8_count_52 : decode cX8_count 52 = .ok (.if_icmp .ne 7, 3) := by decide +kernel
theorem dX8_count_55 : decode cX8_count 55 = .ok (.iconst 1, 1) := by decide +kernel
theorem dX8_count_56 : decode cX8_count 56 = .ok (.goto 4, 3) := by decide +kernel
theorem dX8_count_59 : decode cX8_count 59 = .ok (.iconst 0, 1) := by decide +kernel
theorem dX8_count_60 : decode cX8_count 60 = .ok (.iadd, 1) := by decide +kernel
theorem dX8_count_61 : decode cX8_count 61 = .ok (.istore_n 3, 1) := by decide +kernel
theorem dX8_count_62 : decode cX8_count 62 = .ok (.iinc 4 1, 3) := by decide +kernel
theorem dX8_count_65 : decode cX8_count 65 = .ok (.goto (-36), 3) := by decide +kernel
theorem dX8_count_68 : decode cX8_count 68 = .ok (.iload_n 3, 1) := by decide +kernel
theorem dX8_count_69 : decode cX8_count 69 = .ok (.ireturn, 1) := by decide +kernel
theorem dX8_columnsOf_0 : decode cX8_columnsOf 0 = .ok (.iload_n 0, 1) := by decide +kernel
theorem dX8_columnsOf_1 : decode cX8_columnsOf 1 = .ok (.iconst 3, 1) := by decide +kernel
theorem dX8_columnsOf_2 : decode cX8_columnsOf 2 = .ok (.if_icmp .ge 7, 3) := by decide +kernel
theorem dX8_columnsOf_5 : decode cX8_columnsOf 5 = .ok (.iconst 2, 1) := by decide +kernel
theorem dX8_columnsOf_6 : decode cX8_columnsOf 6 = .ok (.goto 4, 3) := by decide +kernel
theorem dX8_columnsOf_9 : decode cX8_columnsOf 9 = .ok (.iconst 4, 1) := by decide +kernel
theorem dX8_columnsOf_10 : decode cX8_columnsOf 10 = .ok (.ireturn, 1) := by decide +kernel
theorem dX8_rowsOf_0 : decode cX8_rowsOf 0 = .ok (.iload_n 0, 1) := by decide +kernel
theorem dX8_rowsOf_1 : decode cX8_rowsOf 1 = .ok (.iconst 1, 1) := by decide +kernel
theorem dX8_rowsOf_2 : decode cX8_rowsOf 2 = .ok (.if_icmp .ne 7, 3) := by decide +kernel
theorem dX8_rowsOf_5 : decode cX8_rowsOf 5 = .ok (.iconst 1, 1) := by decide +kernel
theorem dX8_rowsOf_6 : decode cX8_rowsOf 6 = .ok (.goto 13, 3) := by decide +kernel
theorem dX8_rowsOf_9 : decode cX8_rowsOf 9 = .ok (.iload_n 0, 1) := by decide +kernel
theorem dX8_rowsOf_10 : decode cX8_rowsOf 10 = .ok (.iconst 4, 1) := by decide +kernel
theorem dX8_rowsOf_11 : decode cX8_rowsOf 11 = .ok (.if_icmp .ge 7, 3) := by decide +kernel
theorem dX8_rowsOf_14 : decode cX8_rowsOf 14 = .ok (.iconst 2, 1) := by decide +kernel
theorem dX8_rowsOf_15 : decode cX8_rowsOf 15 = .ok (.goto 4, 3) := by decide +kernel
theorem dX8_rowsOf_18 : decode cX8_rowsOf 18 = .ok (.iconst 4, 1) := by decide +kernel
theorem dX8_rowsOf_19 : decode cX8_rowsOf 19 = .ok (.ireturn, 1) := by decide +kernel
set_option maxRecDepth 20000 in
theorem ggX8_layerOf_X8_columnsOf : GoodIn wsX8_layerOf wsX8_columnsOf := goodIn_r _ [4] (by decide +kernel) (by decide +kernel)
set_option maxRecDepth 20000 in
theorem gX8_layerOf_X8_columnsOf : GoodIn wsX8_layerOf (va_wsS RX8 105 yX8_columnsOf wsX8_columnsOf) := goodIn_app (goodIn_of _ (by decide +kernel)) ggX8_layerOf_X8_columnsOf
set_option maxRecDepth 20000 in
theorem ggX8_layerOf_X8_rowsOf : GoodIn wsX8_layerOf wsX8_rowsOf := goodIn_r _ [7] (by decide +kernel) (by decide +kernel)
set_option maxRecDepth 20000 in
theorem gX8_layerOf_X8_rowsOf : GoodIn wsX8_layerOf (va_wsS RX8 109 yX8_rowsOf wsX8_rowsOf) := goodIn_app (goodIn_of _ (by decide +kernel)) ggX8_layerOf_X8_rowsOf
theorem dX8_layerOf_0 : decode cX8_layerOf 0 = .ok (.iload_n 1, 1) := by decide +kernel
theorem dX8_layerOf_1 : decode cX8_layerOf 1 = .ok (.istore_n 3, 1) := by decide +kernel
theorem dX8_layerOf_2 : decode cX8_layerOf 2 = .ok (.iload_n 2, 1) := by decide +kernel
theorem dX8_layerOf_3 : decode cX8_layerOf 3 = .ok (.istore 4, 2) := by decide +kernel
theorem dX8_layerOf_5 : decode cX8_layerOf 5 = .ok (.iload_n 0, 1) := by decide +kernel
theorem dX8_layerOf_6 : decode cX8_layerOf 6 = .ok (.invokestatic 105, 3) := by decide +kernel
theorem dX8_layerOf_9 : decode cX8_layerOf 9 = .ok (.istore 5, 2) := by decide +kernel
theorem dX8_layerOf_11 : decode cX8_layerOf 11 = .ok (.iload_n 0, 1) := by decide +kernel
theorem dX8_layerOf_12 : decode cX8_layerOf 12 = .ok (.invokestatic 109, 3) := by decide +kernel
theorem dX8_layerOf_15 : decode cX8_layerOf 15 = .ok (.istore 6, 2) := by decide +kernel
theorem dX8_layerOf_17 : decode cX8_layerOf 17 = .ok (.iconst 0, 1) := by decide +kernel
theorem dX8_layerOf_18 : decode cX8_layerOf 18 = .ok (.istore 7, 2) := by decide +kernel
theorem dX8_layerOf_20 : decode cX8_layerOf 20 = .ok (.iconst 1, 1) := by decide +kernel
theorem dX8_layerOf_21 : decode cX8_layerOf 21 = .ok (.istore 8, 2) := by decide +kernel
theorem dX8_layerOf_23 : decode cX8_layerOf 23 = .ok (.iconst 0, 1) := by decide +kernel
theorem dX8_layerOf_24 : decode cX8_layerOf 24 = .ok (.istore 9, 2) := by decide +kernel
theorem dX8_layerOf_26 : decode cX8_layerOf 26 = .ok (.iconst 0, 1) := by decide +kernel
theorem dX8_layerOf_27 : decode cX8_layerOf 27 = .ok (.istore 10, 2) := by decide +kernel
theorem dX8_layerOf_29 : decode cX8_layerOf 29 = .ok (.iload 10, 2) := by decide +kernel
theorem dX8_layerOf_31 : decode cX8_layerOf 31 = .ok (.iload_n 0, 1) := by decide +kernel
theorem dX8_layerOf_32 : decode cX8_layerOf 32 = .ok (.if_icmp .ge 177, 3) := by decide +kernel
theorem dX8_layerOf_35 : decode cX8_layerOf 35 = .ok (.iload 10, 2) := by decide +kernel
theorem dX8_layerOf_37 : decode cX8_layerOf 37 = .ok (.iconst 2, 1) := by decide +kernel
theorem dX8_layerOf_38 : decode cX8_layerOf 38 = .ok (.irem, 1) := by decide +kernel
theorem dX8_layerOf_39 : decode cX8_layerOf 39 = .ok (.ifCond .ne 19, 3) := by decide +kernel
theorem dX8_layerOf_42 : decode cX8_layerOf 42 = .ok (.iload_n 3, 1) := by decide +kernel
theorem dX8_layerOf_43 : decode cX8_layerOf 43 = .ok (.iload 5, 2) := by decide +kernel
theorem dX8_layerOf_45 : decode cX8_layerOf 45 = .ok (.iconst 2, 1) := by decide +kernel
theorem dX8_layerOf_46 : decode cX8_layerOf 46 = .ok (.idiv, 1) := by decide +kernel
theorem dX8_layerOf_47 : decode cX8_layerOf 47 = .ok (.if_icmp .lt 7, 3) := by decide +kernel
theorem dX8_layerOf_50 : decode cX8_layerOf 50 = .ok (.iconst 1, 1) := by decide +kernel
theorem dX8_layerOf_51 : decode cX8_layerOf 51 = .ok (.goto 21, 3) := by decide +kernel
theorem dX8_layerOf_54 : decode cX8_layerOf 54 = .ok (.iconst 0, 1) := by decide +kernel
theorem dX8_layerOf_55 : decode cX8_layerOf 55 = .ok (.goto 17, 3) := by decide +kernel
theorem dX8_layerOf_58 : decode cX8_layerOf 58 = .ok (.iload 4, 2) := by decide +kernel
theorem dX8_layerOf_60 : decode cX8_layerOf 60 = .ok (.iload 6, 2) := by decide +kernel
theorem dX8_layerOf_62 : decode cX8_layerOf 62 = .ok (.iconst 2, 1) := by decide +kernel
theorem dX8_layerOf_63 : decode cX8_layerOf 63 = .ok (.idiv, 1) := by decide +kernel
theorem dX8_layerOf_64 : decode cX8_layerOf 64 = .ok (.if_icmp .lt 7, 3) := by decide +kernel
theorem dX8_layerOf_67 : decode cX8_layerOf 67 = .ok (.iconst 1, 1) := by decide +kernel
theorem dX8_layerOf_68 : decode cX8_layerOf 68 = .ok (.goto 4, 3) := by decide +kernel
theorem dX8_layerOf_71 : decode cX8_layerOf 71 = .ok (.iconst 0, 1) := by decide +kernel
theorem dX8_layerOf_72 : decode cX8_layerOf 72 = .ok (.istore 11, 2) := by decide +kernel
theorem dX8_layerOf_74 : decode cX8_layerOf 74 = .ok (.iload 11, 2) := by decide +kernel
theorem dX8_layerOf_76 : decode cX8_layerOf 76 = .ok (.ifCond .eq 19, 3) := by decide +kernel
theorem dX8_layerOf_79 : decode cX8_layerOf 79 = .ok (.iload 10, 2) := by decide +kernel
theorem dX8_layerOf_81 : decode cX8_layerOf 81 = .ok (.iconst 2, 1) := by decide +kernel
theorem dX8_layerOf_82 : decode cX8_layerOf 82 = .ok (.irem, 1) := by decide +kernel
theorem dX8_layerOf_83 : decode cX8_layerOf 83 = .ok (.ifCond .ne 12, 3) := by decide +kernel
theorem dX8_layerOf_86 : decode cX8_layerOf 86 = .ok (.iload 5, 2) := by decide +kernel
theorem dX8_layerOf_88 : decode cX8_layerOf 88 = .ok (.iconst 1, 1) := by decide +kernel
theorem dX8_layerOf_89 : decode cX8_layerOf 89 = .ok (.isub, 1) := by decide +kernel
theorem dX8_layerOf_90 : decode cX8_layerOf 90 = .ok (.iload_n 3, 1) := by decide +kernel
theorem dX8_layerOf_91 : decode cX8_layerOf 91 = .ok (.isub, 1) := by decide +kernel
theorem dX8_layerOf_92 : decode cX8_layerOf 92 = .ok (.goto 4, 3) := by decide +kernel
theorem dX8_layerOf_95 : decode cX8_layerOf 95 = .ok (.iload_n 3, 1) := by decide +kernel
theorem dX8_layerOf_96 : decode cX8_layerOf 96 = .ok (.istore_n 3, 1) := by decide +kernel
theorem dX8_layerOf_97 : decode cX8_layerOf 97 = .ok (.iload 11, 2) := by decide +kernel
theorem dX8_layerOf_99 : decode cX8_layerOf 99 = .ok (.ifCond .eq 21, 3) := by decide +kernel
theorem dX8_layerOf_102 : decode cX8_layerOf 102 = .ok (.iload 10, 2) := by decide +kernel
theorem dX8_layerOf_104 : decode cX8_layerOf 104 = .ok (.iconst 2, 1) := by decide +kernel
theorem dX8_layerOf_105 : decode cX8_layerOf 105 = .ok (.irem, 1) := by decide +kernel
theorem dX8_layerOf_106 : decode cX8_layerOf 106 = .ok (.iconst 1, 1) := by decide +kernel
theorem dX8_layerOf_107 : decode cX8_layerOf 107 = .ok (.if_icmp .ne 13, 3) := by decide +kernel
theorem dX8_layerOf_110 : decode cX8_layerOf 110 = .ok (.iload 6, 2) := by decide +kernel
theorem dX8_layerOf_112 : decode cX8_layerOf 112 = .ok (.iconst 1, 1) := by decide +kernel
theorem dX8_layerOf_113 : decode cX8_layerOf 113 = .ok (.isub, 1) := by decide +kernel
theorem dX8_layerOf_114 : decode cX8_layerOf 114 = .ok (.iload 4, 2) := by decide +kernel
theorem dX8_layerOf_116 : decode cX8_layerOf 116 = .ok (.isub, 1) := by decide +kernel
theorem dX8_layerOf_117 : decode cX8_layerOf 117 = .ok (.goto 5, 3) := by decide +kernel
theorem dX8_layerOf_120 : decode cX8_layerOf 120 = .ok (.iload 4, 2) := by decide +kernel
theorem dX8_layerOf_122 : decode cX8_layerOf 122 = .ok (.istore 4, 2) := by decide +kernel
theorem dX8_layerOf_124 : decode cX8_layerOf 124 = .ok (.iload 11, 2) := by decide +kernel
theorem dX8_layerOf_126 : decode cX8_layerOf 126 = .ok (.ifCond .eq 13, 3) := by decide +kernel
theorem dX8_layerOf_129 : decode cX8_layerOf 129 = .ok (.iload 8, 2) := by decide +kernel
theorem dX8_layerOf_131 : decode cX8_layerOf 131 = .ok (.iconst 1, 1) := by decide +kernel
theorem dX8_layerOf_132 : decode cX8_layerOf 132 = .ok (.isub, 1) := by decide +kernel
theorem dX8_layerOf_133 : decode cX8_layerOf 133 = .ok (.iload 7, 2) := by decide +kernel
theorem dX8_layerOf_135 : decode cX8_layerOf 135 = .ok (.isub, 1) := by decide +kernel
theorem dX8_layerOf_136 : decode cX8_layerOf 136 = .ok (.goto 8, 3) := by decide +kernel
theorem dX8_layerOf_139 : decode cX8_layerOf 139 = .ok (.iload 8, 2) := by decide +kernel
theorem dX8_layerOf_141 : decode cX8_layerOf 141 = .ok (.iload 7, 2) := by decide +kernel
theorem dX8_layerOf_143 : decode cX8_layerOf 143 = .ok (.iadd, 1) := by decide +kernel
theorem dX8_layerOf_144 : decode cX8_layerOf 144 = .ok (.istore 7, 2) := by decide +kernel
theorem dX8_layerOf_146 : decode cX8_layerOf 146 = .ok (.iload 11, 2) := by decide +kernel
theorem dX8_layerOf_148 : decode cX8_layerOf 148 = .ok (.iload 9, 2) := by decide +kernel
theorem dX8_layerOf_150 : decode cX8_layerOf 150 = .ok (.if_icmp .eq 7, 3) := by decide +kernel
theorem dX8_layerOf_153 : decode cX8_layerOf 153 = .ok (.iconst 1, 1) := by decide +kernel
theorem dX8_layerOf_154 : decode cX8_layerOf 154 = .ok (.goto 4, 3) := by decide +kernel
theorem dX8_layerOf_157 : decode cX8_layerOf 157 = .ok (.iconst 0, 1) := by decide +kernel
theorem dX8_layerOf_158 : decode cX8_layerOf 158 = .ok (.istore 9, 2) := by decide +kernel
theorem dX8_layerOf_160 : decode cX8_layerOf 160 = .ok (.iload 10, 2) := by decide +kernel
theorem dX8_layerOf_162 : decode cX8_layerOf 162 = .ok (.iconst 2, 1) := by decide +kernel
theorem dX8_layerOf_163 : decode cX8_layerOf 163 = .ok (.irem, 1) := by decide +kernel
theorem dX8_layerOf_164 : decode cX8_layerOf 164 = .ok (.ifCond .ne 10, 3) := by decide +kernel
theorem dX8_layerOf_167 : decode cX8_layerOf 167 = .ok (.iload 5, 2) := by decide +kernel
theorem dX8_layerOf_169 : decode cX8_layerOf 169 = .ok (.iconst 2, 1) := by decide +kernel
theorem dX8_layerOf_170 : decode cX8_layerOf 170 = .ok (.idiv, 1) := by decide +kernel
theorem dX8_layerOf_171 : decode cX8_layerOf 171 = .ok (.goto 5, 3) := by decide +kernel
theorem dX8_layerOf_174 : decode cX8_layerOf 174 = .ok (.iload 5, 2) := by decide +kernel
theorem dX8_layerOf_176 : decode cX8_layerOf 176 = .ok (.istore 5, 2) := by decide +kernel
theorem dX8_layerOf_178 : decode cX8_layerOf 178 = .ok (.iload 10, 2) := by decide +kernel
theorem dX8_layerOf_180 : decode cX8_layerOf 180 = .ok (.iconst 2, 1) := by decide +kernel
theorem dX8_layerOf_181 : decode cX8_layerOf 181 = .ok (.irem, 1) := by decide +kernel
theorem dX8_layerOf_182 : decode cX8_layerOf 182 = .ok (.iconst 1, 1) := by decide +kernel
theorem dX8_layerOf_183 : decode cX8_layerOf 183 = .ok (.if_icmp .ne 10, 3) := by decide +kernel
theorem dX8_layerOf_186 : decode cX8_layerOf 186 = .ok (.iload 6, 2) := by decide +kernel
theorem dX8_layerOf_188 : decode cX8_layerOf 188 = .ok (.iconst 2, 1) := by decide +kernel
theorem dX8_layerOf_189 : decode cX8_layerOf 189 = .ok (.idiv, 1) := by decide +kernel
theorem dX8_layerOf_190 : decode cX8_layerOf 190 = .ok (.goto 5, 3) := by decide +kernel
theorem dX8_layerOf_193 : decode cX8_layerOf 193 = .ok (.iload 6, 2) := by decide +kernel
theorem dX8_layerOf_195 : decode cX8_layerOf 195 = .ok (.istore 6, 2) := by decide +kernel
theorem dX8_layerOf_197 : decode cX8_layerOf 197 = .ok (.iload 8, 2) := by decide +kernel
theorem dX8_layerOf_199 : decode cX8_layerOf 199 = .ok (.iconst 2, 1) := by decide +kernel
theorem dX8_layerOf_200 : decode cX8_layerOf 200 = .ok (.imul, 1) := by decide +kernel
theorem dX8_layerOf_201 : decode cX8_layerOf 201 = .ok (.istore 8, 2) := by decide +kernel
theorem dX8_layerOf_203 : decode cX8_layerOf 203 = .ok (.iinc 10 1, 3) := by decide +kernel
theorem dX8_layerOf_206 : decode cX8_layerOf 206 = .ok (.goto (-177), 3) := by decide +kernel
theorem dX8_layerOf_209 : decode cX8_layerOf 209 = .ok (.iconst 2, 1) := by decide +kernel
theorem dX8_layerOf_210 : decode cX8_layerOf 210 = .ok (.iload 7, 2) := by decide +kernel
theorem dX8_layerOf_212 : decode cX8_layerOf 212 = .ok (.imul, 1) := by decide +kernel
theorem dX8_layerOf_213 : decode cX8_layerOf 213 = .ok (.iload 9, 2) := by decide +kernel
theorem dX8_layerOf_215 : decode cX8_layerOf 215 = .ok (.ifCond .eq 7, 3) := by decide +kernel
theorem dX8_layerOf_218 : decode cX8_layerOf 218 = .ok (.iconst 1, 1) := by decide +kernel
theorem dX8_layerOf_219 : decode cX8_layerOf 219 = .ok (.goto 4, 3) := by decide +kernel
theorem dX8_layerOf_222 : decode cX8_layerOf 222 = .ok (.iconst 0, 1) := by decide +kernel
theorem dX8_layerOf_223 : decode cX8_layerOf 223 = .ok (.iadd, 1) := by decide +kernel
theorem dX8_layerOf_224 : decode cX8_layerOf 224 = .ok (.ireturn, 1) := by decide +kernel
set_option maxRecDepth 20000 in
theorem ggX8_pageOf_X8_layerOf : GoodIn wsX8_pageOf wsX8_layerOf := goodIn_r _ [4, 5, 6, 3, 7, 8, 9, 10] (by decide +kernel) (by decide +kernel)
set_option maxRecDepth 20000 in
theorem gX8_pageOf_X8_layerOf : GoodIn wsX8_pageOf (va_wsS RX8 112 yX8_layerOf wsX8_layerOf) := goodIn_app (goodIn_of _ (by decide +kernel)) ggX8_pageOf_X8_layerOf
theorem dX8_pageOf_0 : decode cX8_pageOf 0 = .ok (.iload_n 0, 1) := by decide +kernel
theorem dX8_pageOf_1 : decode cX8_pageOf 1 = .ok (.iload_n 2, 1) := by decide +kernel
theorem dX8_pageOf_2 : decode cX8_pageOf 2 = .ok (.iload_n 3, 1) := by decide +kernel
theorem dX8_pageOf_3 : decode cX8_pageOf 3 = .ok (.invokestatic 112, 3) := by decide +kernel
theorem dX8_pageOf_6 : decode cX8_pageOf 6 = .ok (.istore 4, 2) := by decide +kernel
theorem dX8_pageOf_8 : decode cX8_pageOf 8 = .ok (.iload_n 1, 1) := by decide +kernel
theorem dX8_pageOf_9 : decode cX8_pageOf 9 = .ok (.iload 4, 2) := by decide +kernel
theorem dX8_pageOf_11 : decode cX8_pageOf 11 = .ok (.iconst 2, 1) := by decide +kernel
theorem dX8_pageOf_12 : decode cX8_pageOf 12 = .ok (.irem, 1) := by decide +kernel
theorem dX8_pageOf_13 : decode cX8_pageOf 13 = .ok (.iconst 1, 1) := by decide +kernel
theorem dX8_pageOf_14 : decode cX8_pageOf 14 = .ok (.if_icmp .ne 7, 3) := by decide +kernel
theorem dX8_pageOf_17 : decode cX8_pageOf 17 = .ok (.iconst 1, 1) := by decide +kernel
theorem dX8_pageOf_18 : decode cX8_pageOf 18 = .ok (.goto 4, 3) := by decide +kernel
theorem dX8_pageOf_21 : decode cX8_pageOf 21 = .ok (.iconst 0, 1) := by decide +kernel
theorem dX8_pageOf_22 : decode cX8_pageOf 22 = .ok (.if_icmp .ne 7, 3) := by decide +kernel
theorem dX8_pageOf_25 : decode cX8_pageOf 25 = .ok (.iconst 1, 1) := by decide +kernel
theorem dX8_pageOf_26 : decode cX8_pageOf 26 = .ok (.goto 4, 3) := by decide +kernel
theorem dX8_pageOf_29 : decode cX8_pageOf 29 = .ok (.iconst 0, 1) := by decide +kernel
theorem dX8_pageOf_30 : decode cX8_pageOf 30 = .ok (.istore 5, 2) := by decide +kernel
theorem dX8_pageOf_32 : decode cX8_pageOf 32 = .ok (.iload 4, 2) := by decide +kernel
theorem dX8_pageOf_34 : decode cX8_pageOf 34 = .ok (.iconst 2, 1) := by decide +kernel
theorem dX8_pageOf_35 : decode cX8_pageOf 35 = .ok (.idiv, 1) := by decide +kernel
theorem dX8_pageOf_36 : decode cX8_pageOf 36 = .ok (.iconst 2, 1) := by decide +kernel
theorem dX8_pageOf_37 : decode cX8_pageOf 37 = .ok (.imul, 1) := by decide +kernel
theorem dX8_pageOf_38 : decode cX8_pageOf 38 = .ok (.iload 5, 2) := by decide +kernel
theorem dX8_pageOf_40 : decode cX8_pageOf 40 = .ok (.ifCond .eq 7, 3) := by decide +kernel
theorem dX8_pageOf_43 : decode cX8_pageOf 43 = .ok (.iconst 1, 1) := by decide +kernel
theorem dX8_pageOf_44 : decode cX8_pageOf 44 = .ok (.goto 4, 3) := by decide +kernel
theorem dX8_pageOf_47 : decode cX8_pageOf 47 = .ok (.iconst 2, 1) := by decide +kernel
theorem dX8_pageOf_48 : decode cX8_pageOf 48 = .ok (.iadd, 1) := by decide +kernel
theorem dX8_pageOf_49 : decode cX8_pageOf 49 = .ok (.ireturn, 1) := by decide +kernel
set_option maxRecDepth 20000 in
theorem ggX8_pageAt_X8_in : GoodIn wsX8_pageAt wsX8_in := goodIn_r _ [4] (by decide +kernel) (by decide +kernel)
set_option maxRecDepth 20000 in
theorem gX8_pageAt_X8_in : GoodIn wsX8_pageAt (va_wsS RX8 75 yX8_in wsX8_in) := goodIn_app (goodIn_of _ (by decide +kernel)) ggX8_pageAt_X8_in
set_option maxRecDepth 20000 in
theorem ggX8_pageAt_X8_columnsOf : GoodIn wsX8_pageAt wsX8_columnsOf := goodIn_r _ [7] (by decide +kernel) (by decide +kernel)
set_option maxRecDepth 20000 in
theorem gX8_pageAt_X8_columnsOf : GoodIn wsX8_pageAt (va_wsS RX8 105 yX8_columnsOf wsX8_columnsOf) := goodIn_app (goodIn_of _ (by decide +kernel)) ggX8_pageAt_X8_columnsOf
set_option maxRecDepth 20000 in
theorem ggX8_pageAt_X8_rowsOf : GoodIn wsX8_pageAt wsX8_rowsOf := goodIn_r _ [10] (by decide +kernel) (by decide +kernel)
set_option maxRecDepth 20000 in
theorem gX8_pageAt_X8_rowsOf : GoodIn wsX8_pageAt (va_wsS RX8 109 yX8_rowsOf wsX8_rowsOf) := goodIn_app (goodIn_of _ (by decide +kernel)) ggX8_pageAt_X8_rowsOf
set_option maxRecDepth 20000 in
theorem ggX8_pageAt_X8_goes : GoodIn wsX8_pageAt wsX8_goes := goodIn_r _ [14, 15, 22, 23, 24, 25, 26, 27, 28, 29, 30, 31, 32, 33, 34, 35, 36, 37, 38, 39, 40, 41, 42, 43, 44, 45, 46, 47, 48, 49] (by decide +kernel) (by decide +kernel)
set_option maxRecDepth 20000 in
theorem gX8_pageAt_X8_goes : GoodIn wsX8_pageAt (wsV RX8 83 RX8 yX8_goes wsX8_goes) := goodIn_app (goodIn_of _ (by decide +kernel)) ggX8_pageAt_X8_goes
set_option maxRecDepth 20000 in
theorem ggX8_pageAt_X8_pageOf : GoodIn wsX8_pageAt wsX8_pageOf := goodIn_r _ [18, 19, 20, 3, 21, 5, 6, 7, 8, 9, 10] (by decide +kernel) (by decide +kernel)
set_option maxRecDepth 20000 in
theorem gX8_pageAt_X8_pageOf : GoodIn wsX8_pageAt (va_wsS RX8 115 yX8_pageOf wsX8_pageOf) := goodIn_app (goodIn_of _ (by decide +kernel)) ggX8_pageAt_X8_pageOf
theorem dX8_pageAt_0 : decode cX8_pageAt 0 = .ok (.iload_n 1, 1) := by decide +kernel
theorem dX8_pageAt_1 : decode cX8_pageAt 1 = .ok (.iconst 1, 1) := by decide +kernel
theorem dX8_pageAt_2 : decode cX8_pageAt 2 = .ok (.iconst 4, 1) := by decide +kernel
theorem dX8_pageAt_3 : decode cX8_pageAt 3 = .ok (.invokestatic 75, 3) := by decide +kernel
theorem dX8_pageAt_6 : decode cX8_pageAt 6 = .ok (.ifCond .eq 36, 3) := by decide +kernel
theorem dX8_pageAt_9 : decode cX8_pageAt 9 = .ok (.iload_n 3, 1) := by decide +kernel
theorem dX8_pageAt_10 : decode cX8_pageAt 10 = .ok (.iconst 0, 1) := by decide +kernel
theorem dX8_pageAt_11 : decode cX8_pageAt 11 = .ok (.iload_n 1, 1) := by decide +kernel
theorem dX8_pageAt_12 : decode cX8_pageAt 12 = .ok (.invokestatic 105, 3) := by decide +kernel
theorem dX8_pageAt_15 : decode cX8_pageAt 15 = .ok (.iconst 1, 1) := by decide +kernel
theorem dX8_pageAt_16 : decode cX8_pageAt 16 = .ok (.isub, 1) := by decide +kernel
theorem dX8_pageAt_17 : decode cX8_pageAt 17 = .ok (.invokestatic 75, 3) := by decide +kernel
theorem dX8_pageAt_20 : decode cX8_pageAt 20 = .ok (.ifCond .eq 22, 3) := by decide +kernel
theorem dX8_pageAt_23 : decode cX8_pageAt 23 = .ok (.iload 4, 2) := by decide +kernel
theorem dX8_pageAt_25 : decode cX8_pageAt 25 = .ok (.iconst 0, 1) := by decide +kernel
theorem dX8_pageAt_26 : decode cX8_pageAt 26 = .ok (.iload_n 1, 1) := by decide +kernel
theorem dX8_pageAt_27 : decode cX8_pageAt 27 = .ok (.invokestatic 109, 3) := by decide +kernel
theorem dX8_pageAt_30 : decode cX8_pageAt 30 = .ok (.iconst 1, 1) := by decide +kernel
theorem dX8_pageAt_31 : decode cX8_pageAt 31 = .ok (.isub, 1) := by decide +kernel
theorem dX8_pageAt_32 : decode cX8_pageAt 32 = .ok (.invokestatic 75, 3) := by decide +kernel
theorem dX8_pageAt_35 : decode cX8_pageAt 35 = .ok (.ifCond .eq 7, 3) := by decide +kernel
theorem dX8_pageAt_38 : decode cX8_pageAt 38 = .ok (.iconst 1, 1) := by decide +kernel
theorem dX8_pageAt_39 : decode cX8_pageAt 39 = .ok (.goto 4, 3) := by decide +kernel
theorem dX8_pageAt_42 : decode cX8_pageAt 42 = .ok (.iconst 0, 1) := by decide +kernel
theorem dX8_pageAt_43 : decode cX8_pageAt 43 = .ok (.istore 5, 2) := by decide +kernel
theorem dX8_pageAt_45 : decode cX8_pageAt 45 = .ok (.aload_n 0, 1) := by decide +kernel
theorem dX8_pageAt_46 : decode cX8_pageAt 46 = .ok (.iload 5, 2) := by decide +kernel
theorem dX8_pageAt_48 : decode cX8_pageAt 48 = .ok (.iconst 1, 1) := by decide +kernel
theorem dX8_pageAt_49 : decode cX8_pageAt 49 = .ok (.iconst 1, 1) := by decide +kernel
theorem dX8_pageAt_50 : decode cX8_pageAt 50 = .ok (.invokevirtual 83, 3) := by decide +kernel
theorem dX8_pageAt_53 : decode cX8_pageAt 53 = .ok (.ifCond .eq 14, 3) := by decide +kernel
theorem dX8_pageAt_56 : decode cX8_pageAt 56 = .ok (.iload_n 1, 1) := by decide +kernel
theorem dX8_pageAt_57 : decode cX8_pageAt 57 = .ok (.iload_n 2, 1) := by decide +kernel
theorem dX8_pageAt_58 : decode cX8_pageAt 58 = .ok (.iload_n 3, 1) := by decide +kernel
theorem dX8_pageAt_59 : decode cX8_pageAt 59 = .ok (.iload 4, 2) := by decide +kernel
theorem dX8_pageAt_61 : decode cX8_pageAt 61 = .ok (.invokestatic 115, 3) := by decide +kernel
theorem dX8_pageAt_64 : decode cX8_pageAt 64 = .ok (.goto 4, 3) := by decide +kernel
theorem dX8_pageAt_67 : decode cX8_pageAt 67 = .ok (.iconst 0, 1) := by decide +kernel
theorem dX8_pageAt_68 : decode cX8_pageAt 68 = .ok (.ireturn, 1) := by decide +kernel
set_option maxRecDepth 20000 in
theorem ggX8_placeOf_X8_in : GoodIn wsX8_placeOf wsX8_in := goodIn_r _ [4] (by decide +kernel) (by decide +kernel)
set_option maxRecDepth 20000 in
theorem gX8_placeOf_X8_in : GoodIn wsX8_placeOf (va_wsS RX8 75 yX8_in wsX8_in) := goodIn_app (goodIn_of _ (by decide +kernel)) ggX8_placeOf_X8_in
set_option maxRecDepth 20000 in
theorem ggX8_placeOf_X8_columnsOf : GoodIn wsX8_placeOf wsX8_columnsOf := goodIn_r _ [7] (by decide +kernel) (by decide +kernel)
set_option maxRecDepth 20000 in
theorem gX8_placeOf_X8_columnsOf : GoodIn wsX8_placeOf (va_wsS RX8 105 yX8_columnsOf wsX8_columnsOf) := goodIn_app (goodIn_of _ (by decide +kernel)) ggX8_placeOf_X8_columnsOf
set_option maxRecDepth 20000 in
theorem ggX8_placeOf_X8_rowsOf : GoodIn wsX8_placeOf wsX8_rowsOf := goodIn_r _ [10] (by decide +kernel) (by decide +kernel)
set_option maxRecDepth 20000 in
theorem gX8_placeOf_X8_rowsOf : GoodIn wsX8_placeOf (va_wsS RX8 109 yX8_rowsOf wsX8_rowsOf) := goodIn_app (goodIn_of _ (by decide +kernel)) ggX8_placeOf_X8_rowsOf
set_option maxRecDepth 20000 in
theorem ggX8_placeOf_X8_goes : GoodIn wsX8_placeOf wsX8_goes := goodIn_r _ [14, 15, 22, 23, 24, 25, 26, 27, 28, 29, 30, 31, 32, 33, 34, 35, 36, 37, 38, 39, 40, 41, 42, 43, 44, 45, 46, 47, 48, 49] (by decide +kernel) (by decide +kernel)
set_option maxRecDepth 20000 in
theorem gX8_placeOf_X8_goes : GoodIn wsX8_placeOf (wsV RX8 83 RX8 yX8_goes wsX8_goes) := goodIn_app (goodIn_of _ (by decide +kernel)) ggX8_placeOf_X8_goes
set_option maxRecDepth 20000 in
theorem ggX8_placeOf_X8_pageOf : GoodIn wsX8_placeOf wsX8_pageOf := goodIn_r _ [18, 19, 20, 3, 21, 5, 6, 7, 8, 9, 10] (by decide +kernel) (by decide +kernel)
set_option maxRecDepth 20000 in
theorem gX8_placeOf_X8_pageOf : GoodIn wsX8_placeOf (va_wsS RX8 115 yX8_pageOf wsX8_pageOf) := goodIn_app (goodIn_of _ (by decide +kernel)) ggX8_placeOf_X8_pageOf
theorem dX8_placeOf_0 : decode cX8_placeOf 0 = .ok (.aload_n 0, 1) := by decide +kernel
theorem dX8_placeOf_1 : decode cX8_placeOf 1 = .ok (.iload_n 1, 1) := by decide +kernel
theorem dX8_placeOf_2 : decode cX8_placeOf 2 = .ok (.iconst 1, 1) := by decide +kernel
theorem dX8_placeOf_3 : decode cX8_placeOf 3 = .ok (.iconst 4, 1) := by decide +kernel
theorem dX8_placeOf_4 : decode cX8_placeOf 4 = .ok (.invokestatic 75, 3) := by decide +kernel
theorem dX8_placeOf_7 : decode cX8_placeOf 7 = .ok (.ifCond .eq 26, 3) := by decide +kernel
theorem dX8_placeOf_10 : decode cX8_placeOf 10 = .ok (.iload_n 2, 1) := by decide +kernel
theorem dX8_placeOf_11 : decode cX8_placeOf 11 = .ok (.iconst 1, 1) := by decide +kernel
theorem dX8_placeOf_12 : decode cX8_placeOf 12 = .ok (.iconst 2, 1) := by decide +kernel
theorem dX8_placeOf_13 : decode cX8_placeOf 13 = .ok (.iload_n 1, 1) := by decide +kernel
theorem dX8_placeOf_14 : decode cX8_placeOf 14 = .ok (.invokestatic 105, 3) := by decide +kernel
theorem dX8_placeOf_17 : decode cX8_placeOf 17 = .ok (.imul, 1) := by decide +kernel
theorem dX8_placeOf_18 : decode cX8_placeOf 18 = .ok (.iload_n 1, 1) := by decide +kernel
theorem dX8_placeOf_19 : decode cX8_placeOf 19 = .ok (.invokestatic 109, 3) := by decide +kernel
theorem dX8_placeOf_22 : decode cX8_placeOf 22 = .ok (.imul, 1) := by decide +kernel
theorem dX8_placeOf_23 : decode cX8_placeOf 23 = .ok (.invokestatic 75, 3) := by decide +kernel
theorem dX8_placeOf_26 : decode cX8_placeOf 26 = .ok (.ifCond .eq 7, 3) := by decide +kernel
theorem dX8_placeOf_29 : decode cX8_placeOf 29 = .ok (.iconst 1, 1) := by decide +kernel
theorem dX8_placeOf_30 : decode cX8_placeOf 30 = .ok (.goto 4, 3) := by decide +kernel
theorem dX8_placeOf_33 : decode cX8_placeOf 33 = .ok (.iconst 0, 1) := by decide +kernel
theorem dX8_placeOf_34 : decode cX8_placeOf 34 = .ok (.iconst 1, 1) := by decide +kernel
theorem dX8_placeOf_35 : decode cX8_placeOf 35 = .ok (.iconst 1, 1) := by decide +kernel
theorem dX8_placeOf_36 : decode cX8_placeOf 36 = .ok (.invokevirtual 83, 3) := by decide +kernel
theorem dX8_placeOf_39 : decode cX8_placeOf 39 = .ok (.ifCond .ne 5, 3) := by decide +kernel
theorem dX8_placeOf_42 : decode cX8_placeOf 42 = .ok (.iconst 0, 1) := by decide +kernel
theorem dX8_placeOf_43 : decode cX8_placeOf 43 = .ok (.ireturn, 1) := by decide +kernel
theorem dX8_placeOf_44 : decode cX8_placeOf 44 = .ok (.iconst 0, 1) := by decide +kernel
theorem dX8_placeOf_45 : decode cX8_placeOf 45 = .ok (.istore_n 3, 1) := by decide +kernel
theorem dX8_placeOf_46 : decode cX8_placeOf 46 = .ok (.iconst 0, 1) := by decide +kernel
theorem dX8_placeOf_47 : decode cX8_placeOf 47 = .ok (.istore 4, 2) := by decide +kernel
theorem dX8_placeOf_49 : decode cX8_placeOf 49 = .ok (.iload 4, 2) := by decide +kernel
theorem dX8_placeOf_51 : decode cX8_placeOf 51 = .ok (.iload_n 1, 1) := by decide +kernel
theorem dX8_placeOf_52 : decode cX8_placeOf 52 = .ok (.invokestatic 105, 3) := by decide +kernel
theorem dX8_placeOf_55 : decode cX8_placeOf 55 = .ok (.iload_n 1, 1) := by decide +kernel
theorem dX8_placeOf_56 : decode cX8_placeOf 56 = .ok (.invokestatic 109, 3) := by decide +kernel
theorem dX8_placeOf_59 : decode cX8_placeOf 59 = .ok (.imul, 1) := by decide +kernel
theorem dX8_placeOf_60 : decode cX8_placeOf 60 = .ok (.if_icmp .ge 80, 3) := by decide +kernel
theorem dX8_placeOf_63 : decode cX8_placeOf 63 = .ok (.iload 4, 2) := by decide +kernel
theorem dX8_placeOf_65 : decode cX8_placeOf 65 = .ok (.iload_n 1, 1) := by decide +kernel
theorem dX8_placeOf_66 : decode cX8_placeOf 66 = .ok (.invokestatic 105, 3) := by decide +kernel
theorem dX8_placeOf_69 : decode cX8_placeOf 69 = .ok (.irem, 1) := by decide +kernel
theorem dX8_placeOf_70 : decode cX8_placeOf 70 = .ok (.istore 5, 2) := by decide +kernel
theorem dX8_placeOf_72 : decode cX8_placeOf 72 = .ok (.iload 4, 2) := by decide +kernel
theorem dX8_placeOf_74 : decode cX8_placeOf 74 = .ok (.iload_n 1, 1) := by decide +kernel
theorem dX8_placeOf_75 : decode cX8_placeOf 75 = .ok (.invokestatic 105, 3) := by decide +kernel
theorem dX8_placeOf_78 : decode cX8_placeOf 78 = .ok (.idiv, 1) := by decide +kernel
theorem dX8_placeOf_79 : decode cX8_placeOf 79 = .ok (.istore 6, 2) := by decide +kernel
theorem dX8_placeOf_81 : decode cX8_placeOf 81 = .ok (.iload_n 1, 1) := by decide +kernel
theorem dX8_placeOf_82 : decode cX8_placeOf 82 = .ok (.iconst 0, 1) := by decide +kernel
theorem dX8_placeOf_83 : decode cX8_placeOf 83 = .ok (.iload 5, 2) := by decide +kernel
theorem dX8_placeOf_85 : decode cX8_placeOf 85 = .ok (.iload 6, 2) := by decide +kernel
theorem dX8_placeOf_87 : decode cX8_placeOf 87 = .ok (.invokestatic 115, 3) := by decide +kernel
theorem dX8_placeOf_90 : decode cX8_placeOf 90 = .ok (.iload_n 2, 1) := by decide +kernel
theorem dX8_placeOf_91 : decode cX8_placeOf 91 = .ok (.if_icmp .ne 14, 3) := by decide +kernel
theorem dX8_placeOf_94 : decode cX8_placeOf 94 = .ok (.bipush 10, 2) := by decide +kernel
theorem dX8_placeOf_96 : decode cX8_placeOf 96 = .ok (.iload 6, 2) := by decide +kernel
theorem dX8_placeOf_98 : decode cX8_placeOf 98 = .ok (.imul, 1) := by decide +kernel
theorem dX8_placeOf_99 : decode cX8_placeOf 99 = .ok (.iload 5, 2) := by decide +kernel
theorem dX8_placeOf_101 : decode cX8_placeOf 101 = .ok (.iadd, 1) := by decide +kernel
theorem dX8_placeOf_102 : decode cX8_placeOf 102 = .ok (.goto 31, 3) := by decide +kernel
theorem dX8_placeOf_105 : decode cX8_placeOf 105 = .ok (.iload_n 1, 1) := by decide +kernel
theorem dX8_placeOf_106 : decode cX8_placeOf 106 = .ok (.iconst 1, 1) := by decide +kernel
theorem dX8_placeOf_107 : decode cX8_placeOf 107 = .ok (.iload 5, 2) := by decide +kernel
theorem dX8_placeOf_109 : decode cX8_placeOf 109 = .ok (.iload 6, 2) := by decide +kernel
theorem dX8_placeOf_111 : decode cX8_placeOf 111 = .ok (.invokestatic 115, 3) := by decide +kernel
theorem dX8_placeOf_114 : decode cX8_placeOf 114 = .ok (.iload_n 2, 1) := by decide +kernel
theorem dX8_placeOf_115 : decode cX8_placeOf 115 = .ok (.if_icmp .ne 17, 3) := by decide +kernel
theorem dX8_placeOf_118 : decode cX8_placeOf 118 = .ok (.bipush 100, 2) := by decide +kernel
theorem dX8_placeOf_120 : decode cX8_placeOf 120 = .ok (.bipush 10, 2) := by decide +kernel
theorem dX8_placeOf_122 : decode cX8_placeOf 122 = .ok (.iload 6, 2) := by decide +kernel
theorem dX8_placeOf_124 : decode cX8_placeOf 124 = .ok (.imul, 1) := by decide +kernel
theorem dX8_placeOf_125 : decode cX8_placeOf 125 = .ok (.iadd, 1) := by decide +kernel
theorem dX8_placeOf_126 : decode cX8_placeOf 126 = .ok (.iload 5, 2) := by decide +kernel
theorem dX8_placeOf_128 : decode cX8_placeOf 128 = .ok (.iadd, 1) := by decide +kernel
theorem dX8_placeOf_129 : decode cX8_placeOf 129 = .ok (.goto 4, 3) := by decide +kernel
theorem dX8_placeOf_132 : decode cX8_placeOf 132 = .ok (.iload_n 3, 1) := by decide +kernel
theorem dX8_placeOf_133 : decode cX8_placeOf 133 = .ok (.istore_n 3, 1) := by decide +kernel
theorem dX8_placeOf_134 : decode cX8_placeOf 134 = .ok (.iinc 4 1, 3) := by decide +kernel
theorem dX8_placeOf_137 : decode cX8_placeOf 137 = .ok (.goto (-88), 3) := by decide +kernel
theorem dX8_placeOf_140 : decode cX8_placeOf 140 = .ok (.iload_n 3, 1) := by decide +kernel
theorem dX8_placeOf_141 : decode cX8_placeOf 141 = .ok (.ireturn, 1) := by decide +kernel
set_option maxRecDepth 20000 in
theorem ggX8_isBook_X8_in : GoodIn wsX8_isBook wsX8_in := goodIn_r _ [5] (by decide +kernel) (by decide +kernel)
set_option maxRecDepth 20000 in
theorem gX8_isBook_X8_in : GoodIn wsX8_isBook (va_wsS RX8 75 yX8_in wsX8_in) := goodIn_app (goodIn_of _ (by decide +kernel)) ggX8_isBook_X8_in
theorem dX8_isBook_0 : decode cX8_isBook 0 = .ok (.iload_n 1, 1) := by decide +kernel
theorem dX8_isBook_1 : decode cX8_isBook 1 = .ok (.iconst 0, 1) := by decide +kernel
theorem dX8_isBook_2 : decode cX8_isBook 2 = .ok (.aload_n 0, 1) := by decide +kernel
theorem dX8_isBook_3 : decode cX8_isBook 3 = .ok (.getfield 119, 3) := by decide +kernel
theorem dX8_isBook_6 : decode cX8_isBook 6 = .ok (.iconst 1, 1) := by decide +kernel
theorem dX8_isBook_7 : decode cX8_isBook 7 = .ok (.isub, 1) := by decide +kernel
theorem dX8_isBook_8 : decode cX8_isBook 8 = .ok (.invokestatic 75, 3) := by decide +kernel
theorem dX8_isBook_11 : decode cX8_isBook 11 = .ok (.ireturn, 1) := by decide +kernel
set_option maxRecDepth 20000 in
theorem ggX8_book_X8_in : GoodIn wsX8_book wsX8_in := goodIn_r _ [10] (by decide +kernel) (by decide +kernel)
set_option maxRecDepth 20000 in
theorem gX8_book_X8_in : GoodIn wsX8_book (va_wsS RX8 75 yX8_in wsX8_in) := goodIn_app (goodIn_of _ (by decide +kernel)) ggX8_book_X8_in
set_option maxRecDepth 20000 in
theorem ggX8_book_X8_goes : GoodIn wsX8_book wsX8_goes := goodIn_r _ [14, 15, 16, 17, 18, 19, 20, 21, 22, 23, 24, 25, 26, 27, 28, 29, 30, 31, 32, 33, 34, 35, 36, 37, 38, 39, 40, 41, 42, 43] (by decide +kernel) (by decide +kernel)
set_option maxRecDepth 20000 in
theorem gX8_book_X8_goes : GoodIn wsX8_book (wsV RX8 83 RX8 yX8_goes wsX8_goes) := goodIn_app (goodIn_of _ (by decide +kernel)) ggX8_book_X8_goes
theorem dX8_book_0 : decode cX8_book 0 = .ok (.iload_n 1, 1) := by decide +kernel
theorem dX8_book_1 : decode cX8_book 1 = .ok (.iconst 1, 1) := by decide +kernel
theorem dX8_book_2 : decode cX8_book 2 = .ok (.bipush 8, 2) := by decide +kernel
theorem dX8_book_4 : decode cX8_book 4 = .ok (.invokestatic 75, 3) := by decide +kernel
theorem dX8_book_7 : decode cX8_book 7 = .ok (.ifCond .eq 38, 3) := by decide +kernel
theorem dX8_book_10 : decode cX8_book 10 = .ok (.iload_n 2, 1) := by decide +kernel
theorem dX8_book_11 : decode cX8_book 11 = .ok (.iconst 2, 1) := by decide +kernel
theorem dX8_book_12 : decode cX8_book 12 = .ok (.bipush 16, 2) := by decide +kernel
theorem dX8_book_14 : decode cX8_book 14 = .ok (.invokestatic 75, 3) := by decide +kernel
theorem dX8_book_17 : decode cX8_book 17 = .ok (.ifCond .eq 28, 3) := by decide +kernel
theorem dX8_book_20 : decode cX8_book 20 = .ok (.iload_n 3, 1) := by decide +kernel
theorem dX8_book_21 : decode cX8_book 21 = .ok (.iconst 3, 1) := by decide +kernel
theorem dX8_book_22 : decode cX8_book 22 = .ok (.bipush 6, 2) := by decide +kernel
theorem dX8_book_24 : decode cX8_book 24 = .ok (.invokestatic 75, 3) := by decide +kernel
theorem dX8_book_27 : decode cX8_book 27 = .ok (.ifCond .eq 18, 3) := by decide +kernel
theorem dX8_book_30 : decode cX8_book 30 = .ok (.iload 4, 2) := by decide +kernel
theorem dX8_book_32 : decode cX8_book 32 = .ok (.iconst 1, 1) := by decide +kernel
theorem dX8_book_33 : decode cX8_book 33 = .ok (.bipush 9, 2) := by decide +kernel
theorem dX8_book_35 : decode cX8_book 35 = .ok (.invokestatic 75, 3) := by decide +kernel
theorem dX8_book_38 : decode cX8_book 38 = .ok (.ifCond .eq 7, 3) := by decide +kernel
theorem dX8_book_41 : decode cX8_book 41 = .ok (.iconst 1, 1) := by decide +kernel
theorem dX8_book_42 : decode cX8_book 42 = .ok (.goto 4, 3) := by decide +kernel
theorem dX8_book_45 : decode cX8_book 45 = .ok (.iconst 0, 1) := by decide +kernel
theorem dX8_book_46 : decode cX8_book 46 = .ok (.istore 6, 2) := by decide +kernel
theorem dX8_book_48 : decode cX8_book 48 = .ok (.aload_n 0, 1) := by decide +kernel
theorem dX8_book_49 : decode cX8_book 49 = .ok (.iload 6, 2) := by decide +kernel
theorem dX8_book_51 : decode cX8_book 51 = .ok (.aload_n 0, 1) := by decide +kernel
theorem dX8_book_52 : decode cX8_book 52 = .ok (.getfield 119, 3) := by decide +kernel
theorem dX8_book_55 : decode cX8_book 55 = .ok (.iconst 4, 1) := by decide +kernel
theorem dX8_book_56 : decode cX8_book 56 = .ok (.if_icmp .ge 7, 3) := by decide +kernel
theorem dX8_book_59 : decode cX8_book 59 = .ok (.iconst 1, 1) := by decide +kernel
theorem dX8_book_60 : decode cX8_book 60 = .ok (.goto 4, 3) := by decide +kernel
theorem dX8_book_63 : decode cX8_book 63 = .ok (.iconst 0, 1) := by decide +kernel
theorem dX8_book_64 : decode cX8_book 64 = .ok (.iconst 1, 1) := by decide +kernel
theorem dX8_book_65 : decode cX8_book 65 = .ok (.invokevirtual 83, 3) := by decide +kernel
theorem dX8_book_68 : decode cX8_book 68 = .ok (.ifCond .ne 5, 3) := by decide +kernel
theorem dX8_book_71 : decode cX8_book 71 = .ok (.iconst 0, 1) := by decide +kernel
theorem dX8_book_72 : decode cX8_book 72 = .ok (.ireturn, 1) := by decide +kernel
theorem dX8_book_73 : decode cX8_book 73 = .ok (.aload_n 0, 1) := by decide +kernel
theorem dX8_book_74 : decode cX8_book 74 = .ok (.getfield 19, 3) := by decide +kernel
theorem dX8_book_77 : decode cX8_book 77 = .ok (.aload_n 0, 1) := by decide +kernel
theorem dX8_book_78 : decode cX8_book 78 = .ok (.getfield 119, 3) := by decide +kernel
theorem dX8_book_81 : decode cX8_book 81 = .ok (.iload_n 1, 1) := by decide +kernel
theorem dX8_book_82 : decode cX8_book 82 = .ok (.iastore, 1) := by decide +kernel
theorem dX8_book_83 : decode cX8_book 83 = .ok (.aload_n 0, 1) := by decide +kernel
theorem dX8_book_84 : decode cX8_book 84 = .ok (.getfield 22, 3) := by decide +kernel
theorem dX8_book_87 : decode cX8_book 87 = .ok (.aload_n 0, 1) := by decide +kernel
theorem dX8_book_88 : decode cX8_book 88 = .ok (.getfield 119, 3) := by decide +kernel
theorem dX8_book_91 : decode cX8_book 91 = .ok (.iload_n 2, 1) := by decide +kernel
theorem dX8_book_92 : decode cX8_book 92 = .ok (.iastore, 1) := by decide +kernel
theorem dX8_book_93 : decode cX8_book 93 = .ok (.aload_n 0, 1) := by decide +kernel
theorem dX8_book_94 : decode cX8_book 94 = .ok (.getfield 25, 3) := by decide +kernel
theorem dX8_book_97 : decode cX8_book 97 = .ok (.aload_n 0, 1) := by decide +kernel
theorem dX8_book_98 : decode cX8_book 98 = .ok (.getfield 119, 3) := by decide +kernel
theorem dX8_book_101 : decode cX8_book 101 = .ok (.iload_n 3, 1) := by decide +kernel
theorem dX8_book_102 : decode cX8_book 102 = .ok (.iastore, 1) := by decide +kernel
theorem dX8_book_103 : decode cX8_book 103 = .ok (.aload_n 0, 1) := by decide +kernel
theorem dX8_book_104 : decode cX8_book 104 = .ok (.getfield 28, 3) := by decide +kernel
theorem dX8_book_107 : decode cX8_book 107 = .ok (.aload_n 0, 1) := by decide +kernel
theorem dX8_book_108 : decode cX8_book 108 = .ok (.getfield 119, 3) := by decide +kernel
theorem dX8_book_111 : decode cX8_book 111 = .ok (.iload 4, 2) := by decide +kernel
theorem dX8_book_113 : decode cX8_book 113 = .ok (.iastore, 1) := by decide +kernel
theorem dX8_book_114 : decode cX8_book 114 = .ok (.aload_n 0, 1) := by decide +kernel
theorem dX8_book_115 : decode cX8_book 115 = .ok (.getfield 31, 3) := by decide +kernel
theorem dX8_book_118 : decode cX8_book 118 = .ok (.aload_n 0, 1) := by decide +kernel
theorem dX8_book_119 : decode cX8_book 119 = .ok (.getfield 119, 3) := by decide +kernel
theorem dX8_book_122 : decode cX8_book 122 = .ok (.iload 5, 2) := by decide +kernel
theorem dX8_book_124 : decode cX8_book 124 = .ok (.bastore, 1) := by decide +kernel
theorem dX8_book_125 : decode cX8_book 125 = .ok (.aload_n 0, 1) := by decide +kernel
theorem dX8_book_126 : decode cX8_book 126 = .ok (.dup, 1) := by decide +kernel
theorem dX8_book_127 : decode cX8_book 127 = .ok (.getfield 119, 3) := by decide +kernel
theorem dX8_book_130 : decode cX8_book 130 = .ok (.iconst 1, 1) := by decide +kernel
theorem dX8_book_131 : decode cX8_book 131 = .ok (.iadd, 1) := by decide +kernel
theorem dX8_book_132 : decode cX8_book 132 = .ok (.putfield 119, 3) := by decide +kernel
theorem dX8_book_135 : decode cX8_book 135 = .ok (.aload_n 0, 1) := by decide +kernel
theorem dX8_book_136 : decode cX8_book 136 = .ok (.getfield 119, 3) := by decide +kernel
theorem dX8_book_139 : decode cX8_book 139 = .ok (.iconst 1, 1) := by decide +kernel
theorem dX8_book_140 : decode cX8_book 140 = .ok (.isub, 1) := by decide +kernel
theorem dX8_book_141 : decode cX8_book 141 = .ok (.ireturn, 1) := by decide +kernel
theorem dX8_lays_0 : decode cX8_lays 0 = .ok (.aload_n 0, 1) := by decide +kernel
theorem dX8_lays_1 : decode cX8_lays 1 = .ok (.dup, 1) := by decide +kernel
theorem dX8_lays_2 : decode cX8_lays 2 = .ok (.getfield 122, 3) := by decide +kernel
theorem dX8_lays_5 : decode cX8_lays 5 = .ok (.iload_n 1, 1) := by decide +kernel
theorem dX8_lays_6 : decode cX8_lays 6 = .ok (.iadd, 1) := by decide +kernel
theorem dX8_lays_7 : decode cX8_lays 7 = .ok (.putfield 122, 3) := by decide +kernel
theorem dX8_lays_10 : decode cX8_lays 10 = .ok (.aload_n 0, 1) := by decide +kernel
theorem dX8_lays_11 : decode cX8_lays 11 = .ok (.dup, 1) := by decide +kernel
theorem dX8_lays_12 : decode cX8_lays 12 = .ok (.getfield 125, 3) := by decide +kernel
theorem dX8_lays_15 : decode cX8_lays 15 = .ok (.bipush 10, 2) := by decide +kernel
theorem dX8_lays_17 : decode cX8_lays 17 = .ok (.iadd, 1) := by decide +kernel
theorem dX8_lays_18 : decode cX8_lays 18 = .ok (.putfield 125, 3) := by decide +kernel
theorem dX8_lays_21 : decode cX8_lays 21 = .ok (.aload_n 0, 1) := by decide +kernel
theorem dX8_lays_22 : decode cX8_lays 22 = .ok (.getfield 44, 3) := by decide +kernel
theorem dX8_lays_25 : decode cX8_lays 25 = .ok (.iconst 5, 1) := by decide +kernel
theorem dX8_lays_26 : decode cX8_lays 26 = .ok (.aload_n 0, 1) := by decide +kernel
theorem dX8_lays_27 : decode cX8_lays 27 = .ok (.getfield 128, 3) := by decide +kernel
theorem dX8_lays_30 : decode cX8_lays 30 = .ok (.imul, 1) := by decide +kernel
theorem dX8_lays_31 : decode cX8_lays 31 = .ok (.iload_n 2, 1) := by decide +kernel
theorem dX8_lays_32 : decode cX8_lays 32 = .ok (.iadd, 1) := by decide +kernel
theorem dX8_lays_33 : decode cX8_lays 33 = .ok (.dup2, 1) := by decide +kernel
theorem dX8_lays_34 : decode cX8_lays 34 = .ok (.iaload, 1) := by decide +kernel
theorem dX8_lays_35 : decode cX8_lays 35 = .ok (.aload_n 0, 1) := by decide +kernel
theorem dX8_lays_36 : decode cX8_lays 36 = .ok (.getfield 131, 3) := by decide +kernel
theorem dX8_lays_39 : decode cX8_lays 39 = .ok (.ifCond .eq 7, 3) := by decide +kernel
theorem dX8_lays_42 : decode cX8_lays 42 = .ok (.iconst 1, 1) := by decide +kernel
theorem dX8_lays_43 : decode cX8_lays 43 = .ok (.goto 4, 3) := by decide +kernel
theorem dX8_lays_46 : decode cX8_lays 46 = .ok (.iconst 0, 1) := by decide +kernel
theorem dX8_lays_47 : decode cX8_lays 47 = .ok (.iadd, 1) := by decide +kernel
theorem dX8_lays_48 : decode cX8_lays 48 = .ok (.iastore, 1) := by decide +kernel
theorem dX8_lays_49 : decode cX8_lays 49 = .ok (.return_, 1) := by decide +kernel
theorem dX8_links_0 : decode cX8_links 0 = .ok (.aload_n 0, 1) := by decide +kernel
theorem dX8_links_1 : decode cX8_links 1 = .ok (.getfield 47, 3) := by decide +kernel
theorem dX8_links_4 : decode cX8_links 4 = .ok (.iload_n 1, 1) := by decide +kernel
theorem dX8_links_5 : decode cX8_links 5 = .ok (.ifCond .le 10, 3) := by decide +kernel
theorem dX8_links_8 : decode cX8_links 8 = .ok (.aload_n 0, 1) := by decide +kernel
theorem dX8_links_9 : decode cX8_links 9 = .ok (.getfield 128, 3) := by decide +kernel
theorem dX8_links_12 : decode cX8_links 12 = .ok (.goto 9, 3) := by decide +kernel
theorem dX8_links_15 : decode cX8_links 15 = .ok (.aload_n 0, 1) := by decide +kernel
theorem dX8_links_16 : decode cX8_links 16 = .ok (.getfield 128, 3) := by decide +kernel
theorem dX8_links_19 : decode cX8_links 19 = .ok (.iconst 1, 1) := by decide +kernel
theorem dX8_links_20 : decode cX8_links 20 = .ok (.isub, 1) := by decide +kernel
theorem dX8_links_21 : decode cX8_links 21 = .ok (.iconst 1, 1) := by decide +kernel
theorem dX8_links_22 : decode cX8_links 22 = .ok (.bastore, 1) := by decide +kernel
theorem dX8_links_23 : decode cX8_links 23 = .ok (.aload_n 0, 1) := by decide +kernel
theorem dX8_links_24 : decode cX8_links 24 = .ok (.dup, 1) := by decide +kernel
theorem dX8_links_25 : decode cX8_links 25 = .ok (.getfield 128, 3) := by decide +kernel
theorem dX8_links_28 : decode cX8_links 28 = .ok (.iload_n 1, 1) := by decide +kernel
theorem dX8_links_29 : decode cX8_links 29 = .ok (.iadd, 1) := by decide +kernel
theorem dX8_links_30 : decode cX8_links 30 = .ok (.putfield 128, 3) := by decide +kernel
theorem dX8_links_33 : decode cX8_links 33 = .ok (.aload_n 0, 1) := by decide +kernel
theorem dX8_links_34 : decode cX8_links 34 = .ok (.dup, 1) := by decide +kernel
theorem dX8_links_35 : decode cX8_links 35 = .ok (.getfield 125, 3) := by decide +kernel
theorem dX8_links_38 : decode cX8_links 38 = .ok (.iconst 4, 1) := by decide +kernel
theorem dX8_links_39 : decode cX8_links 39 = .ok (.iadd, 1) := by decide +kernel
theorem dX8_links_40 : decode cX8_links 40 = .ok (.putfield 125, 3) := by decide +kernel
theorem dX8_links_43 : decode cX8_links 43 = .ok (.return_, 1) := by decide +kernel
set_option maxRecDepth 20000 in
theorem ggX8_moves_X8_lays : GoodIn wsX8_moves wsX8_lays := goodIn_r _ [7, 2, 8, 9, 10, 1, 16, 17, 18, 19, 20, 21, 22, 23, 24, 25, 26, 27, 28, 29, 30, 31, 32, 33, 34, 35, 36, 37, 38, 39, 40, 41, 42, 43] (by decide +kernel) (by decide +kernel)
set_option maxRecDepth 20000 in
theorem gX8_moves_X8_lays : GoodIn wsX8_moves (wsV RX8 135 RX8 yX8_lays wsX8_lays) := goodIn_app (goodIn_of _ (by decide +kernel)) ggX8_moves_X8_lays
set_option maxRecDepth 20000 in
theorem ggX8_moves_X8_links : GoodIn wsX8_moves wsX8_links := goodIn_r _ [14, 15, 10, 8, 16, 17, 18, 19, 20, 21, 22, 23, 24, 25, 26, 27, 28, 29, 30, 31, 32, 33, 34, 35, 36, 37, 38, 39, 40, 41, 42, 43] (by decide +kernel) (by decide +kernel)
set_option maxRecDepth 20000 in
theorem gX8_moves_X8_links : GoodIn wsX8_moves (wsV RX8 139 RX8 yX8_links wsX8_links) := goodIn_app (goodIn_of _ (by decide +kernel)) ggX8_moves_X8_links
theorem dX8_moves_0 : decode cX8_moves 0 = .ok (.iload_n 1, 1) := by decide +kernel
theorem dX8_moves_1 : decode cX8_moves 1 = .ok (.tableswitch 84 0 3 #[31, 50, 62, 76], 31) := by decide +kernel
theorem dX8_moves_32 : decode cX8_moves 32 = .ok (.aload_n 0, 1) := by decide +kernel
theorem dX8_moves_33 : decode cX8_moves 33 = .ok (.aload_n 0, 1) := by decide +kernel
theorem dX8_moves_34 : decode cX8_moves 34 = .ok (.getfield 131, 3) := by decide +kernel
theorem dX8_moves_37 : decode cX8_moves 37 = .ok (.ifCond .ne 7, 3) := by decide +kernel
theorem dX8_moves_40 : decode cX8_moves 40 = .ok (.iconst 1, 1) := by decide +kernel
theorem dX8_moves_41 : decode cX8_moves 41 = .ok (.goto 4, 3) := by decide +kernel
theorem dX8_moves_44 : decode cX8_moves 44 = .ok (.iconst 0, 1) := by decide +kernel
theorem dX8_moves_45 : decode cX8_moves 45 = .ok (.putfield 131, 3) := by decide +kernel
theorem dX8_moves_48 : decode cX8_moves 48 = .ok (.goto 42, 3) := by decide +kernel
theorem dX8_moves_51 : decode cX8_moves 51 = .ok (.aload_n 0, 1) := by decide +kernel
theorem dX8_moves_52 : decode cX8_moves 52 = .ok (.iconst 1, 1) := by decide +kernel
theorem dX8_moves_53 : decode cX8_moves 53 = .ok (.aload_n 0, 1) := by decide +kernel
theorem dX8_moves_54 : decode cX8_moves 54 = .ok (.getfield 122, 3) := by decide +kernel
theorem dX8_moves_57 : decode cX8_moves 57 = .ok (.invokevirtual 135, 3) := by decide +kernel
theorem dX8_moves_60 : decode cX8_moves 60 = .ok (.goto 30, 3) := by decide +kernel
theorem dX8_moves_63 : decode cX8_moves 63 = .ok (.aload_n 0, 1) := by decide +kernel
theorem dX8_moves_64 : decode cX8_moves 64 = .ok (.iconst (-1), 1) := by decide +kernel
theorem dX8_moves_65 : decode cX8_moves 65 = .ok (.aload_n 0, 1) := by decide +kernel
theorem dX8_moves_66 : decode cX8_moves 66 = .ok (.getfield 122, 3) := by decide +kernel
theorem dX8_moves_69 : decode cX8_moves 69 = .ok (.iconst 1, 1) := by decide +kernel
theorem dX8_moves_70 : decode cX8_moves 70 = .ok (.isub, 1) := by decide +kernel
theorem dX8_moves_71 : decode cX8_moves 71 = .ok (.invokevirtual 135, 3) := by decide +kernel
theorem dX8_moves_74 : decode cX8_moves 74 = .ok (.goto 16, 3) := by decide +kernel
theorem dX8_moves_77 : decode cX8_moves 77 = .ok (.aload_n 0, 1) := by decide +kernel
theorem dX8_moves_78 : decode cX8_moves 78 = .ok (.iconst 1, 1) := by decide +kernel
theorem dX8_moves_79 : decode cX8_moves 79 = .ok (.invokevirtual 139, 3) := by decide +kernel
theorem dX8_moves_82 : decode cX8_moves 82 = .ok (.goto 8, 3) := by decide +kernel
theorem dX8_moves_85 : decode cX8_moves 85 = .ok (.aload_n 0, 1) := by decide +kernel
theorem dX8_moves_86 : decode cX8_moves 86 = .ok (.iconst (-1), 1) := by decide +kernel
theorem dX8_moves_87 : decode cX8_moves 87 = .ok (.invokevirtual 139, 3) := by decide +kernel
theorem dX8_moves_90 : decode cX8_moves 90 = .ok (.return_, 1) := by decide +kernel
set_option maxRecDepth 20000 in
theorem ggX8_follows_X8_moves : GoodIn wsX8_follows wsX8_moves := goodIn_r _ [13, 6, 5, 14, 15, 16, 12, 17, 3, 1, 4, 18, 19, 20, 21, 2, 22, 23, 24, 25, 26, 27, 28, 29, 30, 31, 32, 33, 34, 35, 36, 37, 38, 39, 40, 41, 42, 43, 44, 45, 46, 47, 48, 49] (by decide +kernel) (by decide +kernel)
set_option maxRecDepth 20000 in
theorem gX8_follows_X8_moves : GoodIn wsX8_follows (wsV RX8 143 RX8 yX8_moves wsX8_moves) := goodIn_app (goodIn_of _ (by decide +kernel)) ggX8_follows_X8_moves
theorem dX8_follows_0 : decode cX8_follows 0 = .ok (.iconst 0, 1) := by decide +kernel
theorem dX8_follows_1 : decode cX8_follows 1 = .ok (.istore_n 2, 1) := by decide +kernel
theorem dX8_follows_2 : decode cX8_follows 2 = .ok (.iload_n 2, 1) := by decide +kernel
theorem dX8_follows_3 : decode cX8_follows 3 = .ok (.bipush 40, 2) := by decide +kernel
theorem dX8_follows_5 : decode cX8_follows 5 = .ok (.if_icmp .ge 16, 3) := by decide +kernel
theorem dX8_follows_8 : decode cX8_follows 8 = .ok (.aload_n 0, 1) := by decide +kernel
theorem dX8_follows_9 : decode cX8_follows 9 = .ok (.getfield 44, 3) := by decide +kernel
theorem dX8_follows_12 : decode cX8_follows 12 = .ok (.iload_n 2, 1) := by decide +kernel
theorem dX8_follows_13 : decode cX8_follows 13 = .ok (.iconst 0, 1) := by decide +kernel
theorem dX8_follows_14 : decode cX8_follows 14 = .ok (.iastore, 1) := by decide +kernel
theorem dX8_follows_15 : decode cX8_follows 15 = .ok (.iinc 2 1, 3) := by decide +kernel
theorem dX8_follows_18 : decode cX8_follows 18 = .ok (.goto (-16), 3) := by decide +kernel
theorem dX8_follows_21 : decode cX8_follows 21 = .ok (.iconst 0, 1) := by decide +kernel
theorem dX8_follows_22 : decode cX8_follows 22 = .ok (.istore_n 2, 1) := by decide +kernel
theorem dX8_follows_23 : decode cX8_follows 23 = .ok (.iload_n 2, 1) := by decide +kernel
theorem dX8_follows_24 : decode cX8_follows 24 = .ok (.bipush 8, 2) := by decide +kernel
theorem dX8_follows_26 : decode cX8_follows 26 = .ok (.if_icmp .ge 16, 3) := by decide +kernel
theorem dX8_follows_29 : decode cX8_follows 29 = .ok (.aload_n 0, 1) := by decide +kernel
theorem dX8_follows_30 : decode cX8_follows 30 = .ok (.getfield 47, 3) := by decide +kernel
theorem dX8_follows_33 : decode cX8_follows 33 = .ok (.iload_n 2, 1) := by decide +kernel
theorem dX8_follows_34 : decode cX8_follows 34 = .ok (.iconst 0, 1) := by decide +kernel
theorem dX8_follows_35 : decode cX8_follows 35 = .ok (.bastore, 1) := by decide +kernel
theorem dX8_follows_36 : decode cX8_follows 36 = .ok (.iinc 2 1, 3) := by decide +kernel
theorem dX8_follows_39 : decode cX8_follows 39 = .ok (.goto (-16), 3) := by decide +kernel
theorem dX8_follows_42 : decode cX8_follows 42 = .ok (.aload_n 0, 1) := by decide +kernel
theorem dX8_follows_43 : decode cX8_follows 43 = .ok (.iconst 0, 1) := by decide +kernel
theorem dX8_follows_44 : decode cX8_follows 44 = .ok (.putfield 125, 3) := by decide +kernel
theorem dX8_follows_47 : decode cX8_follows 47 = .ok (.aload_n 0, 1) := by decide +kernel
theorem dX8_follows_48 : decode cX8_follows 48 = .ok (.iconst 0, 1) := by decide +kernel
theorem dX8_follows_49 : decode cX8_follows 49 = .ok (.putfield 128, 3) := by decide +kernel
theorem dX8_follows_52 : decode cX8_follows 52 = .ok (.aload_n 0, 1) := by decide +kernel
theorem dX8_follows_53 : decode cX8_follows 53 = .ok (.iconst 0, 1) := by decide +kernel
theorem dX8_follows_54 : decode cX8_follows 54 = .ok (.putfield 122, 3) := by decide +kernel
theorem dX8_follows_57 : decode cX8_follows 57 = .ok (.aload_n 0, 1) := by decide +kernel
theorem dX8_follows_58 : decode cX8_follows 58 = .ok (.iconst 0, 1) := by decide +kernel
theorem dX8_follows_59 : decode cX8_follows 59 = .ok (.putfield 131, 3) := by decide +kernel
theorem dX8_follows_62 : decode cX8_follows 62 = .ok (.sipush 200, 3) := by decide +kernel
theorem dX8_follows_65 : decode cX8_follows 65 = .ok (.iload_n 1, 1) := by decide +kernel
theorem dX8_follows_66 : decode cX8_follows 66 = .ok (.imul, 1) := by decide +kernel
theorem dX8_follows_67 : decode cX8_follows 67 = .ok (.istore_n 2, 1) := by decide +kernel
theorem dX8_follows_68 : decode cX8_follows 68 = .ok (.iload_n 2, 1) := by decide +kernel
theorem dX8_follows_69 : decode cX8_follows 69 = .ok (.sipush 200, 3) := by decide +kernel
theorem dX8_follows_72 : decode cX8_follows 72 = .ok (.iload_n 1, 1) := by decide +kernel
theorem dX8_follows_73 : decode cX8_follows 73 = .ok (.imul, 1) := by decide +kernel
theorem dX8_follows_74 : decode cX8_follows 74 = .ok (.aload_n 0, 1) := by decide +kernel
theorem dX8_follows_75 : decode cX8_follows 75 = .ok (.getfield 38, 3) := by decide +kernel
theorem dX8_follows_78 : decode cX8_follows 78 = .ok (.iload_n 1, 1) := by decide +kernel
theorem dX8_follows_79 : decode cX8_follows 79 = .ok (.iaload, 1) := by decide +kernel
theorem dX8_follows_80 : decode cX8_follows 80 = .ok (.iadd, 1) := by decide +kernel
theorem dX8_follows_81 : decode cX8_follows 81 = .ok (.if_icmp .ge 19, 3) := by decide +kernel
theorem dX8_follows_84 : decode cX8_follows 84 = .ok (.aload_n 0, 1) := by decide +kernel
theorem dX8_follows_85 : decode cX8_follows 85 = .ok (.aload_n 0, 1) := by decide +kernel
theorem dX8_follows_86 : decode cX8_follows 86 = .ok (.getfield 41, 3) := by decide +kernel
theorem dX8_follows_89 : decode cX8_follows 89 = .ok (.iload_n 2, 1) := by decide +kernel
theorem dX8_follows_90 : decode cX8_follows 90 = .ok (.iaload, 1) := by decide +kernel
theorem dX8_follows_91 : decode cX8_follows 91 = .ok (.invokevirtual 143, 3) := by decide +kernel
theorem dX8_follows_94 : decode cX8_follows 94 = .ok (.iinc 2 1, 3) := by decide +kernel
theorem dX8_follows_97 : decode cX8_follows 97 = .ok (.goto (-29), 3) := by decide +kernel
theorem dX8_follows_100 : decode cX8_follows 100 = .ok (.return_, 1) := by decide +kernel
theorem dX8_can_0 : decode cX8_can 0 = .ok (.iload_n 2, 1) := by decide +kernel
theorem dX8_can_1 : decode cX8_can 1 = .ok (.tableswitch 95 0 3 #[31, 33, 54, 67], 31) := by decide +kernel
theorem dX8_can_32 : decode cX8_can 32 = .ok (.iconst 1, 1) := by decide +kernel
theorem dX8_can_33 : decode cX8_can 33 = .ok (.ireturn, 1) := by decide +kernel
theorem dX8_can_34 : decode cX8_can 34 = .ok (.aload_n 0, 1) := by decide +kernel
theorem dX8_can_35 : decode cX8_can 35 = .ok (.getfield 122, 3) := by decide +kernel
theorem dX8_can_38 : decode cX8_can 38 = .ok (.aload_n 0, 1) := by decide +kernel
theorem dX8_can_39 : decode cX8_can 39 = .ok (.getfield 25, 3) := by decide +kernel
theorem dX8_can_42 : decode cX8_can 42 = .ok (.iload_n 1, 1) := by decide +kernel
theorem dX8_can_43 : decode cX8_can 43 = .ok (.iaload, 1) := by decide +kernel
theorem dX8_can_44 : decode cX8_can 44 = .ok (.iconst 1, 1) := by decide +kernel
theorem dX8_can_45 : decode cX8_can 45 = .ok (.isub, 1) := by decide +kernel
theorem dX8_can_46 : decode cX8_can 46 = .ok (.if_icmp .ge 7, 3) := by decide +kernel
theorem dX8_can_49 : decode cX8_can 49 = .ok (.iconst 1, 1) := by decide +kernel
theorem dX8_can_50 : decode cX8_can 50 = .ok (.goto 4, 3) := by decide +kernel
theorem dX8_can_53 : decode cX8_can 53 = .ok (.iconst 0, 1) := by decide +kernel
theorem dX8_can_54 : decode cX8_can 54 = .ok (.ireturn, 1) := by decide +kernel
theorem dX8_can_55 : decode cX8_can 55 = .ok (.aload_n 0, 1) := by decide +kernel
theorem dX8_can_56 : decode cX8_can 56 = .ok (.getfield 122, 3) := by decide +kernel
theorem dX8_can_59 : decode cX8_can 59 = .ok (.ifCond .le 7, 3) := by decide +kernel
theorem dX8_can_62 : decode cX8_can 62 = .ok (.iconst 1, 1) := by decide +kernel
theorem dX8_can_63 : decode cX8_can 63 = .ok (.goto 4, 3) := by decide +kernel
theorem dX8_can_66 : decode cX8_can 66 = .ok (.iconst 0, 1) := by decide +kernel
theorem dX8_can_67 : decode cX8_can 67 = .ok (.ireturn, 1) := by decide +kernel
theorem dX8_can_68 : decode cX8_can 68 = .ok (.aload_n 0, 1) := by decide +kernel
theorem dX8_can_69 : decode cX8_can 69 = .ok (.getfield 131, 3) := by decide +kernel
theorem dX8_can_72 : decode cX8_can 72 = .ok (.ifCond .ne 22, 3) := by decide +kernel
theorem dX8_can_75 : decode cX8_can 75 = .ok (.aload_n 0, 1) := by decide +kernel
theorem dX8_can_76 : decode cX8_can 76 = .ok (.getfield 128, 3) := by decide +kernel
theorem dX8_can_79 : decode cX8_can 79 = .ok (.aload_n 0, 1) := by decide +kernel
theorem dX8_can_80 : decode cX8_can 80 = .ok (.getfield 19, 3) := by decide +kernel
theorem dX8_can_83 : decode cX8_can 83 = .ok (.iload_n 1, 1) := by decide +kernel
theorem dX8_can_84 : decode cX8_can 84 = .ok (.iaload, 1) := by decide +kernel
theorem dX8_can_85 : decode cX8_can 85 = .ok (.iconst 1, 1) := by decide +kernel
theorem dX8_can_86 : decode cX8_can 86 = .ok (.isub, 1) := by decide +kernel
theorem dX8_can_87 : decode cX8_can 87 = .ok (.if_icmp .ge 7, 3) := by decide +kernel
theorem dX8_can_90 : decode cX8_can 90 = .ok (.iconst 1, 1) := by decide +kernel
theorem dX8_can_91 : decode cX8_can 91 = .ok (.goto 4, 3) := by decide +kernel
theorem dX8_can_94 : decode cX8_can 94 = .ok (.iconst 0, 1) := by decide +kernel
theorem dX8_can_95 : decode cX8_can 95 = .ok (.ireturn, 1) := by decide +kernel
theorem dX8_can_96 : decode cX8_can 96 = .ok (.aload_n 0, 1) := by decide +kernel
theorem dX8_can_97 : decode cX8_can 97 = .ok (.getfield 131, 3) := by decide +kernel
theorem dX8_can_100 : decode cX8_can 100 = .ok (.ifCond .ne 14, 3) := by decide +kernel
theorem dX8_can_103 : decode cX8_can 103 = .ok (.aload_n 0, 1) := by decide +kernel
theorem dX8_can_104 : decode cX8_can 104 = .ok (.getfield 128, 3) := by decide +kernel
theorem dX8_can_107 : decode cX8_can 107 = .ok (.ifCond .le 7, 3) := by decide +kernel
theorem dX8_can_110 : decode cX8_can 110 = .ok (.iconst 1, 1) := by decide +kernel
theorem dX8_can_111 : decode cX8_can 111 = .ok (.goto 4, 3) := by decide +kernel
theorem dX8_can_114 : decode cX8_can 114 = .ok (.iconst 0, 1) := by decide +kernel
theorem dX8_can_115 : decode cX8_can 115 = .ok (.ireturn, 1) := by decide +kernel
set_option maxRecDepth 20000 in
theorem ggX8_canMove_X8_follows : GoodIn wsX8_canMove wsX8_follows := goodIn_r _ [6, 7, 8, 9, 10, 11, 12, 1, 13, 14, 15, 16, 5, 17, 18, 19, 20, 21, 22, 23, 24, 25, 32, 33, 34, 35, 36, 37, 38, 39, 40, 41, 42, 43, 44, 45, 46, 47, 48, 49, 50, 51, 52, 53, 54, 55, 56, 57, 58, 59] (by decide +kernel) (by decide +kernel)
set_option maxRecDepth 20000 in
theorem gX8_canMove_X8_follows : GoodIn wsX8_canMove (wsV RX8 145 RX8 yX8_follows wsX8_follows) := goodIn_app (goodIn_of _ (by decide +kernel)) ggX8_canMove_X8_follows
set_option maxRecDepth 20000 in
theorem ggX8_canMove_X8_can : GoodIn wsX8_canMove wsX8_can := goodIn_r _ [29, 11, 30, 12, 10, 31, 32, 33, 34, 35, 36, 37, 38, 39, 40, 41, 42, 43, 44, 45, 46, 47, 48, 49, 50, 51, 52, 53, 54, 55, 56, 57, 58, 59] (by decide +kernel) (by decide +kernel)
set_option maxRecDepth 20000 in
theorem gX8_canMove_X8_can : GoodIn wsX8_canMove (wsV RX8 148 RX8 yX8_can wsX8_can) := goodIn_app (goodIn_of _ (by decide +kernel)) ggX8_canMove_X8_can
theorem dX8_canMove_0 : decode cX8_canMove 0 = .ok (.aload_n 0, 1) := by decide +kernel
theorem dX8_canMove_1 : decode cX8_canMove 1 = .ok (.iload_n 1, 1) := by decide +kernel
theorem dX8_canMove_2 : decode cX8_canMove 2 = .ok (.invokevirtual 145, 3) := by decide +kernel
theorem dX8_canMove_5 : decode cX8_canMove 5 = .ok (.aload_n 0, 1) := by decide +kernel
theorem dX8_canMove_6 : decode cX8_canMove 6 = .ok (.getfield 38, 3) := by decide +kernel
theorem dX8_canMove_9 : decode cX8_canMove 9 = .ok (.iload_n 1, 1) := by decide +kernel
theorem dX8_canMove_10 : decode cX8_canMove 10 = .ok (.iaload, 1) := by decide +kernel
theorem dX8_canMove_11 : decode cX8_canMove 11 = .ok (.sipush 200, 3) := by decide +kernel
theorem dX8_canMove_14 : decode cX8_canMove 14 = .ok (.if_icmp .ge 16, 3) := by decide +kernel
theorem dX8_canMove_17 : decode cX8_canMove 17 = .ok (.aload_n 0, 1) := by decide +kernel
theorem dX8_canMove_18 : decode cX8_canMove 18 = .ok (.iload_n 1, 1) := by decide +kernel
theorem dX8_canMove_19 : decode cX8_canMove 19 = .ok (.iload_n 2, 1) := by decide +kernel
theorem dX8_canMove_20 : decode cX8_canMove 20 = .ok (.invokevirtual 148, 3) := by decide +kernel
theorem dX8_canMove_23 : decode cX8_canMove 23 = .ok (.ifCond .eq 7, 3) := by decide +kernel
theorem dX8_canMove_26 : decode cX8_canMove 26 = .ok (.iconst 1, 1) := by decide +kernel
theorem dX8_canMove_27 : decode cX8_canMove 27 = .ok (.goto 4, 3) := by decide +kernel
theorem dX8_canMove_30 : decode cX8_canMove 30 = .ok (.iconst 0, 1) := by decide +kernel
theorem dX8_canMove_31 : decode cX8_canMove 31 = .ok (.ireturn, 1) := by decide +kernel
set_option maxRecDepth 20000 in
theorem ggX8_sew_X8_isBook : GoodIn wsX8_sew wsX8_isBook := goodIn_r _ [8, 9, 10, 11, 7, 12, 49, 50, 51, 52, 53, 54, 55, 56, 57, 58, 59, 60, 61, 62, 63, 64, 65, 66, 67, 68, 69, 70, 71, 72, 73, 74, 75, 76] (by decide +kernel) (by decide +kernel)
set_option maxRecDepth 20000 in
theorem gX8_sew_X8_isBook : GoodIn wsX8_sew (wsV RX8 152 RX8 yX8_isBook wsX8_isBook) := goodIn_app (goodIn_of _ (by decide +kernel)) ggX8_sew_X8_isBook
set_option maxRecDepth 20000 in
theorem ggX8_sew_X8_in : GoodIn wsX8_sew wsX8_in := goodIn_r _ [12] (by decide +kernel) (by decide +kernel)
set_option maxRecDepth 20000 in
theorem gX8_sew_X8_in : GoodIn wsX8_sew (va_wsS RX8 75 yX8_in wsX8_in) := goodIn_app (goodIn_of _ (by decide +kernel)) ggX8_sew_X8_in
set_option maxRecDepth 20000 in
theorem ggX8_sew_X8_canMove : GoodIn wsX8_sew wsX8_canMove := goodIn_r _ [16, 2, 17, 18, 19, 7, 20, 21, 22, 3, 23, 24, 25, 1, 26, 27, 28, 29, 30, 31, 32, 33, 34, 35, 36, 37, 38, 39, 40, 41, 42, 43, 49, 50, 51, 52, 53, 54, 55, 56, 57, 58, 59, 60, 61, 62, 63, 64, 65, 66, 67, 68, 69, 70, 71, 72, 73, 74, 75, 76] (by decide +kernel) (by decide +kernel)
set_option maxRecDepth 20000 in
theorem gX8_sew_X8_canMove : GoodIn wsX8_sew (wsV RX8 155 RX8 yX8_canMove wsX8_canMove) := goodIn_app (goodIn_of _ (by decide +kernel)) ggX8_sew_X8_canMove
set_option maxRecDepth 20000 in
theorem ggX8_sew_X8_goes : GoodIn wsX8_sew wsX8_goes := goodIn_r _ [47, 48, 49, 50, 51, 52, 53, 54, 55, 56, 57, 58, 59, 60, 61, 62, 63, 64, 65, 66, 67, 68, 69, 70, 71, 72, 73, 74, 75, 76] (by decide +kernel) (by decide +kernel)
set_option maxRecDepth 20000 in
theorem gX8_sew_X8_goes : GoodIn wsX8_sew (wsV RX8 83 RX8 yX8_goes wsX8_goes) := goodIn_app (goodIn_of _ (by decide +kernel)) ggX8_sew_X8_goes
set_option maxRecDepth 20000 in
theorem ggX8_sew_X8_moves : GoodIn wsX8_sew wsX8_moves := goodIn_r _ [29, 25, 24, 30, 31, 32, 7, 33, 3, 21, 23, 34, 35, 36, 37, 22, 49, 50, 51, 52, 53, 54, 55, 56, 57, 58, 59, 60, 61, 62, 63, 64, 65, 66, 67, 68, 69, 70, 71, 72, 73, 74, 75, 76] (by decide +kernel) (by decide +kernel)
set_option maxRecDepth 20000 in
theorem gX8_sew_X8_moves : GoodIn wsX8_sew (wsV RX8 143 RX8 yX8_moves wsX8_moves) := goodIn_app (goodIn_of _ (by decide +kernel)) ggX8_sew_X8_moves
theorem dX8_sew_0 : decode cX8_sew 0 = .ok (.aload_n 0, 1) := by decide +kernel
theorem dX8_sew_1 : decode cX8_sew 1 = .ok (.iload_n 1, 1) := by decide +kernel
theorem dX8_sew_2 : decode cX8_sew 2 = .ok (.invokevirtual 152, 3) := by decide +kernel
theorem dX8_sew_5 : decode cX8_sew 5 = .ok (.istore_n 3, 1) := by decide +kernel
theorem dX8_sew_6 : decode cX8_sew 6 = .ok (.iload_n 2, 1) := by decide +kernel
theorem dX8_sew_7 : decode cX8_sew 7 = .ok (.iconst 0, 1) := by decide +kernel
theorem dX8_sew_8 : decode cX8_sew 8 = .ok (.iconst 4, 1) := by decide +kernel
theorem dX8_sew_9 : decode cX8_sew 9 = .ok (.invokestatic 75, 3) := by decide +kernel
theorem dX8_sew_12 : decode cX8_sew 12 = .ok (.istore 4, 2) := by decide +kernel
theorem dX8_sew_14 : decode cX8_sew 14 = .ok (.aload_n 0, 1) := by decide +kernel
theorem dX8_sew_15 : decode cX8_sew 15 = .ok (.iload_n 3, 1) := by decide +kernel
theorem dX8_sew_16 : decode cX8_sew 16 = .ok (.iload 4, 2) := by decide +kernel
theorem dX8_sew_18 : decode cX8_sew 18 = .ok (.iload_n 3, 1) := by decide +kernel
theorem dX8_sew_19 : decode cX8_sew 19 = .ok (.ifCond .eq 21, 3) := by decide +kernel
theorem dX8_sew_22 : decode cX8_sew 22 = .ok (.iload 4, 2) := by decide +kernel
theorem dX8_sew_24 : decode cX8_sew 24 = .ok (.ifCond .eq 16, 3) := by decide +kernel
theorem dX8_sew_27 : decode cX8_sew 27 = .ok (.aload_n 0, 1) := by decide +kernel
theorem dX8_sew_28 : decode cX8_sew 28 = .ok (.iload_n 1, 1) := by decide +kernel
theorem dX8_sew_29 : decode cX8_sew 29 = .ok (.iload_n 2, 1) := by decide +kernel
theorem dX8_sew_30 : decode cX8_sew 30 = .ok (.invokevirtual 155, 3) := by decide +kernel
theorem dX8_sew_33 : decode cX8_sew 33 = .ok (.ifCond .eq 7, 3) := by decide +kernel
theorem dX8_sew_36 : decode cX8_sew 36 = .ok (.iconst 1, 1) := by decide +kernel
theorem dX8_sew_37 : decode cX8_sew 37 = .ok (.goto 4, 3) := by decide +kernel
theorem dX8_sew_40 : decode cX8_sew 40 = .ok (.iconst 0, 1) := by decide +kernel
theorem dX8_sew_41 : decode cX8_sew 41 = .ok (.invokevirtual 83, 3) := by decide +kernel
theorem dX8_sew_44 : decode cX8_sew 44 = .ok (.ifCond .ne 5, 3) := by decide +kernel
theorem dX8_sew_47 : decode cX8_sew 47 = .ok (.iconst 0, 1) := by decide +kernel
theorem dX8_sew_48 : decode cX8_sew 48 = .ok (.ireturn, 1) := by decide +kernel
theorem dX8_sew_49 : decode cX8_sew 49 = .ok (.aload_n 0, 1) := by decide +kernel
theorem dX8_sew_50 : decode cX8_sew 50 = .ok (.getfield 41, 3) := by decide +kernel
theorem dX8_sew_53 : decode cX8_sew 53 = .ok (.sipush 200, 3) := by decide +kernel
theorem dX8_sew_56 : decode cX8_sew 56 = .ok (.iload_n 1, 1) := by decide +kernel
theorem dX8_sew_57 : decode cX8_sew 57 = .ok (.imul, 1) := by decide +kernel
theorem dX8_sew_58 : decode cX8_sew 58 = .ok (.aload_n 0, 1) := by decide +kernel
theorem dX8_sew_59 : decode cX8_sew 59 = .ok (.getfield 38, 3) := by decide +kernel
theorem dX8_sew_62 : decode cX8_sew 62 = .ok (.iload_n 1, 1) := by decide +kernel
theorem dX8_sew_63 : decode cX8_sew 63 = .ok (.iaload, 1) := by decide +kernel
theorem dX8_sew_64 : decode cX8_sew 64 = .ok (.iadd, 1) := by decide +kernel
theorem dX8_sew_65 : decode cX8_sew 65 = .ok (.iload_n 2, 1) := by decide +kernel
theorem dX8_sew_66 : decode cX8_sew 66 = .ok (.iastore, 1) := by decide +kernel
theorem dX8_sew_67 : decode cX8_sew 67 = .ok (.aload_n 0, 1) := by decide +kernel
theorem dX8_sew_68 : decode cX8_sew 68 = .ok (.getfield 38, 3) := by decide +kernel
theorem dX8_sew_71 : decode cX8_sew 71 = .ok (.iload_n 1, 1) := by decide +kernel
theorem dX8_sew_72 : decode cX8_sew 72 = .ok (.dup2, 1) := by decide +kernel
theorem dX8_sew_73 : decode cX8_sew 73 = .ok (.iaload, 1) := by decide +kernel
theorem dX8_sew_74 : decode cX8_sew 74 = .ok (.iconst 1, 1) := by decide +kernel
theorem dX8_sew_75 : decode cX8_sew 75 = .ok (.iadd, 1) := by decide +kernel
theorem dX8_sew_76 : decode cX8_sew 76 = .ok (.iastore, 1) := by decide +kernel
theorem dX8_sew_77 : decode cX8_sew 77 = .ok (.aload_n 0, 1) := by decide +kernel
theorem dX8_sew_78 : decode cX8_sew 78 = .ok (.iload_n 2, 1) := by decide +kernel
theorem dX8_sew_79 : decode cX8_sew 79 = .ok (.invokevirtual 143, 3) := by decide +kernel
theorem dX8_sew_82 : decode cX8_sew 82 = .ok (.aload_n 0, 1) := by decide +kernel
theorem dX8_sew_83 : decode cX8_sew 83 = .ok (.getfield 125, 3) := by decide +kernel
theorem dX8_sew_86 : decode cX8_sew 86 = .ok (.ireturn, 1) := by decide +kernel
set_option maxRecDepth 20000 in
theorem ggX8_unsew_X8_isBook : GoodIn wsX8_unsew wsX8_isBook := goodIn_r _ [7, 8, 9, 10, 6, 11, 39, 40, 41, 42, 43, 44, 45, 46, 47, 48, 49, 50, 51, 52, 53, 54, 55, 56, 57, 58, 59, 60, 61, 62, 63, 64, 65, 66] (by decide +kernel) (by decide +kernel)
set_option maxRecDepth 20000 in
theorem gX8_unsew_X8_isBook : GoodIn wsX8_unsew (wsV RX8 152 RX8 yX8_isBook wsX8_isBook) := goodIn_app (goodIn_of _ (by decide +kernel)) ggX8_unsew_X8_isBook
set_option maxRecDepth 20000 in
theorem ggX8_unsew_X8_in : GoodIn wsX8_unsew wsX8_in := goodIn_r _ [11] (by decide +kernel) (by decide +kernel)
set_option maxRecDepth 20000 in
theorem gX8_unsew_X8_in : GoodIn wsX8_unsew (va_wsS RX8 75 yX8_in wsX8_in) := goodIn_app (goodIn_of _ (by decide +kernel)) ggX8_unsew_X8_in
set_option maxRecDepth 20000 in
theorem ggX8_unsew_X8_goes : GoodIn wsX8_unsew wsX8_goes := goodIn_r _ [15, 16, 39, 40, 41, 42, 43, 44, 45, 46, 47, 48, 49, 50, 51, 52, 53, 54, 55, 56, 57, 58, 59, 60, 61, 62, 63, 64, 65, 66] (by decide +kernel) (by decide +kernel)
set_option maxRecDepth 20000 in
theorem gX8_unsew_X8_goes : GoodIn wsX8_unsew (wsV RX8 83 RX8 yX8_goes wsX8_goes) := goodIn_app (goodIn_of _ (by decide +kernel)) ggX8_unsew_X8_goes
set_option maxRecDepth 20000 in
theorem ggX8_unsew_X8_follows : GoodIn wsX8_unsew wsX8_follows := goodIn_r _ [20, 21, 22, 2, 23, 24, 25, 1, 26, 27, 28, 29, 6, 30, 31, 32, 33, 34, 35, 36, 37, 38, 39, 40, 41, 42, 43, 44, 45, 46, 47, 48, 49, 50, 51, 52, 53, 54, 55, 56, 57, 58, 59, 60, 61, 62, 63, 64, 65, 66] (by decide +kernel) (by decide +kernel)
set_option maxRecDepth 20000 in
theorem gX8_unsew_X8_follows : GoodIn wsX8_unsew (wsV RX8 145 RX8 yX8_follows wsX8_follows) := goodIn_app (goodIn_of _ (by decide +kernel)) ggX8_unsew_X8_follows
theorem dX8_unsew_0 : decode cX8_unsew 0 = .ok (.aload_n 0, 1) := by decide +kernel
theorem dX8_unsew_1 : decode cX8_unsew 1 = .ok (.iload_n 1, 1) := by decide +kernel
theorem dX8_unsew_2 : decode cX8_unsew 2 = .ok (.invokevirtual 152, 3) := by decide +kernel
theorem dX8_unsew_5 : decode cX8_unsew 5 = .ok (.istore_n 3, 1) := by decide +kernel
theorem dX8_unsew_6 : decode cX8_unsew 6 = .ok (.aload_n 0, 1) := by decide +kernel
theorem dX8_unsew_7 : decode cX8_unsew 7 = .ok (.iload_n 3, 1) := by decide +kernel
theorem dX8_unsew_8 : decode cX8_unsew 8 = .ok (.iload_n 2, 1) := by decide +kernel
theorem dX8_unsew_9 : decode cX8_unsew 9 = .ok (.iconst 1, 1) := by decide +kernel
theorem dX8_unsew_10 : decode cX8_unsew 10 = .ok (.sipush 200, 3) := by decide +kernel
theorem dX8_unsew_13 : decode cX8_unsew 13 = .ok (.invokestatic 75, 3) := by decide +kernel
theorem dX8_unsew_16 : decode cX8_unsew 16 = .ok (.iload_n 3, 1) := by decide +kernel
theorem dX8_unsew_17 : decode cX8_unsew 17 = .ok (.ifCond .eq 25, 3) := by decide +kernel
theorem dX8_unsew_20 : decode cX8_unsew 20 = .ok (.aload_n 0, 1) := by decide +kernel
theorem dX8_unsew_21 : decode cX8_unsew 21 = .ok (.getfield 38, 3) := by decide +kernel
theorem dX8_unsew_24 : decode cX8_unsew 24 = .ok (.iload_n 3, 1) := by decide +kernel
theorem dX8_unsew_25 : decode cX8_unsew 25 = .ok (.ifCond .eq 7, 3) := by decide +kernel
theorem dX8_unsew_28 : decode cX8_unsew 28 = .ok (.iload_n 1, 1) := by decide +kernel
theorem dX8_unsew_29 : decode cX8_unsew 29 = .ok (.goto 4, 3) := by decide +kernel
theorem dX8_unsew_32 : decode cX8_unsew 32 = .ok (.iconst 0, 1) := by decide +kernel
theorem dX8_unsew_33 : decode cX8_unsew 33 = .ok (.iaload, 1) := by decide +kernel
theorem dX8_unsew_34 : decode cX8_unsew 34 = .ok (.iload_n 2, 1) := by decide +kernel
theorem dX8_unsew_35 : decode cX8_unsew 35 = .ok (.if_icmp .lt 7, 3) := by decide +kernel
theorem dX8_unsew_38 : decode cX8_unsew 38 = .ok (.iconst 1, 1) := by decide +kernel
theorem dX8_unsew_39 : decode cX8_unsew 39 = .ok (.goto 4, 3) := by decide +kernel
theorem dX8_unsew_42 : decode cX8_unsew 42 = .ok (.iconst 0, 1) := by decide +kernel
theorem dX8_unsew_43 : decode cX8_unsew 43 = .ok (.invokevirtual 83, 3) := by decide +kernel
theorem dX8_unsew_46 : decode cX8_unsew 46 = .ok (.ifCond .ne 5, 3) := by decide +kernel
theorem dX8_unsew_49 : decode cX8_unsew 49 = .ok (.iconst 0, 1) := by decide +kernel
theorem dX8_unsew_50 : decode cX8_unsew 50 = .ok (.ireturn, 1) := by decide +kernel
theorem dX8_unsew_51 : decode cX8_unsew 51 = .ok (.aload_n 0, 1) := by decide +kernel
theorem dX8_unsew_52 : decode cX8_unsew 52 = .ok (.getfield 38, 3) := by decide +kernel
theorem dX8_unsew_55 : decode cX8_unsew 55 = .ok (.iload_n 1, 1) := by decide +kernel
theorem dX8_unsew_56 : decode cX8_unsew 56 = .ok (.dup2, 1) := by decide +kernel
theorem dX8_unsew_57 : decode cX8_unsew 57 = .ok (.iaload, 1) := by decide +kernel
theorem dX8_unsew_58 : decode cX8_unsew 58 = .ok (.iload_n 2, 1) := by decide +kernel
theorem dX8_unsew_59 : decode cX8_unsew 59 = .ok (.isub, 1) := by decide +kernel
theorem dX8_unsew_60 : decode cX8_unsew 60 = .ok (.iastore, 1) := by decide +kernel
theorem dX8_unsew_61 : decode cX8_unsew 61 = .ok (.aload_n 0, 1) := by decide +kernel
theorem dX8_unsew_62 : decode cX8_unsew 62 = .ok (.iload_n 1, 1) := by decide +kernel
theorem dX8_unsew_63 : decode cX8_unsew 63 = .ok (.invokevirtual 145, 3) := by decide +kernel
theorem dX8_unsew_66 : decode cX8_unsew 66 = .ok (.aload_n 0, 1) := by decide +kernel
theorem dX8_unsew_67 : decode cX8_unsew 67 = .ok (.getfield 125, 3) := by decide +kernel
theorem dX8_unsew_70 : decode cX8_unsew 70 = .ok (.ireturn, 1) := by decide +kernel
theorem dX8_holds_0 : decode cX8_holds 0 = .ok (.iconst 0, 1) := by decide +kernel
theorem dX8_holds_1 : decode cX8_holds 1 = .ok (.istore_n 3, 1) := by decide +kernel
theorem dX8_holds_2 : decode cX8_holds 2 = .ok (.iconst 0, 1) := by decide +kernel
theorem dX8_holds_3 : decode cX8_holds 3 = .ok (.istore 4, 2) := by decide +kernel
theorem dX8_holds_5 : decode cX8_holds 5 = .ok (.iload 4, 2) := by decide +kernel
theorem dX8_holds_7 : decode cX8_holds 7 = .ok (.aload_n 0, 1) := by decide +kernel
theorem dX8_holds_8 : decode cX8_holds 8 = .ok (.getfield 25, 3) := by decide +kernel
theorem dX8_holds_11 : decode cX8_holds 11 = .ok (.iload_n 1, 1) := by decide +kernel
theorem dX8_holds_12 : decode cX8_holds 12 = .ok (.iaload, 1) := by decide +kernel
theorem dX8_holds_13 : decode cX8_holds 13 = .ok (.iconst 1, 1) := by decide +kernel
theorem dX8_holds_14 : decode cX8_holds 14 = .ok (.isub, 1) := by decide +kernel
theorem dX8_holds_15 : decode cX8_holds 15 = .ok (.if_icmp .ge 31, 3) := by decide +kernel
theorem dX8_holds_18 : decode cX8_holds 18 = .ok (.iload_n 3, 1) := by decide +kernel
theorem dX8_holds_19 : decode cX8_holds 19 = .ok (.aload_n 0, 1) := by decide +kernel
theorem dX8_holds_20 : decode cX8_holds 20 = .ok (.getfield 44, 3) := by decide +kernel
theorem dX8_holds_23 : decode cX8_holds 23 = .ok (.iconst 5, 1) := by decide +kernel
theorem dX8_holds_24 : decode cX8_holds 24 = .ok (.iload_n 2, 1) := by decide +kernel
theorem dX8_holds_25 : decode cX8_holds 25 = .ok (.imul, 1) := by decide +kernel
theorem dX8_holds_26 : decode cX8_holds 26 = .ok (.iload 4, 2) := by decide +kernel
theorem dX8_holds_28 : decode cX8_holds 28 = .ok (.iadd, 1) := by decide +kernel
theorem dX8_holds_29 : decode cX8_holds 29 = .ok (.iaload, 1) := by decide +kernel
theorem dX8_holds_30 : decode cX8_holds 30 = .ok (.ifCond .le 7, 3) := by decide +kernel
theorem dX8_holds_33 : decode cX8_holds 33 = .ok (.iconst 1, 1) := by decide +kernel
theorem dX8_holds_34 : decode cX8_holds 34 = .ok (.goto 4, 3) := by decide +kernel
theorem dX8_holds_37 : decode cX8_holds 37 = .ok (.iconst 0, 1) := by decide +kernel
theorem dX8_holds_38 : decode cX8_holds 38 = .ok (.iadd, 1) := by decide +kernel
theorem dX8_holds_39 : decode cX8_holds 39 = .ok (.istore_n 3, 1) := by decide +kernel
theorem dX8_holds_40 : decode cX8_holds 40 = .ok (.iinc 4 1, 3) := by decide +kernel
theorem dX8_holds_43 : decode cX8_holds 43 = .ok (.goto (-38), 3) := by decide +kernel
theorem dX8_holds_46 : decode cX8_holds 46 = .ok (.iload_n 3, 1) := by decide +kernel
theorem dX8_holds_47 : decode cX8_holds 47 = .ok (.aload_n 0, 1) := by decide +kernel
theorem dX8_holds_48 : decode cX8_holds 48 = .ok (.getfield 25, 3) := by decide +kernel
theorem dX8_holds_51 : decode cX8_holds 51 = .ok (.iload_n 1, 1) := by decide +kernel
theorem dX8_holds_52 : decode cX8_holds 52 = .ok (.iaload, 1) := by decide +kernel
theorem dX8_holds_53 : decode cX8_holds 53 = .ok (.iconst 2, 1) := by decide +kernel
theorem dX8_holds_54 : decode cX8_holds 54 = .ok (.idiv, 1) := by decide +kernel
theorem dX8_holds_55 : decode cX8_holds 55 = .ok (.if_icmp .lt 7, 3) := by decide +kernel
theorem dX8_holds_58 : decode cX8_holds 58 = .ok (.iconst 1, 1) := by decide +kernel
theorem dX8_holds_59 : decode cX8_holds 59 = .ok (.goto 4, 3) := by decide +kernel
theorem dX8_holds_62 : decode cX8_holds 62 = .ok (.iconst 0, 1) := by decide +kernel
theorem dX8_holds_63 : decode cX8_holds 63 = .ok (.ireturn, 1) := by decide +kernel
set_option maxRecDepth 20000 in
theorem ggX8_isSewn_X8_holds : GoodIn wsX8_isSewn wsX8_holds := goodIn_r _ [8, 9, 10, 11, 12, 13, 14, 15, 16, 17, 18, 19, 20, 21, 22, 23, 24, 25, 26, 27, 28, 29, 30, 31, 32, 33, 34, 35, 36, 37, 38] (by decide +kernel) (by decide +kernel)
set_option maxRecDepth 20000 in
theorem gX8_isSewn_X8_holds : GoodIn wsX8_isSewn (wsV RX8 158 RX8 yX8_holds wsX8_holds) := goodIn_app (goodIn_of _ (by decide +kernel)) ggX8_isSewn_X8_holds
theorem dX8_isSewn_0 : decode cX8_isSewn 0 = .ok (.aload_n 0, 1) := by decide +kernel
theorem dX8_isSewn_1 : decode cX8_isSewn 1 = .ok (.getfield 131, 3) := by decide +kernel
theorem dX8_isSewn_4 : decode cX8_isSewn 4 = .ok (.ifCond .ne 7, 3) := by decide +kernel
theorem dX8_isSewn_7 : decode cX8_isSewn 7 = .ok (.iconst 1, 1) := by decide +kernel
theorem dX8_isSewn_8 : decode cX8_isSewn 8 = .ok (.goto 4, 3) := by decide +kernel
theorem dX8_isSewn_11 : decode cX8_isSewn 11 = .ok (.iconst 0, 1) := by decide +kernel
theorem dX8_isSewn_12 : decode cX8_isSewn 12 = .ok (.istore_n 2, 1) := by decide +kernel
theorem dX8_isSewn_13 : decode cX8_isSewn 13 = .ok (.iconst 0, 1) := by decide +kernel
theorem dX8_isSewn_14 : decode cX8_isSewn 14 = .ok (.istore_n 3, 1) := by decide +kernel
theorem dX8_isSewn_15 : decode cX8_isSewn 15 = .ok (.iload_n 3, 1) := by decide +kernel
theorem dX8_isSewn_16 : decode cX8_isSewn 16 = .ok (.aload_n 0, 1) := by decide +kernel
theorem dX8_isSewn_17 : decode cX8_isSewn 17 = .ok (.getfield 19, 3) := by decide +kernel
theorem dX8_isSewn_20 : decode cX8_isSewn 20 = .ok (.iload_n 1, 1) := by decide +kernel
theorem dX8_isSewn_21 : decode cX8_isSewn 21 = .ok (.iaload, 1) := by decide +kernel
theorem dX8_isSewn_22 : decode cX8_isSewn 22 = .ok (.if_icmp .ge 49, 3) := by decide +kernel
theorem dX8_isSewn_25 : decode cX8_isSewn 25 = .ok (.iload_n 2, 1) := by decide +kernel
theorem dX8_isSewn_26 : decode cX8_isSewn 26 = .ok (.ifCond .eq 37, 3) := by decide +kernel
theorem dX8_isSewn_29 : decode cX8_isSewn 29 = .ok (.aload_n 0, 1) := by decide +kernel
theorem dX8_isSewn_30 : decode cX8_isSewn 30 = .ok (.iload_n 1, 1) := by decide +kernel
theorem dX8_isSewn_31 : decode cX8_isSewn 31 = .ok (.iload_n 3, 1) := by decide +kernel
theorem dX8_isSewn_32 : decode cX8_isSewn 32 = .ok (.invokevirtual 158, 3) := by decide +kernel
theorem dX8_isSewn_35 : decode cX8_isSewn 35 = .ok (.ifCond .eq 28, 3) := by decide +kernel
theorem dX8_isSewn_38 : decode cX8_isSewn 38 = .ok (.iload_n 3, 1) := by decide +kernel
theorem dX8_isSewn_39 : decode cX8_isSewn 39 = .ok (.aload_n 0, 1) := by decide +kernel
theorem dX8_isSewn_40 : decode cX8_isSewn 40 = .ok (.getfield 19, 3) := by decide +kernel
theorem dX8_isSewn_43 : decode cX8_isSewn 43 = .ok (.iload_n 1, 1) := by decide +kernel
theorem dX8_isSewn_44 : decode cX8_isSewn 44 = .ok (.iaload, 1) := by decide +kernel
theorem dX8_isSewn_45 : decode cX8_isSewn 45 = .ok (.iconst 1, 1) := by decide +kernel
theorem dX8_isSewn_46 : decode cX8_isSewn 46 = .ok (.isub, 1) := by decide +kernel
theorem dX8_isSewn_47 : decode cX8_isSewn 47 = .ok (.if_icmp .eq 12, 3) := by decide +kernel
theorem dX8_isSewn_50 : decode cX8_isSewn 50 = .ok (.aload_n 0, 1) := by decide +kernel
theorem dX8_isSewn_51 : decode cX8_isSewn 51 = .ok (.getfield 47, 3) := by decide +kernel
theorem dX8_isSewn_54 : decode cX8_isSewn 54 = .ok (.iload_n 3, 1) := by decide +kernel
theorem dX8_isSewn_55 : decode cX8_isSewn 55 = .ok (.baload, 1) := by decide +kernel
theorem dX8_isSewn_56 : decode cX8_isSewn 56 = .ok (.ifCond .eq 7, 3) := by decide +kernel
theorem dX8_isSewn_59 : decode cX8_isSewn 59 = .ok (.iconst 1, 1) := by decide +kernel
theorem dX8_isSewn_60 : decode cX8_isSewn 60 = .ok (.goto 4, 3) := by decide +kernel
theorem dX8_isSewn_63 : decode cX8_isSewn 63 = .ok (.iconst 0, 1) := by decide +kernel
theorem dX8_isSewn_64 : decode cX8_isSewn 64 = .ok (.istore_n 2, 1) := by decide +kernel
theorem dX8_isSewn_65 : decode cX8_isSewn 65 = .ok (.iinc 3 1, 3) := by decide +kernel
theorem dX8_isSewn_68 : decode cX8_isSewn 68 = .ok (.goto (-53), 3) := by decide +kernel
theorem dX8_isSewn_71 : decode cX8_isSewn 71 = .ok (.iload_n 2, 1) := by decide +kernel
theorem dX8_isSewn_72 : decode cX8_isSewn 72 = .ok (.ireturn, 1) := by decide +kernel
set_option maxRecDepth 20000 in
theorem ggX8_ofThread_X8_isBook : GoodIn wsX8_ofThread wsX8_isBook := goodIn_r _ [10, 11, 12, 13, 9, 14, 49, 50, 51, 52, 53, 54, 55, 56, 57, 58, 59, 60, 61, 62, 63, 64, 65, 66, 67, 68, 69, 70, 71, 72, 73, 74, 75, 76] (by decide +kernel) (by decide +kernel)
set_option maxRecDepth 20000 in
theorem gX8_ofThread_X8_isBook : GoodIn wsX8_ofThread (wsV RX8 152 RX8 yX8_isBook wsX8_isBook) := goodIn_app (goodIn_of _ (by decide +kernel)) ggX8_ofThread_X8_isBook
set_option maxRecDepth 20000 in
theorem ggX8_ofThread_X8_in : GoodIn wsX8_ofThread wsX8_in := goodIn_r _ [14] (by decide +kernel) (by decide +kernel)
set_option maxRecDepth 20000 in
theorem gX8_ofThread_X8_in : GoodIn wsX8_ofThread (va_wsS RX8 75 yX8_in wsX8_in) := goodIn_app (goodIn_of _ (by decide +kernel)) ggX8_ofThread_X8_in
set_option maxRecDepth 20000 in
theorem ggX8_ofThread_X8_goes : GoodIn wsX8_ofThread wsX8_goes := goodIn_r _ [18, 19, 49, 50, 51, 52, 53, 54, 55, 56, 57, 58, 59, 60, 61, 62, 63, 64, 65, 66, 67, 68, 69, 70, 71, 72, 73, 74, 75, 76] (by decide +kernel) (by decide +kernel)
set_option maxRecDepth 20000 in
theorem gX8_ofThread_X8_goes : GoodIn wsX8_ofThread (wsV RX8 83 RX8 yX8_goes wsX8_goes) := goodIn_app (goodIn_of _ (by decide +kernel)) ggX8_ofThread_X8_goes
set_option maxRecDepth 20000 in
theorem ggX8_ofThread_X8_follows : GoodIn wsX8_ofThread wsX8_follows := goodIn_r _ [23, 24, 25, 1, 2, 3, 4, 5, 26, 27, 28, 29, 9, 30, 31, 32, 33, 34, 35, 36, 37, 38, 49, 50, 51, 52, 53, 54, 55, 56, 57, 58, 59, 60, 61, 62, 63, 64, 65, 66, 67, 68, 69, 70, 71, 72, 73, 74, 75, 76] (by decide +kernel) (by decide +kernel)
set_option maxRecDepth 20000 in
theorem gX8_ofThread_X8_follows : GoodIn wsX8_ofThread (wsV RX8 145 RX8 yX8_follows wsX8_follows) := goodIn_app (goodIn_of _ (by decide +kernel)) ggX8_ofThread_X8_follows
set_option maxRecDepth 20000 in
theorem ggX8_ofThread_X8_isSewn : GoodIn wsX8_ofThread wsX8_isSewn := goodIn_r _ [42, 4, 43, 25, 44, 45, 46, 9, 47, 48, 24, 49, 50, 51, 52, 53, 54, 55, 56, 57, 58, 59, 60, 61, 62, 63, 64, 65, 66, 67, 68, 69, 70, 71, 72, 73, 74, 75, 76] (by decide +kernel) (by decide +kernel)
set_option maxRecDepth 20000 in
theorem gX8_ofThread_X8_isSewn : GoodIn wsX8_ofThread (wsV RX8 161 RX8 yX8_isSewn wsX8_isSewn) := goodIn_app (goodIn_of _ (by decide +kernel)) ggX8_ofThread_X8_isSewn
theorem dX8_ofThread_0 : decode cX8_ofThread 0 = .ok (.aload_n 0, 1) := by decide +kernel
theorem dX8_ofThread_1 : decode cX8_ofThread 1 = .ok (.aload_n 0, 1) := by decide +kernel
theorem dX8_ofThread_2 : decode cX8_ofThread 2 = .ok (.iload_n 1, 1) := by decide +kernel
theorem dX8_ofThread_3 : decode cX8_ofThread 3 = .ok (.invokevirtual 152, 3) := by decide +kernel
theorem dX8_ofThread_6 : decode cX8_ofThread 6 = .ok (.iload_n 2, 1) := by decide +kernel
theorem dX8_ofThread_7 : decode cX8_ofThread 7 = .ok (.iconst 0, 1) := by decide +kernel
theorem dX8_ofThread_8 : decode cX8_ofThread 8 = .ok (.iconst 5, 1) := by decide +kernel
theorem dX8_ofThread_9 : decode cX8_ofThread 9 = .ok (.invokestatic 75, 3) := by decide +kernel
theorem dX8_ofThread_12 : decode cX8_ofThread 12 = .ok (.iconst 1, 1) := by decide +kernel
theorem dX8_ofThread_13 : decode cX8_ofThread 13 = .ok (.invokevirtual 83, 3) := by decide +kernel
theorem dX8_ofThread_16 : decode cX8_ofThread 16 = .ok (.ifCond .ne 5, 3) := by decide +kernel
theorem dX8_ofThread_19 : decode cX8_ofThread 19 = .ok (.iconst 0, 1) := by decide +kernel
theorem dX8_ofThread_20 : decode cX8_ofThread 20 = .ok (.ireturn, 1) := by decide +kernel
theorem dX8_ofThread_21 : decode cX8_ofThread 21 = .ok (.aload_n 0, 1) := by decide +kernel
theorem dX8_ofThread_22 : decode cX8_ofThread 22 = .ok (.iload_n 1, 1) := by decide +kernel
theorem dX8_ofThread_23 : decode cX8_ofThread 23 = .ok (.invokevirtual 145, 3) := by decide +kernel
theorem dX8_ofThread_26 : decode cX8_ofThread 26 = .ok (.iload_n 2, 1) := by decide +kernel
theorem dX8_ofThread_27 : decode cX8_ofThread 27 = .ok (.ifCond .ne 10, 3) := by decide +kernel
theorem dX8_ofThread_30 : decode cX8_ofThread 30 = .ok (.aload_n 0, 1) := by decide +kernel
theorem dX8_ofThread_31 : decode cX8_ofThread 31 = .ok (.getfield 125, 3) := by decide +kernel
theorem dX8_ofThread_34 : decode cX8_ofThread 34 = .ok (.goto 74, 3) := by decide +kernel
theorem dX8_ofThread_37 : decode cX8_ofThread 37 = .ok (.iload_n 2, 1) := by decide +kernel
theorem dX8_ofThread_38 : decode cX8_ofThread 38 = .ok (.iconst 1, 1) := by decide +kernel
theorem dX8_ofThread_39 : decode cX8_ofThread 39 = .ok (.if_icmp .ne 10, 3) := by decide +kernel
theorem dX8_ofThread_42 : decode cX8_ofThread 42 = .ok (.aload_n 0, 1) := by decide +kernel
theorem dX8_ofThread_43 : decode cX8_ofThread 43 = .ok (.getfield 128, 3) := by decide +kernel
theorem dX8_ofThread_46 : decode cX8_ofThread 46 = .ok (.goto 62, 3) := by decide +kernel
theorem dX8_ofThread_49 : decode cX8_ofThread 49 = .ok (.iload_n 2, 1) := by decide +kernel
theorem dX8_ofThread_50 : decode cX8_ofThread 50 = .ok (.iconst 2, 1) := by decide +kernel
theorem dX8_ofThread_51 : decode cX8_ofThread 51 = .ok (.if_icmp .ne 10, 3) := by decide +kernel
theorem dX8_ofThread_54 : decode cX8_ofThread 54 = .ok (.aload_n 0, 1) := by decide +kernel
theorem dX8_ofThread_55 : decode cX8_ofThread 55 = .ok (.getfield 122, 3) := by decide +kernel
theorem dX8_ofThread_58 : decode cX8_ofThread 58 = .ok (.goto 50, 3) := by decide +kernel
theorem dX8_ofThread_61 : decode cX8_ofThread 61 = .ok (.iload_n 2, 1) := by decide +kernel
theorem dX8_ofThread_62 : decode cX8_ofThread 62 = .ok (.iconst 3, 1) := by decide +kernel
theorem dX8_ofThread_63 : decode cX8_ofThread 63 = .ok (.if_icmp .ne 18, 3) := by decide +kernel
theorem dX8_ofThread_66 : decode cX8_ofThread 66 = .ok (.aload_n 0, 1) := by decide +kernel
theorem dX8_ofThread_67 : decode cX8_ofThread 67 = .ok (.getfield 131, 3) := by decide +kernel
theorem dX8_ofThread_70 : decode cX8_ofThread 70 = .ok (.ifCond .eq 7, 3) := by decide +kernel
theorem dX8_ofThread_73 : decode cX8_ofThread 73 = .ok (.iconst 1, 1) := by decide +kernel
theorem dX8_ofThread_74 : decode cX8_ofThread 74 = .ok (.goto 34, 3) := by decide +kernel
theorem dX8_ofThread_77 : decode cX8_ofThread 77 = .ok (.iconst 0, 1) := by decide +kernel
theorem dX8_ofThread_78 : decode cX8_ofThread 78 = .ok (.goto 30, 3) := by decide +kernel
theorem dX8_ofThread_81 : decode cX8_ofThread 81 = .ok (.iload_n 2, 1) := by decide +kernel
theorem dX8_ofThread_82 : decode cX8_ofThread 82 = .ok (.iconst 4, 1) := by decide +kernel
theorem dX8_ofThread_83 : decode cX8_ofThread 83 = .ok (.if_icmp .ne 12, 3) := by decide +kernel
theorem dX8_ofThread_86 : decode cX8_ofThread 86 = .ok (.aload_n 0, 1) := by decide +kernel
theorem dX8_ofThread_87 : decode cX8_ofThread 87 = .ok (.getfield 38, 3) := by decide +kernel
theorem dX8_ofThread_90 : decode cX8_ofThread 90 = .ok (.iload_n 1, 1) := by decide +kernel
theorem dX8_ofThread_91 : decode cX8_ofThread 91 = .ok (.iaload, 1) := by decide +kernel
theorem dX8_ofThread_92 : decode cX8_ofThread 92 = .ok (.goto 16, 3) := by decide +kernel
theorem dX8_ofThread_95 : decode cX8_ofThread 95 = .ok (.aload_n 0, 1) := by decide +kernel
theorem dX8_ofThread_96 : decode cX8_ofThread 96 = .ok (.iload_n 1, 1) := by decide +kernel
theorem dX8_ofThread_97 : decode cX8_ofThread 97 = .ok (.invokevirtual 161, 3) := by decide +kernel
theorem dX8_ofThread_100 : decode cX8_ofThread 100 = .ok (.ifCond .eq 7, 3) := by decide +kernel
theorem dX8_ofThread_103 : decode cX8_ofThread 103 = .ok (.iconst 1, 1) := by decide +kernel
theorem dX8_ofThread_104 : decode cX8_ofThread 104 = .ok (.goto 4, 3) := by decide +kernel
theorem dX8_ofThread_107 : decode cX8_ofThread 107 = .ok (.iconst 0, 1) := by decide +kernel
theorem dX8_ofThread_108 : decode cX8_ofThread 108 = .ok (.ireturn, 1) := by decide +kernel
set_option maxRecDepth 20000 in
theorem ggX8_isGathering_X8_isBook : GoodIn wsX8_isGathering wsX8_isBook := goodIn_r _ [6, 7, 8, 9, 5, 10, 11, 12, 13, 14, 15, 16, 17, 18, 19, 20, 21, 22, 23, 24, 25, 26, 27, 28, 29, 30, 31, 32, 33, 34, 35, 36, 37, 38] (by decide +kernel) (by decide +kernel)
set_option maxRecDepth 20000 in
theorem gX8_isGathering_X8_isBook : GoodIn wsX8_isGathering (wsV RX8 152 RX8 yX8_isBook wsX8_isBook) := goodIn_app (goodIn_of _ (by decide +kernel)) ggX8_isGathering_X8_isBook
set_option maxRecDepth 20000 in
theorem ggX8_isGathering_X8_in : GoodIn wsX8_isGathering wsX8_in := goodIn_r _ [10] (by decide +kernel) (by decide +kernel)
set_option maxRecDepth 20000 in
theorem gX8_isGathering_X8_in : GoodIn wsX8_isGathering (va_wsS RX8 75 yX8_in wsX8_in) := goodIn_app (goodIn_of _ (by decide +kernel)) ggX8_isGathering_X8_in
theorem dX8_isGathering_0 : decode cX8_isGathering 0 = .ok (.aload_n 0, 1) := by decide +kernel
theorem dX8_isGathering_1 : decode cX8_isGathering 1 = .ok (.iload_n 1, 1) := by decide +kernel
theorem dX8_isGathering_2 : decode cX8_isGathering 2 = .ok (.invokevirtual 152, 3) := by decide +kernel
theorem dX8_isGathering_5 : decode cX8_isGathering 5 = .ok (.ifCond .eq 35, 3) := by decide +kernel
theorem dX8_isGathering_8 : decode cX8_isGathering 8 = .ok (.iload_n 2, 1) := by decide +kernel
theorem dX8_isGathering_9 : decode cX8_isGathering 9 = .ok (.iconst 0, 1) := by decide +kernel
theorem dX8_isGathering_10 : decode cX8_isGathering 10 = .ok (.aload_n 0, 1) := by decide +kernel
theorem dX8_isGathering_11 : decode cX8_isGathering 11 = .ok (.getfield 19, 3) := by decide +kernel
theorem dX8_isGathering_14 : decode cX8_isGathering 14 = .ok (.aload_n 0, 1) := by decide +kernel
theorem dX8_isGathering_15 : decode cX8_isGathering 15 = .ok (.iload_n 1, 1) := by decide +kernel
theorem dX8_isGathering_16 : decode cX8_isGathering 16 = .ok (.invokevirtual 152, 3) := by decide +kernel
theorem dX8_isGathering_19 : decode cX8_isGathering 19 = .ok (.ifCond .eq 7, 3) := by decide +kernel
theorem dX8_isGathering_22 : decode cX8_isGathering 22 = .ok (.iload_n 1, 1) := by decide +kernel
theorem dX8_isGathering_23 : decode cX8_isGathering 23 = .ok (.goto 4, 3) := by decide +kernel
theorem dX8_isGathering_26 : decode cX8_isGathering 26 = .ok (.iconst 0, 1) := by decide +kernel
theorem dX8_isGathering_27 : decode cX8_isGathering 27 = .ok (.iaload, 1) := by decide +kernel
theorem dX8_isGathering_28 : decode cX8_isGathering 28 = .ok (.iconst 1, 1) := by decide +kernel
theorem dX8_isGathering_29 : decode cX8_isGathering 29 = .ok (.isub, 1) := by decide +kernel
theorem dX8_isGathering_30 : decode cX8_isGathering 30 = .ok (.invokestatic 75, 3) := by decide +kernel
theorem dX8_isGathering_33 : decode cX8_isGathering 33 = .ok (.ifCond .eq 7, 3) := by decide +kernel
theorem dX8_isGathering_36 : decode cX8_isGathering 36 = .ok (.iconst 1, 1) := by decide +kernel
theorem dX8_isGathering_37 : decode cX8_isGathering 37 = .ok (.goto 4, 3) := by decide +kernel
theorem dX8_isGathering_40 : decode cX8_isGathering 40 = .ok (.iconst 0, 1) := by decide +kernel
theorem dX8_isGathering_41 : decode cX8_isGathering 41 = .ok (.ireturn, 1) := by decide +kernel
set_option maxRecDepth 20000 in
theorem ggX8_stitches_X8_isGathering : GoodIn wsX8_stitches wsX8_isGathering := goodIn_r _ [7, 8, 9, 10, 11, 6, 12, 13, 14, 15, 16, 45, 46, 47, 48, 49, 50, 51, 52, 53, 54, 55, 56, 57, 58, 59, 60, 61, 62, 63, 64, 65, 66, 67, 68, 69, 70, 71, 72] (by decide +kernel) (by decide +kernel)
set_option maxRecDepth 20000 in
theorem gX8_stitches_X8_isGathering : GoodIn wsX8_stitches (wsV RX8 164 RX8 yX8_isGathering wsX8_isGathering) := goodIn_app (goodIn_of _ (by decide +kernel)) ggX8_stitches_X8_isGathering
set_option maxRecDepth 20000 in
theorem ggX8_stitches_X8_isBook : GoodIn wsX8_stitches wsX8_isBook := goodIn_r _ [12, 13, 14, 15, 6, 16, 45, 46, 47, 48, 49, 50, 51, 52, 53, 54, 55, 56, 57, 58, 59, 60, 61, 62, 63, 64, 65, 66, 67, 68, 69, 70, 71, 72] (by decide +kernel) (by decide +kernel)
set_option maxRecDepth 20000 in
theorem gX8_stitches_X8_isBook : GoodIn wsX8_stitches (wsV RX8 152 RX8 yX8_isBook wsX8_isBook) := goodIn_app (goodIn_of _ (by decide +kernel)) ggX8_stitches_X8_isBook
set_option maxRecDepth 20000 in
theorem ggX8_stitches_X8_in : GoodIn wsX8_stitches wsX8_in := goodIn_r _ [16] (by decide +kernel) (by decide +kernel)
set_option maxRecDepth 20000 in
theorem gX8_stitches_X8_in : GoodIn wsX8_stitches (va_wsS RX8 75 yX8_in wsX8_in) := goodIn_app (goodIn_of _ (by decide +kernel)) ggX8_stitches_X8_in
set_option maxRecDepth 20000 in
theorem ggX8_stitches_X8_goes : GoodIn wsX8_stitches wsX8_goes := goodIn_r _ [20, 21, 45, 46, 47, 48, 49, 50, 51, 52, 53, 54, 55, 56, 57, 58, 59, 60, 61, 62, 63, 64, 65, 66, 67, 68, 69, 70, 71, 72] (by decide +kernel) (by decide +kernel)
set_option maxRecDepth 20000 in
theorem gX8_stitches_X8_goes : GoodIn wsX8_stitches (wsV RX8 83 RX8 yX8_goes wsX8_goes) := goodIn_app (goodIn_of _ (by decide +kernel)) ggX8_stitches_X8_goes
set_option maxRecDepth 20000 in
theorem ggX8_stitches_X8_follows : GoodIn wsX8_stitches wsX8_follows := goodIn_r _ [25, 2, 26, 27, 28, 29, 30, 31, 32, 33, 34, 35, 6, 36, 37, 38, 39, 40, 41, 42, 43, 44, 45, 46, 47, 48, 49, 50, 51, 52, 53, 54, 55, 56, 57, 58, 59, 60, 61, 62, 63, 64, 65, 66, 67, 68, 69, 70, 71, 72] (by decide +kernel) (by decide +kernel)
set_option maxRecDepth 20000 in
theorem gX8_stitches_X8_follows : GoodIn wsX8_stitches (wsV RX8 145 RX8 yX8_follows wsX8_follows) := goodIn_app (goodIn_of _ (by decide +kernel)) ggX8_stitches_X8_follows
theorem dX8_stitches_0 : decode cX8_stitches 0 = .ok (.aload_n 0, 1) := by decide +kernel
theorem dX8_stitches_1 : decode cX8_stitches 1 = .ok (.aload_n 0, 1) := by decide +kernel
theorem dX8_stitches_2 : decode cX8_stitches 2 = .ok (.iload_n 1, 1) := by decide +kernel
theorem dX8_stitches_3 : decode cX8_stitches 3 = .ok (.iload_n 2, 1) := by decide +kernel
theorem dX8_stitches_4 : decode cX8_stitches 4 = .ok (.invokevirtual 164, 3) := by decide +kernel
theorem dX8_stitches_7 : decode cX8_stitches 7 = .ok (.ifCond .eq 35, 3) := by decide +kernel
theorem dX8_stitches_10 : decode cX8_stitches 10 = .ok (.iload_n 3, 1) := by decide +kernel
theorem dX8_stitches_11 : decode cX8_stitches 11 = .ok (.iconst 0, 1) := by decide +kernel
theorem dX8_stitches_12 : decode cX8_stitches 12 = .ok (.aload_n 0, 1) := by decide +kernel
theorem dX8_stitches_13 : decode cX8_stitches 13 = .ok (.getfield 25, 3) := by decide +kernel
theorem dX8_stitches_16 : decode cX8_stitches 16 = .ok (.aload_n 0, 1) := by decide +kernel
theorem dX8_stitches_17 : decode cX8_stitches 17 = .ok (.iload_n 1, 1) := by decide +kernel
theorem dX8_stitches_18 : decode cX8_stitches 18 = .ok (.invokevirtual 152, 3) := by decide +kernel
theorem dX8_stitches_21 : decode cX8_stitches 21 = .ok (.ifCond .eq 7, 3) := by decide +kernel
theorem dX8_stitches_24 : decode cX8_stitches 24 = .ok (.iload_n 1, 1) := by decide +kernel
theorem dX8_stitches_25 : decode cX8_stitches 25 = .ok (.goto 4, 3) := by decide +kernel
theorem dX8_stitches_28 : decode cX8_stitches 28 = .ok (.iconst 0, 1) := by decide +kernel
theorem dX8_stitches_29 : decode cX8_stitches 29 = .ok (.iaload, 1) := by decide +kernel
theorem dX8_stitches_30 : decode cX8_stitches 30 = .ok (.iconst 2, 1) := by decide +kernel
theorem dX8_stitches_31 : decode cX8_stitches 31 = .ok (.isub, 1) := by decide +kernel
theorem dX8_stitches_32 : decode cX8_stitches 32 = .ok (.invokestatic 75, 3) := by decide +kernel
theorem dX8_stitches_35 : decode cX8_stitches 35 = .ok (.ifCond .eq 7, 3) := by decide +kernel
theorem dX8_stitches_38 : decode cX8_stitches 38 = .ok (.iconst 1, 1) := by decide +kernel
theorem dX8_stitches_39 : decode cX8_stitches 39 = .ok (.goto 4, 3) := by decide +kernel
theorem dX8_stitches_42 : decode cX8_stitches 42 = .ok (.iconst 0, 1) := by decide +kernel
theorem dX8_stitches_43 : decode cX8_stitches 43 = .ok (.iconst 1, 1) := by decide +kernel
theorem dX8_stitches_44 : decode cX8_stitches 44 = .ok (.iconst 1, 1) := by decide +kernel
theorem dX8_stitches_45 : decode cX8_stitches 45 = .ok (.invokevirtual 83, 3) := by decide +kernel
theorem dX8_stitches_48 : decode cX8_stitches 48 = .ok (.ifCond .ne 5, 3) := by decide +kernel
theorem dX8_stitches_51 : decode cX8_stitches 51 = .ok (.iconst 0, 1) := by decide +kernel
theorem dX8_stitches_52 : decode cX8_stitches 52 = .ok (.ireturn, 1) := by decide +kernel
theorem dX8_stitches_53 : decode cX8_stitches 53 = .ok (.aload_n 0, 1) := by decide +kernel
theorem dX8_stitches_54 : decode cX8_stitches 54 = .ok (.iload_n 1, 1) := by decide +kernel
theorem dX8_stitches_55 : decode cX8_stitches 55 = .ok (.invokevirtual 145, 3) := by decide +kernel
theorem dX8_stitches_58 : decode cX8_stitches 58 = .ok (.aload_n 0, 1) := by decide +kernel
theorem dX8_stitches_59 : decode cX8_stitches 59 = .ok (.getfield 44, 3) := by decide +kernel
theorem dX8_stitches_62 : decode cX8_stitches 62 = .ok (.iconst 5, 1) := by decide +kernel
theorem dX8_stitches_63 : decode cX8_stitches 63 = .ok (.iload_n 2, 1) := by decide +kernel
theorem dX8_stitches_64 : decode cX8_stitches 64 = .ok (.imul, 1) := by decide +kernel
theorem dX8_stitches_65 : decode cX8_stitches 65 = .ok (.iload_n 3, 1) := by decide +kernel
theorem dX8_stitches_66 : decode cX8_stitches 66 = .ok (.iadd, 1) := by decide +kernel
theorem dX8_stitches_67 : decode cX8_stitches 67 = .ok (.iaload, 1) := by decide +kernel
theorem dX8_stitches_68 : decode cX8_stitches 68 = .ok (.ireturn, 1) := by decide +kernel
set_option maxRecDepth 20000 in
theorem ggX8_isHeld_X8_isGathering : GoodIn wsX8_isHeld wsX8_isGathering := goodIn_r _ [5, 6, 7, 8, 9, 4, 10, 11, 12, 13, 14, 49, 50, 51, 52, 53, 54, 55, 56, 57, 58, 59, 60, 61, 62, 63, 64, 65, 66, 67, 68, 69, 70, 71, 72, 73, 74, 75, 76] (by decide +kernel) (by decide +kernel)
set_option maxRecDepth 20000 in
theorem gX8_isHeld_X8_isGathering : GoodIn wsX8_isHeld (wsV RX8 164 RX8 yX8_isGathering wsX8_isGathering) := goodIn_app (goodIn_of _ (by decide +kernel)) ggX8_isHeld_X8_isGathering
set_option maxRecDepth 20000 in
theorem ggX8_isHeld_X8_goes : GoodIn wsX8_isHeld wsX8_goes := goodIn_r _ [18, 19, 49, 50, 51, 52, 53, 54, 55, 56, 57, 58, 59, 60, 61, 62, 63, 64, 65, 66, 67, 68, 69, 70, 71, 72, 73, 74, 75, 76] (by decide +kernel) (by decide +kernel)
set_option maxRecDepth 20000 in
theorem gX8_isHeld_X8_goes : GoodIn wsX8_isHeld (wsV RX8 83 RX8 yX8_goes wsX8_goes) := goodIn_app (goodIn_of _ (by decide +kernel)) ggX8_isHeld_X8_goes
set_option maxRecDepth 20000 in
theorem ggX8_isHeld_X8_follows : GoodIn wsX8_isHeld wsX8_follows := goodIn_r _ [23, 24, 25, 26, 27, 28, 29, 30, 31, 32, 33, 34, 4, 35, 36, 37, 38, 39, 40, 41, 42, 43, 49, 50, 51, 52, 53, 54, 55, 56, 57, 58, 59, 60, 61, 62, 63, 64, 65, 66, 67, 68, 69, 70, 71, 72, 73, 74, 75, 76] (by decide +kernel) (by decide +kernel)
set_option maxRecDepth 20000 in
theorem gX8_isHeld_X8_follows : GoodIn wsX8_isHeld (wsV RX8 145 RX8 yX8_follows wsX8_follows) := goodIn_app (goodIn_of _ (by decide +kernel)) ggX8_isHeld_X8_follows
set_option maxRecDepth 20000 in
theorem ggX8_isHeld_X8_holds : GoodIn wsX8_isHeld wsX8_holds := goodIn_r _ [47, 48, 24, 49, 50, 51, 52, 53, 54, 55, 56, 57, 58, 59, 60, 61, 62, 63, 64, 65, 66, 67, 68, 69, 70, 71, 72, 73, 74, 75, 76] (by decide +kernel) (by decide +kernel)
set_option maxRecDepth 20000 in
theorem gX8_isHeld_X8_holds : GoodIn wsX8_isHeld (wsV RX8 158 RX8 yX8_holds wsX8_holds) := goodIn_app (goodIn_of _ (by decide +kernel)) ggX8_isHeld_X8_holds
theorem dX8_isHeld_0 : decode cX8_isHeld 0 = .ok (.aload_n 0, 1) := by decide +kernel
theorem dX8_isHeld_1 : decode cX8_isHeld 1 = .ok (.aload_n 0, 1) := by decide +kernel
theorem dX8_isHeld_2 : decode cX8_isHeld 2 = .ok (.iload_n 1, 1) := by decide +kernel
theorem dX8_isHeld_3 : decode cX8_isHeld 3 = .ok (.iload_n 2, 1) := by decide +kernel
theorem dX8_isHeld_4 : decode cX8_isHeld 4 = .ok (.invokevirtual 164, 3) := by decide +kernel
theorem dX8_isHeld_7 : decode cX8_isHeld 7 = .ok (.iconst 1, 1) := by decide +kernel
theorem dX8_isHeld_8 : decode cX8_isHeld 8 = .ok (.iconst 1, 1) := by decide +kernel
theorem dX8_isHeld_9 : decode cX8_isHeld 9 = .ok (.invokevirtual 83, 3) := by decide +kernel
theorem dX8_isHeld_12 : decode cX8_isHeld 12 = .ok (.ifCond .ne 5, 3) := by decide +kernel
theorem dX8_isHeld_15 : decode cX8_isHeld 15 = .ok (.iconst 0, 1) := by decide +kernel
theorem dX8_isHeld_16 : decode cX8_isHeld 16 = .ok (.ireturn, 1) := by decide +kernel
theorem dX8_isHeld_17 : decode cX8_isHeld 17 = .ok (.aload_n 0, 1) := by decide +kernel
theorem dX8_isHeld_18 : decode cX8_isHeld 18 = .ok (.iload_n 1, 1) := by decide +kernel
theorem dX8_isHeld_19 : decode cX8_isHeld 19 = .ok (.invokevirtual 145, 3) := by decide +kernel
theorem dX8_isHeld_22 : decode cX8_isHeld 22 = .ok (.aload_n 0, 1) := by decide +kernel
theorem dX8_isHeld_23 : decode cX8_isHeld 23 = .ok (.iload_n 1, 1) := by decide +kernel
theorem dX8_isHeld_24 : decode cX8_isHeld 24 = .ok (.iload_n 2, 1) := by decide +kernel
theorem dX8_isHeld_25 : decode cX8_isHeld 25 = .ok (.invokevirtual 158, 3) := by decide +kernel
theorem dX8_isHeld_28 : decode cX8_isHeld 28 = .ok (.ireturn, 1) := by decide +kernel
set_option maxRecDepth 20000 in
theorem ggX8_back_X8_isBook : GoodIn wsX8_back wsX8_isBook := goodIn_r _ [6, 7, 8, 9, 5, 10, 16, 17, 18, 19, 20, 21, 22, 23, 24, 25, 26, 27, 28, 29, 30, 31, 32, 33, 34, 35, 36, 37, 38, 39, 40, 41, 42, 43] (by decide +kernel) (by decide +kernel)
set_option maxRecDepth 20000 in
theorem gX8_back_X8_isBook : GoodIn wsX8_back (wsV RX8 152 RX8 yX8_isBook wsX8_isBook) := goodIn_app (goodIn_of _ (by decide +kernel)) ggX8_back_X8_isBook
set_option maxRecDepth 20000 in
theorem ggX8_back_X8_in : GoodIn wsX8_back wsX8_in := goodIn_r _ [10] (by decide +kernel) (by decide +kernel)
set_option maxRecDepth 20000 in
theorem gX8_back_X8_in : GoodIn wsX8_back (va_wsS RX8 75 yX8_in wsX8_in) := goodIn_app (goodIn_of _ (by decide +kernel)) ggX8_back_X8_in
set_option maxRecDepth 20000 in
theorem ggX8_back_X8_goes : GoodIn wsX8_back wsX8_goes := goodIn_r _ [14, 15, 16, 17, 18, 19, 20, 21, 22, 23, 24, 25, 26, 27, 28, 29, 30, 31, 32, 33, 34, 35, 36, 37, 38, 39, 40, 41, 42, 43] (by decide +kernel) (by decide +kernel)
set_option maxRecDepth 20000 in
theorem gX8_back_X8_goes : GoodIn wsX8_back (wsV RX8 83 RX8 yX8_goes wsX8_goes) := goodIn_app (goodIn_of _ (by decide +kernel)) ggX8_back_X8_goes
theorem dX8_back_0 : decode cX8_back 0 = .ok (.aload_n 0, 1) := by decide +kernel
theorem dX8_back_1 : decode cX8_back 1 = .ok (.aload_n 0, 1) := by decide +kernel
theorem dX8_back_2 : decode cX8_back 2 = .ok (.iload_n 1, 1) := by decide +kernel
theorem dX8_back_3 : decode cX8_back 3 = .ok (.invokevirtual 152, 3) := by decide +kernel
theorem dX8_back_6 : decode cX8_back 6 = .ok (.iload_n 2, 1) := by decide +kernel
theorem dX8_back_7 : decode cX8_back 7 = .ok (.iconst 0, 1) := by decide +kernel
theorem dX8_back_8 : decode cX8_back 8 = .ok (.iconst 2, 1) := by decide +kernel
theorem dX8_back_9 : decode cX8_back 9 = .ok (.invokestatic 75, 3) := by decide +kernel
theorem dX8_back_12 : decode cX8_back 12 = .ok (.iconst 1, 1) := by decide +kernel
theorem dX8_back_13 : decode cX8_back 13 = .ok (.invokevirtual 83, 3) := by decide +kernel
theorem dX8_back_16 : decode cX8_back 16 = .ok (.ifCond .ne 5, 3) := by decide +kernel
theorem dX8_back_19 : decode cX8_back 19 = .ok (.iconst 0, 1) := by decide +kernel
theorem dX8_back_20 : decode cX8_back 20 = .ok (.ireturn, 1) := by decide +kernel
theorem dX8_back_21 : decode cX8_back 21 = .ok (.aload_n 0, 1) := by decide +kernel
theorem dX8_back_22 : decode cX8_back 22 = .ok (.getfield 35, 3) := by decide +kernel
theorem dX8_back_25 : decode cX8_back 25 = .ok (.iload_n 1, 1) := by decide +kernel
theorem dX8_back_26 : decode cX8_back 26 = .ok (.iaload, 1) := by decide +kernel
theorem dX8_back_27 : decode cX8_back 27 = .ok (.istore_n 3, 1) := by decide +kernel
theorem dX8_back_28 : decode cX8_back 28 = .ok (.aload_n 0, 1) := by decide +kernel
theorem dX8_back_29 : decode cX8_back 29 = .ok (.getfield 35, 3) := by decide +kernel
theorem dX8_back_32 : decode cX8_back 32 = .ok (.iload_n 1, 1) := by decide +kernel
theorem dX8_back_33 : decode cX8_back 33 = .ok (.iload_n 2, 1) := by decide +kernel
theorem dX8_back_34 : decode cX8_back 34 = .ok (.iastore, 1) := by decide +kernel
theorem dX8_back_35 : decode cX8_back 35 = .ok (.iload_n 3, 1) := by decide +kernel
theorem dX8_back_36 : decode cX8_back 36 = .ok (.ireturn, 1) := by decide +kernel
set_option maxRecDepth 20000 in
theorem ggX8_swells_X8_follows : GoodIn wsX8_swells wsX8_follows := goodIn_r _ [7, 2, 8, 9, 10, 11, 12, 13, 14, 15, 16, 17, 6, 18, 19, 20, 21, 22, 23, 24, 25, 26, 27, 28, 29, 30, 31, 32, 33, 34, 35, 36, 37, 38, 39, 40, 41, 42, 43, 44, 45, 46, 47, 48, 49, 50, 51, 52, 53, 54] (by decide +kernel) (by decide +kernel)
set_option maxRecDepth 20000 in
theorem gX8_swells_X8_follows : GoodIn wsX8_swells (wsV RX8 145 RX8 yX8_follows wsX8_follows) := goodIn_app (goodIn_of _ (by decide +kernel)) ggX8_swells_X8_follows
theorem dX8_swells_0 : decode cX8_swells 0 = .ok (.aload_n 0, 1) := by decide +kernel
theorem dX8_swells_1 : decode cX8_swells 1 = .ok (.iload_n 1, 1) := by decide +kernel
theorem dX8_swells_2 : decode cX8_swells 2 = .ok (.invokevirtual 145, 3) := by decide +kernel
theorem dX8_swells_5 : decode cX8_swells 5 = .ok (.iconst 0, 1) := by decide +kernel
theorem dX8_swells_6 : decode cX8_swells 6 = .ok (.istore_n 2, 1) := by decide +kernel
theorem dX8_swells_7 : decode cX8_swells 7 = .ok (.iconst 0, 1) := by decide +kernel
theorem dX8_swells_8 : decode cX8_swells 8 = .ok (.istore_n 3, 1) := by decide +kernel
theorem dX8_swells_9 : decode cX8_swells 9 = .ok (.iload_n 3, 1) := by decide +kernel
theorem dX8_swells_10 : decode cX8_swells 10 = .ok (.aload_n 0, 1) := by decide +kernel
theorem dX8_swells_11 : decode cX8_swells 11 = .ok (.getfield 19, 3) := by decide +kernel
theorem dX8_swells_14 : decode cX8_swells 14 = .ok (.iload_n 1, 1) := by decide +kernel
theorem dX8_swells_15 : decode cX8_swells 15 = .ok (.iaload, 1) := by decide +kernel
theorem dX8_swells_16 : decode cX8_swells 16 = .ok (.if_icmp .ge 66, 3) := by decide +kernel
theorem dX8_swells_19 : decode cX8_swells 19 = .ok (.iconst 0, 1) := by decide +kernel
theorem dX8_swells_20 : decode cX8_swells 20 = .ok (.istore 4, 2) := by decide +kernel
theorem dX8_swells_22 : decode cX8_swells 22 = .ok (.iconst 0, 1) := by decide +kernel
theorem dX8_swells_23 : decode cX8_swells 23 = .ok (.istore 5, 2) := by decide +kernel
theorem dX8_swells_25 : decode cX8_swells 25 = .ok (.iload 5, 2) := by decide +kernel
theorem dX8_swells_27 : decode cX8_swells 27 = .ok (.iconst 5, 1) := by decide +kernel
theorem dX8_swells_28 : decode cX8_swells 28 = .ok (.if_icmp .ge 43, 3) := by decide +kernel
theorem dX8_swells_31 : decode cX8_swells 31 = .ok (.aload_n 0, 1) := by decide +kernel
theorem dX8_swells_32 : decode cX8_swells 32 = .ok (.getfield 44, 3) := by decide +kernel
theorem dX8_swells_35 : decode cX8_swells 35 = .ok (.iconst 5, 1) := by decide +kernel
theorem dX8_swells_36 : decode cX8_swells 36 = .ok (.iload_n 3, 1) := by decide +kernel
theorem dX8_swells_37 : decode cX8_swells 37 = .ok (.imul, 1) := by decide +kernel
theorem dX8_swells_38 : decode cX8_swells 38 = .ok (.iload 5, 2) := by decide +kernel
theorem dX8_swells_40 : decode cX8_swells 40 = .ok (.iadd, 1) := by decide +kernel
theorem dX8_swells_41 : decode cX8_swells 41 = .ok (.iaload, 1) := by decide +kernel
theorem dX8_swells_42 : decode cX8_swells 42 = .ok (.iload 4, 2) := by decide +kernel
theorem dX8_swells_44 : decode cX8_swells 44 = .ok (.if_icmp .le 17, 3) := by decide +kernel
theorem dX8_swells_47 : decode cX8_swells 47 = .ok (.aload_n 0, 1) := by decide +kernel
theorem dX8_swells_48 : decode cX8_swells 48 = .ok (.getfield 44, 3) := by decide +kernel
theorem dX8_swells_51 : decode cX8_swells 51 = .ok (.iconst 5, 1) := by decide +kernel
theorem dX8_swells_52 : decode cX8_swells 52 = .ok (.iload_n 3, 1) := by decide +kernel
theorem dX8_swells_53 : decode cX8_swells 53 = .ok (.imul, 1) := by decide +kernel
theorem dX8_swells_54 : decode cX8_swells 54 = .ok (.iload 5, 2) := by decide +kernel
theorem dX8_swells_56 : decode cX8_swells 56 = .ok (.iadd, 1) := by decide +kernel
theorem dX8_swells_57 : decode cX8_swells 57 = .ok (.iaload, 1) := by decide +kernel
theorem dX8_swells_58 : decode cX8_swells 58 = .ok (.goto 5, 3) := by decide +kernel
theorem dX8_swells_61 : decode cX8_swells 61 = .ok (.iload 4, 2) := by decide +kernel
theorem dX8_swells_63 : decode cX8_swells 63 = .ok (.istore 4, 2) := by decide +kernel
theorem dX8_swells_65 : decode cX8_swells 65 = .ok (.iinc 5 1, 3) := by decide +kernel
theorem dX8_swells_68 : decode cX8_swells 68 = .ok (.goto (-43), 3) := by decide +kernel
theorem dX8_swells_71 : decode cX8_swells 71 = .ok (.iload_n 2, 1) := by decide +kernel
theorem dX8_swells_72 : decode cX8_swells 72 = .ok (.iload 4, 2) := by decide +kernel
theorem dX8_swells_74 : decode cX8_swells 74 = .ok (.iadd, 1) := by decide +kernel
theorem dX8_swells_75 : decode cX8_swells 75 = .ok (.istore_n 2, 1) := by decide +kernel
theorem dX8_swells_76 : decode cX8_swells 76 = .ok (.iinc 3 1, 3) := by decide +kernel
theorem dX8_swells_79 : decode cX8_swells 79 = .ok (.goto (-70), 3) := by decide +kernel
theorem dX8_swells_82 : decode cX8_swells 82 = .ok (.iconst 3, 1) := by decide +kernel
theorem dX8_swells_83 : decode cX8_swells 83 = .ok (.iload_n 2, 1) := by decide +kernel
theorem dX8_swells_84 : decode cX8_swells 84 = .ok (.imul, 1) := by decide +kernel
theorem dX8_swells_85 : decode cX8_swells 85 = .ok (.ireturn, 1) := by decide +kernel
set_option maxRecDepth 20000 in
theorem ggX8_swelling_X8_isBook : GoodIn wsX8_swelling wsX8_isBook := goodIn_r _ [5, 6, 7, 8, 4, 9, 44, 45, 46, 47, 48, 49, 50, 51, 52, 53, 54, 55, 56, 57, 58, 59, 60, 61, 62, 63, 64, 65, 66, 67, 68, 69, 70, 71] (by decide +kernel) (by decide +kernel)
set_option maxRecDepth 20000 in
theorem gX8_swelling_X8_isBook : GoodIn wsX8_swelling (wsV RX8 152 RX8 yX8_isBook wsX8_isBook) := goodIn_app (goodIn_of _ (by decide +kernel)) ggX8_swelling_X8_isBook
set_option maxRecDepth 20000 in
theorem ggX8_swelling_X8_goes : GoodIn wsX8_swelling wsX8_goes := goodIn_r _ [13, 14, 44, 45, 46, 47, 48, 49, 50, 51, 52, 53, 54, 55, 56, 57, 58, 59, 60, 61, 62, 63, 64, 65, 66, 67, 68, 69, 70, 71] (by decide +kernel) (by decide +kernel)
set_option maxRecDepth 20000 in
theorem gX8_swelling_X8_goes : GoodIn wsX8_swelling (wsV RX8 83 RX8 yX8_goes wsX8_goes) := goodIn_app (goodIn_of _ (by decide +kernel)) ggX8_swelling_X8_goes
set_option maxRecDepth 20000 in
theorem ggX8_swelling_X8_swells : GoodIn wsX8_swelling wsX8_swells := goodIn_r _ [18, 19, 20, 21, 22, 23, 4, 24, 25, 26, 27, 28, 29, 30, 31, 32, 33, 34, 35, 36, 37, 38, 39, 40, 41, 42, 43, 44, 45, 46, 47, 48, 49, 50, 51, 52, 53, 54, 55, 56, 57, 58, 59, 60, 61, 62, 63, 64, 65, 66, 67, 68, 69, 70, 71] (by decide +kernel) (by decide +kernel)
set_option maxRecDepth 20000 in
theorem gX8_swelling_X8_swells : GoodIn wsX8_swelling (wsV RX8 167 RX8 yX8_swells wsX8_swells) := goodIn_app (goodIn_of _ (by decide +kernel)) ggX8_swelling_X8_swells
theorem dX8_swelling_0 : decode cX8_swelling 0 = .ok (.aload_n 0, 1) := by decide +kernel
theorem dX8_swelling_1 : decode cX8_swelling 1 = .ok (.aload_n 0, 1) := by decide +kernel
theorem dX8_swelling_2 : decode cX8_swelling 2 = .ok (.iload_n 1, 1) := by decide +kernel
theorem dX8_swelling_3 : decode cX8_swelling 3 = .ok (.invokevirtual 152, 3) := by decide +kernel
theorem dX8_swelling_6 : decode cX8_swelling 6 = .ok (.iconst 1, 1) := by decide +kernel
theorem dX8_swelling_7 : decode cX8_swelling 7 = .ok (.iconst 1, 1) := by decide +kernel
theorem dX8_swelling_8 : decode cX8_swelling 8 = .ok (.invokevirtual 83, 3) := by decide +kernel
theorem dX8_swelling_11 : decode cX8_swelling 11 = .ok (.ifCond .eq 11, 3) := by decide +kernel
theorem dX8_swelling_14 : decode cX8_swelling 14 = .ok (.aload_n 0, 1) := by decide +kernel
theorem dX8_swelling_15 : decode cX8_swelling 15 = .ok (.iload_n 1, 1) := by decide +kernel
theorem dX8_swelling_16 : decode cX8_swelling 16 = .ok (.invokevirtual 167, 3) := by decide +kernel
theorem dX8_swelling_19 : decode cX8_swelling 19 = .ok (.goto 4, 3) := by decide +kernel
theorem dX8_swelling_22 : decode cX8_swelling 22 = .ok (.iconst 0, 1) := by decide +kernel
theorem dX8_swelling_23 : decode cX8_swelling 23 = .ok (.ireturn, 1) := by decide +kernel
theorem dX8_all_0 : decode cX8_all 0 = .ok (.aload_n 0, 1) := by decide +kernel
theorem dX8_all_1 : decode cX8_all 1 = .ok (.getfield 19, 3) := by decide +kernel
theorem dX8_all_4 : decode cX8_all 4 = .ok (.iload_n 1, 1) := by decide +kernel
theorem dX8_all_5 : decode cX8_all 5 = .ok (.iaload, 1) := by decide +kernel
theorem dX8_all_6 : decode cX8_all 6 = .ok (.aload_n 0, 1) := by decide +kernel
theorem dX8_all_7 : decode cX8_all 7 = .ok (.getfield 22, 3) := by decide +kernel
theorem dX8_all_10 : decode cX8_all 10 = .ok (.iload_n 1, 1) := by decide +kernel
theorem dX8_all_11 : decode cX8_all 11 = .ok (.iaload, 1) := by decide +kernel
theorem dX8_all_12 : decode cX8_all 12 = .ok (.imul, 1) := by decide +kernel
theorem dX8_all_13 : decode cX8_all 13 = .ok (.ireturn, 1) := by decide +kernel
set_option maxRecDepth 20000 in
theorem ggX8_bends_X8_all : GoodIn wsX8_bends wsX8_all := goodIn_r _ [7, 8, 9, 10, 11, 12, 13, 14, 15, 16, 17, 18, 19, 20, 21, 22, 23, 24, 25, 26, 27, 28, 29, 30, 31, 32, 33, 34, 35, 36, 37] (by decide +kernel) (by decide +kernel)
set_option maxRecDepth 20000 in
theorem gX8_bends_X8_all : GoodIn wsX8_bends (wsV RX8 170 RX8 yX8_all wsX8_all) := goodIn_app (goodIn_of _ (by decide +kernel)) ggX8_bends_X8_all
theorem dX8_bends_0 : decode cX8_bends 0 = .ok (.iload_n 2, 1) := by decide +kernel
theorem dX8_bends_1 : decode cX8_bends 1 = .ok (.aload_n 0, 1) := by decide +kernel
theorem dX8_bends_2 : decode cX8_bends 2 = .ok (.iload_n 1, 1) := by decide +kernel
theorem dX8_bends_3 : decode cX8_bends 3 = .ok (.invokevirtual 170, 3) := by decide +kernel
theorem dX8_bends_6 : decode cX8_bends 6 = .ok (.iload_n 2, 1) := by decide +kernel
theorem dX8_bends_7 : decode cX8_bends 7 = .ok (.isub, 1) := by decide +kernel
theorem dX8_bends_8 : decode cX8_bends 8 = .ok (.if_icmp .ge 7, 3) := by decide +kernel
theorem dX8_bends_11 : decode cX8_bends 11 = .ok (.iload_n 2, 1) := by decide +kernel
theorem dX8_bends_12 : decode cX8_bends 12 = .ok (.goto 10, 3) := by decide +kernel
theorem dX8_bends_15 : decode cX8_bends 15 = .ok (.aload_n 0, 1) := by decide +kernel
theorem dX8_bends_16 : decode cX8_bends 16 = .ok (.iload_n 1, 1) := by decide +kernel
theorem dX8_bends_17 : decode cX8_bends 17 = .ok (.invokevirtual 170, 3) := by decide +kernel
theorem dX8_bends_20 : decode cX8_bends 20 = .ok (.iload_n 2, 1) := by decide +kernel
theorem dX8_bends_21 : decode cX8_bends 21 = .ok (.isub, 1) := by decide +kernel
theorem dX8_bends_22 : decode cX8_bends 22 = .ok (.istore_n 3, 1) := by decide +kernel
theorem dX8_bends_23 : decode cX8_bends 23 = .ok (.iload_n 3, 1) := by decide +kernel
theorem dX8_bends_24 : decode cX8_bends 24 = .ok (.aload_n 0, 1) := by decide +kernel
theorem dX8_bends_25 : decode cX8_bends 25 = .ok (.getfield 28, 3) := by decide +kernel
theorem dX8_bends_28 : decode cX8_bends 28 = .ok (.iload_n 1, 1) := by decide +kernel
theorem dX8_bends_29 : decode cX8_bends 29 = .ok (.iaload, 1) := by decide +kernel
theorem dX8_bends_30 : decode cX8_bends 30 = .ok (.imul, 1) := by decide +kernel
theorem dX8_bends_31 : decode cX8_bends 31 = .ok (.aload_n 0, 1) := by decide +kernel
theorem dX8_bends_32 : decode cX8_bends 32 = .ok (.getfield 35, 3) := by decide +kernel
theorem dX8_bends_35 : decode cX8_bends 35 = .ok (.iload_n 1, 1) := by decide +kernel
theorem dX8_bends_36 : decode cX8_bends 36 = .ok (.iaload, 1) := by decide +kernel
theorem dX8_bends_37 : decode cX8_bends 37 = .ok (.ifCond .ne 7, 3) := by decide +kernel
theorem dX8_bends_40 : decode cX8_bends 40 = .ok (.iconst 4, 1) := by decide +kernel
theorem dX8_bends_41 : decode cX8_bends 41 = .ok (.goto 18, 3) := by decide +kernel
theorem dX8_bends_44 : decode cX8_bends 44 = .ok (.aload_n 0, 1) := by decide +kernel
theorem dX8_bends_45 : decode cX8_bends 45 = .ok (.getfield 35, 3) := by decide +kernel
theorem dX8_bends_48 : decode cX8_bends 48 = .ok (.iload_n 1, 1) := by decide +kernel
theorem dX8_bends_49 : decode cX8_bends 49 = .ok (.iaload, 1) := by decide +kernel
theorem dX8_bends_50 : decode cX8_bends 50 = .ok (.iconst 1, 1) := by decide +kernel
theorem dX8_bends_51 : decode cX8_bends 51 = .ok (.if_icmp .ne 7, 3) := by decide +kernel
theorem dX8_bends_54 : decode cX8_bends 54 = .ok (.iconst 1, 1) := by decide +kernel
theorem dX8_bends_55 : decode cX8_bends 55 = .ok (.goto 4, 3) := by decide +kernel
theorem dX8_bends_58 : decode cX8_bends 58 = .ok (.iconst 2, 1) := by decide +kernel
theorem dX8_bends_59 : decode cX8_bends 59 = .ok (.imul, 1) := by decide +kernel
theorem dX8_bends_60 : decode cX8_bends 60 = .ok (.ireturn, 1) := by decide +kernel
set_option maxRecDepth 20000 in
theorem ggX8_strain_X8_isBook : GoodIn wsX8_strain wsX8_isBook := goodIn_r _ [5, 6, 7, 8, 4, 9, 55, 56, 57, 58, 59, 60, 61, 62, 63, 64, 65, 66, 67, 68, 69, 70, 71, 72, 73, 74, 75, 76, 77, 78, 79, 80, 81, 82] (by decide +kernel) (by decide +kernel)
set_option maxRecDepth 20000 in
theorem gX8_strain_X8_isBook : GoodIn wsX8_strain (wsV RX8 152 RX8 yX8_isBook wsX8_isBook) := goodIn_app (goodIn_of _ (by decide +kernel)) ggX8_strain_X8_isBook
set_option maxRecDepth 20000 in
theorem ggX8_strain_X8_all : GoodIn wsX8_strain wsX8_all := goodIn_r _ [13, 14, 15, 55, 56, 57, 58, 59, 60, 61, 62, 63, 64, 65, 66, 67, 68, 69, 70, 71, 72, 73, 74, 75, 76, 77, 78, 79, 80, 81, 82] (by decide +kernel) (by decide +kernel)
set_option maxRecDepth 20000 in
theorem gX8_strain_X8_all : GoodIn wsX8_strain (wsV RX8 170 RX8 yX8_all wsX8_all) := goodIn_app (goodIn_of _ (by decide +kernel)) ggX8_strain_X8_all
set_option maxRecDepth 20000 in
theorem ggX8_strain_X8_in : GoodIn wsX8_strain wsX8_in := goodIn_r _ [9] (by decide +kernel) (by decide +kernel)
set_option maxRecDepth 20000 in
theorem gX8_strain_X8_in : GoodIn wsX8_strain (va_wsS RX8 75 yX8_in wsX8_in) := goodIn_app (goodIn_of _ (by decide +kernel)) ggX8_strain_X8_in
set_option maxRecDepth 20000 in
theorem ggX8_strain_X8_goes : GoodIn wsX8_strain wsX8_goes := goodIn_r _ [19, 20, 55, 56, 57, 58, 59, 60, 61, 62, 63, 64, 65, 66, 67, 68, 69, 70, 71, 72, 73, 74, 75, 76, 77, 78, 79, 80, 81, 82] (by decide +kernel) (by decide +kernel)
set_option maxRecDepth 20000 in
theorem gX8_strain_X8_goes : GoodIn wsX8_strain (wsV RX8 83 RX8 yX8_goes wsX8_goes) := goodIn_app (goodIn_of _ (by decide +kernel)) ggX8_strain_X8_goes
set_option maxRecDepth 20000 in
theorem ggX8_strain_X8_bends : GoodIn wsX8_strain wsX8_bends := goodIn_r _ [24, 25, 26, 10, 11, 12, 4, 13, 14, 15, 55, 56, 57, 58, 59, 60, 61, 62, 63, 64, 65, 66, 67, 68, 69, 70, 71, 72, 73, 74, 75, 76, 77, 78, 79, 80, 81, 82] (by decide +kernel) (by decide +kernel)
set_option maxRecDepth 20000 in
theorem gX8_strain_X8_bends : GoodIn wsX8_strain (wsV RX8 173 RX8 yX8_bends wsX8_bends) := goodIn_app (goodIn_of _ (by decide +kernel)) ggX8_strain_X8_bends
set_option maxRecDepth 20000 in
theorem ggX8_strain_X8_swells : GoodIn wsX8_strain wsX8_swells := goodIn_r _ [30, 14, 31, 32, 33, 34, 4, 35, 36, 37, 38, 39, 40, 41, 42, 43, 44, 45, 46, 47, 48, 49, 50, 51, 52, 53, 54, 55, 56, 57, 58, 59, 60, 61, 62, 63, 64, 65, 66, 67, 68, 69, 70, 71, 72, 73, 74, 75, 76, 77, 78, 79, 80, 81, 82] (by decide +kernel) (by decide +kernel)
set_option maxRecDepth 20000 in
theorem gX8_strain_X8_swells : GoodIn wsX8_strain (wsV RX8 167 RX8 yX8_swells wsX8_swells) := goodIn_app (goodIn_of _ (by decide +kernel)) ggX8_strain_X8_swells
theorem dX8_strain_0 : decode cX8_strain 0 = .ok (.aload_n 0, 1) := by decide +kernel
theorem dX8_strain_1 : decode cX8_strain 1 = .ok (.iload_n 1, 1) := by decide +kernel
theorem dX8_strain_2 : decode cX8_strain 2 = .ok (.invokevirtual 152, 3) := by decide +kernel
theorem dX8_strain_5 : decode cX8_strain 5 = .ok (.istore_n 3, 1) := by decide +kernel
theorem dX8_strain_6 : decode cX8_strain 6 = .ok (.aload_n 0, 1) := by decide +kernel
theorem dX8_strain_7 : decode cX8_strain 7 = .ok (.iload_n 3, 1) := by decide +kernel
theorem dX8_strain_8 : decode cX8_strain 8 = .ok (.iload_n 2, 1) := by decide +kernel
theorem dX8_strain_9 : decode cX8_strain 9 = .ok (.iconst 0, 1) := by decide +kernel
theorem dX8_strain_10 : decode cX8_strain 10 = .ok (.aload_n 0, 1) := by decide +kernel
theorem dX8_strain_11 : decode cX8_strain 11 = .ok (.iload_n 3, 1) := by decide +kernel
theorem dX8_strain_12 : decode cX8_strain 12 = .ok (.ifCond .eq 7, 3) := by decide +kernel
theorem dX8_strain_15 : decode cX8_strain 15 = .ok (.iload_n 1, 1) := by decide +kernel
theorem dX8_strain_16 : decode cX8_strain 16 = .ok (.goto 4, 3) := by decide +kernel
theorem dX8_strain_19 : decode cX8_strain 19 = .ok (.iconst 0, 1) := by decide +kernel
theorem dX8_strain_20 : decode cX8_strain 20 = .ok (.invokevirtual 170, 3) := by decide +kernel
theorem dX8_strain_23 : decode cX8_strain 23 = .ok (.invokestatic 75, 3) := by decide +kernel
theorem dX8_strain_26 : decode cX8_strain 26 = .ok (.iconst 1, 1) := by decide +kernel
theorem dX8_strain_27 : decode cX8_strain 27 = .ok (.invokevirtual 83, 3) := by decide +kernel
theorem dX8_strain_30 : decode cX8_strain 30 = .ok (.ifCond .eq 18, 3) := by decide +kernel
theorem dX8_strain_33 : decode cX8_strain 33 = .ok (.aload_n 0, 1) := by decide +kernel
theorem dX8_strain_34 : decode cX8_strain 34 = .ok (.iload_n 1, 1) := by decide +kernel
theorem dX8_strain_35 : decode cX8_strain 35 = .ok (.iload_n 2, 1) := by decide +kernel
theorem dX8_strain_36 : decode cX8_strain 36 = .ok (.invokevirtual 173, 3) := by decide +kernel
theorem dX8_strain_39 : decode cX8_strain 39 = .ok (.aload_n 0, 1) := by decide +kernel
theorem dX8_strain_40 : decode cX8_strain 40 = .ok (.iload_n 1, 1) := by decide +kernel
theorem dX8_strain_41 : decode cX8_strain 41 = .ok (.invokevirtual 167, 3) := by decide +kernel
theorem dX8_strain_44 : decode cX8_strain 44 = .ok (.iadd, 1) := by decide +kernel
theorem dX8_strain_45 : decode cX8_strain 45 = .ok (.goto 4, 3) := by decide +kernel
theorem dX8_strain_48 : decode cX8_strain 48 = .ok (.iconst 0, 1) := by decide +kernel
theorem dX8_strain_49 : decode cX8_strain 49 = .ok (.ireturn, 1) := by decide +kernel
set_option maxRecDepth 20000 in
theorem ggX8_worst_X8_isBook : GoodIn wsX8_worst wsX8_isBook := goodIn_r _ [5, 6, 7, 8, 4, 9, 27, 28, 29, 30, 31, 32, 33, 34, 35, 36, 37, 38, 39, 40, 41, 42, 43, 44, 45, 46, 47, 48, 49, 50, 51, 52, 53, 54] (by decide +kernel) (by decide +kernel)
set_option maxRecDepth 20000 in
theorem gX8_worst_X8_isBook : GoodIn wsX8_worst (wsV RX8 152 RX8 yX8_isBook wsX8_isBook) := goodIn_app (goodIn_of _ (by decide +kernel)) ggX8_worst_X8_isBook
set_option maxRecDepth 20000 in
theorem ggX8_worst_X8_goes : GoodIn wsX8_worst wsX8_goes := goodIn_r _ [13, 14, 27, 28, 29, 30, 31, 32, 33, 34, 35, 36, 37, 38, 39, 40, 41, 42, 43, 44, 45, 46, 47, 48, 49, 50, 51, 52, 53, 54] (by decide +kernel) (by decide +kernel)
set_option maxRecDepth 20000 in
theorem gX8_worst_X8_goes : GoodIn wsX8_worst (wsV RX8 83 RX8 yX8_goes wsX8_goes) := goodIn_app (goodIn_of _ (by decide +kernel)) ggX8_worst_X8_goes
set_option maxRecDepth 20000 in
theorem ggX8_worst_X8_all : GoodIn wsX8_worst wsX8_all := goodIn_r _ [18, 19, 20, 27, 28, 29, 30, 31, 32, 33, 34, 35, 36, 37, 38, 39, 40, 41, 42, 43, 44, 45, 46, 47, 48, 49, 50, 51, 52, 53, 54] (by decide +kernel) (by decide +kernel)
set_option maxRecDepth 20000 in
theorem gX8_worst_X8_all : GoodIn wsX8_worst (wsV RX8 170 RX8 yX8_all wsX8_all) := goodIn_app (goodIn_of _ (by decide +kernel)) ggX8_worst_X8_all
set_option maxRecDepth 20000 in
theorem ggX8_worst_X8_bends : GoodIn wsX8_worst wsX8_bends := goodIn_r _ [24, 25, 26, 15, 16, 17, 4, 18, 19, 20, 27, 28, 29, 30, 31, 32, 33, 34, 35, 36, 37, 38, 39, 40, 41, 42, 43, 44, 45, 46, 47, 48, 49, 50, 51, 52, 53, 54] (by decide +kernel) (by decide +kernel)
set_option maxRecDepth 20000 in
theorem gX8_worst_X8_bends : GoodIn wsX8_worst (wsV RX8 173 RX8 yX8_bends wsX8_bends) := goodIn_app (goodIn_of _ (by decide +kernel)) ggX8_worst_X8_bends
theorem dX8_worst_0 : decode cX8_worst 0 = .ok (.aload_n 0, 1) := by decide +kernel
theorem dX8_worst_1 : decode cX8_worst 1 = .ok (.aload_n 0, 1) := by decide +kernel
theorem dX8_worst_2 : decode cX8_worst 2 = .ok (.iload_n 1, 1) := by decide +kernel
theorem dX8_worst_3 : decode cX8_worst 3 = .ok (.invokevirtual 152, 3) := by decide +kernel
theorem dX8_worst_6 : decode cX8_worst 6 = .ok (.iconst 1, 1) := by decide +kernel
theorem dX8_worst_7 : decode cX8_worst 7 = .ok (.iconst 1, 1) := by decide +kernel
theorem dX8_worst_8 : decode cX8_worst 8 = .ok (.invokevirtual 83, 3) := by decide +kernel
theorem dX8_worst_11 : decode cX8_worst 11 = .ok (.ifCond .ne 5, 3) := by decide +kernel
theorem dX8_worst_14 : decode cX8_worst 14 = .ok (.iconst 0, 1) := by decide +kernel
theorem dX8_worst_15 : decode cX8_worst 15 = .ok (.ireturn, 1) := by decide +kernel
theorem dX8_worst_16 : decode cX8_worst 16 = .ok (.iconst 0, 1) := by decide +kernel
theorem dX8_worst_17 : decode cX8_worst 17 = .ok (.istore_n 2, 1) := by decide +kernel
theorem dX8_worst_18 : decode cX8_worst 18 = .ok (.iconst 1, 1) := by decide +kernel
theorem dX8_worst_19 : decode cX8_worst 19 = .ok (.istore_n 3, 1) := by decide +kernel
theorem dX8_worst_20 : decode cX8_worst 20 = .ok (.iload_n 3, 1) := by decide +kernel
theorem dX8_worst_21 : decode cX8_worst 21 = .ok (.aload_n 0, 1) := by decide +kernel
theorem dX8_worst_22 : decode cX8_worst 22 = .ok (.iload_n 1, 1) := by decide +kernel
theorem dX8_worst_23 : decode cX8_worst 23 = .ok (.invokevirtual 170, 3) := by decide +kernel
theorem dX8_worst_26 : decode cX8_worst 26 = .ok (.if_icmp .gt 30, 3) := by decide +kernel
theorem dX8_worst_29 : decode cX8_worst 29 = .ok (.aload_n 0, 1) := by decide +kernel
theorem dX8_worst_30 : decode cX8_worst 30 = .ok (.iload_n 1, 1) := by decide +kernel
theorem dX8_worst_31 : decode cX8_worst 31 = .ok (.iload_n 3, 1) := by decide +kernel
theorem dX8_worst_32 : decode cX8_worst 32 = .ok (.invokevirtual 173, 3) := by decide +kernel
theorem dX8_worst_35 : decode cX8_worst 35 = .ok (.aload_n 0, 1) := by decide +kernel
theorem dX8_worst_36 : decode cX8_worst 36 = .ok (.iload_n 1, 1) := by decide +kernel
theorem dX8_worst_37 : decode cX8_worst 37 = .ok (.iload_n 2, 1) := by decide +kernel
theorem dX8_worst_38 : decode cX8_worst 38 = .ok (.invokevirtual 173, 3) := by decide +kernel
theorem dX8_worst_41 : decode cX8_worst 41 = .ok (.if_icmp .le 7, 3) := by decide +kernel
theorem dX8_worst_44 : decode cX8_worst 44 = .ok (.iload_n 3, 1) := by decide +kernel
theorem dX8_worst_45 : decode cX8_worst 45 = .ok (.goto 4, 3) := by decide +kernel
theorem dX8_worst_48 : decode cX8_worst 48 = .ok (.iload_n 2, 1) := by decide +kernel
theorem dX8_worst_49 : decode cX8_worst 49 = .ok (.istore_n 2, 1) := by decide +kernel
theorem dX8_worst_50 : decode cX8_worst 50 = .ok (.iinc 3 1, 3) := by decide +kernel
theorem dX8_worst_53 : decode cX8_worst 53 = .ok (.goto (-33), 3) := by decide +kernel
theorem dX8_worst_56 : decode cX8_worst 56 = .ok (.iload_n 2, 1) := by decide +kernel
theorem dX8_worst_57 : decode cX8_worst 57 = .ok (.ireturn, 1) := by decide +kernel
set_option maxRecDepth 20000 in
theorem ggX8_opens_X8_isBook : GoodIn wsX8_opens wsX8_isBook := goodIn_r _ [6, 7, 8, 9, 5, 10, 56, 57, 58, 59, 60, 61, 62, 63, 64, 65, 66, 67, 68, 69, 70, 71, 72, 73, 74, 75, 76, 77, 78, 79, 80, 81, 82, 83] (by decide +kernel) (by decide +kernel)
set_option maxRecDepth 20000 in
theorem gX8_opens_X8_isBook : GoodIn wsX8_opens (wsV RX8 152 RX8 yX8_isBook wsX8_isBook) := goodIn_app (goodIn_of _ (by decide +kernel)) ggX8_opens_X8_isBook
set_option maxRecDepth 20000 in
theorem ggX8_opens_X8_in : GoodIn wsX8_opens wsX8_in := goodIn_r _ [10] (by decide +kernel) (by decide +kernel)
set_option maxRecDepth 20000 in
theorem gX8_opens_X8_in : GoodIn wsX8_opens (va_wsS RX8 75 yX8_in wsX8_in) := goodIn_app (goodIn_of _ (by decide +kernel)) ggX8_opens_X8_in
set_option maxRecDepth 20000 in
theorem ggX8_opens_X8_goes : GoodIn wsX8_opens wsX8_goes := goodIn_r _ [14, 15, 56, 57, 58, 59, 60, 61, 62, 63, 64, 65, 66, 67, 68, 69, 70, 71, 72, 73, 74, 75, 76, 77, 78, 79, 80, 81, 82, 83] (by decide +kernel) (by decide +kernel)
set_option maxRecDepth 20000 in
theorem gX8_opens_X8_goes : GoodIn wsX8_opens (wsV RX8 83 RX8 yX8_goes wsX8_goes) := goodIn_app (goodIn_of _ (by decide +kernel)) ggX8_opens_X8_goes
set_option maxRecDepth 20000 in
theorem ggX8_opens_X8_swells : GoodIn wsX8_opens wsX8_swells := goodIn_r _ [19, 20, 21, 22, 23, 24, 5, 25, 26, 27, 28, 29, 30, 31, 32, 33, 34, 35, 36, 37, 38, 39, 40, 41, 42, 43, 44, 56, 57, 58, 59, 60, 61, 62, 63, 64, 65, 66, 67, 68, 69, 70, 71, 72, 73, 74, 75, 76, 77, 78, 79, 80, 81, 82, 83] (by decide +kernel) (by decide +kernel)
set_option maxRecDepth 20000 in
theorem gX8_opens_X8_swells : GoodIn wsX8_opens (wsV RX8 167 RX8 yX8_swells wsX8_swells) := goodIn_app (goodIn_of _ (by decide +kernel)) ggX8_opens_X8_swells
set_option maxRecDepth 20000 in
theorem ggX8_opens_X8_all : GoodIn wsX8_opens wsX8_all := goodIn_r _ [48, 20, 49, 56, 57, 58, 59, 60, 61, 62, 63, 64, 65, 66, 67, 68, 69, 70, 71, 72, 73, 74, 75, 76, 77, 78, 79, 80, 81, 82, 83] (by decide +kernel) (by decide +kernel)
set_option maxRecDepth 20000 in
theorem gX8_opens_X8_all : GoodIn wsX8_opens (wsV RX8 170 RX8 yX8_all wsX8_all) := goodIn_app (goodIn_of _ (by decide +kernel)) ggX8_opens_X8_all
set_option maxRecDepth 20000 in
theorem ggX8_opens_X8_bends : GoodIn wsX8_opens wsX8_bends := goodIn_r _ [53, 54, 55, 45, 46, 47, 5, 48, 20, 49, 56, 57, 58, 59, 60, 61, 62, 63, 64, 65, 66, 67, 68, 69, 70, 71, 72, 73, 74, 75, 76, 77, 78, 79, 80, 81, 82, 83] (by decide +kernel) (by decide +kernel)
set_option maxRecDepth 20000 in
theorem gX8_opens_X8_bends : GoodIn wsX8_opens (wsV RX8 173 RX8 yX8_bends wsX8_bends) := goodIn_app (goodIn_of _ (by decide +kernel)) ggX8_opens_X8_bends
theorem dX8_opens_0 : decode cX8_opens 0 = .ok (.aload_n 0, 1) := by decide +kernel
theorem dX8_opens_1 : decode cX8_opens 1 = .ok (.aload_n 0, 1) := by decide +kernel
theorem dX8_opens_2 : decode cX8_opens 2 = .ok (.iload_n 1, 1) := by decide +kernel
theorem dX8_opens_3 : decode cX8_opens 3 = .ok (.invokevirtual 152, 3) := by decide +kernel
theorem dX8_opens_6 : decode cX8_opens 6 = .ok (.iload_n 2, 1) := by decide +kernel
theorem dX8_opens_7 : decode cX8_opens 7 = .ok (.iconst 0, 1) := by decide +kernel
theorem dX8_opens_8 : decode cX8_opens 8 = .ok (.ldc 177, 2) := by decide +kernel
theorem dX8_opens_10 : decode cX8_opens 10 = .ok (.invokestatic 75, 3) := by decide +kernel
theorem dX8_opens_13 : decode cX8_opens 13 = .ok (.iconst 1, 1) := by decide +kernel
theorem dX8_opens_14 : decode cX8_opens 14 = .ok (.invokevirtual 83, 3) := by decide +kernel
theorem dX8_opens_17 : decode cX8_opens 17 = .ok (.ifCond .ne 5, 3) := by decide +kernel
theorem dX8_opens_20 : decode cX8_opens 20 = .ok (.iconst 0, 1) := by decide +kernel
theorem dX8_opens_21 : decode cX8_opens 21 = .ok (.ireturn, 1) := by decide +kernel
theorem dX8_opens_22 : decode cX8_opens 22 = .ok (.iconst 0, 1) := by decide +kernel
theorem dX8_opens_23 : decode cX8_opens 23 = .ok (.istore_n 3, 1) := by decide +kernel
theorem dX8_opens_24 : decode cX8_opens 24 = .ok (.aload_n 0, 1) := by decide +kernel
theorem dX8_opens_25 : decode cX8_opens 25 = .ok (.iload_n 1, 1) := by decide +kernel
theorem dX8_opens_26 : decode cX8_opens 26 = .ok (.invokevirtual 167, 3) := by decide +kernel
theorem dX8_opens_29 : decode cX8_opens 29 = .ok (.istore 4, 2) := by decide +kernel
theorem dX8_opens_31 : decode cX8_opens 31 = .ok (.iconst 0, 1) := by decide +kernel
theorem dX8_opens_32 : decode cX8_opens 32 = .ok (.istore 5, 2) := by decide +kernel
theorem dX8_opens_34 : decode cX8_opens 34 = .ok (.iload 5, 2) := by decide +kernel
theorem dX8_opens_36 : decode cX8_opens 36 = .ok (.aload_n 0, 1) := by decide +kernel
theorem dX8_opens_37 : decode cX8_opens 37 = .ok (.iload_n 1, 1) := by decide +kernel
theorem dX8_opens_38 : decode cX8_opens 38 = .ok (.invokevirtual 170, 3) := by decide +kernel
theorem dX8_opens_41 : decode cX8_opens 41 = .ok (.if_icmp .gt 31, 3) := by decide +kernel
theorem dX8_opens_44 : decode cX8_opens 44 = .ok (.iload_n 3, 1) := by decide +kernel
theorem dX8_opens_45 : decode cX8_opens 45 = .ok (.aload_n 0, 1) := by decide +kernel
theorem dX8_opens_46 : decode cX8_opens 46 = .ok (.iload_n 1, 1) := by decide +kernel
theorem dX8_opens_47 : decode cX8_opens 47 = .ok (.iload 5, 2) := by decide +kernel
theorem dX8_opens_49 : decode cX8_opens 49 = .ok (.invokevirtual 173, 3) := by decide +kernel
theorem dX8_opens_52 : decode cX8_opens 52 = .ok (.iload 4, 2) := by decide +kernel
theorem dX8_opens_54 : decode cX8_opens 54 = .ok (.iadd, 1) := by decide +kernel
theorem dX8_opens_55 : decode cX8_opens 55 = .ok (.iload_n 2, 1) := by decide +kernel
theorem dX8_opens_56 : decode cX8_opens 56 = .ok (.if_icmp .gt 7, 3) := by decide +kernel
theorem dX8_opens_59 : decode cX8_opens 59 = .ok (.iconst 1, 1) := by decide +kernel
theorem dX8_opens_60 : decode cX8_opens 60 = .ok (.goto 4, 3) := by decide +kernel
theorem dX8_opens_63 : decode cX8_opens 63 = .ok (.iconst 0, 1) := by decide +kernel
theorem dX8_opens_64 : decode cX8_opens 64 = .ok (.iadd, 1) := by decide +kernel
theorem dX8_opens_65 : decode cX8_opens 65 = .ok (.istore_n 3, 1) := by decide +kernel
theorem dX8_opens_66 : decode cX8_opens 66 = .ok (.iinc 5 1, 3) := by decide +kernel
theorem dX8_opens_69 : decode cX8_opens 69 = .ok (.goto (-35), 3) := by decide +kernel
theorem dX8_opens_72 : decode cX8_opens 72 = .ok (.iload_n 3, 1) := by decide +kernel
theorem dX8_opens_73 : decode cX8_opens 73 = .ok (.ireturn, 1) := by decide +kernel
set_option maxRecDepth 20000 in
theorem ggX8_isSkin_X8_in : GoodIn wsX8_isSkin wsX8_in := goodIn_r _ [5] (by decide +kernel) (by decide +kernel)
set_option maxRecDepth 20000 in
theorem gX8_isSkin_X8_in : GoodIn wsX8_isSkin (va_wsS RX8 75 yX8_in wsX8_in) := goodIn_app (goodIn_of _ (by decide +kernel)) ggX8_isSkin_X8_in
theorem dX8_isSkin_0 : decode cX8_isSkin 0 = .ok (.iload_n 1, 1) := by decide +kernel
theorem dX8_isSkin_1 : decode cX8_isSkin 1 = .ok (.iconst 0, 1) := by decide +kernel
theorem dX8_isSkin_2 : decode cX8_isSkin 2 = .ok (.aload_n 0, 1) := by decide +kernel
theorem dX8_isSkin_3 : decode cX8_isSkin 3 = .ok (.getfield 178, 3) := by decide +kernel
theorem dX8_isSkin_6 : decode cX8_isSkin 6 = .ok (.iconst 1, 1) := by decide +kernel
theorem dX8_isSkin_7 : decode cX8_isSkin 7 = .ok (.isub, 1) := by decide +kernel
theorem dX8_isSkin_8 : decode cX8_isSkin 8 = .ok (.invokestatic 75, 3) := by decide +kernel
theorem dX8_isSkin_11 : decode cX8_isSkin 11 = .ok (.ireturn, 1) := by decide +kernel
set_option maxRecDepth 20000 in
theorem ggX8_skin_X8_in : GoodIn wsX8_skin wsX8_in := goodIn_r _ [6] (by decide +kernel) (by decide +kernel)
set_option maxRecDepth 20000 in
theorem gX8_skin_X8_in : GoodIn wsX8_skin (va_wsS RX8 75 yX8_in wsX8_in) := goodIn_app (goodIn_of _ (by decide +kernel)) ggX8_skin_X8_in
set_option maxRecDepth 20000 in
theorem ggX8_skin_X8_goes : GoodIn wsX8_skin wsX8_goes := goodIn_r _ [10, 11, 12, 13, 14, 15, 16, 17, 18, 19, 20, 21, 22, 23, 24, 25, 26, 27, 28, 29, 30, 31, 32, 33, 34, 35, 36, 37, 38, 39] (by decide +kernel) (by decide +kernel)
set_option maxRecDepth 20000 in
theorem gX8_skin_X8_goes : GoodIn wsX8_skin (wsV RX8 83 RX8 yX8_goes wsX8_goes) := goodIn_app (goodIn_of _ (by decide +kernel)) ggX8_skin_X8_goes
theorem dX8_skin_0 : decode cX8_skin 0 = .ok (.aload_n 0, 1) := by decide +kernel
theorem dX8_skin_1 : decode cX8_skin 1 = .ok (.iload_n 1, 1) := by decide +kernel
theorem dX8_skin_2 : decode cX8_skin 2 = .ok (.bipush 8, 2) := by decide +kernel
theorem dX8_skin_4 : decode cX8_skin 4 = .ok (.bipush 30, 2) := by decide +kernel
theorem dX8_skin_6 : decode cX8_skin 6 = .ok (.invokestatic 75, 3) := by decide +kernel
theorem dX8_skin_9 : decode cX8_skin 9 = .ok (.aload_n 0, 1) := by decide +kernel
theorem dX8_skin_10 : decode cX8_skin 10 = .ok (.getfield 178, 3) := by decide +kernel
theorem dX8_skin_13 : decode cX8_skin 13 = .ok (.iconst 3, 1) := by decide +kernel
theorem dX8_skin_14 : decode cX8_skin 14 = .ok (.if_icmp .ge 7, 3) := by decide +kernel
theorem dX8_skin_17 : decode cX8_skin 17 = .ok (.iconst 1, 1) := by decide +kernel
theorem dX8_skin_18 : decode cX8_skin 18 = .ok (.goto 4, 3) := by decide +kernel
theorem dX8_skin_21 : decode cX8_skin 21 = .ok (.iconst 0, 1) := by decide +kernel
theorem dX8_skin_22 : decode cX8_skin 22 = .ok (.iconst 1, 1) := by decide +kernel
theorem dX8_skin_23 : decode cX8_skin 23 = .ok (.invokevirtual 83, 3) := by decide +kernel
theorem dX8_skin_26 : decode cX8_skin 26 = .ok (.ifCond .ne 5, 3) := by decide +kernel
theorem dX8_skin_29 : decode cX8_skin 29 = .ok (.iconst 0, 1) := by decide +kernel
theorem dX8_skin_30 : decode cX8_skin 30 = .ok (.ireturn, 1) := by decide +kernel
theorem dX8_skin_31 : decode cX8_skin 31 = .ok (.iconst 0, 1) := by decide +kernel
theorem dX8_skin_32 : decode cX8_skin 32 = .ok (.istore_n 2, 1) := by decide +kernel
theorem dX8_skin_33 : decode cX8_skin 33 = .ok (.iload_n 2, 1) := by decide +kernel
theorem dX8_skin_34 : decode cX8_skin 34 = .ok (.bipush 64, 2) := by decide +kernel
theorem dX8_skin_36 : decode cX8_skin 36 = .ok (.if_icmp .ge 24, 3) := by decide +kernel
theorem dX8_skin_39 : decode cX8_skin 39 = .ok (.aload_n 0, 1) := by decide +kernel
theorem dX8_skin_40 : decode cX8_skin 40 = .ok (.getfield 50, 3) := by decide +kernel
theorem dX8_skin_43 : decode cX8_skin 43 = .ok (.bipush 64, 2) := by decide +kernel
theorem dX8_skin_45 : decode cX8_skin 45 = .ok (.aload_n 0, 1) := by decide +kernel
theorem dX8_skin_46 : decode cX8_skin 46 = .ok (.getfield 178, 3) := by decide +kernel
theorem dX8_skin_49 : decode cX8_skin 49 = .ok (.imul, 1) := by decide +kernel
theorem dX8_skin_50 : decode cX8_skin 50 = .ok (.iload_n 2, 1) := by decide +kernel
theorem dX8_skin_51 : decode cX8_skin 51 = .ok (.iadd, 1) := by decide +kernel
theorem dX8_skin_52 : decode cX8_skin 52 = .ok (.iload_n 1, 1) := by decide +kernel
theorem dX8_skin_53 : decode cX8_skin 53 = .ok (.iastore, 1) := by decide +kernel
theorem dX8_skin_54 : decode cX8_skin 54 = .ok (.iinc 2 1, 3) := by decide +kernel
theorem dX8_skin_57 : decode cX8_skin 57 = .ok (.goto (-24), 3) := by decide +kernel
theorem dX8_skin_60 : decode cX8_skin 60 = .ok (.aload_n 0, 1) := by decide +kernel
theorem dX8_skin_61 : decode cX8_skin 61 = .ok (.dup, 1) := by decide +kernel
theorem dX8_skin_62 : decode cX8_skin 62 = .ok (.getfield 178, 3) := by decide +kernel
theorem dX8_skin_65 : decode cX8_skin 65 = .ok (.iconst 1, 1) := by decide +kernel
theorem dX8_skin_66 : decode cX8_skin 66 = .ok (.iadd, 1) := by decide +kernel
theorem dX8_skin_67 : decode cX8_skin 67 = .ok (.putfield 178, 3) := by decide +kernel
theorem dX8_skin_70 : decode cX8_skin 70 = .ok (.aload_n 0, 1) := by decide +kernel
theorem dX8_skin_71 : decode cX8_skin 71 = .ok (.getfield 178, 3) := by decide +kernel
theorem dX8_skin_74 : decode cX8_skin 74 = .ok (.iconst 1, 1) := by decide +kernel
theorem dX8_skin_75 : decode cX8_skin 75 = .ok (.isub, 1) := by decide +kernel
theorem dX8_skin_76 : decode cX8_skin 76 = .ok (.ireturn, 1) := by decide +kernel
set_option maxRecDepth 20000 in
theorem ggX8_least_X8_in : GoodIn wsX8_least wsX8_in := goodIn_r _ [5] (by decide +kernel) (by decide +kernel)
set_option maxRecDepth 20000 in
theorem gX8_least_X8_in : GoodIn wsX8_least (va_wsS RX8 75 yX8_in wsX8_in) := goodIn_app (goodIn_of _ (by decide +kernel)) ggX8_least_X8_in
theorem dX8_least_0 : decode cX8_least 0 = .ok (.bipush 99, 2) := by decide +kernel
theorem dX8_least_2 : decode cX8_least 2 = .ok (.istore 6, 2) := by decide +kernel
theorem dX8_least_4 : decode cX8_least 4 = .ok (.iconst 0, 1) := by decide +kernel
theorem dX8_least_5 : decode cX8_least 5 = .ok (.istore 7, 2) := by decide +kernel
theorem dX8_least_7 : decode cX8_least 7 = .ok (.iload 7, 2) := by decide +kernel
theorem dX8_least_9 : decode cX8_least 9 = .ok (.bipush 64, 2) := by decide +kernel
theorem dX8_least_11 : decode cX8_least 11 = .ok (.if_icmp .ge 85, 3) := by decide +kernel
theorem dX8_least_14 : decode cX8_least 14 = .ok (.iload 7, 2) := by decide +kernel
theorem dX8_least_16 : decode cX8_least 16 = .ok (.bipush 8, 2) := by decide +kernel
theorem dX8_least_18 : decode cX8_least 18 = .ok (.irem, 1) := by decide +kernel
theorem dX8_least_19 : decode cX8_least 19 = .ok (.iload_n 2, 1) := by decide +kernel
theorem dX8_least_20 : decode cX8_least 20 = .ok (.iload_n 3, 1) := by decide +kernel
theorem dX8_least_21 : decode cX8_least 21 = .ok (.invokestatic 75, 3) := by decide +kernel
theorem dX8_least_24 : decode cX8_least 24 = .ok (.ifCond .eq 22, 3) := by decide +kernel
theorem dX8_least_27 : decode cX8_least 27 = .ok (.iload 7, 2) := by decide +kernel
theorem dX8_least_29 : decode cX8_least 29 = .ok (.bipush 8, 2) := by decide +kernel
theorem dX8_least_31 : decode cX8_least 31 = .ok (.idiv, 1) := by decide +kernel
theorem dX8_least_32 : decode cX8_least 32 = .ok (.iload 4, 2) := by decide +kernel
theorem dX8_least_34 : decode cX8_least 34 = .ok (.iload 5, 2) := by decide +kernel
theorem dX8_least_36 : decode cX8_least 36 = .ok (.invokestatic 75, 3) := by decide +kernel
theorem dX8_least_39 : decode cX8_least 39 = .ok (.ifCond .eq 7, 3) := by decide +kernel
theorem dX8_least_42 : decode cX8_least 42 = .ok (.iconst 1, 1) := by decide +kernel
theorem dX8_least_43 : decode cX8_least 43 = .ok (.goto 4, 3) := by decide +kernel
theorem dX8_least_46 : decode cX8_least 46 = .ok (.iconst 0, 1) := by decide +kernel
theorem dX8_least_47 : decode cX8_least 47 = .ok (.istore 8, 2) := by decide +kernel
theorem dX8_least_49 : decode cX8_least 49 = .ok (.iload 8, 2) := by decide +kernel
theorem dX8_least_51 : decode cX8_least 51 = .ok (.ifCond .eq 35, 3) := by decide +kernel
theorem dX8_least_54 : decode cX8_least 54 = .ok (.aload_n 0, 1) := by decide +kernel
theorem dX8_least_55 : decode cX8_least 55 = .ok (.getfield 50, 3) := by decide +kernel
theorem dX8_least_58 : decode cX8_least 58 = .ok (.bipush 64, 2) := by decide +kernel
theorem dX8_least_60 : decode cX8_least 60 = .ok (.iload_n 1, 1) := by decide +kernel
theorem dX8_least_61 : decode cX8_least 61 = .ok (.imul, 1) := by decide +kernel
theorem dX8_least_62 : decode cX8_least 62 = .ok (.iload 7, 2) := by decide +kernel
theorem dX8_least_64 : decode cX8_least 64 = .ok (.iadd, 1) := by decide +kernel
theorem dX8_least_65 : decode cX8_least 65 = .ok (.iaload, 1) := by decide +kernel
theorem dX8_least_66 : decode cX8_least 66 = .ok (.iload 6, 2) := by decide +kernel
theorem dX8_least_68 : decode cX8_least 68 = .ok (.if_icmp .ge 18, 3) := by decide +kernel
theorem dX8_least_71 : decode cX8_least 71 = .ok (.aload_n 0, 1) := by decide +kernel
theorem dX8_least_72 : decode cX8_least 72 = .ok (.getfield 50, 3) := by decide +kernel
theorem dX8_least_75 : decode cX8_least 75 = .ok (.bipush 64, 2) := by decide +kernel
theorem dX8_least_77 : decode cX8_least 77 = .ok (.iload_n 1, 1) := by decide +kernel
theorem dX8_least_78 : decode cX8_least 78 = .ok (.imul, 1) := by decide +kernel
theorem dX8_least_79 : decode cX8_least 79 = .ok (.iload 7, 2) := by decide +kernel
theorem dX8_least_81 : decode cX8_least 81 = .ok (.iadd, 1) := by decide +kernel
theorem dX8_least_82 : decode cX8_least 82 = .ok (.iaload, 1) := by decide +kernel
theorem dX8_least_83 : decode cX8_least 83 = .ok (.goto 5, 3) := by decide +kernel
theorem dX8_least_86 : decode cX8_least 86 = .ok (.iload 6, 2) := by decide +kernel
theorem dX8_least_88 : decode cX8_least 88 = .ok (.istore 6, 2) := by decide +kernel
theorem dX8_least_90 : decode cX8_least 90 = .ok (.iinc 7 1, 3) := by decide +kernel
theorem dX8_least_93 : decode cX8_least 93 = .ok (.goto (-86), 3) := by decide +kernel
theorem dX8_least_96 : decode cX8_least 96 = .ok (.iload 6, 2) := by decide +kernel
theorem dX8_least_98 : decode cX8_least 98 = .ok (.ireturn, 1) := by decide +kernel
set_option maxRecDepth 20000 in
theorem ggX8_pare_X8_isSkin : GoodIn wsX8_pare wsX8_isSkin := goodIn_r _ [6, 7, 8, 9, 5, 10, 23, 24, 25, 26, 27, 28, 29, 30, 31, 32, 33, 34, 35, 36, 37, 38, 39, 40, 41, 42, 43, 44, 45, 46, 47, 48, 49, 50] (by decide +kernel) (by decide +kernel)
set_option maxRecDepth 20000 in
theorem gX8_pare_X8_isSkin : GoodIn wsX8_pare (wsV RX8 181 RX8 yX8_isSkin wsX8_isSkin) := goodIn_app (goodIn_of _ (by decide +kernel)) ggX8_pare_X8_isSkin
set_option maxRecDepth 20000 in
theorem ggX8_pare_X8_isEdge : GoodIn wsX8_pare wsX8_isEdge := goodIn_r _ [13, 8, 9, 5, 10] (by decide +kernel) (by decide +kernel)
set_option maxRecDepth 20000 in
theorem gX8_pare_X8_isEdge : GoodIn wsX8_pare (va_wsS RX8 79 yX8_isEdge wsX8_isEdge) := goodIn_app (goodIn_of _ (by decide +kernel)) ggX8_pare_X8_isEdge
set_option maxRecDepth 20000 in
theorem ggX8_pare_X8_in : GoodIn wsX8_pare wsX8_in := goodIn_r _ [10] (by decide +kernel) (by decide +kernel)
set_option maxRecDepth 20000 in
theorem gX8_pare_X8_in : GoodIn wsX8_pare (va_wsS RX8 75 yX8_in wsX8_in) := goodIn_app (goodIn_of _ (by decide +kernel)) ggX8_pare_X8_in
set_option maxRecDepth 20000 in
theorem ggX8_pare_X8_least : GoodIn wsX8_pare wsX8_least := goodIn_r _ [17, 1, 8, 9, 5, 10, 23, 24, 25, 26, 27, 28, 29, 30, 31, 32, 33, 34, 35, 36, 37, 38, 39, 40, 41, 42, 43, 44, 45, 46, 47, 48, 49, 50] (by decide +kernel) (by decide +kernel)
set_option maxRecDepth 20000 in
theorem gX8_pare_X8_least : GoodIn wsX8_pare (wsV RX8 184 RX8 yX8_least wsX8_least) := goodIn_app (goodIn_of _ (by decide +kernel)) ggX8_pare_X8_least
set_option maxRecDepth 20000 in
theorem ggX8_pare_X8_goes : GoodIn wsX8_pare wsX8_goes := goodIn_r _ [21, 22, 23, 24, 25, 26, 27, 28, 29, 30, 31, 32, 33, 34, 35, 36, 37, 38, 39, 40, 41, 42, 43, 44, 45, 46, 47, 48, 49, 50] (by decide +kernel) (by decide +kernel)
set_option maxRecDepth 20000 in
theorem gX8_pare_X8_goes : GoodIn wsX8_pare (wsV RX8 83 RX8 yX8_goes wsX8_goes) := goodIn_app (goodIn_of _ (by decide +kernel)) ggX8_pare_X8_goes
theorem dX8_pare_0 : decode cX8_pare 0 = .ok (.aload_n 0, 1) := by decide +kernel
theorem dX8_pare_1 : decode cX8_pare 1 = .ok (.iload_n 1, 1) := by decide +kernel
theorem dX8_pare_2 : decode cX8_pare 2 = .ok (.invokevirtual 181, 3) := by decide +kernel
theorem dX8_pare_5 : decode cX8_pare 5 = .ok (.ifCond .eq 44, 3) := by decide +kernel
theorem dX8_pare_8 : decode cX8_pare 8 = .ok (.iload_n 2, 1) := by decide +kernel
theorem dX8_pare_9 : decode cX8_pare 9 = .ok (.invokestatic 79, 3) := by decide +kernel
theorem dX8_pare_12 : decode cX8_pare 12 = .ok (.ifCond .eq 37, 3) := by decide +kernel
theorem dX8_pare_15 : decode cX8_pare 15 = .ok (.iload_n 3, 1) := by decide +kernel
theorem dX8_pare_16 : decode cX8_pare 16 = .ok (.iload_n 2, 1) := by decide +kernel
theorem dX8_pare_17 : decode cX8_pare 17 = .ok (.bipush 7, 2) := by decide +kernel
theorem dX8_pare_19 : decode cX8_pare 19 = .ok (.invokestatic 75, 3) := by decide +kernel
theorem dX8_pare_22 : decode cX8_pare 22 = .ok (.ifCond .eq 27, 3) := by decide +kernel
theorem dX8_pare_25 : decode cX8_pare 25 = .ok (.iload 4, 2) := by decide +kernel
theorem dX8_pare_27 : decode cX8_pare 27 = .ok (.invokestatic 79, 3) := by decide +kernel
theorem dX8_pare_30 : decode cX8_pare 30 = .ok (.ifCond .eq 19, 3) := by decide +kernel
theorem dX8_pare_33 : decode cX8_pare 33 = .ok (.iload 5, 2) := by decide +kernel
theorem dX8_pare_35 : decode cX8_pare 35 = .ok (.iload 4, 2) := by decide +kernel
theorem dX8_pare_37 : decode cX8_pare 37 = .ok (.bipush 7, 2) := by decide +kernel
theorem dX8_pare_39 : decode cX8_pare 39 = .ok (.invokestatic 75, 3) := by decide +kernel
theorem dX8_pare_42 : decode cX8_pare 42 = .ok (.ifCond .eq 7, 3) := by decide +kernel
theorem dX8_pare_45 : decode cX8_pare 45 = .ok (.iconst 1, 1) := by decide +kernel
theorem dX8_pare_46 : decode cX8_pare 46 = .ok (.goto 4, 3) := by decide +kernel
theorem dX8_pare_49 : decode cX8_pare 49 = .ok (.iconst 0, 1) := by decide +kernel
theorem dX8_pare_50 : decode cX8_pare 50 = .ok (.istore 7, 2) := by decide +kernel
theorem dX8_pare_52 : decode cX8_pare 52 = .ok (.iload 6, 2) := by decide +kernel
theorem dX8_pare_54 : decode cX8_pare 54 = .ok (.iconst 1, 1) := by decide +kernel
theorem dX8_pare_55 : decode cX8_pare 55 = .ok (.bipush 27, 2) := by decide +kernel
theorem dX8_pare_57 : decode cX8_pare 57 = .ok (.invokestatic 75, 3) := by decide +kernel
theorem dX8_pare_60 : decode cX8_pare 60 = .ok (.istore 8, 2) := by decide +kernel
theorem dX8_pare_62 : decode cX8_pare 62 = .ok (.aload_n 0, 1) := by decide +kernel
theorem dX8_pare_63 : decode cX8_pare 63 = .ok (.iload 7, 2) := by decide +kernel
theorem dX8_pare_65 : decode cX8_pare 65 = .ok (.iload 8, 2) := by decide +kernel
theorem dX8_pare_67 : decode cX8_pare 67 = .ok (.iload 7, 2) := by decide +kernel
theorem dX8_pare_69 : decode cX8_pare 69 = .ok (.ifCond .eq 30, 3) := by decide +kernel
theorem dX8_pare_72 : decode cX8_pare 72 = .ok (.iload 8, 2) := by decide +kernel
theorem dX8_pare_74 : decode cX8_pare 74 = .ok (.ifCond .eq 25, 3) := by decide +kernel
theorem dX8_pare_77 : decode cX8_pare 77 = .ok (.aload_n 0, 1) := by decide +kernel
theorem dX8_pare_78 : decode cX8_pare 78 = .ok (.iload_n 1, 1) := by decide +kernel
theorem dX8_pare_79 : decode cX8_pare 79 = .ok (.iload_n 2, 1) := by decide +kernel
theorem dX8_pare_80 : decode cX8_pare 80 = .ok (.iload_n 3, 1) := by decide +kernel
theorem dX8_pare_81 : decode cX8_pare 81 = .ok (.iload 4, 2) := by decide +kernel
theorem dX8_pare_83 : decode cX8_pare 83 = .ok (.iload 5, 2) := by decide +kernel
theorem dX8_pare_85 : decode cX8_pare 85 = .ok (.invokevirtual 184, 3) := by decide +kernel
theorem dX8_pare_88 : decode cX8_pare 88 = .ok (.iload 6, 2) := by decide +kernel
theorem dX8_pare_90 : decode cX8_pare 90 = .ok (.isub, 1) := by decide +kernel
theorem dX8_pare_91 : decode cX8_pare 91 = .ok (.iconst 3, 1) := by decide +kernel
theorem dX8_pare_92 : decode cX8_pare 92 = .ok (.if_icmp .lt 7, 3) := by decide +kernel
theorem dX8_pare_95 : decode cX8_pare 95 = .ok (.iconst 1, 1) := by decide +kernel
theorem dX8_pare_96 : decode cX8_pare 96 = .ok (.goto 4, 3) := by decide +kernel
theorem dX8_pare_99 : decode cX8_pare 99 = .ok (.iconst 0, 1) := by decide +kernel
theorem dX8_pare_100 : decode cX8_pare 100 = .ok (.invokevirtual 83, 3) := by decide +kernel
theorem dX8_pare_103 : decode cX8_pare 103 = .ok (.ifCond .ne 5, 3) := by decide +kernel
theorem dX8_pare_106 : decode cX8_pare 106 = .ok (.iconst 0, 1) := by decide +kernel
theorem dX8_pare_107 : decode cX8_pare 107 = .ok (.ireturn, 1) := by decide +kernel
theorem dX8_pare_108 : decode cX8_pare 108 = .ok (.iconst 0, 1) := by decide +kernel
theorem dX8_pare_109 : decode cX8_pare 109 = .ok (.istore 9, 2) := by decide +kernel
theorem dX8_pare_111 : decode cX8_pare 111 = .ok (.iload 9, 2) := by decide +kernel
theorem dX8_pare_113 : decode cX8_pare 113 = .ok (.bipush 64, 2) := by decide +kernel
theorem dX8_pare_115 : decode cX8_pare 115 = .ok (.if_icmp .ge 58, 3) := by decide +kernel
theorem dX8_pare_118 : decode cX8_pare 118 = .ok (.aload_n 0, 1) := by decide +kernel
theorem dX8_pare_119 : decode cX8_pare 119 = .ok (.getfield 50, 3) := by decide +kernel
theorem dX8_pare_122 : decode cX8_pare 122 = .ok (.bipush 64, 2) := by decide +kernel
theorem dX8_pare_124 : decode cX8_pare 124 = .ok (.iload_n 1, 1) := by decide +kernel
theorem dX8_pare_125 : decode cX8_pare 125 = .ok (.imul, 1) := by decide +kernel
theorem dX8_pare_126 : decode cX8_pare 126 = .ok (.iload 9, 2) := by decide +kernel
theorem dX8_pare_128 : decode cX8_pare 128 = .ok (.iadd, 1) := by decide +kernel
theorem dX8_pare_129 : decode cX8_pare 129 = .ok (.dup2, 1) := by decide +kernel
theorem dX8_pare_130 : decode cX8_pare 130 = .ok (.iaload, 1) := by decide +kernel
theorem dX8_pare_131 : decode cX8_pare 131 = .ok (.iload 9, 2) := by decide +kernel
theorem dX8_pare_133 : decode cX8_pare 133 = .ok (.bipush 8, 2) := by decide +kernel
theorem dX8_pare_135 : decode cX8_pare 135 = .ok (.irem, 1) := by decide +kernel
theorem dX8_pare_136 : decode cX8_pare 136 = .ok (.iload_n 2, 1) := by decide +kernel
theorem dX8_pare_137 : decode cX8_pare 137 = .ok (.iload_n 3, 1) := by decide +kernel
theorem dX8_pare_138 : decode cX8_pare 138 = .ok (.invokestatic 75, 3) := by decide +kernel
theorem dX8_pare_141 : decode cX8_pare 141 = .ok (.ifCond .eq 23, 3) := by decide +kernel
theorem dX8_pare_144 : decode cX8_pare 144 = .ok (.iload 9, 2) := by decide +kernel
theorem dX8_pare_146 : decode cX8_pare 146 = .ok (.bipush 8, 2) := by decide +kernel
theorem dX8_pare_148 : decode cX8_pare 148 = .ok (.idiv, 1) := by decide +kernel
theorem dX8_pare_149 : decode cX8_pare 149 = .ok (.iload 4, 2) := by decide +kernel
theorem dX8_pare_151 : decode cX8_pare 151 = .ok (.iload 5, 2) := by decide +kernel
theorem dX8_pare_153 : decode cX8_pare 153 = .ok (.invokestatic 75, 3) := by decide +kernel
theorem dX8_pare_156 : decode cX8_pare 156 = .ok (.ifCond .eq 8, 3) := by decide +kernel
theorem dX8_pare_159 : decode cX8_pare 159 = .ok (.iload 6, 2) := by decide +kernel
theorem dX8_pare_161 : decode cX8_pare 161 = .ok (.goto 4, 3) := by decide +kernel
theorem dX8_pare_164 : decode cX8_pare 164 = .ok (.iconst 0, 1) := by decide +kernel
theorem dX8_pare_165 : decode cX8_pare 165 = .ok (.isub, 1) := by decide +kernel
theorem dX8_pare_166 : decode cX8_pare 166 = .ok (.iastore, 1) := by decide +kernel
theorem dX8_pare_167 : decode cX8_pare 167 = .ok (.iinc 9 1, 3) := by decide +kernel
theorem dX8_pare_170 : decode cX8_pare 170 = .ok (.goto (-59), 3) := by decide +kernel
theorem dX8_pare_173 : decode cX8_pare 173 = .ok (.aload_n 0, 1) := by decide +kernel
theorem dX8_pare_174 : decode cX8_pare 174 = .ok (.iload_n 1, 1) := by decide +kernel
theorem dX8_pare_175 : decode cX8_pare 175 = .ok (.iload_n 2, 1) := by decide +kernel
theorem dX8_pare_176 : decode cX8_pare 176 = .ok (.iload_n 3, 1) := by decide +kernel
theorem dX8_pare_177 : decode cX8_pare 177 = .ok (.iload 4, 2) := by decide +kernel
theorem dX8_pare_179 : decode cX8_pare 179 = .ok (.iload 5, 2) := by decide +kernel
theorem dX8_pare_181 : decode cX8_pare 181 = .ok (.invokevirtual 184, 3) := by decide +kernel
theorem dX8_pare_184 : decode cX8_pare 184 = .ok (.ireturn, 1) := by decide +kernel
set_option maxRecDepth 20000 in
theorem ggX8_thickAt_X8_isSkin : GoodIn wsX8_thickAt wsX8_isSkin := goodIn_r _ [6, 7, 8, 9, 5, 10, 19, 20, 21, 22, 23, 24, 25, 26, 27, 28, 29, 30, 31, 32, 33, 34, 35, 36, 37, 38, 39, 40, 41, 42, 43, 44, 45, 46] (by decide +kernel) (by decide +kernel)
set_option maxRecDepth 20000 in
theorem gX8_thickAt_X8_isSkin : GoodIn wsX8_thickAt (wsV RX8 181 RX8 yX8_isSkin wsX8_isSkin) := goodIn_app (goodIn_of _ (by decide +kernel)) ggX8_thickAt_X8_isSkin
set_option maxRecDepth 20000 in
theorem ggX8_thickAt_X8_isEdge : GoodIn wsX8_thickAt wsX8_isEdge := goodIn_r _ [13, 8, 9, 5, 10] (by decide +kernel) (by decide +kernel)
set_option maxRecDepth 20000 in
theorem gX8_thickAt_X8_isEdge : GoodIn wsX8_thickAt (va_wsS RX8 79 yX8_isEdge wsX8_isEdge) := goodIn_app (goodIn_of _ (by decide +kernel)) ggX8_thickAt_X8_isEdge
set_option maxRecDepth 20000 in
theorem ggX8_thickAt_X8_goes : GoodIn wsX8_thickAt wsX8_goes := goodIn_r _ [17, 18, 19, 20, 21, 22, 23, 24, 25, 26, 27, 28, 29, 30, 31, 32, 33, 34, 35, 36, 37, 38, 39, 40, 41, 42, 43, 44, 45, 46] (by decide +kernel) (by decide +kernel)
set_option maxRecDepth 20000 in
theorem gX8_thickAt_X8_goes : GoodIn wsX8_thickAt (wsV RX8 83 RX8 yX8_goes wsX8_goes) := goodIn_app (goodIn_of _ (by decide +kernel)) ggX8_thickAt_X8_goes
theorem dX8_thickAt_0 : decode cX8_thickAt 0 = .ok (.aload_n 0, 1) := by decide +kernel
theorem dX8_thickAt_1 : decode cX8_thickAt 1 = .ok (.aload_n 0, 1) := by decide +kernel
theorem dX8_thickAt_2 : decode cX8_thickAt 2 = .ok (.iload_n 1, 1) := by decide +kernel
theorem dX8_thickAt_3 : decode cX8_thickAt 3 = .ok (.invokevirtual 181, 3) := by decide +kernel
theorem dX8_thickAt_6 : decode cX8_thickAt 6 = .ok (.ifCond .eq 21, 3) := by decide +kernel
theorem dX8_thickAt_9 : decode cX8_thickAt 9 = .ok (.iload_n 2, 1) := by decide +kernel
theorem dX8_thickAt_10 : decode cX8_thickAt 10 = .ok (.invokestatic 79, 3) := by decide +kernel
theorem dX8_thickAt_13 : decode cX8_thickAt 13 = .ok (.ifCond .eq 14, 3) := by decide +kernel
theorem dX8_thickAt_16 : decode cX8_thickAt 16 = .ok (.iload_n 3, 1) := by decide +kernel
theorem dX8_thickAt_17 : decode cX8_thickAt 17 = .ok (.invokestatic 79, 3) := by decide +kernel
theorem dX8_thickAt_20 : decode cX8_thickAt 20 = .ok (.ifCond .eq 7, 3) := by decide +kernel
theorem dX8_thickAt_23 : decode cX8_thickAt 23 = .ok (.iconst 1, 1) := by decide +kernel
theorem dX8_thickAt_24 : decode cX8_thickAt 24 = .ok (.goto 4, 3) := by decide +kernel
theorem dX8_thickAt_27 : decode cX8_thickAt 27 = .ok (.iconst 0, 1) := by decide +kernel
theorem dX8_thickAt_28 : decode cX8_thickAt 28 = .ok (.iconst 1, 1) := by decide +kernel
theorem dX8_thickAt_29 : decode cX8_thickAt 29 = .ok (.iconst 1, 1) := by decide +kernel
theorem dX8_thickAt_30 : decode cX8_thickAt 30 = .ok (.invokevirtual 83, 3) := by decide +kernel
theorem dX8_thickAt_33 : decode cX8_thickAt 33 = .ok (.ifCond .eq 22, 3) := by decide +kernel
theorem dX8_thickAt_36 : decode cX8_thickAt 36 = .ok (.aload_n 0, 1) := by decide +kernel
theorem dX8_thickAt_37 : decode cX8_thickAt 37 = .ok (.getfield 50, 3) := by decide +kernel
theorem dX8_thickAt_40 : decode cX8_thickAt 40 = .ok (.bipush 64, 2) := by decide +kernel
theorem dX8_thickAt_42 : decode cX8_thickAt 42 = .ok (.iload_n 1, 1) := by decide +kernel
theorem dX8_thickAt_43 : decode cX8_thickAt 43 = .ok (.imul, 1) := by decide +kernel
theorem dX8_thickAt_44 : decode cX8_thickAt 44 = .ok (.bipush 8, 2) := by decide +kernel
theorem dX8_thickAt_46 : decode cX8_thickAt 46 = .ok (.iload_n 3, 1) := by decide +kernel
theorem dX8_thickAt_47 : decode cX8_thickAt 47 = .ok (.imul, 1) := by decide +kernel
theorem dX8_thickAt_48 : decode cX8_thickAt 48 = .ok (.iadd, 1) := by decide +kernel
theorem dX8_thickAt_49 : decode cX8_thickAt 49 = .ok (.iload_n 2, 1) := by decide +kernel
theorem dX8_thickAt_50 : decode cX8_thickAt 50 = .ok (.iadd, 1) := by decide +kernel
theorem dX8_thickAt_51 : decode cX8_thickAt 51 = .ok (.iaload, 1) := by decide +kernel
theorem dX8_thickAt_52 : decode cX8_thickAt 52 = .ok (.goto 4, 3) := by decide +kernel
theorem dX8_thickAt_55 : decode cX8_thickAt 55 = .ok (.iconst 0, 1) := by decide +kernel
theorem dX8_thickAt_56 : decode cX8_thickAt 56 = .ok (.ireturn, 1) := by decide +kernel
set_option maxRecDepth 20000 in
theorem ggX8_tooThick_X8_isSkin : GoodIn wsX8_tooThick wsX8_isSkin := goodIn_r _ [6, 7, 8, 9, 5, 10, 16, 17, 18, 19, 20, 21, 22, 23, 24, 25, 26, 27, 28, 29, 30, 31, 32, 33, 34, 35, 36, 37, 38, 39, 40, 41, 42, 43] (by decide +kernel) (by decide +kernel)
set_option maxRecDepth 20000 in
theorem gX8_tooThick_X8_isSkin : GoodIn wsX8_tooThick (wsV RX8 181 RX8 yX8_isSkin wsX8_isSkin) := goodIn_app (goodIn_of _ (by decide +kernel)) ggX8_tooThick_X8_isSkin
set_option maxRecDepth 20000 in
theorem ggX8_tooThick_X8_goes : GoodIn wsX8_tooThick wsX8_goes := goodIn_r _ [14, 15, 16, 17, 18, 19, 20, 21, 22, 23, 24, 25, 26, 27, 28, 29, 30, 31, 32, 33, 34, 35, 36, 37, 38, 39, 40, 41, 42, 43] (by decide +kernel) (by decide +kernel)
set_option maxRecDepth 20000 in
theorem gX8_tooThick_X8_goes : GoodIn wsX8_tooThick (wsV RX8 83 RX8 yX8_goes wsX8_goes) := goodIn_app (goodIn_of _ (by decide +kernel)) ggX8_tooThick_X8_goes
set_option maxRecDepth 20000 in
theorem ggX8_tooThick_X8_in : GoodIn wsX8_tooThick wsX8_in := goodIn_r _ [10] (by decide +kernel) (by decide +kernel)
set_option maxRecDepth 20000 in
theorem gX8_tooThick_X8_in : GoodIn wsX8_tooThick (va_wsS RX8 75 yX8_in wsX8_in) := goodIn_app (goodIn_of _ (by decide +kernel)) ggX8_tooThick_X8_in
theorem dX8_tooThick_0 : decode cX8_tooThick 0 = .ok (.aload_n 0, 1) := by decide +kernel
theorem dX8_tooThick_1 : decode cX8_tooThick 1 = .ok (.aload_n 0, 1) := by decide +kernel
theorem dX8_tooThick_2 : decode cX8_tooThick 2 = .ok (.iload_n 1, 1) := by decide +kernel
theorem dX8_tooThick_3 : decode cX8_tooThick 3 = .ok (.invokevirtual 181, 3) := by decide +kernel
theorem dX8_tooThick_6 : decode cX8_tooThick 6 = .ok (.iconst 1, 1) := by decide +kernel
theorem dX8_tooThick_7 : decode cX8_tooThick 7 = .ok (.iconst 1, 1) := by decide +kernel
theorem dX8_tooThick_8 : decode cX8_tooThick 8 = .ok (.invokevirtual 83, 3) := by decide +kernel
theorem dX8_tooThick_11 : decode cX8_tooThick 11 = .ok (.ifCond .ne 5, 3) := by decide +kernel
theorem dX8_tooThick_14 : decode cX8_tooThick 14 = .ok (.iconst 0, 1) := by decide +kernel
theorem dX8_tooThick_15 : decode cX8_tooThick 15 = .ok (.ireturn, 1) := by decide +kernel
theorem dX8_tooThick_16 : decode cX8_tooThick 16 = .ok (.iconst 0, 1) := by decide +kernel
theorem dX8_tooThick_17 : decode cX8_tooThick 17 = .ok (.istore_n 2, 1) := by decide +kernel
theorem dX8_tooThick_18 : decode cX8_tooThick 18 = .ok (.iconst 0, 1) := by decide +kernel
theorem dX8_tooThick_19 : decode cX8_tooThick 19 = .ok (.istore_n 3, 1) := by decide +kernel
theorem dX8_tooThick_20 : decode cX8_tooThick 20 = .ok (.iload_n 3, 1) := by decide +kernel
theorem dX8_tooThick_21 : decode cX8_tooThick 21 = .ok (.bipush 64, 2) := by decide +kernel
theorem dX8_tooThick_23 : decode cX8_tooThick 23 = .ok (.if_icmp .ge 76, 3) := by decide +kernel
theorem dX8_tooThick_26 : decode cX8_tooThick 26 = .ok (.iload_n 3, 1) := by decide +kernel
theorem dX8_tooThick_27 : decode cX8_tooThick 27 = .ok (.bipush 8, 2) := by decide +kernel
theorem dX8_tooThick_29 : decode cX8_tooThick 29 = .ok (.irem, 1) := by decide +kernel
theorem dX8_tooThick_30 : decode cX8_tooThick 30 = .ok (.iconst 1, 1) := by decide +kernel
theorem dX8_tooThick_31 : decode cX8_tooThick 31 = .ok (.bipush 6, 2) := by decide +kernel
theorem dX8_tooThick_33 : decode cX8_tooThick 33 = .ok (.invokestatic 75, 3) := by decide +kernel
theorem dX8_tooThick_36 : decode cX8_tooThick 36 = .ok (.ifCond .eq 20, 3) := by decide +kernel
theorem dX8_tooThick_39 : decode cX8_tooThick 39 = .ok (.iload_n 3, 1) := by decide +kernel
theorem dX8_tooThick_40 : decode cX8_tooThick 40 = .ok (.bipush 8, 2) := by decide +kernel
theorem dX8_tooThick_42 : decode cX8_tooThick 42 = .ok (.idiv, 1) := by decide +kernel
theorem dX8_tooThick_43 : decode cX8_tooThick 43 = .ok (.iconst 1, 1) := by decide +kernel
theorem dX8_tooThick_44 : decode cX8_tooThick 44 = .ok (.bipush 6, 2) := by decide +kernel
theorem dX8_tooThick_46 : decode cX8_tooThick 46 = .ok (.invokestatic 75, 3) := by decide +kernel
theorem dX8_tooThick_49 : decode cX8_tooThick 49 = .ok (.ifCond .eq 7, 3) := by decide +kernel
theorem dX8_tooThick_52 : decode cX8_tooThick 52 = .ok (.iconst 1, 1) := by decide +kernel
theorem dX8_tooThick_53 : decode cX8_tooThick 53 = .ok (.goto 4, 3) := by decide +kernel
theorem dX8_tooThick_56 : decode cX8_tooThick 56 = .ok (.iconst 0, 1) := by decide +kernel
theorem dX8_tooThick_57 : decode cX8_tooThick 57 = .ok (.istore 4, 2) := by decide +kernel
theorem dX8_tooThick_59 : decode cX8_tooThick 59 = .ok (.iload_n 2, 1) := by decide +kernel
theorem dX8_tooThick_60 : decode cX8_tooThick 60 = .ok (.aload_n 0, 1) := by decide +kernel
theorem dX8_tooThick_61 : decode cX8_tooThick 61 = .ok (.getfield 50, 3) := by decide +kernel
theorem dX8_tooThick_64 : decode cX8_tooThick 64 = .ok (.bipush 64, 2) := by decide +kernel
theorem dX8_tooThick_66 : decode cX8_tooThick 66 = .ok (.iload_n 1, 1) := by decide +kernel
theorem dX8_tooThick_67 : decode cX8_tooThick 67 = .ok (.imul, 1) := by decide +kernel
theorem dX8_tooThick_68 : decode cX8_tooThick 68 = .ok (.iload_n 3, 1) := by decide +kernel
theorem dX8_tooThick_69 : decode cX8_tooThick 69 = .ok (.iadd, 1) := by decide +kernel
theorem dX8_tooThick_70 : decode cX8_tooThick 70 = .ok (.iaload, 1) := by decide +kernel
theorem dX8_tooThick_71 : decode cX8_tooThick 71 = .ok (.iload 4, 2) := by decide +kernel
theorem dX8_tooThick_73 : decode cX8_tooThick 73 = .ok (.ifCond .eq 8, 3) := by decide +kernel
theorem dX8_tooThick_76 : decode cX8_tooThick 76 = .ok (.bipush 12, 2) := by decide +kernel
theorem dX8_tooThick_78 : decode cX8_tooThick 78 = .ok (.goto 5, 3) := by decide +kernel
theorem dX8_tooThick_81 : decode cX8_tooThick 81 = .ok (.bipush 6, 2) := by decide +kernel
theorem dX8_tooThick_83 : decode cX8_tooThick 83 = .ok (.if_icmp .le 7, 3) := by decide +kernel
theorem dX8_tooThick_86 : decode cX8_tooThick 86 = .ok (.iconst 1, 1) := by decide +kernel
theorem dX8_tooThick_87 : decode cX8_tooThick 87 = .ok (.goto 4, 3) := by decide +kernel
theorem dX8_tooThick_90 : decode cX8_tooThick 90 = .ok (.iconst 0, 1) := by decide +kernel
theorem dX8_tooThick_91 : decode cX8_tooThick 91 = .ok (.iadd, 1) := by decide +kernel
theorem dX8_tooThick_92 : decode cX8_tooThick 92 = .ok (.istore_n 2, 1) := by decide +kernel
theorem dX8_tooThick_93 : decode cX8_tooThick 93 = .ok (.iinc 3 1, 3) := by decide +kernel
theorem dX8_tooThick_96 : decode cX8_tooThick 96 = .ok (.goto (-76), 3) := by decide +kernel
theorem dX8_tooThick_99 : decode cX8_tooThick 99 = .ok (.iload_n 2, 1) := by decide +kernel
theorem dX8_tooThick_100 : decode cX8_tooThick 100 = .ok (.ireturn, 1) := by decide +kernel
set_option maxRecDepth 20000 in
theorem ggX8_repair_X8_isBook : GoodIn wsX8_repair wsX8_isBook := goodIn_r _ [8, 9, 10, 11, 7, 12, 18, 19, 20, 21, 22, 23, 24, 25, 26, 27, 28, 29, 30, 31, 32, 33, 34, 35, 36, 37, 38, 39, 40, 41, 42, 43, 44, 45] (by decide +kernel) (by decide +kernel)
set_option maxRecDepth 20000 in
theorem gX8_repair_X8_isBook : GoodIn wsX8_repair (wsV RX8 152 RX8 yX8_isBook wsX8_isBook) := goodIn_app (goodIn_of _ (by decide +kernel)) ggX8_repair_X8_isBook
set_option maxRecDepth 20000 in
theorem ggX8_repair_X8_in : GoodIn wsX8_repair wsX8_in := goodIn_r _ [12] (by decide +kernel) (by decide +kernel)
set_option maxRecDepth 20000 in
theorem gX8_repair_X8_in : GoodIn wsX8_repair (va_wsS RX8 75 yX8_in wsX8_in) := goodIn_app (goodIn_of _ (by decide +kernel)) ggX8_repair_X8_in
set_option maxRecDepth 20000 in
theorem ggX8_repair_X8_goes : GoodIn wsX8_repair wsX8_goes := goodIn_r _ [16, 17, 18, 19, 20, 21, 22, 23, 24, 25, 26, 27, 28, 29, 30, 31, 32, 33, 34, 35, 36, 37, 38, 39, 40, 41, 42, 43, 44, 45] (by decide +kernel) (by decide +kernel)
set_option maxRecDepth 20000 in
theorem gX8_repair_X8_goes : GoodIn wsX8_repair (wsV RX8 83 RX8 yX8_goes wsX8_goes) := goodIn_app (goodIn_of _ (by decide +kernel)) ggX8_repair_X8_goes
theorem dX8_repair_0 : decode cX8_repair 0 = .ok (.aload_n 0, 1) := by decide +kernel
theorem dX8_repair_1 : decode cX8_repair 1 = .ok (.iload_n 1, 1) := by decide +kernel
theorem dX8_repair_2 : decode cX8_repair 2 = .ok (.invokevirtual 152, 3) := by decide +kernel
theorem dX8_repair_5 : decode cX8_repair 5 = .ok (.istore_n 3, 1) := by decide +kernel
theorem dX8_repair_6 : decode cX8_repair 6 = .ok (.iload_n 3, 1) := by decide +kernel
theorem dX8_repair_7 : decode cX8_repair 7 = .ok (.ifCond .eq 48, 3) := by decide +kernel
theorem dX8_repair_10 : decode cX8_repair 10 = .ok (.aload_n 0, 1) := by decide +kernel
theorem dX8_repair_11 : decode cX8_repair 11 = .ok (.getfield 31, 3) := by decide +kernel
theorem dX8_repair_14 : decode cX8_repair 14 = .ok (.iload_n 3, 1) := by decide +kernel
theorem dX8_repair_15 : decode cX8_repair 15 = .ok (.ifCond .eq 7, 3) := by decide +kernel
theorem dX8_repair_18 : decode cX8_repair 18 = .ok (.iload_n 1, 1) := by decide +kernel
theorem dX8_repair_19 : decode cX8_repair 19 = .ok (.goto 4, 3) := by decide +kernel
theorem dX8_repair_22 : decode cX8_repair 22 = .ok (.iconst 0, 1) := by decide +kernel
theorem dX8_repair_23 : decode cX8_repair 23 = .ok (.baload, 1) := by decide +kernel
theorem dX8_repair_24 : decode cX8_repair 24 = .ok (.ifCond .eq 8, 3) := by decide +kernel
theorem dX8_repair_27 : decode cX8_repair 27 = .ok (.iload_n 2, 1) := by decide +kernel
theorem dX8_repair_28 : decode cX8_repair 28 = .ok (.iconst 3, 1) := by decide +kernel
theorem dX8_repair_29 : decode cX8_repair 29 = .ok (.if_icmp .ge 26, 3) := by decide +kernel
theorem dX8_repair_32 : decode cX8_repair 32 = .ok (.aload_n 0, 1) := by decide +kernel
theorem dX8_repair_33 : decode cX8_repair 33 = .ok (.getfield 53, 3) := by decide +kernel
theorem dX8_repair_36 : decode cX8_repair 36 = .ok (.iload_n 3, 1) := by decide +kernel
theorem dX8_repair_37 : decode cX8_repair 37 = .ok (.ifCond .eq 7, 3) := by decide +kernel
theorem dX8_repair_40 : decode cX8_repair 40 = .ok (.iload_n 1, 1) := by decide +kernel
theorem dX8_repair_41 : decode cX8_repair 41 = .ok (.goto 4, 3) := by decide +kernel
theorem dX8_repair_44 : decode cX8_repair 44 = .ok (.iconst 0, 1) := by decide +kernel
theorem dX8_repair_45 : decode cX8_repair 45 = .ok (.iaload, 1) := by decide +kernel
theorem dX8_repair_46 : decode cX8_repair 46 = .ok (.bipush 20, 2) := by decide +kernel
theorem dX8_repair_48 : decode cX8_repair 48 = .ok (.if_icmp .ge 7, 3) := by decide +kernel
theorem dX8_repair_51 : decode cX8_repair 51 = .ok (.iconst 1, 1) := by decide +kernel
theorem dX8_repair_52 : decode cX8_repair 52 = .ok (.goto 4, 3) := by decide +kernel
theorem dX8_repair_55 : decode cX8_repair 55 = .ok (.iconst 0, 1) := by decide +kernel
theorem dX8_repair_56 : decode cX8_repair 56 = .ok (.istore 4, 2) := by decide +kernel
theorem dX8_repair_58 : decode cX8_repair 58 = .ok (.aload_n 0, 1) := by decide +kernel
theorem dX8_repair_59 : decode cX8_repair 59 = .ok (.iload_n 3, 1) := by decide +kernel
theorem dX8_repair_60 : decode cX8_repair 60 = .ok (.iload_n 2, 1) := by decide +kernel
theorem dX8_repair_61 : decode cX8_repair 61 = .ok (.iconst 0, 1) := by decide +kernel
theorem dX8_repair_62 : decode cX8_repair 62 = .ok (.iconst 4, 1) := by decide +kernel
theorem dX8_repair_63 : decode cX8_repair 63 = .ok (.invokestatic 75, 3) := by decide +kernel
theorem dX8_repair_66 : decode cX8_repair 66 = .ok (.iload 4, 2) := by decide +kernel
theorem dX8_repair_68 : decode cX8_repair 68 = .ok (.invokevirtual 83, 3) := by decide +kernel
theorem dX8_repair_71 : decode cX8_repair 71 = .ok (.ifCond .ne 5, 3) := by decide +kernel
theorem dX8_repair_74 : decode cX8_repair 74 = .ok (.iconst 0, 1) := by decide +kernel
theorem dX8_repair_75 : decode cX8_repair 75 = .ok (.ireturn, 1) := by decide +kernel
theorem dX8_repair_76 : decode cX8_repair 76 = .ok (.aload_n 0, 1) := by decide +kernel
theorem dX8_repair_77 : decode cX8_repair 77 = .ok (.getfield 56, 3) := by decide +kernel
theorem dX8_repair_80 : decode cX8_repair 80 = .ok (.bipush 20, 2) := by decide +kernel
theorem dX8_repair_82 : decode cX8_repair 82 = .ok (.iload_n 1, 1) := by decide +kernel
theorem dX8_repair_83 : decode cX8_repair 83 = .ok (.imul, 1) := by decide +kernel
theorem dX8_repair_84 : decode cX8_repair 84 = .ok (.aload_n 0, 1) := by decide +kernel
theorem dX8_repair_85 : decode cX8_repair 85 = .ok (.getfield 53, 3) := by decide +kernel
theorem dX8_repair_88 : decode cX8_repair 88 = .ok (.iload_n 1, 1) := by decide +kernel
theorem dX8_repair_89 : decode cX8_repair 89 = .ok (.iaload, 1) := by decide +kernel
theorem dX8_repair_90 : decode cX8_repair 90 = .ok (.iadd, 1) := by decide +kernel
theorem dX8_repair_91 : decode cX8_repair 91 = .ok (.iload_n 2, 1) := by decide +kernel
theorem dX8_repair_92 : decode cX8_repair 92 = .ok (.iastore, 1) := by decide +kernel
theorem dX8_repair_93 : decode cX8_repair 93 = .ok (.aload_n 0, 1) := by decide +kernel
theorem dX8_repair_94 : decode cX8_repair 94 = .ok (.getfield 53, 3) := by decide +kernel
theorem dX8_repair_97 : decode cX8_repair 97 = .ok (.iload_n 1, 1) := by decide +kernel
theorem dX8_repair_98 : decode cX8_repair 98 = .ok (.dup2, 1) := by decide +kernel
theorem dX8_repair_99 : decode cX8_repair 99 = .ok (.iaload, 1) := by decide +kernel
theorem dX8_repair_100 : decode cX8_repair 100 = .ok (.iconst 1, 1) := by decide +kernel
theorem dX8_repair_101 : decode cX8_repair 101 = .ok (.iadd, 1) := by decide +kernel
theorem dX8_repair_102 : decode cX8_repair 102 = .ok (.iastore, 1) := by decide +kernel
theorem dX8_repair_103 : decode cX8_repair 103 = .ok (.aload_n 0, 1) := by decide +kernel
theorem dX8_repair_104 : decode cX8_repair 104 = .ok (.getfield 53, 3) := by decide +kernel
theorem dX8_repair_107 : decode cX8_repair 107 = .ok (.iload_n 1, 1) := by decide +kernel
theorem dX8_repair_108 : decode cX8_repair 108 = .ok (.iaload, 1) := by decide +kernel
theorem dX8_repair_109 : decode cX8_repair 109 = .ok (.ireturn, 1) := by decide +kernel
set_option maxRecDepth 20000 in
theorem ggX8_undo_X8_isBook : GoodIn wsX8_undo wsX8_isBook := goodIn_r _ [7, 8, 9, 10, 6, 11, 17, 18, 19, 20, 21, 22, 23, 24, 25, 26, 27, 28, 29, 30, 31, 32, 33, 34, 35, 36, 37, 38, 39, 40, 41, 42, 43, 44] (by decide +kernel) (by decide +kernel)
set_option maxRecDepth 20000 in
theorem gX8_undo_X8_isBook : GoodIn wsX8_undo (wsV RX8 152 RX8 yX8_isBook wsX8_isBook) := goodIn_app (goodIn_of _ (by decide +kernel)) ggX8_undo_X8_isBook
set_option maxRecDepth 20000 in
theorem ggX8_undo_X8_goes : GoodIn wsX8_undo wsX8_goes := goodIn_r _ [15, 16, 17, 18, 19, 20, 21, 22, 23, 24, 25, 26, 27, 28, 29, 30, 31, 32, 33, 34, 35, 36, 37, 38, 39, 40, 41, 42, 43, 44] (by decide +kernel) (by decide +kernel)
set_option maxRecDepth 20000 in
theorem gX8_undo_X8_goes : GoodIn wsX8_undo (wsV RX8 83 RX8 yX8_goes wsX8_goes) := goodIn_app (goodIn_of _ (by decide +kernel)) ggX8_undo_X8_goes
theorem dX8_undo_0 : decode cX8_undo 0 = .ok (.aload_n 0, 1) := by decide +kernel
theorem dX8_undo_1 : decode cX8_undo 1 = .ok (.iload_n 1, 1) := by decide +kernel
theorem dX8_undo_2 : decode cX8_undo 2 = .ok (.invokevirtual 152, 3) := by decide +kernel
theorem dX8_undo_5 : decode cX8_undo 5 = .ok (.istore_n 2, 1) := by decide +kernel
theorem dX8_undo_6 : decode cX8_undo 6 = .ok (.iload_n 2, 1) := by decide +kernel
theorem dX8_undo_7 : decode cX8_undo 7 = .ok (.ifCond .eq 12, 3) := by decide +kernel
theorem dX8_undo_10 : decode cX8_undo 10 = .ok (.aload_n 0, 1) := by decide +kernel
theorem dX8_undo_11 : decode cX8_undo 11 = .ok (.getfield 53, 3) := by decide +kernel
theorem dX8_undo_14 : decode cX8_undo 14 = .ok (.iload_n 1, 1) := by decide +kernel
theorem dX8_undo_15 : decode cX8_undo 15 = .ok (.iaload, 1) := by decide +kernel
theorem dX8_undo_16 : decode cX8_undo 16 = .ok (.goto 4, 3) := by decide +kernel
theorem dX8_undo_19 : decode cX8_undo 19 = .ok (.iconst 0, 1) := by decide +kernel
theorem dX8_undo_20 : decode cX8_undo 20 = .ok (.istore_n 3, 1) := by decide +kernel
theorem dX8_undo_21 : decode cX8_undo 21 = .ok (.aload_n 0, 1) := by decide +kernel
theorem dX8_undo_22 : decode cX8_undo 22 = .ok (.iload_n 2, 1) := by decide +kernel
theorem dX8_undo_23 : decode cX8_undo 23 = .ok (.iload_n 3, 1) := by decide +kernel
theorem dX8_undo_24 : decode cX8_undo 24 = .ok (.ifCond .le 24, 3) := by decide +kernel
theorem dX8_undo_27 : decode cX8_undo 27 = .ok (.aload_n 0, 1) := by decide +kernel
theorem dX8_undo_28 : decode cX8_undo 28 = .ok (.getfield 56, 3) := by decide +kernel
theorem dX8_undo_31 : decode cX8_undo 31 = .ok (.bipush 20, 2) := by decide +kernel
theorem dX8_undo_33 : decode cX8_undo 33 = .ok (.iload_n 1, 1) := by decide +kernel
theorem dX8_undo_34 : decode cX8_undo 34 = .ok (.imul, 1) := by decide +kernel
theorem dX8_undo_35 : decode cX8_undo 35 = .ok (.iload_n 3, 1) := by decide +kernel
theorem dX8_undo_36 : decode cX8_undo 36 = .ok (.iadd, 1) := by decide +kernel
theorem dX8_undo_37 : decode cX8_undo 37 = .ok (.iconst 1, 1) := by decide +kernel
theorem dX8_undo_38 : decode cX8_undo 38 = .ok (.isub, 1) := by decide +kernel
theorem dX8_undo_39 : decode cX8_undo 39 = .ok (.iaload, 1) := by decide +kernel
theorem dX8_undo_40 : decode cX8_undo 40 = .ok (.iconst 3, 1) := by decide +kernel
theorem dX8_undo_41 : decode cX8_undo 41 = .ok (.if_icmp .ge 7, 3) := by decide +kernel
theorem dX8_undo_44 : decode cX8_undo 44 = .ok (.iconst 1, 1) := by decide +kernel
theorem dX8_undo_45 : decode cX8_undo 45 = .ok (.goto 4, 3) := by decide +kernel
theorem dX8_undo_48 : decode cX8_undo 48 = .ok (.iconst 0, 1) := by decide +kernel
theorem dX8_undo_49 : decode cX8_undo 49 = .ok (.iconst 1, 1) := by decide +kernel
theorem dX8_undo_50 : decode cX8_undo 50 = .ok (.invokevirtual 83, 3) := by decide +kernel
theorem dX8_undo_53 : decode cX8_undo 53 = .ok (.ifCond .ne 5, 3) := by decide +kernel
theorem dX8_undo_56 : decode cX8_undo 56 = .ok (.iconst 0, 1) := by decide +kernel
theorem dX8_undo_57 : decode cX8_undo 57 = .ok (.ireturn, 1) := by decide +kernel
theorem dX8_undo_58 : decode cX8_undo 58 = .ok (.aload_n 0, 1) := by decide +kernel
theorem dX8_undo_59 : decode cX8_undo 59 = .ok (.getfield 53, 3) := by decide +kernel
theorem dX8_undo_62 : decode cX8_undo 62 = .ok (.iload_n 1, 1) := by decide +kernel
theorem dX8_undo_63 : decode cX8_undo 63 = .ok (.dup2, 1) := by decide +kernel
theorem dX8_undo_64 : decode cX8_undo 64 = .ok (.iaload, 1) := by decide +kernel
theorem dX8_undo_65 : decode cX8_undo 65 = .ok (.iconst 1, 1) := by decide +kernel
theorem dX8_undo_66 : decode cX8_undo 66 = .ok (.isub, 1) := by decide +kernel
theorem dX8_undo_67 : decode cX8_undo 67 = .ok (.iastore, 1) := by decide +kernel
theorem dX8_undo_68 : decode cX8_undo 68 = .ok (.aload_n 0, 1) := by decide +kernel
theorem dX8_undo_69 : decode cX8_undo 69 = .ok (.getfield 56, 3) := by decide +kernel
theorem dX8_undo_72 : decode cX8_undo 72 = .ok (.bipush 20, 2) := by decide +kernel
theorem dX8_undo_74 : decode cX8_undo 74 = .ok (.iload_n 1, 1) := by decide +kernel
theorem dX8_undo_75 : decode cX8_undo 75 = .ok (.imul, 1) := by decide +kernel
theorem dX8_undo_76 : decode cX8_undo 76 = .ok (.aload_n 0, 1) := by decide +kernel
theorem dX8_undo_77 : decode cX8_undo 77 = .ok (.getfield 53, 3) := by decide +kernel
theorem dX8_undo_80 : decode cX8_undo 80 = .ok (.iload_n 1, 1) := by decide +kernel
theorem dX8_undo_81 : decode cX8_undo 81 = .ok (.iaload, 1) := by decide +kernel
theorem dX8_undo_82 : decode cX8_undo 82 = .ok (.iadd, 1) := by decide +kernel
theorem dX8_undo_83 : decode cX8_undo 83 = .ok (.iaload, 1) := by decide +kernel
theorem dX8_undo_84 : decode cX8_undo 84 = .ok (.ireturn, 1) := by decide +kernel
set_option maxRecDepth 20000 in
theorem ggX8_speak_X8_isBook : GoodIn wsX8_speak wsX8_isBook := goodIn_r _ [9, 10, 11, 12, 8, 13, 19, 20, 21, 22, 23, 24, 25, 26, 27, 28, 29, 30, 31, 32, 33, 34, 35, 36, 37, 38, 39, 40, 41, 42, 43, 44, 45, 46] (by decide +kernel) (by decide +kernel)
set_option maxRecDepth 20000 in
theorem gX8_speak_X8_isBook : GoodIn wsX8_speak (wsV RX8 152 RX8 yX8_isBook wsX8_isBook) := goodIn_app (goodIn_of _ (by decide +kernel)) ggX8_speak_X8_isBook
set_option maxRecDepth 20000 in
theorem ggX8_speak_X8_in : GoodIn wsX8_speak wsX8_in := goodIn_r _ [13] (by decide +kernel) (by decide +kernel)
set_option maxRecDepth 20000 in
theorem gX8_speak_X8_in : GoodIn wsX8_speak (va_wsS RX8 75 yX8_in wsX8_in) := goodIn_app (goodIn_of _ (by decide +kernel)) ggX8_speak_X8_in
set_option maxRecDepth 20000 in
theorem ggX8_speak_X8_goes : GoodIn wsX8_speak wsX8_goes := goodIn_r _ [17, 18, 19, 20, 21, 22, 23, 24, 25, 26, 27, 28, 29, 30, 31, 32, 33, 34, 35, 36, 37, 38, 39, 40, 41, 42, 43, 44, 45, 46] (by decide +kernel) (by decide +kernel)
set_option maxRecDepth 20000 in
theorem gX8_speak_X8_goes : GoodIn wsX8_speak (wsV RX8 83 RX8 yX8_goes wsX8_goes) := goodIn_app (goodIn_of _ (by decide +kernel)) ggX8_speak_X8_goes
theorem dX8_speak_0 : decode cX8_speak 0 = .ok (.aload_n 0, 1) := by decide +kernel
theorem dX8_speak_1 : decode cX8_speak 1 = .ok (.iload_n 1, 1) := by decide +kernel
theorem dX8_speak_2 : decode cX8_speak 2 = .ok (.invokevirtual 152, 3) := by decide +kernel
theorem dX8_speak_5 : decode cX8_speak 5 = .ok (.istore 5, 2) := by decide +kernel
theorem dX8_speak_7 : decode cX8_speak 7 = .ok (.iload_n 2, 1) := by decide +kernel
theorem dX8_speak_8 : decode cX8_speak 8 = .ok (.sipush 1400, 3) := by decide +kernel
theorem dX8_speak_11 : decode cX8_speak 11 = .ok (.sipush 2000, 3) := by decide +kernel
theorem dX8_speak_14 : decode cX8_speak 14 = .ok (.invokestatic 75, 3) := by decide +kernel
theorem dX8_speak_17 : decode cX8_speak 17 = .ok (.ifCond .eq 29, 3) := by decide +kernel
theorem dX8_speak_20 : decode cX8_speak 20 = .ok (.iload_n 3, 1) := by decide +kernel
theorem dX8_speak_21 : decode cX8_speak 21 = .ok (.iload_n 2, 1) := by decide +kernel
theorem dX8_speak_22 : decode cX8_speak 22 = .ok (.sipush 2000, 3) := by decide +kernel
theorem dX8_speak_25 : decode cX8_speak 25 = .ok (.invokestatic 75, 3) := by decide +kernel
theorem dX8_speak_28 : decode cX8_speak 28 = .ok (.ifCond .eq 18, 3) := by decide +kernel
theorem dX8_speak_31 : decode cX8_speak 31 = .ok (.iload 4, 2) := by decide +kernel
theorem dX8_speak_33 : decode cX8_speak 33 = .ok (.iconst 1, 1) := by decide +kernel
theorem dX8_speak_34 : decode cX8_speak 34 = .ok (.bipush 9, 2) := by decide +kernel
theorem dX8_speak_36 : decode cX8_speak 36 = .ok (.invokestatic 75, 3) := by decide +kernel
theorem dX8_speak_39 : decode cX8_speak 39 = .ok (.ifCond .eq 7, 3) := by decide +kernel
theorem dX8_speak_42 : decode cX8_speak 42 = .ok (.iconst 1, 1) := by decide +kernel
theorem dX8_speak_43 : decode cX8_speak 43 = .ok (.goto 4, 3) := by decide +kernel
theorem dX8_speak_46 : decode cX8_speak 46 = .ok (.iconst 0, 1) := by decide +kernel
theorem dX8_speak_47 : decode cX8_speak 47 = .ok (.istore 6, 2) := by decide +kernel
theorem dX8_speak_49 : decode cX8_speak 49 = .ok (.aload_n 0, 1) := by decide +kernel
theorem dX8_speak_50 : decode cX8_speak 50 = .ok (.iload 5, 2) := by decide +kernel
theorem dX8_speak_52 : decode cX8_speak 52 = .ok (.iload 6, 2) := by decide +kernel
theorem dX8_speak_54 : decode cX8_speak 54 = .ok (.iload 5, 2) := by decide +kernel
theorem dX8_speak_56 : decode cX8_speak 56 = .ok (.ifCond .eq 27, 3) := by decide +kernel
theorem dX8_speak_59 : decode cX8_speak 59 = .ok (.aload_n 0, 1) := by decide +kernel
theorem dX8_speak_60 : decode cX8_speak 60 = .ok (.getfield 59, 3) := by decide +kernel
theorem dX8_speak_63 : decode cX8_speak 63 = .ok (.iload 5, 2) := by decide +kernel
theorem dX8_speak_65 : decode cX8_speak 65 = .ok (.ifCond .eq 7, 3) := by decide +kernel
theorem dX8_speak_68 : decode cX8_speak 68 = .ok (.iload_n 1, 1) := by decide +kernel
theorem dX8_speak_69 : decode cX8_speak 69 = .ok (.goto 4, 3) := by decide +kernel
theorem dX8_speak_72 : decode cX8_speak 72 = .ok (.iconst 0, 1) := by decide +kernel
theorem dX8_speak_73 : decode cX8_speak 73 = .ok (.iaload, 1) := by decide +kernel
theorem dX8_speak_74 : decode cX8_speak 74 = .ok (.bipush 20, 2) := by decide +kernel
theorem dX8_speak_76 : decode cX8_speak 76 = .ok (.if_icmp .ge 7, 3) := by decide +kernel
theorem dX8_speak_79 : decode cX8_speak 79 = .ok (.iconst 1, 1) := by decide +kernel
theorem dX8_speak_80 : decode cX8_speak 80 = .ok (.goto 4, 3) := by decide +kernel
theorem dX8_speak_83 : decode cX8_speak 83 = .ok (.iconst 0, 1) := by decide +kernel
theorem dX8_speak_84 : decode cX8_speak 84 = .ok (.invokevirtual 83, 3) := by decide +kernel
theorem dX8_speak_87 : decode cX8_speak 87 = .ok (.ifCond .ne 5, 3) := by decide +kernel
theorem dX8_speak_90 : decode cX8_speak 90 = .ok (.iconst 0, 1) := by decide +kernel
theorem dX8_speak_91 : decode cX8_speak 91 = .ok (.ireturn, 1) := by decide +kernel
theorem dX8_speak_92 : decode cX8_speak 92 = .ok (.bipush 20, 2) := by decide +kernel
theorem dX8_speak_94 : decode cX8_speak 94 = .ok (.iload_n 1, 1) := by decide +kernel
theorem dX8_speak_95 : decode cX8_speak 95 = .ok (.imul, 1) := by decide +kernel
theorem dX8_speak_96 : decode cX8_speak 96 = .ok (.aload_n 0, 1) := by decide +kernel
theorem dX8_speak_97 : decode cX8_speak 97 = .ok (.getfield 59, 3) := by decide +kernel
theorem dX8_speak_100 : decode cX8_speak 100 = .ok (.iload_n 1, 1) := by decide +kernel
theorem dX8_speak_101 : decode cX8_speak 101 = .ok (.iaload, 1) := by decide +kernel
theorem dX8_speak_102 : decode cX8_speak 102 = .ok (.iadd, 1) := by decide +kernel
theorem dX8_speak_103 : decode cX8_speak 103 = .ok (.istore 7, 2) := by decide +kernel
theorem dX8_speak_105 : decode cX8_speak 105 = .ok (.aload_n 0, 1) := by decide +kernel
theorem dX8_speak_106 : decode cX8_speak 106 = .ok (.getfield 62, 3) := by decide +kernel
theorem dX8_speak_109 : decode cX8_speak 109 = .ok (.iload 7, 2) := by decide +kernel
theorem dX8_speak_111 : decode cX8_speak 111 = .ok (.iload_n 2, 1) := by decide +kernel
theorem dX8_speak_112 : decode cX8_speak 112 = .ok (.iastore, 1) := by decide +kernel
theorem dX8_speak_113 : decode cX8_speak 113 = .ok (.aload_n 0, 1) := by decide +kernel
theorem dX8_speak_114 : decode cX8_speak 114 = .ok (.getfield 65, 3) := by decide +kernel
theorem dX8_speak_117 : decode cX8_speak 117 = .ok (.iload 7, 2) := by decide +kernel
theorem dX8_speak_119 : decode cX8_speak 119 = .ok (.iload_n 3, 1) := by decide +kernel
theorem dX8_speak_120 : decode cX8_speak 120 = .ok (.iastore, 1) := by decide +kernel
theorem dX8_speak_121 : decode cX8_speak 121 = .ok (.aload_n 0, 1) := by decide +kernel
theorem dX8_speak_122 : decode cX8_speak 122 = .ok (.getfield 68, 3) := by decide +kernel
theorem dX8_speak_125 : decode cX8_speak 125 = .ok (.iload 7, 2) := by decide +kernel
theorem dX8_speak_127 : decode cX8_speak 127 = .ok (.iload 4, 2) := by decide +kernel
theorem dX8_speak_129 : decode cX8_speak 129 = .ok (.iastore, 1) := by decide +kernel
theorem dX8_speak_130 : decode cX8_speak 130 = .ok (.aload_n 0, 1) := by decide +kernel
theorem dX8_speak_131 : decode cX8_speak 131 = .ok (.getfield 59, 3) := by decide +kernel
theorem dX8_speak_134 : decode cX8_speak 134 = .ok (.iload_n 1, 1) := by decide +kernel
theorem dX8_speak_135 : decode cX8_speak 135 = .ok (.dup2, 1) := by decide +kernel
theorem dX8_speak_136 : decode cX8_speak 136 = .ok (.iaload, 1) := by decide +kernel
theorem dX8_speak_137 : decode cX8_speak 137 = .ok (.iconst 1, 1) := by decide +kernel
theorem dX8_speak_138 : decode cX8_speak 138 = .ok (.iadd, 1) := by decide +kernel
theorem dX8_speak_139 : decode cX8_speak 139 = .ok (.iastore, 1) := by decide +kernel
theorem dX8_speak_140 : decode cX8_speak 140 = .ok (.aload_n 0, 1) := by decide +kernel
theorem dX8_speak_141 : decode cX8_speak 141 = .ok (.getfield 59, 3) := by decide +kernel
theorem dX8_speak_144 : decode cX8_speak 144 = .ok (.iload_n 1, 1) := by decide +kernel
theorem dX8_speak_145 : decode cX8_speak 145 = .ok (.iaload, 1) := by decide +kernel
theorem dX8_speak_146 : decode cX8_speak 146 = .ok (.ireturn, 1) := by decide +kernel
set_option maxRecDepth 20000 in
theorem ggX8_sumOf_X8_in : GoodIn wsX8_sumOf wsX8_in := goodIn_r _ [8] (by decide +kernel) (by decide +kernel)
set_option maxRecDepth 20000 in
theorem gX8_sumOf_X8_in : GoodIn wsX8_sumOf (va_wsS RX8 75 yX8_in wsX8_in) := goodIn_app (goodIn_of _ (by decide +kernel)) ggX8_sumOf_X8_in
theorem dX8_sumOf_0 : decode cX8_sumOf 0 = .ok (.iconst 0, 1) := by decide +kernel
theorem dX8_sumOf_1 : decode cX8_sumOf 1 = .ok (.istore_n 3, 1) := by decide +kernel
theorem dX8_sumOf_2 : decode cX8_sumOf 2 = .ok (.bipush 20, 2) := by decide +kernel
theorem dX8_sumOf_4 : decode cX8_sumOf 4 = .ok (.iload_n 1, 1) := by decide +kernel
theorem dX8_sumOf_5 : decode cX8_sumOf 5 = .ok (.imul, 1) := by decide +kernel
theorem dX8_sumOf_6 : decode cX8_sumOf 6 = .ok (.istore 4, 2) := by decide +kernel
theorem dX8_sumOf_8 : decode cX8_sumOf 8 = .ok (.iload 4, 2) := by decide +kernel
theorem dX8_sumOf_10 : decode cX8_sumOf 10 = .ok (.bipush 20, 2) := by decide +kernel
theorem dX8_sumOf_12 : decode cX8_sumOf 12 = .ok (.iload_n 1, 1) := by decide +kernel
theorem dX8_sumOf_13 : decode cX8_sumOf 13 = .ok (.imul, 1) := by decide +kernel
theorem dX8_sumOf_14 : decode cX8_sumOf 14 = .ok (.aload_n 0, 1) := by decide +kernel
theorem dX8_sumOf_15 : decode cX8_sumOf 15 = .ok (.getfield 59, 3) := by decide +kernel
theorem dX8_sumOf_18 : decode cX8_sumOf 18 = .ok (.iload_n 1, 1) := by decide +kernel
theorem dX8_sumOf_19 : decode cX8_sumOf 19 = .ok (.iaload, 1) := by decide +kernel
theorem dX8_sumOf_20 : decode cX8_sumOf 20 = .ok (.iadd, 1) := by decide +kernel
theorem dX8_sumOf_21 : decode cX8_sumOf 21 = .ok (.if_icmp .ge 44, 3) := by decide +kernel
theorem dX8_sumOf_24 : decode cX8_sumOf 24 = .ok (.iload_n 3, 1) := by decide +kernel
theorem dX8_sumOf_25 : decode cX8_sumOf 25 = .ok (.iload_n 2, 1) := by decide +kernel
theorem dX8_sumOf_26 : decode cX8_sumOf 26 = .ok (.aload_n 0, 1) := by decide +kernel
theorem dX8_sumOf_27 : decode cX8_sumOf 27 = .ok (.getfield 62, 3) := by decide +kernel
theorem dX8_sumOf_30 : decode cX8_sumOf 30 = .ok (.iload 4, 2) := by decide +kernel
theorem dX8_sumOf_32 : decode cX8_sumOf 32 = .ok (.iaload, 1) := by decide +kernel
theorem dX8_sumOf_33 : decode cX8_sumOf 33 = .ok (.aload_n 0, 1) := by decide +kernel
theorem dX8_sumOf_34 : decode cX8_sumOf 34 = .ok (.getfield 65, 3) := by decide +kernel
theorem dX8_sumOf_37 : decode cX8_sumOf 37 = .ok (.iload 4, 2) := by decide +kernel
theorem dX8_sumOf_39 : decode cX8_sumOf 39 = .ok (.iaload, 1) := by decide +kernel
theorem dX8_sumOf_40 : decode cX8_sumOf 40 = .ok (.invokestatic 75, 3) := by decide +kernel
theorem dX8_sumOf_43 : decode cX8_sumOf 43 = .ok (.ifCond .eq 13, 3) := by decide +kernel
theorem dX8_sumOf_46 : decode cX8_sumOf 46 = .ok (.aload_n 0, 1) := by decide +kernel
theorem dX8_sumOf_47 : decode cX8_sumOf 47 = .ok (.getfield 68, 3) := by decide +kernel
theorem dX8_sumOf_50 : decode cX8_sumOf 50 = .ok (.iload 4, 2) := by decide +kernel
theorem dX8_sumOf_52 : decode cX8_sumOf 52 = .ok (.iaload, 1) := by decide +kernel
theorem dX8_sumOf_53 : decode cX8_sumOf 53 = .ok (.goto 4, 3) := by decide +kernel
theorem dX8_sumOf_56 : decode cX8_sumOf 56 = .ok (.iconst 0, 1) := by decide +kernel
theorem dX8_sumOf_57 : decode cX8_sumOf 57 = .ok (.iadd, 1) := by decide +kernel
theorem dX8_sumOf_58 : decode cX8_sumOf 58 = .ok (.istore_n 3, 1) := by decide +kernel
theorem dX8_sumOf_59 : decode cX8_sumOf 59 = .ok (.iinc 4 1, 3) := by decide +kernel
theorem dX8_sumOf_62 : decode cX8_sumOf 62 = .ok (.goto (-54), 3) := by decide +kernel
theorem dX8_sumOf_65 : decode cX8_sumOf 65 = .ok (.iload_n 3, 1) := by decide +kernel
theorem dX8_sumOf_66 : decode cX8_sumOf 66 = .ok (.ireturn, 1) := by decide +kernel
set_option maxRecDepth 20000 in
theorem ggX8_best_X8_sumOf : GoodIn wsX8_best wsX8_sumOf := goodIn_r _ [5, 6, 7, 8, 9, 10, 11, 4, 12, 13, 14, 15, 16, 17, 18, 19, 20, 21, 22, 23, 24, 25, 26, 27, 28, 29, 30, 31, 32, 33, 34, 35, 36, 37, 38, 39, 40] (by decide +kernel) (by decide +kernel)
set_option maxRecDepth 20000 in
theorem gX8_best_X8_sumOf : GoodIn wsX8_best (wsV RX8 188 RX8 yX8_sumOf wsX8_sumOf) := goodIn_app (goodIn_of _ (by decide +kernel)) ggX8_best_X8_sumOf
theorem dX8_best_0 : decode cX8_best 0 = .ok (.iconst (-1), 1) := by decide +kernel
theorem dX8_best_1 : decode cX8_best 1 = .ok (.istore_n 2, 1) := by decide +kernel
theorem dX8_best_2 : decode cX8_best 2 = .ok (.iconst 0, 1) := by decide +kernel
theorem dX8_best_3 : decode cX8_best 3 = .ok (.istore_n 3, 1) := by decide +kernel
theorem dX8_best_4 : decode cX8_best 4 = .ok (.sipush 1400, 3) := by decide +kernel
theorem dX8_best_7 : decode cX8_best 7 = .ok (.istore 4, 2) := by decide +kernel
theorem dX8_best_9 : decode cX8_best 9 = .ok (.iload 4, 2) := by decide +kernel
theorem dX8_best_11 : decode cX8_best 11 = .ok (.sipush 2000, 3) := by decide +kernel
theorem dX8_best_14 : decode cX8_best 14 = .ok (.if_icmp .gt 44, 3) := by decide +kernel
theorem dX8_best_17 : decode cX8_best 17 = .ok (.aload_n 0, 1) := by decide +kernel
theorem dX8_best_18 : decode cX8_best 18 = .ok (.iload_n 1, 1) := by decide +kernel
theorem dX8_best_19 : decode cX8_best 19 = .ok (.iload 4, 2) := by decide +kernel
theorem dX8_best_21 : decode cX8_best 21 = .ok (.invokevirtual 188, 3) := by decide +kernel
theorem dX8_best_24 : decode cX8_best 24 = .ok (.istore 5, 2) := by decide +kernel
theorem dX8_best_26 : decode cX8_best 26 = .ok (.iload 5, 2) := by decide +kernel
theorem dX8_best_28 : decode cX8_best 28 = .ok (.iload_n 3, 1) := by decide +kernel
theorem dX8_best_29 : decode cX8_best 29 = .ok (.if_icmp .le 8, 3) := by decide +kernel
theorem dX8_best_32 : decode cX8_best 32 = .ok (.iload 4, 2) := by decide +kernel
theorem dX8_best_34 : decode cX8_best 34 = .ok (.goto 4, 3) := by decide +kernel
theorem dX8_best_37 : decode cX8_best 37 = .ok (.iload_n 2, 1) := by decide +kernel
theorem dX8_best_38 : decode cX8_best 38 = .ok (.istore_n 2, 1) := by decide +kernel
theorem dX8_best_39 : decode cX8_best 39 = .ok (.iload 5, 2) := by decide +kernel
theorem dX8_best_41 : decode cX8_best 41 = .ok (.iload_n 3, 1) := by decide +kernel
theorem dX8_best_42 : decode cX8_best 42 = .ok (.if_icmp .le 8, 3) := by decide +kernel
theorem dX8_best_45 : decode cX8_best 45 = .ok (.iload 5, 2) := by decide +kernel
theorem dX8_best_47 : decode cX8_best 47 = .ok (.goto 4, 3) := by decide +kernel
theorem dX8_best_50 : decode cX8_best 50 = .ok (.iload_n 3, 1) := by decide +kernel
theorem dX8_best_51 : decode cX8_best 51 = .ok (.istore_n 3, 1) := by decide +kernel
theorem dX8_best_52 : decode cX8_best 52 = .ok (.iinc 4 1, 3) := by decide +kernel
theorem dX8_best_55 : decode cX8_best 55 = .ok (.goto (-46), 3) := by decide +kernel
theorem dX8_best_58 : decode cX8_best 58 = .ok (.iload_n 2, 1) := by decide +kernel
theorem dX8_best_59 : decode cX8_best 59 = .ok (.ireturn, 1) := by decide +kernel
set_option maxRecDepth 20000 in
theorem ggX8_year_X8_isBook : GoodIn wsX8_year wsX8_isBook := goodIn_r _ [5, 6, 7, 8, 4, 9, 27, 28, 29, 30, 31, 32, 33, 34, 35, 36, 37, 38, 39, 40, 41, 42, 43, 44, 45, 46, 47, 48, 49, 50, 51, 52, 53, 54] (by decide +kernel) (by decide +kernel)
set_option maxRecDepth 20000 in
theorem gX8_year_X8_isBook : GoodIn wsX8_year (wsV RX8 152 RX8 yX8_isBook wsX8_isBook) := goodIn_app (goodIn_of _ (by decide +kernel)) ggX8_year_X8_isBook
set_option maxRecDepth 20000 in
theorem ggX8_year_X8_goes : GoodIn wsX8_year wsX8_goes := goodIn_r _ [13, 14, 27, 28, 29, 30, 31, 32, 33, 34, 35, 36, 37, 38, 39, 40, 41, 42, 43, 44, 45, 46, 47, 48, 49, 50, 51, 52, 53, 54] (by decide +kernel) (by decide +kernel)
set_option maxRecDepth 20000 in
theorem gX8_year_X8_goes : GoodIn wsX8_year (wsV RX8 83 RX8 yX8_goes wsX8_goes) := goodIn_app (goodIn_of _ (by decide +kernel)) ggX8_year_X8_goes
set_option maxRecDepth 20000 in
theorem ggX8_year_X8_best : GoodIn wsX8_year wsX8_best := goodIn_r _ [18, 19, 20, 21, 4, 22, 23, 24, 25, 26, 7, 8, 9, 27, 28, 29, 30, 31, 32, 33, 34, 35, 36, 37, 38, 39, 40, 41, 42, 43, 44, 45, 46, 47, 48, 49, 50, 51, 52, 53, 54] (by decide +kernel) (by decide +kernel)
set_option maxRecDepth 20000 in
theorem gX8_year_X8_best : GoodIn wsX8_year (wsV RX8 191 RX8 yX8_best wsX8_best) := goodIn_app (goodIn_of _ (by decide +kernel)) ggX8_year_X8_best
set_option maxRecDepth 20000 in
theorem ggX8_year_X8_sumOf : GoodIn wsX8_year wsX8_sumOf := goodIn_r _ [22, 23, 24, 25, 26, 7, 8, 4, 9, 27, 28, 29, 30, 31, 32, 33, 34, 35, 36, 37, 38, 39, 40, 41, 42, 43, 44, 45, 46, 47, 48, 49, 50, 51, 52, 53, 54] (by decide +kernel) (by decide +kernel)
set_option maxRecDepth 20000 in
theorem gX8_year_X8_sumOf : GoodIn wsX8_year (wsV RX8 188 RX8 yX8_sumOf wsX8_sumOf) := goodIn_app (goodIn_of _ (by decide +kernel)) ggX8_year_X8_sumOf
theorem dX8_year_0 : decode cX8_year 0 = .ok (.aload_n 0, 1) := by decide +kernel
theorem dX8_year_1 : decode cX8_year 1 = .ok (.aload_n 0, 1) := by decide +kernel
theorem dX8_year_2 : decode cX8_year 2 = .ok (.iload_n 1, 1) := by decide +kernel
theorem dX8_year_3 : decode cX8_year 3 = .ok (.invokevirtual 152, 3) := by decide +kernel
theorem dX8_year_6 : decode cX8_year 6 = .ok (.iconst 1, 1) := by decide +kernel
theorem dX8_year_7 : decode cX8_year 7 = .ok (.iconst 1, 1) := by decide +kernel
theorem dX8_year_8 : decode cX8_year 8 = .ok (.invokevirtual 83, 3) := by decide +kernel
theorem dX8_year_11 : decode cX8_year 11 = .ok (.ifCond .ne 5, 3) := by decide +kernel
theorem dX8_year_14 : decode cX8_year 14 = .ok (.iconst 0, 1) := by decide +kernel
theorem dX8_year_15 : decode cX8_year 15 = .ok (.ireturn, 1) := by decide +kernel
theorem dX8_year_16 : decode cX8_year 16 = .ok (.aload_n 0, 1) := by decide +kernel
theorem dX8_year_17 : decode cX8_year 17 = .ok (.iload_n 1, 1) := by decide +kernel
theorem dX8_year_18 : decode cX8_year 18 = .ok (.invokevirtual 191, 3) := by decide +kernel
theorem dX8_year_21 : decode cX8_year 21 = .ok (.istore_n 3, 1) := by decide +kernel
theorem dX8_year_22 : decode cX8_year 22 = .ok (.iload_n 3, 1) := by decide +kernel
theorem dX8_year_23 : decode cX8_year 23 = .ok (.istore 4, 2) := by decide +kernel
theorem dX8_year_25 : decode cX8_year 25 = .ok (.iload_n 3, 1) := by decide +kernel
theorem dX8_year_26 : decode cX8_year 26 = .ok (.iconst (-1), 1) := by decide +kernel
theorem dX8_year_27 : decode cX8_year 27 = .ok (.if_icmp .eq 35, 3) := by decide +kernel
theorem dX8_year_30 : decode cX8_year 30 = .ok (.iload 4, 2) := by decide +kernel
theorem dX8_year_32 : decode cX8_year 32 = .ok (.sipush 2000, 3) := by decide +kernel
theorem dX8_year_35 : decode cX8_year 35 = .ok (.if_icmp .ge 27, 3) := by decide +kernel
theorem dX8_year_38 : decode cX8_year 38 = .ok (.aload_n 0, 1) := by decide +kernel
theorem dX8_year_39 : decode cX8_year 39 = .ok (.iload_n 1, 1) := by decide +kernel
theorem dX8_year_40 : decode cX8_year 40 = .ok (.iload 4, 2) := by decide +kernel
theorem dX8_year_42 : decode cX8_year 42 = .ok (.iconst 1, 1) := by decide +kernel
theorem dX8_year_43 : decode cX8_year 43 = .ok (.iadd, 1) := by decide +kernel
theorem dX8_year_44 : decode cX8_year 44 = .ok (.invokevirtual 188, 3) := by decide +kernel
theorem dX8_year_47 : decode cX8_year 47 = .ok (.aload_n 0, 1) := by decide +kernel
theorem dX8_year_48 : decode cX8_year 48 = .ok (.iload_n 1, 1) := by decide +kernel
theorem dX8_year_49 : decode cX8_year 49 = .ok (.iload_n 3, 1) := by decide +kernel
theorem dX8_year_50 : decode cX8_year 50 = .ok (.invokevirtual 188, 3) := by decide +kernel
theorem dX8_year_53 : decode cX8_year 53 = .ok (.if_icmp .ne 9, 3) := by decide +kernel
theorem dX8_year_56 : decode cX8_year 56 = .ok (.iinc 4 1, 3) := by decide +kernel
theorem dX8_year_59 : decode cX8_year 59 = .ok (.goto (-34), 3) := by decide +kernel
theorem dX8_year_62 : decode cX8_year 62 = .ok (.iload_n 2, 1) := by decide +kernel
theorem dX8_year_63 : decode cX8_year 63 = .ok (.ifCond .eq 8, 3) := by decide +kernel
theorem dX8_year_66 : decode cX8_year 66 = .ok (.iload 4, 2) := by decide +kernel
theorem dX8_year_68 : decode cX8_year 68 = .ok (.goto 4, 3) := by decide +kernel
theorem dX8_year_71 : decode cX8_year 71 = .ok (.iload_n 3, 1) := by decide +kernel
theorem dX8_year_72 : decode cX8_year 72 = .ok (.ireturn, 1) := by decide +kernel
set_option maxRecDepth 20000 in
theorem ggX8_yearAnew_X8_year : GoodIn wsX8_yearAnew wsX8_year := goodIn_r _ [5, 6, 7, 8, 4, 9, 10, 11, 12, 13, 14, 15, 16, 17, 18, 19, 20, 21, 22, 23, 24, 25, 26, 27, 28, 29, 30, 31, 32, 33, 34, 35, 36, 37, 38, 39, 40, 41, 42, 43, 44, 45, 46, 47, 48, 49, 50, 51, 52, 53, 54, 55, 56, 57, 58] (by decide +kernel) (by decide +kernel)
set_option maxRecDepth 20000 in
theorem gX8_yearAnew_X8_year : GoodIn wsX8_yearAnew (wsV RX8 194 RX8 yX8_year wsX8_year) := goodIn_app (goodIn_of _ (by decide +kernel)) ggX8_yearAnew_X8_year
theorem dX8_yearAnew_0 : decode cX8_yearAnew 0 = .ok (.aload_n 0, 1) := by decide +kernel
theorem dX8_yearAnew_1 : decode cX8_yearAnew 1 = .ok (.iload_n 1, 1) := by decide +kernel
theorem dX8_yearAnew_2 : decode cX8_yearAnew 2 = .ok (.iload_n 2, 1) := by decide +kernel
theorem dX8_yearAnew_3 : decode cX8_yearAnew 3 = .ok (.invokevirtual 194, 3) := by decide +kernel
theorem dX8_yearAnew_6 : decode cX8_yearAnew 6 = .ok (.ireturn, 1) := by decide +kernel
theorem dJ9_floorMod_7cf53_0 : decode cJ9_floorMod_7cf53 0 = .ok (.iload_n 0, 1) := by decide +kernel
theorem dJ9_floorMod_7cf53_1 : decode cJ9_floorMod_7cf53 1 = .ok (.iload_n 1, 1) := by decide +kernel
theorem dJ9_floorMod_7cf53_2 : decode cJ9_floorMod_7cf53 2 = .ok (.irem, 1) := by decide +kernel
theorem dJ9_floorMod_7cf53_3 : decode cJ9_floorMod_7cf53 3 = .ok (.istore_n 2, 1) := by decide +kernel
theorem dJ9_floorMod_7cf53_4 : decode cJ9_floorMod_7cf53 4 = .ok (.iload_n 0, 1) := by decide +kernel
theorem dJ9_floorMod_7cf53_5 : decode cJ9_floorMod_7cf53 5 = .ok (.iload_n 1, 1) := by decide +kernel
theorem dJ9_floorMod_7cf53_6 : decode cJ9_floorMod_7cf53 6 = .ok (.ixor, 1) := by decide +kernel
theorem dJ9_floorMod_7cf53_7 : decode cJ9_floorMod_7cf53 7 = .ok (.ifCond .ge 11, 3) := by decide +kernel
theorem dJ9_floorMod_7cf53_10 : decode cJ9_floorMod_7cf53 10 = .ok (.iload_n 2, 1) := by decide +kernel
theorem dJ9_floorMod_7cf53_11 : decode cJ9_floorMod_7cf53 11 = .ok (.ifCond .eq 7, 3) := by decide +kernel
theorem dJ9_floorMod_7cf53_14 : decode cJ9_floorMod_7cf53 14 = .ok (.iload_n 2, 1) := by decide +kernel
theorem dJ9_floorMod_7cf53_15 : decode cJ9_floorMod_7cf53 15 = .ok (.iload_n 1, 1) := by decide +kernel
theorem dJ9_floorMod_7cf53_16 : decode cJ9_floorMod_7cf53 16 = .ok (.iadd, 1) := by decide +kernel
theorem dJ9_floorMod_7cf53_17 : decode cJ9_floorMod_7cf53 17 = .ok (.ireturn, 1) := by decide +kernel
theorem dJ9_floorMod_7cf53_18 : decode cJ9_floorMod_7cf53 18 = .ok (.iload_n 2, 1) := by decide +kernel
theorem dJ9_floorMod_7cf53_19 : decode cJ9_floorMod_7cf53 19 = .ok (.ireturn, 1) := by decide +kernel
theorem dJ9_max_7cf53_0 : decode cJ9_max_7cf53 0 = .ok (.iload_n 0, 1) := by decide +kernel
theorem dJ9_max_7cf53_1 : decode cJ9_max_7cf53 1 = .ok (.iload_n 1, 1) := by decide +kernel
theorem dJ9_max_7cf53_2 : decode cJ9_max_7cf53 2 = .ok (.if_icmp .lt 7, 3) := by decide +kernel
theorem dJ9_max_7cf53_5 : decode cJ9_max_7cf53 5 = .ok (.iload_n 0, 1) := by decide +kernel
theorem dJ9_max_7cf53_6 : decode cJ9_max_7cf53 6 = .ok (.goto 4, 3) := by decide +kernel
theorem dJ9_max_7cf53_9 : decode cJ9_max_7cf53 9 = .ok (.iload_n 1, 1) := by decide +kernel
theorem dJ9_max_7cf53_10 : decode cJ9_max_7cf53 10 = .ok (.ireturn, 1) := by decide +kernel
theorem dJ9_min_7cf53_0 : decode cJ9_min_7cf53 0 = .ok (.iload_n 0, 1) := by decide +kernel
theorem dJ9_min_7cf53_1 : decode cJ9_min_7cf53 1 = .ok (.iload_n 1, 1) := by decide +kernel
theorem dJ9_min_7cf53_2 : decode cJ9_min_7cf53 2 = .ok (.if_icmp .gt 7, 3) := by decide +kernel
theorem dJ9_min_7cf53_5 : decode cJ9_min_7cf53 5 = .ok (.iload_n 0, 1) := by decide +kernel
theorem dJ9_min_7cf53_6 : decode cJ9_min_7cf53 6 = .ok (.goto 4, 3) := by decide +kernel
theorem dJ9_min_7cf53_9 : decode cJ9_min_7cf53 9 = .ok (.iload_n 1, 1) := by decide +kernel
theorem dJ9_min_7cf53_10 : decode cJ9_min_7cf53 10 = .ok (.ireturn, 1) := by decide +kernel
