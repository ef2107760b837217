theorem dX7_init_0 : decode cX7_init 0 = .ok (.aload_n 0, 1) := by decide +kernel
theorem dX7_init_1 : decode cX7_init 1 = .ok (.invokespecial 3, 3) := by decide +kernel
theorem dX7_init_4 : decode cX7_init 4 = .ok (.aload_n 0, 1) := by decide +kernel
theorem dX7_init_5 : decode cX7_init 5 = .ok (.new 9, 3) := by decide +kernel
theorem dX7_init_8 : decode cX7_init 8 = .ok (.dup, 1) := by decide +kernel
theorem dX7_init_9 : decode cX7_init 9 = .ok (.invokespecial 11, 3) := by decide +kernel
theorem dX7_init_12 : decode cX7_init 12 = .ok (.putfield 12, 3) := by decide +kernel
theorem dX7_init_15 : decode cX7_init 15 = .ok (.aload_n 0, 1) := by decide +kernel
theorem dX7_init_16 : decode cX7_init 16 = .ok (.bipush 10, 2) := by decide +kernel
theorem dX7_init_18 : decode cX7_init 18 = .ok (.anewarray 16, 3) := by decide +kernel
theorem dX7_init_21 : decode cX7_init 21 = .ok (.putfield 18, 3) := by decide +kernel
theorem dX7_init_24 : decode cX7_init 24 = .ok (.aload_n 0, 1) := by decide +kernel
theorem dX7_init_25 : decode cX7_init 25 = .ok (.iconst 4, 1) := by decide +kernel
theorem dX7_init_26 : decode cX7_init 26 = .ok (.anewarray 22, 3) := by decide +kernel
theorem dX7_init_29 : decode cX7_init 29 = .ok (.putfield 24, 3) := by decide +kernel
theorem dX7_init_32 : decode cX7_init 32 = .ok (.aload_n 0, 1) := by decide +kernel
theorem dX7_init_33 : decode cX7_init 33 = .ok (.iconst 3, 1) := by decide +kernel
theorem dX7_init_34 : decode cX7_init 34 = .ok (.anewarray 28, 3) := by decide +kernel
theorem dX7_init_37 : decode cX7_init 37 = .ok (.putfield 30, 3) := by decide +kernel
theorem dX7_init_40 : decode cX7_init 40 = .ok (.return_, 1) := by decide +kernel
set_option maxRecDepth 20000 in
theorem ggX7_drop_X7_isOnGrid : GoodIn wsX7_drop wsX7_isOnGrid := goodIn_r _ [5, 6, 7, 4, 8, 9, 10, 11] (by decide +kernel) (by decide +kernel)
set_option maxRecDepth 20000 in
theorem gX7_drop_X7_isOnGrid : GoodIn wsX7_drop (va_wsS RX7 34 yX7_isOnGrid wsX7_isOnGrid) := goodIn_app (goodIn_of _ (by decide +kernel)) ggX7_drop_X7_isOnGrid
set_option maxRecDepth 20000 in
theorem ggX7_drop_X7_demandPlace : GoodIn wsX7_drop wsX7_demandPlace := goodIn_ca (goodIn_r _ [14, 15, 16] (by decide +kernel) (by decide +kernel)) (goodIn_sub (fun _ h => List.mem_cons_of_mem _ (List.mem_append_left _ (List.mem_append_right _ h))) (by decide +kernel))
set_option maxRecDepth 20000 in
theorem gX7_drop_X7_demandPlace : GoodIn wsX7_drop (va_wsS RX7 38 yX7_demandPlace wsX7_demandPlace) := goodIn_app (goodIn_of _ (by decide +kernel)) ggX7_drop_X7_demandPlace
set_option maxRecDepth 20000 in
theorem ggX7_drop_X7_isWithin : GoodIn wsX7_drop wsX7_isWithin := goodIn_r _ [11] (by decide +kernel) (by decide +kernel)
set_option maxRecDepth 20000 in
theorem gX7_drop_X7_isWithin : GoodIn wsX7_drop (va_wsS RX7 42 yX7_isWithin wsX7_isWithin) := goodIn_app (goodIn_of _ (by decide +kernel)) ggX7_drop_X7_isWithin
set_option maxRecDepth 20000 in
theorem ggX7_drop_X7_demandArgument : GoodIn wsX7_drop wsX7_demandArgument := goodIn_ca (goodIn_r _ [19, 20, 21] (by decide +kernel) (by decide +kernel)) (goodIn_sub (fun _ h => List.mem_cons_of_mem _ (List.mem_append_right _ h)) (by decide +kernel))
set_option maxRecDepth 20000 in
theorem gX7_drop_X7_demandArgument : GoodIn wsX7_drop (va_wsS RX7 46 yX7_demandArgument wsX7_demandArgument) := goodIn_app (goodIn_of _ (by decide +kernel)) ggX7_drop_X7_demandArgument
set_option maxRecDepth 20000 in
theorem ggX7_drop_X0_spread : GoodIn wsX7_drop wsX0_spread := goodIn_r _ [26, 27, 28, 29, 30, 31, 32, 25, 33, 34, 35, 36, 44, 45, 46, 47, 48] (by decide +kernel) (by decide +kernel)
set_option maxRecDepth 20000 in
theorem gX7_drop_X0_spread : GoodIn wsX7_drop (wsV RX7 49 RX0 yX0_spread wsX0_spread) := goodIn_app (goodIn_of _ (by decide +kernel)) ggX7_drop_X0_spread
theorem dX7_drop_0 : decode cX7_drop 0 = .ok (.iload_n 1, 1) := by decide +kernel
theorem dX7_drop_1 : decode cX7_drop 1 = .ok (.iload_n 2, 1) := by decide +kernel
theorem dX7_drop_2 : decode cX7_drop 2 = .ok (.invokestatic 34, 3) := by decide +kernel
theorem dX7_drop_5 : decode cX7_drop 5 = .ok (.invokestatic 38, 3) := by decide +kernel
theorem dX7_drop_8 : decode cX7_drop 8 = .ok (.iload_n 3, 1) := by decide +kernel
theorem dX7_drop_9 : decode cX7_drop 9 = .ok (.iconst 0, 1) := by decide +kernel
theorem dX7_drop_10 : decode cX7_drop 10 = .ok (.iconst 5, 1) := by decide +kernel
theorem dX7_drop_11 : decode cX7_drop 11 = .ok (.invokestatic 42, 3) := by decide +kernel
theorem dX7_drop_14 : decode cX7_drop 14 = .ok (.ifCond .eq 18, 3) := by decide +kernel
theorem dX7_drop_17 : decode cX7_drop 17 = .ok (.iload 4, 2) := by decide +kernel
theorem dX7_drop_19 : decode cX7_drop 19 = .ok (.iconst 1, 1) := by decide +kernel
theorem dX7_drop_20 : decode cX7_drop 20 = .ok (.bipush 64, 2) := by decide +kernel
theorem dX7_drop_22 : decode cX7_drop 22 = .ok (.invokestatic 42, 3) := by decide +kernel
theorem dX7_drop_25 : decode cX7_drop 25 = .ok (.ifCond .eq 7, 3) := by decide +kernel
theorem dX7_drop_28 : decode cX7_drop 28 = .ok (.iconst 1, 1) := by decide +kernel
theorem dX7_drop_29 : decode cX7_drop 29 = .ok (.goto 4, 3) := by decide +kernel
theorem dX7_drop_32 : decode cX7_drop 32 = .ok (.iconst 0, 1) := by decide +kernel
theorem dX7_drop_33 : decode cX7_drop 33 = .ok (.invokestatic 46, 3) := by decide +kernel
theorem dX7_drop_36 : decode cX7_drop 36 = .ok (.aload_n 0, 1) := by decide +kernel
theorem dX7_drop_37 : decode cX7_drop 37 = .ok (.getfield 12, 3) := by decide +kernel
theorem dX7_drop_40 : decode cX7_drop 40 = .ok (.iload_n 1, 1) := by decide +kernel
theorem dX7_drop_41 : decode cX7_drop 41 = .ok (.iload_n 2, 1) := by decide +kernel
theorem dX7_drop_42 : decode cX7_drop 42 = .ok (.iload_n 3, 1) := by decide +kernel
theorem dX7_drop_43 : decode cX7_drop 43 = .ok (.iload 4, 2) := by decide +kernel
theorem dX7_drop_45 : decode cX7_drop 45 = .ok (.invokevirtual 49, 3) := by decide +kernel
theorem dX7_drop_48 : decode cX7_drop 48 = .ok (.ireturn, 1) := by decide +kernel
set_option maxRecDepth 20000 in
theorem ggX7_comb_X7_isOnSide : GoodIn wsX7_comb wsX7_isOnSide := goodIn_r _ [5, 6, 7, 4, 8] (by decide +kernel) (by decide +kernel)
set_option maxRecDepth 20000 in
theorem gX7_comb_X7_isOnSide : GoodIn wsX7_comb (va_wsS RX7 53 yX7_isOnSide wsX7_isOnSide) := goodIn_app (goodIn_of _ (by decide +kernel)) ggX7_comb_X7_isOnSide
set_option maxRecDepth 20000 in
theorem ggX7_comb_X7_demandPlace : GoodIn wsX7_comb wsX7_demandPlace := goodIn_ca (goodIn_r _ [11, 12, 13] (by decide +kernel) (by decide +kernel)) (goodIn_sub (fun _ h => List.mem_cons_of_mem _ (List.mem_append_left _ (List.mem_append_right _ h))) (by decide +kernel))
set_option maxRecDepth 20000 in
theorem gX7_comb_X7_demandPlace : GoodIn wsX7_comb (va_wsS RX7 38 yX7_demandPlace wsX7_demandPlace) := goodIn_app (goodIn_of _ (by decide +kernel)) ggX7_comb_X7_demandPlace
set_option maxRecDepth 20000 in
theorem ggX7_comb_X7_isWithin : GoodIn wsX7_comb wsX7_isWithin := goodIn_r _ [8] (by decide +kernel) (by decide +kernel)
set_option maxRecDepth 20000 in
theorem gX7_comb_X7_isWithin : GoodIn wsX7_comb (va_wsS RX7 42 yX7_isWithin wsX7_isWithin) := goodIn_app (goodIn_of _ (by decide +kernel)) ggX7_comb_X7_isWithin
set_option maxRecDepth 20000 in
theorem ggX7_comb_X7_demandArgument : GoodIn wsX7_comb wsX7_demandArgument := goodIn_ca (goodIn_r _ [16, 17, 18] (by decide +kernel) (by decide +kernel)) (goodIn_sub (fun _ h => List.mem_cons_of_mem _ (List.mem_append_right _ h)) (by decide +kernel))
set_option maxRecDepth 20000 in
theorem gX7_comb_X7_demandArgument : GoodIn wsX7_comb (va_wsS RX7 46 yX7_demandArgument wsX7_demandArgument) := goodIn_app (goodIn_of _ (by decide +kernel)) ggX7_comb_X7_demandArgument
set_option maxRecDepth 20000 in
theorem ggX7_comb_X0_shift : GoodIn wsX7_comb wsX0_shift := goodIn_r _ [23, 24, 25, 26, 27, 28, 4, 29, 30, 31, 32, 33, 41, 42, 43, 44, 45] (by decide +kernel) (by decide +kernel)
set_option maxRecDepth 20000 in
theorem gX7_comb_X0_shift : GoodIn wsX7_comb (wsV RX7 57 RX0 yX0_shift wsX0_shift) := goodIn_app (goodIn_of _ (by decide +kernel)) ggX7_comb_X0_shift
theorem dX7_comb_0 : decode cX7_comb 0 = .ok (.iload_n 2, 1) := by decide +kernel
theorem dX7_comb_1 : decode cX7_comb 1 = .ok (.invokestatic 53, 3) := by decide +kernel
theorem dX7_comb_4 : decode cX7_comb 4 = .ok (.invokestatic 38, 3) := by decide +kernel
theorem dX7_comb_7 : decode cX7_comb 7 = .ok (.iload_n 3, 1) := by decide +kernel
theorem dX7_comb_8 : decode cX7_comb 8 = .ok (.bipush (-7), 2) := by decide +kernel
theorem dX7_comb_10 : decode cX7_comb 10 = .ok (.bipush 7, 2) := by decide +kernel
theorem dX7_comb_12 : decode cX7_comb 12 = .ok (.invokestatic 42, 3) := by decide +kernel
theorem dX7_comb_15 : decode cX7_comb 15 = .ok (.invokestatic 46, 3) := by decide +kernel
theorem dX7_comb_18 : decode cX7_comb 18 = .ok (.aload_n 0, 1) := by decide +kernel
theorem dX7_comb_19 : decode cX7_comb 19 = .ok (.getfield 12, 3) := by decide +kernel
theorem dX7_comb_22 : decode cX7_comb 22 = .ok (.iload_n 1, 1) := by decide +kernel
theorem dX7_comb_23 : decode cX7_comb 23 = .ok (.iload_n 2, 1) := by decide +kernel
theorem dX7_comb_24 : decode cX7_comb 24 = .ok (.iload_n 3, 1) := by decide +kernel
theorem dX7_comb_25 : decode cX7_comb 25 = .ok (.invokevirtual 57, 3) := by decide +kernel
theorem dX7_comb_28 : decode cX7_comb 28 = .ok (.ireturn, 1) := by decide +kernel
set_option maxRecDepth 20000 in
theorem ggX7_lift_X7_demandState : GoodIn wsX7_lift wsX7_demandState := goodIn_ca (goodIn_r _ [7, 8, 9] (by decide +kernel) (by decide +kernel)) (goodIn_sub (fun _ h => List.mem_cons_of_mem _ (List.mem_append_right _ h)) (by decide +kernel))
set_option maxRecDepth 20000 in
theorem gX7_lift_X7_demandState : GoodIn wsX7_lift (va_wsS RX7 65 yX7_demandState wsX7_demandState) := goodIn_app (goodIn_of _ (by decide +kernel)) ggX7_lift_X7_demandState
set_option maxRecDepth 20000 in
theorem ggX7_lift_X0_press : GoodIn wsX7_lift wsX0_press := goodIn_r _ [14, 15, 16, 17, 18, 19, 20, 21, 22, 23, 24, 25, 38, 39, 40, 41, 42, 43] (by decide +kernel) (by decide +kernel)
set_option maxRecDepth 20000 in
theorem gX7_lift_X0_press : GoodIn wsX7_lift (wsV RX7 68 RX0 yX0_press wsX0_press) := goodIn_app (goodIn_of _ (by decide +kernel)) ggX7_lift_X0_press
set_option maxRecDepth 20000 in
theorem ggX7_lift_X0_fade : GoodIn wsX7_lift wsX0_fade := goodIn_r _ [29, 18, 30, 39, 40, 41, 42, 43] (by decide +kernel) (by decide +kernel)
set_option maxRecDepth 20000 in
theorem gX7_lift_X0_fade : GoodIn wsX7_lift (wsV RX7 72 RX0 yX0_fade wsX0_fade) := goodIn_app (goodIn_of _ (by decide +kernel)) ggX7_lift_X0_fade
theorem dX7_lift_0 : decode cX7_lift 0 = .ok (.aload_n 0, 1) := by decide +kernel
theorem dX7_lift_1 : decode cX7_lift 1 = .ok (.getfield 61, 3) := by decide +kernel
theorem dX7_lift_4 : decode cX7_lift 4 = .ok (.bipush 10, 2) := by decide +kernel
theorem dX7_lift_6 : decode cX7_lift 6 = .ok (.if_icmp .ge 7, 3) := by decide +kernel
theorem dX7_lift_9 : decode cX7_lift 9 = .ok (.iconst 1, 1) := by decide +kernel
theorem dX7_lift_10 : decode cX7_lift 10 = .ok (.goto 4, 3) := by decide +kernel
theorem dX7_lift_13 : decode cX7_lift 13 = .ok (.iconst 0, 1) := by decide +kernel
theorem dX7_lift_14 : decode cX7_lift 14 = .ok (.invokestatic 65, 3) := by decide +kernel
theorem dX7_lift_17 : decode cX7_lift 17 = .ok (.aload_n 0, 1) := by decide +kernel
theorem dX7_lift_18 : decode cX7_lift 18 = .ok (.getfield 61, 3) := by decide +kernel
theorem dX7_lift_21 : decode cX7_lift 21 = .ok (.istore_n 1, 1) := by decide +kernel
theorem dX7_lift_22 : decode cX7_lift 22 = .ok (.aload_n 0, 1) := by decide +kernel
theorem dX7_lift_23 : decode cX7_lift 23 = .ok (.getfield 18, 3) := by decide +kernel
theorem dX7_lift_26 : decode cX7_lift 26 = .ok (.iload_n 1, 1) := by decide +kernel
theorem dX7_lift_27 : decode cX7_lift 27 = .ok (.aload_n 0, 1) := by decide +kernel
theorem dX7_lift_28 : decode cX7_lift 28 = .ok (.getfield 12, 3) := by decide +kernel
theorem dX7_lift_31 : decode cX7_lift 31 = .ok (.invokevirtual 68, 3) := by decide +kernel
theorem dX7_lift_34 : decode cX7_lift 34 = .ok (.aastore, 1) := by decide +kernel
theorem dX7_lift_35 : decode cX7_lift 35 = .ok (.aload_n 0, 1) := by decide +kernel
theorem dX7_lift_36 : decode cX7_lift 36 = .ok (.dup, 1) := by decide +kernel
theorem dX7_lift_37 : decode cX7_lift 37 = .ok (.getfield 61, 3) := by decide +kernel
theorem dX7_lift_40 : decode cX7_lift 40 = .ok (.iconst 1, 1) := by decide +kernel
theorem dX7_lift_41 : decode cX7_lift 41 = .ok (.iadd, 1) := by decide +kernel
theorem dX7_lift_42 : decode cX7_lift 42 = .ok (.putfield 61, 3) := by decide +kernel
theorem dX7_lift_45 : decode cX7_lift 45 = .ok (.aload_n 0, 1) := by decide +kernel
theorem dX7_lift_46 : decode cX7_lift 46 = .ok (.getfield 12, 3) := by decide +kernel
theorem dX7_lift_49 : decode cX7_lift 49 = .ok (.invokevirtual 72, 3) := by decide +kernel
theorem dX7_lift_52 : decode cX7_lift 52 = .ok (.iload_n 1, 1) := by decide +kernel
theorem dX7_lift_53 : decode cX7_lift 53 = .ok (.ireturn, 1) := by decide +kernel
set_option maxRecDepth 20000 in
theorem ggX7_clean_X0_empty : GoodIn wsX7_clean wsX0_empty := goodIn_r _ [6, 7, 8, 16, 17, 18, 19, 20] (by decide +kernel) (by decide +kernel)
set_option maxRecDepth 20000 in
theorem gX7_clean_X0_empty : GoodIn wsX7_clean (wsV RX7 75 RX0 yX0_empty wsX0_empty) := goodIn_app (goodIn_of _ (by decide +kernel)) ggX7_clean_X0_empty
theorem dX7_clean_0 : decode cX7_clean 0 = .ok (.aload_n 0, 1) := by decide +kernel
theorem dX7_clean_1 : decode cX7_clean 1 = .ok (.getfield 12, 3) := by decide +kernel
theorem dX7_clean_4 : decode cX7_clean 4 = .ok (.invokevirtual 75, 3) := by decide +kernel
theorem dX7_clean_7 : decode cX7_clean 7 = .ok (.ireturn, 1) := by decide +kernel
set_option maxRecDepth 20000 in
theorem ggX7_cellAt_X7_isOnGrid : GoodIn wsX7_cellAt wsX7_isOnGrid := goodIn_r _ [5, 6, 7, 4, 8, 9, 10, 11] (by decide +kernel) (by decide +kernel)
set_option maxRecDepth 20000 in
theorem gX7_cellAt_X7_isOnGrid : GoodIn wsX7_cellAt (va_wsS RX7 34 yX7_isOnGrid wsX7_isOnGrid) := goodIn_app (goodIn_of _ (by decide +kernel)) ggX7_cellAt_X7_isOnGrid
set_option maxRecDepth 20000 in
theorem ggX7_cellAt_X7_demandPlace : GoodIn wsX7_cellAt wsX7_demandPlace := goodIn_ca (goodIn_r _ [14, 15, 16] (by decide +kernel) (by decide +kernel)) (goodIn_sub (fun _ h => List.mem_cons_of_mem _ (List.mem_append_left _ (List.mem_append_right _ h))) (by decide +kernel))
set_option maxRecDepth 20000 in
theorem gX7_cellAt_X7_demandPlace : GoodIn wsX7_cellAt (va_wsS RX7 38 yX7_demandPlace wsX7_demandPlace) := goodIn_app (goodIn_of _ (by decide +kernel)) ggX7_cellAt_X7_demandPlace
set_option maxRecDepth 20000 in
theorem ggX7_cellAt_X7_isWithin : GoodIn wsX7_cellAt wsX7_isWithin := goodIn_r _ [11] (by decide +kernel) (by decide +kernel)
set_option maxRecDepth 20000 in
theorem gX7_cellAt_X7_isWithin : GoodIn wsX7_cellAt (va_wsS RX7 42 yX7_isWithin wsX7_isWithin) := goodIn_app (goodIn_of _ (by decide +kernel)) ggX7_cellAt_X7_isWithin
set_option maxRecDepth 20000 in
theorem ggX7_cellAt_X7_demandArgument : GoodIn wsX7_cellAt wsX7_demandArgument := goodIn_ca (goodIn_r _ [19, 20, 21] (by decide +kernel) (by decide +kernel)) (goodIn_sub (fun _ h => List.mem_cons_of_mem _ (List.mem_append_right _ h)) (by decide +kernel))
set_option maxRecDepth 20000 in
theorem gX7_cellAt_X7_demandArgument : GoodIn wsX7_cellAt (va_wsS RX7 46 yX7_demandArgument wsX7_demandArgument) := goodIn_app (goodIn_of _ (by decide +kernel)) ggX7_cellAt_X7_demandArgument
set_option maxRecDepth 20000 in
theorem ggX7_cellAt_X7_cellOf : GoodIn wsX7_cellAt wsX7_cellOf := goodIn_r _ [24] (by decide +kernel) (by decide +kernel)
set_option maxRecDepth 20000 in
theorem gX7_cellAt_X7_cellOf : GoodIn wsX7_cellAt (va_wsS RX7 79 yX7_cellOf wsX7_cellOf) := goodIn_app (goodIn_of _ (by decide +kernel)) ggX7_cellAt_X7_cellOf
theorem dX7_cellAt_0 : decode cX7_cellAt 0 = .ok (.iload_n 1, 1) := by decide +kernel
theorem dX7_cellAt_1 : decode cX7_cellAt 1 = .ok (.iload_n 2, 1) := by decide +kernel
theorem dX7_cellAt_2 : decode cX7_cellAt 2 = .ok (.invokestatic 34, 3) := by decide +kernel
theorem dX7_cellAt_5 : decode cX7_cellAt 5 = .ok (.invokestatic 38, 3) := by decide +kernel
theorem dX7_cellAt_8 : decode cX7_cellAt 8 = .ok (.iload_n 3, 1) := by decide +kernel
theorem dX7_cellAt_9 : decode cX7_cellAt 9 = .ok (.iconst 0, 1) := by decide +kernel
theorem dX7_cellAt_10 : decode cX7_cellAt 10 = .ok (.iconst 1, 1) := by decide +kernel
theorem dX7_cellAt_11 : decode cX7_cellAt 11 = .ok (.invokestatic 42, 3) := by decide +kernel
theorem dX7_cellAt_14 : decode cX7_cellAt 14 = .ok (.invokestatic 46, 3) := by decide +kernel
theorem dX7_cellAt_17 : decode cX7_cellAt 17 = .ok (.iload_n 1, 1) := by decide +kernel
theorem dX7_cellAt_18 : decode cX7_cellAt 18 = .ok (.iload_n 2, 1) := by decide +kernel
theorem dX7_cellAt_19 : decode cX7_cellAt 19 = .ok (.invokestatic 79, 3) := by decide +kernel
theorem dX7_cellAt_22 : decode cX7_cellAt 22 = .ok (.istore 4, 2) := by decide +kernel
theorem dX7_cellAt_24 : decode cX7_cellAt 24 = .ok (.iload_n 3, 1) := by decide +kernel
theorem dX7_cellAt_25 : decode cX7_cellAt 25 = .ok (.ifCond .ne 16, 3) := by decide +kernel
theorem dX7_cellAt_28 : decode cX7_cellAt 28 = .ok (.aload_n 0, 1) := by decide +kernel
theorem dX7_cellAt_29 : decode cX7_cellAt 29 = .ok (.getfield 12, 3) := by decide +kernel
theorem dX7_cellAt_32 : decode cX7_cellAt 32 = .ok (.getfield 83, 3) := by decide +kernel
theorem dX7_cellAt_35 : decode cX7_cellAt 35 = .ok (.iload 4, 2) := by decide +kernel
theorem dX7_cellAt_37 : decode cX7_cellAt 37 = .ok (.iaload, 1) := by decide +kernel
theorem dX7_cellAt_38 : decode cX7_cellAt 38 = .ok (.goto 13, 3) := by decide +kernel
theorem dX7_cellAt_41 : decode cX7_cellAt 41 = .ok (.aload_n 0, 1) := by decide +kernel
theorem dX7_cellAt_42 : decode cX7_cellAt 42 = .ok (.getfield 12, 3) := by decide +kernel
theorem dX7_cellAt_45 : decode cX7_cellAt 45 = .ok (.getfield 87, 3) := by decide +kernel
theorem dX7_cellAt_48 : decode cX7_cellAt 48 = .ok (.iload 4, 2) := by decide +kernel
theorem dX7_cellAt_50 : decode cX7_cellAt 50 = .ok (.iaload, 1) := by decide +kernel
theorem dX7_cellAt_51 : decode cX7_cellAt 51 = .ok (.ireturn, 1) := by decide +kernel
set_option maxRecDepth 20000 in
theorem ggX7_printAt_X7_printOf : GoodIn wsX7_printAt wsX7_printOf := goodIn_ca (goodIn_r _ [5, 6, 7, 8, 9, 10, 4, 11, 25, 26, 27, 28, 29, 30, 31] (by decide +kernel) (by decide +kernel)) (goodIn_sub (fun _ h => List.mem_cons_of_mem _ (List.mem_append_right _ h)) (by decide +kernel))
set_option maxRecDepth 20000 in
theorem gX7_printAt_X7_printOf : GoodIn wsX7_printAt (wsV RX7 90 RX7 yX7_printOf wsX7_printOf) := goodIn_app (goodIn_of _ (by decide +kernel)) ggX7_printAt_X7_printOf
set_option maxRecDepth 20000 in
theorem ggX7_printAt_X7_isOnGrid : GoodIn wsX7_printAt wsX7_isOnGrid := goodIn_r _ [14, 15, 16, 4, 17, 9, 10, 11] (by decide +kernel) (by decide +kernel)
set_option maxRecDepth 20000 in
theorem gX7_printAt_X7_isOnGrid : GoodIn wsX7_printAt (va_wsS RX7 34 yX7_isOnGrid wsX7_isOnGrid) := goodIn_app (goodIn_of _ (by decide +kernel)) ggX7_printAt_X7_isOnGrid
set_option maxRecDepth 20000 in
theorem ggX7_printAt_X7_demandPlace : GoodIn wsX7_printAt wsX7_demandPlace := goodIn_ca (goodIn_r _ [20, 6, 7] (by decide +kernel) (by decide +kernel)) (goodIn_sub (fun _ h => List.mem_cons_of_mem _ (List.mem_append_right _ h)) (by decide +kernel))
set_option maxRecDepth 20000 in
theorem gX7_printAt_X7_demandPlace : GoodIn wsX7_printAt (va_wsS RX7 38 yX7_demandPlace wsX7_demandPlace) := goodIn_app (goodIn_of _ (by decide +kernel)) ggX7_printAt_X7_demandPlace
set_option maxRecDepth 20000 in
theorem ggX7_printAt_X7_cellOf : GoodIn wsX7_printAt wsX7_cellOf := goodIn_r _ [23] (by decide +kernel) (by decide +kernel)
set_option maxRecDepth 20000 in
theorem gX7_printAt_X7_cellOf : GoodIn wsX7_printAt (va_wsS RX7 79 yX7_cellOf wsX7_cellOf) := goodIn_app (goodIn_of _ (by decide +kernel)) ggX7_printAt_X7_cellOf
theorem dX7_printAt_0 : decode cX7_printAt 0 = .ok (.aload_n 0, 1) := by decide +kernel
theorem dX7_printAt_1 : decode cX7_printAt 1 = .ok (.iload_n 1, 1) := by decide +kernel
theorem dX7_printAt_2 : decode cX7_printAt 2 = .ok (.invokevirtual 90, 3) := by decide +kernel
theorem dX7_printAt_5 : decode cX7_printAt 5 = .ok (.astore 4, 2) := by decide +kernel
theorem dX7_printAt_7 : decode cX7_printAt 7 = .ok (.iload_n 2, 1) := by decide +kernel
theorem dX7_printAt_8 : decode cX7_printAt 8 = .ok (.iload_n 3, 1) := by decide +kernel
theorem dX7_printAt_9 : decode cX7_printAt 9 = .ok (.invokestatic 34, 3) := by decide +kernel
theorem dX7_printAt_12 : decode cX7_printAt 12 = .ok (.invokestatic 38, 3) := by decide +kernel
theorem dX7_printAt_15 : decode cX7_printAt 15 = .ok (.aload 4, 2) := by decide +kernel
theorem dX7_printAt_17 : decode cX7_printAt 17 = .ok (.getfield 94, 3) := by decide +kernel
theorem dX7_printAt_20 : decode cX7_printAt 20 = .ok (.iload_n 2, 1) := by decide +kernel
theorem dX7_printAt_21 : decode cX7_printAt 21 = .ok (.iload_n 3, 1) := by decide +kernel
theorem dX7_printAt_22 : decode cX7_printAt 22 = .ok (.invokestatic 79, 3) := by decide +kernel
theorem dX7_printAt_25 : decode cX7_printAt 25 = .ok (.iaload, 1) := by decide +kernel
theorem dX7_printAt_26 : decode cX7_printAt 26 = .ok (.ireturn, 1) := by decide +kernel
set_option maxRecDepth 20000 in
theorem ggX7_count_X7_printOf : GoodIn wsX7_count wsX7_printOf := goodIn_ca (goodIn_r _ [5, 6, 7, 8, 9, 10, 4, 11, 23, 24, 25, 26, 27, 28, 29] (by decide +kernel) (by decide +kernel)) (goodIn_sub (fun _ h => List.mem_cons_of_mem _ (List.mem_append_left _ (List.mem_append_right _ h))) (by decide +kernel))
set_option maxRecDepth 20000 in
theorem gX7_count_X7_printOf : GoodIn wsX7_count (wsV RX7 90 RX7 yX7_printOf wsX7_printOf) := goodIn_app (goodIn_of _ (by decide +kernel)) ggX7_count_X7_printOf
set_option maxRecDepth 20000 in
theorem ggX7_count_X7_isWithin : GoodIn wsX7_count wsX7_isWithin := goodIn_r _ [11] (by decide +kernel) (by decide +kernel)
set_option maxRecDepth 20000 in
theorem gX7_count_X7_isWithin : GoodIn wsX7_count (va_wsS RX7 42 yX7_isWithin wsX7_isWithin) := goodIn_app (goodIn_of _ (by decide +kernel)) ggX7_count_X7_isWithin
set_option maxRecDepth 20000 in
theorem ggX7_count_X7_demandArgument : GoodIn wsX7_count wsX7_demandArgument := goodIn_ca (goodIn_r _ [14, 15, 16] (by decide +kernel) (by decide +kernel)) (goodIn_sub (fun _ h => List.mem_cons_of_mem _ (List.mem_append_right _ h)) (by decide +kernel))
set_option maxRecDepth 20000 in
theorem gX7_count_X7_demandArgument : GoodIn wsX7_count (va_wsS RX7 46 yX7_demandArgument wsX7_demandArgument) := goodIn_app (goodIn_of _ (by decide +kernel)) ggX7_count_X7_demandArgument
set_option maxRecDepth 20000 in
theorem ggX7_count_X2_cellsWith : GoodIn wsX7_count wsX2_cellsWith := goodIn_r _ [21, 22, 30] (by decide +kernel) (by decide +kernel)
set_option maxRecDepth 20000 in
theorem gX7_count_X2_cellsWith : GoodIn wsX7_count (wsV RX7 95 RX2 yX2_cellsWith wsX2_cellsWith) := goodIn_app (goodIn_of _ (by decide +kernel)) ggX7_count_X2_cellsWith
theorem dX7_count_0 : decode cX7_count 0 = .ok (.aload_n 0, 1) := by decide +kernel
theorem dX7_count_1 : decode cX7_count 1 = .ok (.iload_n 1, 1) := by decide +kernel
theorem dX7_count_2 : decode cX7_count 2 = .ok (.invokevirtual 90, 3) := by decide +kernel
theorem dX7_count_5 : decode cX7_count 5 = .ok (.astore_n 3, 1) := by decide +kernel
theorem dX7_count_6 : decode cX7_count 6 = .ok (.iload_n 2, 1) := by decide +kernel
theorem dX7_count_7 : decode cX7_count 7 = .ok (.iconst (-1), 1) := by decide +kernel
theorem dX7_count_8 : decode cX7_count 8 = .ok (.iconst 5, 1) := by decide +kernel
theorem dX7_count_9 : decode cX7_count 9 = .ok (.invokestatic 42, 3) := by decide +kernel
theorem dX7_count_12 : decode cX7_count 12 = .ok (.invokestatic 46, 3) := by decide +kernel
theorem dX7_count_15 : decode cX7_count 15 = .ok (.aload_n 3, 1) := by decide +kernel
theorem dX7_count_16 : decode cX7_count 16 = .ok (.iload_n 2, 1) := by decide +kernel
theorem dX7_count_17 : decode cX7_count 17 = .ok (.invokevirtual 95, 3) := by decide +kernel
theorem dX7_count_20 : decode cX7_count 20 = .ok (.ireturn, 1) := by decide +kernel
set_option maxRecDepth 20000 in
theorem ggX7_pageAt_X7_isWithin : GoodIn wsX7_pageAt wsX7_isWithin := goodIn_r _ [4] (by decide +kernel) (by decide +kernel)
set_option maxRecDepth 20000 in
theorem gX7_pageAt_X7_isWithin : GoodIn wsX7_pageAt (va_wsS RX7 42 yX7_isWithin wsX7_isWithin) := goodIn_app (goodIn_of _ (by decide +kernel)) ggX7_pageAt_X7_isWithin
set_option maxRecDepth 20000 in
theorem ggX7_pageAt_X7_demandArgument : GoodIn wsX7_pageAt wsX7_demandArgument := goodIn_ca (goodIn_r _ [7, 8, 9] (by decide +kernel) (by decide +kernel)) (goodIn_sub (fun _ h => List.mem_cons_of_mem _ (List.mem_append_right _ h)) (by decide +kernel))
set_option maxRecDepth 20000 in
theorem gX7_pageAt_X7_demandArgument : GoodIn wsX7_pageAt (va_wsS RX7 46 yX7_demandArgument wsX7_demandArgument) := goodIn_app (goodIn_of _ (by decide +kernel)) ggX7_pageAt_X7_demandArgument
set_option maxRecDepth 20000 in
theorem ggX7_pageAt_X7_columnsOf : GoodIn wsX7_pageAt wsX7_columnsOf := goodIn_r _ [12] (by decide +kernel) (by decide +kernel)
set_option maxRecDepth 20000 in
theorem gX7_pageAt_X7_columnsOf : GoodIn wsX7_pageAt (va_wsS RX7 99 yX7_columnsOf wsX7_columnsOf) := goodIn_app (goodIn_of _ (by decide +kernel)) ggX7_pageAt_X7_columnsOf
set_option maxRecDepth 20000 in
theorem ggX7_pageAt_X7_rowsOf : GoodIn wsX7_pageAt wsX7_rowsOf := goodIn_r _ [15] (by decide +kernel) (by decide +kernel)
set_option maxRecDepth 20000 in
theorem gX7_pageAt_X7_rowsOf : GoodIn wsX7_pageAt (va_wsS RX7 102 yX7_rowsOf wsX7_rowsOf) := goodIn_app (goodIn_of _ (by decide +kernel)) ggX7_pageAt_X7_rowsOf
set_option maxRecDepth 20000 in
theorem ggX7_pageAt_X7_foldedPage : GoodIn wsX7_pageAt wsX7_foldedPage := goodIn_r _ [18, 10, 11, 3, 12, 13, 14, 15] (by decide +kernel) (by decide +kernel)
set_option maxRecDepth 20000 in
theorem gX7_pageAt_X7_foldedPage : GoodIn wsX7_pageAt (va_wsS RX7 105 yX7_foldedPage wsX7_foldedPage) := goodIn_app (goodIn_of _ (by decide +kernel)) ggX7_pageAt_X7_foldedPage
theorem dX7_pageAt_0 : decode cX7_pageAt 0 = .ok (.iload_n 1, 1) := by decide +kernel
theorem dX7_pageAt_1 : decode cX7_pageAt 1 = .ok (.iconst 1, 1) := by decide +kernel
theorem dX7_pageAt_2 : decode cX7_pageAt 2 = .ok (.iconst 4, 1) := by decide +kernel
theorem dX7_pageAt_3 : decode cX7_pageAt 3 = .ok (.invokestatic 42, 3) := by decide +kernel
theorem dX7_pageAt_6 : decode cX7_pageAt 6 = .ok (.invokestatic 46, 3) := by decide +kernel
theorem dX7_pageAt_9 : decode cX7_pageAt 9 = .ok (.iload_n 3, 1) := by decide +kernel
theorem dX7_pageAt_10 : decode cX7_pageAt 10 = .ok (.iconst 0, 1) := by decide +kernel
theorem dX7_pageAt_11 : decode cX7_pageAt 11 = .ok (.iload_n 1, 1) := by decide +kernel
theorem dX7_pageAt_12 : decode cX7_pageAt 12 = .ok (.invokestatic 99, 3) := by decide +kernel
theorem dX7_pageAt_15 : decode cX7_pageAt 15 = .ok (.iconst 1, 1) := by decide +kernel
theorem dX7_pageAt_16 : decode cX7_pageAt 16 = .ok (.isub, 1) := by decide +kernel
theorem dX7_pageAt_17 : decode cX7_pageAt 17 = .ok (.invokestatic 42, 3) := by decide +kernel
theorem dX7_pageAt_20 : decode cX7_pageAt 20 = .ok (.ifCond .eq 22, 3) := by decide +kernel
theorem dX7_pageAt_23 : decode cX7_pageAt 23 = .ok (.iload 4, 2) := by decide +kernel
theorem dX7_pageAt_25 : decode cX7_pageAt 25 = .ok (.iconst 0, 1) := by decide +kernel
theorem dX7_pageAt_26 : decode cX7_pageAt 26 = .ok (.iload_n 1, 1) := by decide +kernel
theorem dX7_pageAt_27 : decode cX7_pageAt 27 = .ok (.invokestatic 102, 3) := by decide +kernel
theorem dX7_pageAt_30 : decode cX7_pageAt 30 = .ok (.iconst 1, 1) := by decide +kernel
theorem dX7_pageAt_31 : decode cX7_pageAt 31 = .ok (.isub, 1) := by decide +kernel
theorem dX7_pageAt_32 : decode cX7_pageAt 32 = .ok (.invokestatic 42, 3) := by decide +kernel
theorem dX7_pageAt_35 : decode cX7_pageAt 35 = .ok (.ifCond .eq 7, 3) := by decide +kernel
theorem dX7_pageAt_38 : decode cX7_pageAt 38 = .ok (.iconst 1, 1) := by decide +kernel
theorem dX7_pageAt_39 : decode cX7_pageAt 39 = .ok (.goto 4, 3) := by decide +kernel
theorem dX7_pageAt_42 : decode cX7_pageAt 42 = .ok (.iconst 0, 1) := by decide +kernel
theorem dX7_pageAt_43 : decode cX7_pageAt 43 = .ok (.invokestatic 46, 3) := by decide +kernel
theorem dX7_pageAt_46 : decode cX7_pageAt 46 = .ok (.iload_n 1, 1) := by decide +kernel
theorem dX7_pageAt_47 : decode cX7_pageAt 47 = .ok (.iload_n 2, 1) := by decide +kernel
theorem dX7_pageAt_48 : decode cX7_pageAt 48 = .ok (.iload_n 3, 1) := by decide +kernel
theorem dX7_pageAt_49 : decode cX7_pageAt 49 = .ok (.iload 4, 2) := by decide +kernel
theorem dX7_pageAt_51 : decode cX7_pageAt 51 = .ok (.invokestatic 105, 3) := by decide +kernel
theorem dX7_pageAt_54 : decode cX7_pageAt 54 = .ok (.ireturn, 1) := by decide +kernel
set_option maxRecDepth 20000 in
theorem ggX7_placeOf_X7_isWithin : GoodIn wsX7_placeOf wsX7_isWithin := goodIn_r _ [4] (by decide +kernel) (by decide +kernel)
set_option maxRecDepth 20000 in
theorem gX7_placeOf_X7_isWithin : GoodIn wsX7_placeOf (va_wsS RX7 42 yX7_isWithin wsX7_isWithin) := goodIn_app (goodIn_of _ (by decide +kernel)) ggX7_placeOf_X7_isWithin
set_option maxRecDepth 20000 in
theorem ggX7_placeOf_X7_demandArgument : GoodIn wsX7_placeOf wsX7_demandArgument := goodIn_ca (goodIn_r _ [7, 8, 9] (by decide +kernel) (by decide +kernel)) (goodIn_sub (fun _ h => List.mem_cons_of_mem _ (List.mem_append_right _ h)) (by decide +kernel))
set_option maxRecDepth 20000 in
theorem gX7_placeOf_X7_demandArgument : GoodIn wsX7_placeOf (va_wsS RX7 46 yX7_demandArgument wsX7_demandArgument) := goodIn_app (goodIn_of _ (by decide +kernel)) ggX7_placeOf_X7_demandArgument
set_option maxRecDepth 20000 in
theorem ggX7_placeOf_X7_columnsOf : GoodIn wsX7_placeOf wsX7_columnsOf := goodIn_r _ [12] (by decide +kernel) (by decide +kernel)
set_option maxRecDepth 20000 in
theorem gX7_placeOf_X7_columnsOf : GoodIn wsX7_placeOf (va_wsS RX7 99 yX7_columnsOf wsX7_columnsOf) := goodIn_app (goodIn_of _ (by decide +kernel)) ggX7_placeOf_X7_columnsOf
set_option maxRecDepth 20000 in
theorem ggX7_placeOf_X7_rowsOf : GoodIn wsX7_placeOf wsX7_rowsOf := goodIn_r _ [15] (by decide +kernel) (by decide +kernel)
set_option maxRecDepth 20000 in
theorem gX7_placeOf_X7_rowsOf : GoodIn wsX7_placeOf (va_wsS RX7 102 yX7_rowsOf wsX7_rowsOf) := goodIn_app (goodIn_of _ (by decide +kernel)) ggX7_placeOf_X7_rowsOf
set_option maxRecDepth 20000 in
theorem ggX7_placeOf_X7_unfoldedPlace : GoodIn wsX7_placeOf wsX7_unfoldedPlace := goodIn_r _ [18, 13, 14, 3, 15, 10, 11, 12, 19, 20, 21] (by decide +kernel) (by decide +kernel)
set_option maxRecDepth 20000 in
theorem gX7_placeOf_X7_unfoldedPlace : GoodIn wsX7_placeOf (va_wsS RX7 109 yX7_unfoldedPlace wsX7_unfoldedPlace) := goodIn_app (goodIn_of _ (by decide +kernel)) ggX7_placeOf_X7_unfoldedPlace
theorem dX7_placeOf_0 : decode cX7_placeOf 0 = .ok (.iload_n 1, 1) := by decide +kernel
theorem dX7_placeOf_1 : decode cX7_placeOf 1 = .ok (.iconst 1, 1) := by decide +kernel
theorem dX7_placeOf_2 : decode cX7_placeOf 2 = .ok (.iconst 4, 1) := by decide +kernel
theorem dX7_placeOf_3 : decode cX7_placeOf 3 = .ok (.invokestatic 42, 3) := by decide +kernel
theorem dX7_placeOf_6 : decode cX7_placeOf 6 = .ok (.invokestatic 46, 3) := by decide +kernel
theorem dX7_placeOf_9 : decode cX7_placeOf 9 = .ok (.iload_n 2, 1) := by decide +kernel
theorem dX7_placeOf_10 : decode cX7_placeOf 10 = .ok (.iconst 1, 1) := by decide +kernel
theorem dX7_placeOf_11 : decode cX7_placeOf 11 = .ok (.iconst 2, 1) := by decide +kernel
theorem dX7_placeOf_12 : decode cX7_placeOf 12 = .ok (.iload_n 1, 1) := by decide +kernel
theorem dX7_placeOf_13 : decode cX7_placeOf 13 = .ok (.invokestatic 99, 3) := by decide +kernel
theorem dX7_placeOf_16 : decode cX7_placeOf 16 = .ok (.imul, 1) := by decide +kernel
theorem dX7_placeOf_17 : decode cX7_placeOf 17 = .ok (.iload_n 1, 1) := by decide +kernel
theorem dX7_placeOf_18 : decode cX7_placeOf 18 = .ok (.invokestatic 102, 3) := by decide +kernel
theorem dX7_placeOf_21 : decode cX7_placeOf 21 = .ok (.imul, 1) := by decide +kernel
theorem dX7_placeOf_22 : decode cX7_placeOf 22 = .ok (.invokestatic 42, 3) := by decide +kernel
theorem dX7_placeOf_25 : decode cX7_placeOf 25 = .ok (.invokestatic 46, 3) := by decide +kernel
theorem dX7_placeOf_28 : decode cX7_placeOf 28 = .ok (.iload_n 1, 1) := by decide +kernel
theorem dX7_placeOf_29 : decode cX7_placeOf 29 = .ok (.iload_n 2, 1) := by decide +kernel
theorem dX7_placeOf_30 : decode cX7_placeOf 30 = .ok (.invokestatic 109, 3) := by decide +kernel
theorem dX7_placeOf_33 : decode cX7_placeOf 33 = .ok (.ireturn, 1) := by decide +kernel
set_option maxRecDepth 20000 in
theorem ggX7_book_X7_isWithin : GoodIn wsX7_book wsX7_isWithin := goodIn_r _ [9] (by decide +kernel) (by decide +kernel)
set_option maxRecDepth 20000 in
theorem gX7_book_X7_isWithin : GoodIn wsX7_book (va_wsS RX7 42 yX7_isWithin wsX7_isWithin) := goodIn_app (goodIn_of _ (by decide +kernel)) ggX7_book_X7_isWithin
set_option maxRecDepth 20000 in
theorem ggX7_book_X7_demandArgument : GoodIn wsX7_book wsX7_demandArgument := goodIn_ca (goodIn_r _ [12, 13, 14] (by decide +kernel) (by decide +kernel)) (goodIn_sub (fun _ h => List.mem_cons_of_mem _ (List.mem_append_left _ (List.mem_append_right _ h))) (by decide +kernel))
set_option maxRecDepth 20000 in
theorem gX7_book_X7_demandArgument : GoodIn wsX7_book (va_wsS RX7 46 yX7_demandArgument wsX7_demandArgument) := goodIn_app (goodIn_of _ (by decide +kernel)) ggX7_book_X7_demandArgument
set_option maxRecDepth 20000 in
theorem ggX7_book_X7_demandState : GoodIn wsX7_book wsX7_demandState := goodIn_ca (goodIn_r _ [17, 18, 19] (by decide +kernel) (by decide +kernel)) (goodIn_sub (fun _ h => List.mem_cons_of_mem _ (List.mem_append_right _ h)) (by decide +kernel))
set_option maxRecDepth 20000 in
theorem gX7_book_X7_demandState : GoodIn wsX7_book (va_wsS RX7 65 yX7_demandState wsX7_demandState) := goodIn_app (goodIn_of _ (by decide +kernel)) ggX7_book_X7_demandState
set_option maxRecDepth 20000 in
theorem ggX7_book_X1_init : GoodIn wsX7_book wsX1_init := goodIn_r _ [22, 23, 24, 25, 26, 27, 28, 29, 30, 31, 32, 33, 34, 35, 36, 37, 38, 39, 40, 41, 42, 43, 44, 45, 46, 47, 48, 49, 50, 51, 52, 53, 54, 55, 56, 57, 58, 59, 60, 61, 76, 77, 69, 70, 71, 72, 73, 74, 75, 78, 79, 80, 81, 82, 83, 84, 85, 86, 87, 88, 89, 90, 91] (by decide +kernel) (by decide +kernel)
set_option maxRecDepth 20000 in
theorem gX7_book_X1_init : GoodIn wsX7_book (wsX1_init) := ggX7_book_X1_init
theorem dX7_book_0 : decode cX7_book 0 = .ok (.iload_n 1, 1) := by decide +kernel
theorem dX7_book_1 : decode cX7_book 1 = .ok (.iconst 1, 1) := by decide +kernel
theorem dX7_book_2 : decode cX7_book 2 = .ok (.bipush 8, 2) := by decide +kernel
theorem dX7_book_4 : decode cX7_book 4 = .ok (.invokestatic 42, 3) := by decide +kernel
theorem dX7_book_7 : decode cX7_book 7 = .ok (.ifCond .eq 17, 3) := by decide +kernel
theorem dX7_book_10 : decode cX7_book 10 = .ok (.iload_n 2, 1) := by decide +kernel
theorem dX7_book_11 : decode cX7_book 11 = .ok (.iconst 2, 1) := by decide +kernel
theorem dX7_book_12 : decode cX7_book 12 = .ok (.bipush 16, 2) := by decide +kernel
theorem dX7_book_14 : decode cX7_book 14 = .ok (.invokestatic 42, 3) := by decide +kernel
theorem dX7_book_17 : decode cX7_book 17 = .ok (.ifCond .eq 7, 3) := by decide +kernel
theorem dX7_book_20 : decode cX7_book 20 = .ok (.iconst 1, 1) := by decide +kernel
theorem dX7_book_21 : decode cX7_book 21 = .ok (.goto 4, 3) := by decide +kernel
theorem dX7_book_24 : decode cX7_book 24 = .ok (.iconst 0, 1) := by decide +kernel
theorem dX7_book_25 : decode cX7_book 25 = .ok (.invokestatic 46, 3) := by decide +kernel
theorem dX7_book_28 : decode cX7_book 28 = .ok (.iload_n 3, 1) := by decide +kernel
theorem dX7_book_29 : decode cX7_book 29 = .ok (.iconst 3, 1) := by decide +kernel
theorem dX7_book_30 : decode cX7_book 30 = .ok (.bipush 6, 2) := by decide +kernel
theorem dX7_book_32 : decode cX7_book 32 = .ok (.invokestatic 42, 3) := by decide +kernel
theorem dX7_book_35 : decode cX7_book 35 = .ok (.ifCond .eq 18, 3) := by decide +kernel
theorem dX7_book_38 : decode cX7_book 38 = .ok (.iload 4, 2) := by decide +kernel
theorem dX7_book_40 : decode cX7_book 40 = .ok (.iconst 1, 1) := by decide +kernel
theorem dX7_book_41 : decode cX7_book 41 = .ok (.bipush 9, 2) := by decide +kernel
theorem dX7_book_43 : decode cX7_book 43 = .ok (.invokestatic 42, 3) := by decide +kernel
theorem dX7_book_46 : decode cX7_book 46 = .ok (.ifCond .eq 7, 3) := by decide +kernel
theorem dX7_book_49 : decode cX7_book 49 = .ok (.iconst 1, 1) := by decide +kernel
theorem dX7_book_50 : decode cX7_book 50 = .ok (.goto 4, 3) := by decide +kernel
theorem dX7_book_53 : decode cX7_book 53 = .ok (.iconst 0, 1) := by decide +kernel
theorem dX7_book_54 : decode cX7_book 54 = .ok (.invokestatic 46, 3) := by decide +kernel
theorem dX7_book_57 : decode cX7_book 57 = .ok (.aload_n 0, 1) := by decide +kernel
theorem dX7_book_58 : decode cX7_book 58 = .ok (.getfield 112, 3) := by decide +kernel
theorem dX7_book_61 : decode cX7_book 61 = .ok (.iconst 4, 1) := by decide +kernel
theorem dX7_book_62 : decode cX7_book 62 = .ok (.if_icmp .ge 7, 3) := by decide +kernel
theorem dX7_book_65 : decode cX7_book 65 = .ok (.iconst 1, 1) := by decide +kernel
theorem dX7_book_66 : decode cX7_book 66 = .ok (.goto 4, 3) := by decide +kernel
theorem dX7_book_69 : decode cX7_book 69 = .ok (.iconst 0, 1) := by decide +kernel
theorem dX7_book_70 : decode cX7_book 70 = .ok (.invokestatic 65, 3) := by decide +kernel
theorem dX7_book_73 : decode cX7_book 73 = .ok (.aload_n 0, 1) := by decide +kernel
theorem dX7_book_74 : decode cX7_book 74 = .ok (.getfield 112, 3) := by decide +kernel
theorem dX7_book_77 : decode cX7_book 77 = .ok (.istore 6, 2) := by decide +kernel
theorem dX7_book_79 : decode cX7_book 79 = .ok (.aload_n 0, 1) := by decide +kernel
theorem dX7_book_80 : decode cX7_book 80 = .ok (.getfield 24, 3) := by decide +kernel
theorem dX7_book_83 : decode cX7_book 83 = .ok (.iload 6, 2) := by decide +kernel
theorem dX7_book_85 : decode cX7_book 85 = .ok (.new 22, 3) := by decide +kernel
theorem dX7_book_88 : decode cX7_book 88 = .ok (.dup, 1) := by decide +kernel
theorem dX7_book_89 : decode cX7_book 89 = .ok (.iload_n 1, 1) := by decide +kernel
theorem dX7_book_90 : decode cX7_book 90 = .ok (.iload_n 2, 1) := by decide +kernel
theorem dX7_book_91 : decode cX7_book 91 = .ok (.iload_n 3, 1) := by decide +kernel
theorem dX7_book_92 : decode cX7_book 92 = .ok (.iload 4, 2) := by decide +kernel
theorem dX7_book_94 : decode cX7_book 94 = .ok (.iload 5, 2) := by decide +kernel
theorem dX7_book_96 : decode cX7_book 96 = .ok (.invokespecial 115, 3) := by decide +kernel
theorem dX7_book_99 : decode cX7_book 99 = .ok (.aastore, 1) := by decide +kernel
theorem dX7_book_100 : decode cX7_book 100 = .ok (.aload_n 0, 1) := by decide +kernel
theorem dX7_book_101 : decode cX7_book 101 = .ok (.dup, 1) := by decide +kernel
theorem dX7_book_102 : decode cX7_book 102 = .ok (.getfield 112, 3) := by decide +kernel
theorem dX7_book_105 : decode cX7_book 105 = .ok (.iconst 1, 1) := by decide +kernel
theorem dX7_book_106 : decode cX7_book 106 = .ok (.iadd, 1) := by decide +kernel
theorem dX7_book_107 : decode cX7_book 107 = .ok (.putfield 112, 3) := by decide +kernel
theorem dX7_book_110 : decode cX7_book 110 = .ok (.iload 6, 2) := by decide +kernel
theorem dX7_book_112 : decode cX7_book 112 = .ok (.ireturn, 1) := by decide +kernel
set_option maxRecDepth 20000 in
theorem ggX7_sew_X7_bookOf : GoodIn wsX7_sew wsX7_bookOf := goodIn_ca (goodIn_r _ [5, 6, 7, 8, 9, 10, 4, 11, 70, 71, 72, 73, 74, 75, 76] (by decide +kernel) (by decide +kernel)) (goodIn_sub (fun _ h => List.mem_cons_of_mem _ (List.mem_append_left _ (List.mem_append_left _ (List.mem_append_right _ h)))) (by decide +kernel))
set_option maxRecDepth 20000 in
theorem gX7_sew_X7_bookOf : GoodIn wsX7_sew (wsV RX7 118 RX7 yX7_bookOf wsX7_bookOf) := goodIn_app (goodIn_of _ (by decide +kernel)) ggX7_sew_X7_bookOf
set_option maxRecDepth 20000 in
theorem ggX7_sew_X7_isWithin : GoodIn wsX7_sew wsX7_isWithin := goodIn_r _ [11] (by decide +kernel) (by decide +kernel)
set_option maxRecDepth 20000 in
theorem gX7_sew_X7_isWithin : GoodIn wsX7_sew (va_wsS RX7 42 yX7_isWithin wsX7_isWithin) := goodIn_app (goodIn_of _ (by decide +kernel)) ggX7_sew_X7_isWithin
set_option maxRecDepth 20000 in
theorem ggX7_sew_X7_demandArgument : GoodIn wsX7_sew wsX7_demandArgument := goodIn_ca (goodIn_r _ [14, 15, 16] (by decide +kernel) (by decide +kernel)) (goodIn_sub (fun _ h => List.mem_cons_of_mem _ (List.mem_append_left _ (List.mem_append_right _ h))) (by decide +kernel))
set_option maxRecDepth 20000 in
theorem gX7_sew_X7_demandArgument : GoodIn wsX7_sew (va_wsS RX7 46 yX7_demandArgument wsX7_demandArgument) := goodIn_app (goodIn_of _ (by decide +kernel)) ggX7_sew_X7_demandArgument
set_option maxRecDepth 20000 in
theorem ggX7_sew_X4_allows : GoodIn wsX7_sew wsX4_allows := goodIn_r _ [21, 22, 23, 24, 25, 26, 27, 60, 61, 62, 63, 64, 65, 66, 67, 68, 69] (by decide +kernel) (by decide +kernel)
set_option maxRecDepth 20000 in
theorem gX7_sew_X4_allows : GoodIn wsX7_sew (wsV RX7 126 RX4 yX4_allows wsX4_allows) := goodIn_app (goodIn_of _ (by decide +kernel)) ggX7_sew_X4_allows
set_option maxRecDepth 20000 in
theorem ggX7_sew_X7_demandState : GoodIn wsX7_sew wsX7_demandState := goodIn_ca (goodIn_r _ [30, 31, 32] (by decide +kernel) (by decide +kernel)) (goodIn_sub (fun _ h => List.mem_cons_of_mem _ (List.mem_append_right _ h)) (by decide +kernel))
set_option maxRecDepth 20000 in
theorem gX7_sew_X7_demandState : GoodIn wsX7_sew (va_wsS RX7 65 yX7_demandState wsX7_demandState) := goodIn_app (goodIn_of _ (by decide +kernel)) ggX7_sew_X7_demandState
set_option maxRecDepth 20000 in
theorem ggX7_sew_X4_make : GoodIn wsX7_sew wsX4_make := goodIn_r _ [36, 22, 37, 38, 39, 40, 20, 41, 23, 26, 25, 42, 43, 44, 45, 46, 47, 48, 49, 50, 51, 52, 60, 61, 62, 63, 64, 65, 66, 67, 68, 69] (by decide +kernel) (by decide +kernel)
set_option maxRecDepth 20000 in
theorem gX7_sew_X4_make : GoodIn wsX7_sew (wsV RX7 131 RX4 yX4_make wsX4_make) := goodIn_app (goodIn_of _ (by decide +kernel)) ggX7_sew_X4_make
theorem dX7_sew_0 : decode cX7_sew 0 = .ok (.aload_n 0, 1) := by decide +kernel
theorem dX7_sew_1 : decode cX7_sew 1 = .ok (.iload_n 1, 1) := by decide +kernel
theorem dX7_sew_2 : decode cX7_sew 2 = .ok (.invokevirtual 118, 3) := by decide +kernel
theorem dX7_sew_5 : decode cX7_sew 5 = .ok (.getfield 122, 3) := by decide +kernel
theorem dX7_sew_8 : decode cX7_sew 8 = .ok (.astore_n 3, 1) := by decide +kernel
theorem dX7_sew_9 : decode cX7_sew 9 = .ok (.iload_n 2, 1) := by decide +kernel
theorem dX7_sew_10 : decode cX7_sew 10 = .ok (.iconst 0, 1) := by decide +kernel
theorem dX7_sew_11 : decode cX7_sew 11 = .ok (.iconst 4, 1) := by decide +kernel
theorem dX7_sew_12 : decode cX7_sew 12 = .ok (.invokestatic 42, 3) := by decide +kernel
theorem dX7_sew_15 : decode cX7_sew 15 = .ok (.invokestatic 46, 3) := by decide +kernel
theorem dX7_sew_18 : decode cX7_sew 18 = .ok (.aload_n 3, 1) := by decide +kernel
theorem dX7_sew_19 : decode cX7_sew 19 = .ok (.iload_n 2, 1) := by decide +kernel
theorem dX7_sew_20 : decode cX7_sew 20 = .ok (.invokevirtual 126, 3) := by decide +kernel
theorem dX7_sew_23 : decode cX7_sew 23 = .ok (.invokestatic 65, 3) := by decide +kernel
theorem dX7_sew_26 : decode cX7_sew 26 = .ok (.aload_n 3, 1) := by decide +kernel
theorem dX7_sew_27 : decode cX7_sew 27 = .ok (.iload_n 2, 1) := by decide +kernel
theorem dX7_sew_28 : decode cX7_sew 28 = .ok (.invokevirtual 131, 3) := by decide +kernel
theorem dX7_sew_31 : decode cX7_sew 31 = .ok (.aload_n 3, 1) := by decide +kernel
theorem dX7_sew_32 : decode cX7_sew 32 = .ok (.getfield 135, 3) := by decide +kernel
theorem dX7_sew_35 : decode cX7_sew 35 = .ok (.ireturn, 1) := by decide +kernel
set_option maxRecDepth 20000 in
theorem ggX7_unsew_X7_bookOf : GoodIn wsX7_unsew wsX7_bookOf := goodIn_ca (goodIn_r _ [5, 6, 7, 8, 9, 10, 4, 11, 67, 68, 69, 70, 71, 72, 73] (by decide +kernel) (by decide +kernel)) (goodIn_sub (fun _ h => List.mem_cons_of_mem _ (List.mem_append_left _ (List.mem_append_left _ (List.mem_append_right _ h)))) (by decide +kernel))
set_option maxRecDepth 20000 in
theorem gX7_unsew_X7_bookOf : GoodIn wsX7_unsew (wsV RX7 118 RX7 yX7_bookOf wsX7_bookOf) := goodIn_app (goodIn_of _ (by decide +kernel)) ggX7_unsew_X7_bookOf
set_option maxRecDepth 20000 in
theorem ggX7_unsew_X7_isWithin : GoodIn wsX7_unsew wsX7_isWithin := goodIn_r _ [11] (by decide +kernel) (by decide +kernel)
set_option maxRecDepth 20000 in
theorem gX7_unsew_X7_isWithin : GoodIn wsX7_unsew (va_wsS RX7 42 yX7_isWithin wsX7_isWithin) := goodIn_app (goodIn_of _ (by decide +kernel)) ggX7_unsew_X7_isWithin
set_option maxRecDepth 20000 in
theorem ggX7_unsew_X7_demandArgument : GoodIn wsX7_unsew wsX7_demandArgument := goodIn_ca (goodIn_r _ [14, 15, 16] (by decide +kernel) (by decide +kernel)) (goodIn_sub (fun _ h => List.mem_cons_of_mem _ (List.mem_append_left _ (List.mem_append_right _ h))) (by decide +kernel))
set_option maxRecDepth 20000 in
theorem gX7_unsew_X7_demandArgument : GoodIn wsX7_unsew (va_wsS RX7 46 yX7_demandArgument wsX7_demandArgument) := goodIn_app (goodIn_of _ (by decide +kernel)) ggX7_unsew_X7_demandArgument
set_option maxRecDepth 20000 in
theorem ggX7_unsew_X7_demandState : GoodIn wsX7_unsew wsX7_demandState := goodIn_ca (goodIn_r _ [19, 20, 21] (by decide +kernel) (by decide +kernel)) (goodIn_sub (fun _ h => List.mem_cons_of_mem _ (List.mem_append_right _ h)) (by decide +kernel))
set_option maxRecDepth 20000 in
theorem gX7_unsew_X7_demandState : GoodIn wsX7_unsew (va_wsS RX7 65 yX7_demandState wsX7_demandState) := goodIn_app (goodIn_of _ (by decide +kernel)) ggX7_unsew_X7_demandState
set_option maxRecDepth 20000 in
theorem ggX7_unsew_X4_takeBack : GoodIn wsX7_unsew wsX4_takeBack := goodIn_r _ [26, 27, 28, 29, 30, 25, 31, 32, 33, 34, 35, 36, 37, 38, 39, 40, 41, 42, 43, 44, 45, 46, 47, 48, 49, 57, 58, 59, 60, 61, 62, 63, 64, 65, 66] (by decide +kernel) (by decide +kernel)
set_option maxRecDepth 20000 in
theorem gX7_unsew_X4_takeBack : GoodIn wsX7_unsew (wsV RX7 141 RX4 yX4_takeBack wsX4_takeBack) := goodIn_app (goodIn_of _ (by decide +kernel)) ggX7_unsew_X4_takeBack
theorem dX7_unsew_0 : decode cX7_unsew 0 = .ok (.aload_n 0, 1) := by decide +kernel
theorem dX7_unsew_1 : decode cX7_unsew 1 = .ok (.iload_n 1, 1) := by decide +kernel
theorem dX7_unsew_2 : decode cX7_unsew 2 = .ok (.invokevirtual 118, 3) := by decide +kernel
theorem dX7_unsew_5 : decode cX7_unsew 5 = .ok (.getfield 122, 3) := by decide +kernel
theorem dX7_unsew_8 : decode cX7_unsew 8 = .ok (.astore_n 3, 1) := by decide +kernel
theorem dX7_unsew_9 : decode cX7_unsew 9 = .ok (.iload_n 2, 1) := by decide +kernel
theorem dX7_unsew_10 : decode cX7_unsew 10 = .ok (.iconst 1, 1) := by decide +kernel
theorem dX7_unsew_11 : decode cX7_unsew 11 = .ok (.sipush 200, 3) := by decide +kernel
theorem dX7_unsew_14 : decode cX7_unsew 14 = .ok (.invokestatic 42, 3) := by decide +kernel
theorem dX7_unsew_17 : decode cX7_unsew 17 = .ok (.invokestatic 46, 3) := by decide +kernel
theorem dX7_unsew_20 : decode cX7_unsew 20 = .ok (.iload_n 2, 1) := by decide +kernel
theorem dX7_unsew_21 : decode cX7_unsew 21 = .ok (.aload_n 3, 1) := by decide +kernel
theorem dX7_unsew_22 : decode cX7_unsew 22 = .ok (.getfield 138, 3) := by decide +kernel
theorem dX7_unsew_25 : decode cX7_unsew 25 = .ok (.if_icmp .gt 7, 3) := by decide +kernel
theorem dX7_unsew_28 : decode cX7_unsew 28 = .ok (.iconst 1, 1) := by decide +kernel
theorem dX7_unsew_29 : decode cX7_unsew 29 = .ok (.goto 4, 3) := by decide +kernel
theorem dX7_unsew_32 : decode cX7_unsew 32 = .ok (.iconst 0, 1) := by decide +kernel
theorem dX7_unsew_33 : decode cX7_unsew 33 = .ok (.invokestatic 65, 3) := by decide +kernel
theorem dX7_unsew_36 : decode cX7_unsew 36 = .ok (.iconst 0, 1) := by decide +kernel
theorem dX7_unsew_37 : decode cX7_unsew 37 = .ok (.istore 4, 2) := by decide +kernel
theorem dX7_unsew_39 : decode cX7_unsew 39 = .ok (.iload 4, 2) := by decide +kernel
theorem dX7_unsew_41 : decode cX7_unsew 41 = .ok (.iload_n 2, 1) := by decide +kernel
theorem dX7_unsew_42 : decode cX7_unsew 42 = .ok (.if_icmp .ge 13, 3) := by decide +kernel
theorem dX7_unsew_45 : decode cX7_unsew 45 = .ok (.aload_n 3, 1) := by decide +kernel
theorem dX7_unsew_46 : decode cX7_unsew 46 = .ok (.invokevirtual 141, 3) := by decide +kernel
theorem dX7_unsew_49 : decode cX7_unsew 49 = .ok (.iinc 4 1, 3) := by decide +kernel
theorem dX7_unsew_52 : decode cX7_unsew 52 = .ok (.goto (-13), 3) := by decide +kernel
theorem dX7_unsew_55 : decode cX7_unsew 55 = .ok (.aload_n 3, 1) := by decide +kernel
theorem dX7_unsew_56 : decode cX7_unsew 56 = .ok (.getfield 135, 3) := by decide +kernel
theorem dX7_unsew_59 : decode cX7_unsew 59 = .ok (.ireturn, 1) := by decide +kernel
set_option maxRecDepth 20000 in
theorem ggX7_ofThread_X7_bookOf : GoodIn wsX7_ofThread wsX7_bookOf := goodIn_ca (goodIn_r _ [5, 6, 7, 8, 9, 10, 4, 11, 52, 53, 54, 55, 56, 57, 58] (by decide +kernel) (by decide +kernel)) (goodIn_sub (fun _ h => List.mem_cons_of_mem _ (List.mem_append_left _ (List.mem_append_right _ h))) (by decide +kernel))
set_option maxRecDepth 20000 in
theorem gX7_ofThread_X7_bookOf : GoodIn wsX7_ofThread (wsV RX7 118 RX7 yX7_bookOf wsX7_bookOf) := goodIn_app (goodIn_of _ (by decide +kernel)) ggX7_ofThread_X7_bookOf
set_option maxRecDepth 20000 in
theorem ggX7_ofThread_X7_isWithin : GoodIn wsX7_ofThread wsX7_isWithin := goodIn_r _ [11] (by decide +kernel) (by decide +kernel)
set_option maxRecDepth 20000 in
theorem gX7_ofThread_X7_isWithin : GoodIn wsX7_ofThread (va_wsS RX7 42 yX7_isWithin wsX7_isWithin) := goodIn_app (goodIn_of _ (by decide +kernel)) ggX7_ofThread_X7_isWithin
set_option maxRecDepth 20000 in
theorem ggX7_ofThread_X7_demandArgument : GoodIn wsX7_ofThread wsX7_demandArgument := goodIn_ca (goodIn_r _ [14, 15, 16] (by decide +kernel) (by decide +kernel)) (goodIn_sub (fun _ h => List.mem_cons_of_mem _ (List.mem_append_right _ h)) (by decide +kernel))
set_option maxRecDepth 20000 in
theorem gX7_ofThread_X7_demandArgument : GoodIn wsX7_ofThread (va_wsS RX7 46 yX7_demandArgument wsX7_demandArgument) := goodIn_app (goodIn_of _ (by decide +kernel)) ggX7_ofThread_X7_demandArgument
set_option maxRecDepth 20000 in
theorem ggX7_ofThread_X4_isSewn : GoodIn wsX7_ofThread wsX4_isSewn := goodIn_r _ [21, 22, 23, 24, 25, 26, 27, 20, 28, 29, 30, 31, 32, 33, 34, 42, 43, 44, 45, 46, 47, 48, 49, 50, 51] (by decide +kernel) (by decide +kernel)
set_option maxRecDepth 20000 in
theorem gX7_ofThread_X4_isSewn : GoodIn wsX7_ofThread (wsV RX7 154 RX4 yX4_isSewn wsX4_isSewn) := goodIn_app (goodIn_of _ (by decide +kernel)) ggX7_ofThread_X4_isSewn
theorem dX7_ofThread_0 : decode cX7_ofThread 0 = .ok (.aload_n 0, 1) := by decide +kernel
theorem dX7_ofThread_1 : decode cX7_ofThread 1 = .ok (.iload_n 1, 1) := by decide +kernel
theorem dX7_ofThread_2 : decode cX7_ofThread 2 = .ok (.invokevirtual 118, 3) := by decide +kernel
theorem dX7_ofThread_5 : decode cX7_ofThread 5 = .ok (.getfield 122, 3) := by decide +kernel
theorem dX7_ofThread_8 : decode cX7_ofThread 8 = .ok (.astore_n 3, 1) := by decide +kernel
theorem dX7_ofThread_9 : decode cX7_ofThread 9 = .ok (.iload_n 2, 1) := by decide +kernel
theorem dX7_ofThread_10 : decode cX7_ofThread 10 = .ok (.iconst 0, 1) := by decide +kernel
theorem dX7_ofThread_11 : decode cX7_ofThread 11 = .ok (.iconst 5, 1) := by decide +kernel
theorem dX7_ofThread_12 : decode cX7_ofThread 12 = .ok (.invokestatic 42, 3) := by decide +kernel
theorem dX7_ofThread_15 : decode cX7_ofThread 15 = .ok (.invokestatic 46, 3) := by decide +kernel
theorem dX7_ofThread_18 : decode cX7_ofThread 18 = .ok (.iload_n 2, 1) := by decide +kernel
theorem dX7_ofThread_19 : decode cX7_ofThread 19 = .ok (.tableswitch 66 0 4 #[33, 38, 43, 48, 61], 33) := by decide +kernel
theorem dX7_ofThread_52 : decode cX7_ofThread 52 = .ok (.aload_n 3, 1) := by decide +kernel
theorem dX7_ofThread_53 : decode cX7_ofThread 53 = .ok (.getfield 135, 3) := by decide +kernel
theorem dX7_ofThread_56 : decode cX7_ofThread 56 = .ok (.ireturn, 1) := by decide +kernel
theorem dX7_ofThread_57 : decode cX7_ofThread 57 = .ok (.aload_n 3, 1) := by decide +kernel
theorem dX7_ofThread_58 : decode cX7_ofThread 58 = .ok (.getfield 144, 3) := by decide +kernel
theorem dX7_ofThread_61 : decode cX7_ofThread 61 = .ok (.ireturn, 1) := by decide +kernel
theorem dX7_ofThread_62 : decode cX7_ofThread 62 = .ok (.aload_n 3, 1) := by decide +kernel
theorem dX7_ofThread_63 : decode cX7_ofThread 63 = .ok (.getfield 147, 3) := by decide +kernel
theorem dX7_ofThread_66 : decode cX7_ofThread 66 = .ok (.ireturn, 1) := by decide +kernel
theorem dX7_ofThread_67 : decode cX7_ofThread 67 = .ok (.aload_n 3, 1) := by decide +kernel
theorem dX7_ofThread_68 : decode cX7_ofThread 68 = .ok (.getfield 150, 3) := by decide +kernel
theorem dX7_ofThread_71 : decode cX7_ofThread 71 = .ok (.ifCond .eq 7, 3) := by decide +kernel
theorem dX7_ofThread_74 : decode cX7_ofThread 74 = .ok (.iconst 1, 1) := by decide +kernel
theorem dX7_ofThread_75 : decode cX7_ofThread 75 = .ok (.goto 4, 3) := by decide +kernel
theorem dX7_ofThread_78 : decode cX7_ofThread 78 = .ok (.iconst 0, 1) := by decide +kernel
theorem dX7_ofThread_79 : decode cX7_ofThread 79 = .ok (.ireturn, 1) := by decide +kernel
theorem dX7_ofThread_80 : decode cX7_ofThread 80 = .ok (.aload_n 3, 1) := by decide +kernel
theorem dX7_ofThread_81 : decode cX7_ofThread 81 = .ok (.getfield 138, 3) := by decide +kernel
theorem dX7_ofThread_84 : decode cX7_ofThread 84 = .ok (.ireturn, 1) := by decide +kernel
theorem dX7_ofThread_85 : decode cX7_ofThread 85 = .ok (.aload_n 3, 1) := by decide +kernel
theorem dX7_ofThread_86 : decode cX7_ofThread 86 = .ok (.invokevirtual 154, 3) := by decide +kernel
theorem dX7_ofThread_89 : decode cX7_ofThread 89 = .ok (.ifCond .eq 7, 3) := by decide +kernel
theorem dX7_ofThread_92 : decode cX7_ofThread 92 = .ok (.iconst 1, 1) := by decide +kernel
theorem dX7_ofThread_93 : decode cX7_ofThread 93 = .ok (.goto 4, 3) := by decide +kernel
theorem dX7_ofThread_96 : decode cX7_ofThread 96 = .ok (.iconst 0, 1) := by decide +kernel
theorem dX7_ofThread_97 : decode cX7_ofThread 97 = .ok (.ireturn, 1) := by decide +kernel
set_option maxRecDepth 20000 in
theorem ggX7_stitches_X7_bookOf : GoodIn wsX7_stitches wsX7_bookOf := goodIn_ca (goodIn_r _ [5, 6, 7, 8, 9, 10, 4, 11, 38, 39, 40, 41, 42, 43, 44] (by decide +kernel) (by decide +kernel)) (goodIn_sub (fun _ h => List.mem_cons_of_mem _ (List.mem_append_right _ h)) (by decide +kernel))
set_option maxRecDepth 20000 in
theorem gX7_stitches_X7_bookOf : GoodIn wsX7_stitches (wsV RX7 118 RX7 yX7_bookOf wsX7_bookOf) := goodIn_app (goodIn_of _ (by decide +kernel)) ggX7_stitches_X7_bookOf
set_option maxRecDepth 20000 in
theorem ggX7_stitches_X7_isWithin : GoodIn wsX7_stitches wsX7_isWithin := goodIn_r _ [11] (by decide +kernel) (by decide +kernel)
set_option maxRecDepth 20000 in
theorem gX7_stitches_X7_isWithin : GoodIn wsX7_stitches (va_wsS RX7 42 yX7_isWithin wsX7_isWithin) := goodIn_app (goodIn_of _ (by decide +kernel)) ggX7_stitches_X7_isWithin
set_option maxRecDepth 20000 in
theorem ggX7_stitches_X7_demandPlace : GoodIn wsX7_stitches wsX7_demandPlace := goodIn_ca (goodIn_r _ [14, 6, 7] (by decide +kernel) (by decide +kernel)) (goodIn_sub (fun _ h => List.mem_cons_of_mem _ (List.mem_append_right _ h)) (by decide +kernel))
set_option maxRecDepth 20000 in
theorem gX7_stitches_X7_demandPlace : GoodIn wsX7_stitches (va_wsS RX7 38 yX7_demandPlace wsX7_demandPlace) := goodIn_app (goodIn_of _ (by decide +kernel)) ggX7_stitches_X7_demandPlace
set_option maxRecDepth 20000 in
theorem ggX7_stitches_X4_stitchesAt : GoodIn wsX7_stitches wsX4_stitchesAt := goodIn_r _ [19, 20, 28, 29, 30, 31, 32, 33, 34, 35, 36, 37] (by decide +kernel) (by decide +kernel)
set_option maxRecDepth 20000 in
theorem gX7_stitches_X4_stitchesAt : GoodIn wsX7_stitches (wsV RX7 164 RX4 yX4_stitchesAt wsX4_stitchesAt) := goodIn_app (goodIn_of _ (by decide +kernel)) ggX7_stitches_X4_stitchesAt
theorem dX7_stitches_0 : decode cX7_stitches 0 = .ok (.aload_n 0, 1) := by decide +kernel
theorem dX7_stitches_1 : decode cX7_stitches 1 = .ok (.iload_n 1, 1) := by decide +kernel
theorem dX7_stitches_2 : decode cX7_stitches 2 = .ok (.invokevirtual 118, 3) := by decide +kernel
theorem dX7_stitches_5 : decode cX7_stitches 5 = .ok (.getfield 122, 3) := by decide +kernel
theorem dX7_stitches_8 : decode cX7_stitches 8 = .ok (.astore 4, 2) := by decide +kernel
theorem dX7_stitches_10 : decode cX7_stitches 10 = .ok (.iload_n 2, 1) := by decide +kernel
theorem dX7_stitches_11 : decode cX7_stitches 11 = .ok (.iconst 0, 1) := by decide +kernel
theorem dX7_stitches_12 : decode cX7_stitches 12 = .ok (.aload 4, 2) := by decide +kernel
theorem dX7_stitches_14 : decode cX7_stitches 14 = .ok (.getfield 158, 3) := by decide +kernel
theorem dX7_stitches_17 : decode cX7_stitches 17 = .ok (.iconst 1, 1) := by decide +kernel
theorem dX7_stitches_18 : decode cX7_stitches 18 = .ok (.isub, 1) := by decide +kernel
theorem dX7_stitches_19 : decode cX7_stitches 19 = .ok (.invokestatic 42, 3) := by decide +kernel
theorem dX7_stitches_22 : decode cX7_stitches 22 = .ok (.ifCond .eq 22, 3) := by decide +kernel
theorem dX7_stitches_25 : decode cX7_stitches 25 = .ok (.iload_n 3, 1) := by decide +kernel
theorem dX7_stitches_26 : decode cX7_stitches 26 = .ok (.iconst 0, 1) := by decide +kernel
theorem dX7_stitches_27 : decode cX7_stitches 27 = .ok (.aload 4, 2) := by decide +kernel
theorem dX7_stitches_29 : decode cX7_stitches 29 = .ok (.getfield 161, 3) := by decide +kernel
theorem dX7_stitches_32 : decode cX7_stitches 32 = .ok (.iconst 2, 1) := by decide +kernel
theorem dX7_stitches_33 : decode cX7_stitches 33 = .ok (.isub, 1) := by decide +kernel
theorem dX7_stitches_34 : decode cX7_stitches 34 = .ok (.invokestatic 42, 3) := by decide +kernel
theorem dX7_stitches_37 : decode cX7_stitches 37 = .ok (.ifCond .eq 7, 3) := by decide +kernel
theorem dX7_stitches_40 : decode cX7_stitches 40 = .ok (.iconst 1, 1) := by decide +kernel
theorem dX7_stitches_41 : decode cX7_stitches 41 = .ok (.goto 4, 3) := by decide +kernel
theorem dX7_stitches_44 : decode cX7_stitches 44 = .ok (.iconst 0, 1) := by decide +kernel
theorem dX7_stitches_45 : decode cX7_stitches 45 = .ok (.invokestatic 38, 3) := by decide +kernel
theorem dX7_stitches_48 : decode cX7_stitches 48 = .ok (.aload 4, 2) := by decide +kernel
theorem dX7_stitches_50 : decode cX7_stitches 50 = .ok (.iload_n 2, 1) := by decide +kernel
theorem dX7_stitches_51 : decode cX7_stitches 51 = .ok (.iload_n 3, 1) := by decide +kernel
theorem dX7_stitches_52 : decode cX7_stitches 52 = .ok (.invokevirtual 164, 3) := by decide +kernel
theorem dX7_stitches_55 : decode cX7_stitches 55 = .ok (.ireturn, 1) := by decide +kernel
set_option maxRecDepth 20000 in
theorem ggX7_isHeld_X7_bookOf : GoodIn wsX7_isHeld wsX7_bookOf := goodIn_ca (goodIn_r _ [5, 6, 7, 8, 9, 10, 4, 11, 43, 44, 45, 46, 47, 48, 49] (by decide +kernel) (by decide +kernel)) (goodIn_sub (fun _ h => List.mem_cons_of_mem _ (List.mem_append_right _ h)) (by decide +kernel))
set_option maxRecDepth 20000 in
theorem gX7_isHeld_X7_bookOf : GoodIn wsX7_isHeld (wsV RX7 118 RX7 yX7_bookOf wsX7_bookOf) := goodIn_app (goodIn_of _ (by decide +kernel)) ggX7_isHeld_X7_bookOf
set_option maxRecDepth 20000 in
theorem ggX7_isHeld_X7_isWithin : GoodIn wsX7_isHeld wsX7_isWithin := goodIn_r _ [11] (by decide +kernel) (by decide +kernel)
set_option maxRecDepth 20000 in
theorem gX7_isHeld_X7_isWithin : GoodIn wsX7_isHeld (va_wsS RX7 42 yX7_isWithin wsX7_isWithin) := goodIn_app (goodIn_of _ (by decide +kernel)) ggX7_isHeld_X7_isWithin
set_option maxRecDepth 20000 in
theorem ggX7_isHeld_X7_demandPlace : GoodIn wsX7_isHeld wsX7_demandPlace := goodIn_ca (goodIn_r _ [14, 6, 7] (by decide +kernel) (by decide +kernel)) (goodIn_sub (fun _ h => List.mem_cons_of_mem _ (List.mem_append_right _ h)) (by decide +kernel))
set_option maxRecDepth 20000 in
theorem gX7_isHeld_X7_demandPlace : GoodIn wsX7_isHeld (va_wsS RX7 38 yX7_demandPlace wsX7_demandPlace) := goodIn_app (goodIn_of _ (by decide +kernel)) ggX7_isHeld_X7_demandPlace
set_option maxRecDepth 20000 in
theorem ggX7_isHeld_X4_holds : GoodIn wsX7_isHeld wsX4_holds := goodIn_r _ [19, 20, 21, 22, 23, 18, 24, 25, 33, 34, 35, 36, 37, 38, 39, 40, 41, 42] (by decide +kernel) (by decide +kernel)
set_option maxRecDepth 20000 in
theorem gX7_isHeld_X4_holds : GoodIn wsX7_isHeld (wsV RX7 167 RX4 yX4_holds wsX4_holds) := goodIn_app (goodIn_of _ (by decide +kernel)) ggX7_isHeld_X4_holds
theorem dX7_isHeld_0 : decode cX7_isHeld 0 = .ok (.aload_n 0, 1) := by decide +kernel
theorem dX7_isHeld_1 : decode cX7_isHeld 1 = .ok (.iload_n 1, 1) := by decide +kernel
theorem dX7_isHeld_2 : decode cX7_isHeld 2 = .ok (.invokevirtual 118, 3) := by decide +kernel
theorem dX7_isHeld_5 : decode cX7_isHeld 5 = .ok (.getfield 122, 3) := by decide +kernel
theorem dX7_isHeld_8 : decode cX7_isHeld 8 = .ok (.astore_n 3, 1) := by decide +kernel
theorem dX7_isHeld_9 : decode cX7_isHeld 9 = .ok (.iload_n 2, 1) := by decide +kernel
theorem dX7_isHeld_10 : decode cX7_isHeld 10 = .ok (.iconst 0, 1) := by decide +kernel
theorem dX7_isHeld_11 : decode cX7_isHeld 11 = .ok (.aload_n 3, 1) := by decide +kernel
theorem dX7_isHeld_12 : decode cX7_isHeld 12 = .ok (.getfield 158, 3) := by decide +kernel
theorem dX7_isHeld_15 : decode cX7_isHeld 15 = .ok (.iconst 1, 1) := by decide +kernel
theorem dX7_isHeld_16 : decode cX7_isHeld 16 = .ok (.isub, 1) := by decide +kernel
theorem dX7_isHeld_17 : decode cX7_isHeld 17 = .ok (.invokestatic 42, 3) := by decide +kernel
theorem dX7_isHeld_20 : decode cX7_isHeld 20 = .ok (.invokestatic 38, 3) := by decide +kernel
theorem dX7_isHeld_23 : decode cX7_isHeld 23 = .ok (.aload_n 3, 1) := by decide +kernel
theorem dX7_isHeld_24 : decode cX7_isHeld 24 = .ok (.iload_n 2, 1) := by decide +kernel
theorem dX7_isHeld_25 : decode cX7_isHeld 25 = .ok (.invokevirtual 167, 3) := by decide +kernel
theorem dX7_isHeld_28 : decode cX7_isHeld 28 = .ok (.ireturn, 1) := by decide +kernel
set_option maxRecDepth 20000 in
theorem ggX7_back_X7_bookOf : GoodIn wsX7_back wsX7_bookOf := goodIn_ca (goodIn_r _ [5, 6, 7, 8, 9, 10, 4, 11, 24, 25, 26, 27, 28, 29, 30] (by decide +kernel) (by decide +kernel)) (goodIn_sub (fun _ h => List.mem_cons_of_mem _ (List.mem_append_left _ (List.mem_append_right _ h))) (by decide +kernel))
set_option maxRecDepth 20000 in
theorem gX7_back_X7_bookOf : GoodIn wsX7_back (wsV RX7 118 RX7 yX7_bookOf wsX7_bookOf) := goodIn_app (goodIn_of _ (by decide +kernel)) ggX7_back_X7_bookOf
set_option maxRecDepth 20000 in
theorem ggX7_back_X7_isWithin : GoodIn wsX7_back wsX7_isWithin := goodIn_r _ [11] (by decide +kernel) (by decide +kernel)
set_option maxRecDepth 20000 in
theorem gX7_back_X7_isWithin : GoodIn wsX7_back (va_wsS RX7 42 yX7_isWithin wsX7_isWithin) := goodIn_app (goodIn_of _ (by decide +kernel)) ggX7_back_X7_isWithin
set_option maxRecDepth 20000 in
theorem ggX7_back_X7_demandArgument : GoodIn wsX7_back wsX7_demandArgument := goodIn_ca (goodIn_r _ [14, 15, 16] (by decide +kernel) (by decide +kernel)) (goodIn_sub (fun _ h => List.mem_cons_of_mem _ (List.mem_append_right _ h)) (by decide +kernel))
set_option maxRecDepth 20000 in
theorem gX7_back_X7_demandArgument : GoodIn wsX7_back (va_wsS RX7 46 yX7_demandArgument wsX7_demandArgument) := goodIn_app (goodIn_of _ (by decide +kernel)) ggX7_back_X7_demandArgument
theorem dX7_back_0 : decode cX7_back 0 = .ok (.aload_n 0, 1) := by decide +kernel
theorem dX7_back_1 : decode cX7_back 1 = .ok (.iload_n 1, 1) := by decide +kernel
theorem dX7_back_2 : decode cX7_back 2 = .ok (.invokevirtual 118, 3) := by decide +kernel
theorem dX7_back_5 : decode cX7_back 5 = .ok (.astore_n 3, 1) := by decide +kernel
theorem dX7_back_6 : decode cX7_back 6 = .ok (.iload_n 2, 1) := by decide +kernel
theorem dX7_back_7 : decode cX7_back 7 = .ok (.iconst 0, 1) := by decide +kernel
theorem dX7_back_8 : decode cX7_back 8 = .ok (.iconst 2, 1) := by decide +kernel
theorem dX7_back_9 : decode cX7_back 9 = .ok (.invokestatic 42, 3) := by decide +kernel
theorem dX7_back_12 : decode cX7_back 12 = .ok (.invokestatic 46, 3) := by decide +kernel
theorem dX7_back_15 : decode cX7_back 15 = .ok (.aload_n 3, 1) := by decide +kernel
theorem dX7_back_16 : decode cX7_back 16 = .ok (.getfield 170, 3) := by decide +kernel
theorem dX7_back_19 : decode cX7_back 19 = .ok (.istore 4, 2) := by decide +kernel
theorem dX7_back_21 : decode cX7_back 21 = .ok (.aload_n 3, 1) := by decide +kernel
theorem dX7_back_22 : decode cX7_back 22 = .ok (.iload_n 2, 1) := by decide +kernel
theorem dX7_back_23 : decode cX7_back 23 = .ok (.putfield 170, 3) := by decide +kernel
theorem dX7_back_26 : decode cX7_back 26 = .ok (.iload 4, 2) := by decide +kernel
theorem dX7_back_28 : decode cX7_back 28 = .ok (.ireturn, 1) := by decide +kernel
set_option maxRecDepth 20000 in
theorem ggX7_swelling_X7_bookOf : GoodIn wsX7_swelling wsX7_bookOf := goodIn_ca (goodIn_r _ [5, 6, 7, 8, 9, 10, 4, 11, 39, 40, 41, 42, 43, 44, 45] (by decide +kernel) (by decide +kernel)) (goodIn_sub (fun _ h => List.mem_cons_of_mem _ (List.mem_append_right _ h)) (by decide +kernel))
set_option maxRecDepth 20000 in
theorem gX7_swelling_X7_bookOf : GoodIn wsX7_swelling (wsV RX7 118 RX7 yX7_bookOf wsX7_bookOf) := goodIn_app (goodIn_of _ (by decide +kernel)) ggX7_swelling_X7_bookOf
set_option maxRecDepth 20000 in
theorem ggX7_swelling_X4_swell : GoodIn wsX7_swelling wsX4_swell := goodIn_r _ [16, 17, 18, 19, 20, 15, 21, 22, 23, 24, 25, 26, 27, 28, 29, 30, 31, 46, 47, 48, 49, 50, 51, 52, 53, 54, 55] (by decide +kernel) (by decide +kernel)
set_option maxRecDepth 20000 in
theorem gX7_swelling_X4_swell : GoodIn wsX7_swelling (wsV RX7 173 RX4 yX4_swell wsX4_swell) := goodIn_app (goodIn_of _ (by decide +kernel)) ggX7_swelling_X4_swell
theorem dX7_swelling_0 : decode cX7_swelling 0 = .ok (.aload_n 0, 1) := by decide +kernel
theorem dX7_swelling_1 : decode cX7_swelling 1 = .ok (.iload_n 1, 1) := by decide +kernel
theorem dX7_swelling_2 : decode cX7_swelling 2 = .ok (.invokevirtual 118, 3) := by decide +kernel
theorem dX7_swelling_5 : decode cX7_swelling 5 = .ok (.getfield 122, 3) := by decide +kernel
theorem dX7_swelling_8 : decode cX7_swelling 8 = .ok (.invokevirtual 173, 3) := by decide +kernel
theorem dX7_swelling_11 : decode cX7_swelling 11 = .ok (.ireturn, 1) := by decide +kernel
set_option maxRecDepth 20000 in
theorem ggX7_strain_X7_bookOf : GoodIn wsX7_strain wsX7_bookOf := goodIn_ca (goodIn_r _ [5, 6, 7, 8, 9, 10, 4, 11, 59, 60, 61, 62, 63, 64, 65] (by decide +kernel) (by decide +kernel)) (goodIn_sub (fun _ h => List.mem_cons_of_mem _ (List.mem_append_left _ (List.mem_append_right _ h))) (by decide +kernel))
set_option maxRecDepth 20000 in
theorem gX7_strain_X7_bookOf : GoodIn wsX7_strain (wsV RX7 118 RX7 yX7_bookOf wsX7_bookOf) := goodIn_app (goodIn_of _ (by decide +kernel)) ggX7_strain_X7_bookOf
set_option maxRecDepth 20000 in
theorem ggX7_strain_X7_isWithin : GoodIn wsX7_strain wsX7_isWithin := goodIn_r _ [11] (by decide +kernel) (by decide +kernel)
set_option maxRecDepth 20000 in
theorem gX7_strain_X7_isWithin : GoodIn wsX7_strain (va_wsS RX7 42 yX7_isWithin wsX7_isWithin) := goodIn_app (goodIn_of _ (by decide +kernel)) ggX7_strain_X7_isWithin
set_option maxRecDepth 20000 in
theorem ggX7_strain_X7_demandArgument : GoodIn wsX7_strain wsX7_demandArgument := goodIn_ca (goodIn_r _ [14, 15, 16] (by decide +kernel) (by decide +kernel)) (goodIn_sub (fun _ h => List.mem_cons_of_mem _ (List.mem_append_right _ h)) (by decide +kernel))
set_option maxRecDepth 20000 in
theorem gX7_strain_X7_demandArgument : GoodIn wsX7_strain (va_wsS RX7 46 yX7_demandArgument wsX7_demandArgument) := goodIn_app (goodIn_of _ (by decide +kernel)) ggX7_strain_X7_demandArgument
set_option maxRecDepth 20000 in
theorem ggX7_strain_X1_bendAt : GoodIn wsX7_strain wsX1_bendAt := goodIn_r _ [21, 22, 23, 24, 25, 26, 27, 28, 29, 30, 20, 31, 32, 52, 53, 54, 55, 56, 57, 58] (by decide +kernel) (by decide +kernel)
set_option maxRecDepth 20000 in
theorem gX7_strain_X1_bendAt : GoodIn wsX7_strain (wsV RX7 179 RX1 yX1_bendAt wsX1_bendAt) := goodIn_app (goodIn_of _ (by decide +kernel)) ggX7_strain_X1_bendAt
set_option maxRecDepth 20000 in
theorem ggX7_strain_X4_swell : GoodIn wsX7_strain wsX4_swell := goodIn_r _ [37, 38, 39, 40, 41, 36, 42, 43, 44, 45, 25, 46, 47, 48, 49, 50, 51, 66, 67, 68, 69, 70, 71, 72, 73, 74, 75] (by decide +kernel) (by decide +kernel)
set_option maxRecDepth 20000 in
theorem gX7_strain_X4_swell : GoodIn wsX7_strain (wsV RX7 173 RX4 yX4_swell wsX4_swell) := goodIn_app (goodIn_of _ (by decide +kernel)) ggX7_strain_X4_swell
theorem dX7_strain_0 : decode cX7_strain 0 = .ok (.aload_n 0, 1) := by decide +kernel
theorem dX7_strain_1 : decode cX7_strain 1 = .ok (.iload_n 1, 1) := by decide +kernel
theorem dX7_strain_2 : decode cX7_strain 2 = .ok (.invokevirtual 118, 3) := by decide +kernel
theorem dX7_strain_5 : decode cX7_strain 5 = .ok (.astore_n 3, 1) := by decide +kernel
theorem dX7_strain_6 : decode cX7_strain 6 = .ok (.iload_n 2, 1) := by decide +kernel
theorem dX7_strain_7 : decode cX7_strain 7 = .ok (.iconst 0, 1) := by decide +kernel
theorem dX7_strain_8 : decode cX7_strain 8 = .ok (.aload_n 3, 1) := by decide +kernel
theorem dX7_strain_9 : decode cX7_strain 9 = .ok (.getfield 176, 3) := by decide +kernel
theorem dX7_strain_12 : decode cX7_strain 12 = .ok (.invokestatic 42, 3) := by decide +kernel
theorem dX7_strain_15 : decode cX7_strain 15 = .ok (.invokestatic 46, 3) := by decide +kernel
theorem dX7_strain_18 : decode cX7_strain 18 = .ok (.aload_n 3, 1) := by decide +kernel
theorem dX7_strain_19 : decode cX7_strain 19 = .ok (.iload_n 2, 1) := by decide +kernel
theorem dX7_strain_20 : decode cX7_strain 20 = .ok (.invokevirtual 179, 3) := by decide +kernel
theorem dX7_strain_23 : decode cX7_strain 23 = .ok (.aload_n 3, 1) := by decide +kernel
theorem dX7_strain_24 : decode cX7_strain 24 = .ok (.getfield 122, 3) := by decide +kernel
theorem dX7_strain_27 : decode cX7_strain 27 = .ok (.invokevirtual 173, 3) := by decide +kernel
theorem dX7_strain_30 : decode cX7_strain 30 = .ok (.iadd, 1) := by decide +kernel
theorem dX7_strain_31 : decode cX7_strain 31 = .ok (.ireturn, 1) := by decide +kernel
set_option maxRecDepth 20000 in
theorem ggX7_worst_X7_bookOf : GoodIn wsX7_worst wsX7_bookOf := goodIn_ca (goodIn_r _ [5, 6, 7, 8, 9, 10, 4, 11, 32, 33, 34, 35, 36, 37, 38] (by decide +kernel) (by decide +kernel)) (goodIn_sub (fun _ h => List.mem_cons_of_mem _ (List.mem_append_right _ h)) (by decide +kernel))
set_option maxRecDepth 20000 in
theorem gX7_worst_X7_bookOf : GoodIn wsX7_worst (wsV RX7 118 RX7 yX7_bookOf wsX7_bookOf) := goodIn_app (goodIn_of _ (by decide +kernel)) ggX7_worst_X7_bookOf
set_option maxRecDepth 20000 in
theorem ggX7_worst_X1_stiffestOpening : GoodIn wsX7_worst wsX1_stiffestOpening := goodIn_r _ [16, 17, 18, 19, 20, 15, 21, 22, 23, 24, 25, 26, 27, 28, 29, 30, 31, 39, 40, 41, 42, 43, 44, 45] (by decide +kernel) (by decide +kernel)
set_option maxRecDepth 20000 in
theorem gX7_worst_X1_stiffestOpening : GoodIn wsX7_worst (wsV RX7 182 RX1 yX1_stiffestOpening wsX1_stiffestOpening) := goodIn_app (goodIn_of _ (by decide +kernel)) ggX7_worst_X1_stiffestOpening
theorem dX7_worst_0 : decode cX7_worst 0 = .ok (.aload_n 0, 1) := by decide +kernel
theorem dX7_worst_1 : decode cX7_worst 1 = .ok (.iload_n 1, 1) := by decide +kernel
theorem dX7_worst_2 : decode cX7_worst 2 = .ok (.invokevirtual 118, 3) := by decide +kernel
theorem dX7_worst_5 : decode cX7_worst 5 = .ok (.invokevirtual 182, 3) := by decide +kernel
theorem dX7_worst_8 : decode cX7_worst 8 = .ok (.ireturn, 1) := by decide +kernel
set_option maxRecDepth 20000 in
theorem ggX7_opens_X7_bookOf : GoodIn wsX7_opens wsX7_bookOf := goodIn_ca (goodIn_r _ [6, 7, 8, 9, 10, 11, 5, 12, 58, 59, 60, 61, 62, 63, 64] (by decide +kernel) (by decide +kernel)) (goodIn_sub (fun _ h => List.mem_cons_of_mem _ (List.mem_append_left _ (List.mem_append_right _ h))) (by decide +kernel))
set_option maxRecDepth 20000 in
theorem gX7_opens_X7_bookOf : GoodIn wsX7_opens (wsV RX7 118 RX7 yX7_bookOf wsX7_bookOf) := goodIn_app (goodIn_of _ (by decide +kernel)) ggX7_opens_X7_bookOf
set_option maxRecDepth 20000 in
theorem ggX7_opens_X7_isWithin : GoodIn wsX7_opens wsX7_isWithin := goodIn_r _ [12] (by decide +kernel) (by decide +kernel)
set_option maxRecDepth 20000 in
theorem gX7_opens_X7_isWithin : GoodIn wsX7_opens (va_wsS RX7 42 yX7_isWithin wsX7_isWithin) := goodIn_app (goodIn_of _ (by decide +kernel)) ggX7_opens_X7_isWithin
set_option maxRecDepth 20000 in
theorem ggX7_opens_X7_demandArgument : GoodIn wsX7_opens wsX7_demandArgument := goodIn_ca (goodIn_r _ [15, 16, 17] (by decide +kernel) (by decide +kernel)) (goodIn_sub (fun _ h => List.mem_cons_of_mem _ (List.mem_append_right _ h)) (by decide +kernel))
set_option maxRecDepth 20000 in
theorem gX7_opens_X7_demandArgument : GoodIn wsX7_opens (va_wsS RX7 46 yX7_demandArgument wsX7_demandArgument) := goodIn_app (goodIn_of _ (by decide +kernel)) ggX7_opens_X7_demandArgument
set_option maxRecDepth 20000 in
theorem ggX7_opens_X1_openingsWithin : GoodIn wsX7_opens wsX1_openingsWithin := goodIn_r _ [22, 23, 24, 25, 26, 27, 28, 29, 30, 31, 32, 33, 34, 35, 36, 37, 38, 39, 40, 41, 42, 43, 44, 45, 46, 47, 21, 48, 49, 50, 51, 52, 53, 54, 55, 56, 57, 65, 66, 67, 68, 69, 70, 71, 72, 73, 74, 75, 76, 77, 78, 79, 80, 81] (by decide +kernel) (by decide +kernel)
set_option maxRecDepth 20000 in
theorem gX7_opens_X1_openingsWithin : GoodIn wsX7_opens (wsV RX7 186 RX1 yX1_openingsWithin wsX1_openingsWithin) := goodIn_app (goodIn_of _ (by decide +kernel)) ggX7_opens_X1_openingsWithin
theorem dX7_opens_0 : decode cX7_opens 0 = .ok (.aload_n 0, 1) := by decide +kernel
theorem dX7_opens_1 : decode cX7_opens 1 = .ok (.iload_n 1, 1) := by decide +kernel
theorem dX7_opens_2 : decode cX7_opens 2 = .ok (.invokevirtual 118, 3) := by decide +kernel
theorem dX7_opens_5 : decode cX7_opens 5 = .ok (.astore_n 3, 1) := by decide +kernel
theorem dX7_opens_6 : decode cX7_opens 6 = .ok (.iload_n 2, 1) := by decide +kernel
theorem dX7_opens_7 : decode cX7_opens 7 = .ok (.iconst 0, 1) := by decide +kernel
theorem dX7_opens_8 : decode cX7_opens 8 = .ok (.ldc 185, 2) := by decide +kernel
theorem dX7_opens_10 : decode cX7_opens 10 = .ok (.invokestatic 42, 3) := by decide +kernel
theorem dX7_opens_13 : decode cX7_opens 13 = .ok (.invokestatic 46, 3) := by decide +kernel
theorem dX7_opens_16 : decode cX7_opens 16 = .ok (.aload_n 3, 1) := by decide +kernel
theorem dX7_opens_17 : decode cX7_opens 17 = .ok (.iload_n 2, 1) := by decide +kernel
theorem dX7_opens_18 : decode cX7_opens 18 = .ok (.invokevirtual 186, 3) := by decide +kernel
theorem dX7_opens_21 : decode cX7_opens 21 = .ok (.ireturn, 1) := by decide +kernel
set_option maxRecDepth 20000 in
theorem ggX7_skin_X7_isWithin : GoodIn wsX7_skin wsX7_isWithin := goodIn_r _ [9] (by decide +kernel) (by decide +kernel)
set_option maxRecDepth 20000 in
theorem gX7_skin_X7_isWithin : GoodIn wsX7_skin (va_wsS RX7 42 yX7_isWithin wsX7_isWithin) := goodIn_app (goodIn_of _ (by decide +kernel)) ggX7_skin_X7_isWithin
set_option maxRecDepth 20000 in
theorem ggX7_skin_X7_demandArgument : GoodIn wsX7_skin wsX7_demandArgument := goodIn_ca (goodIn_r _ [12, 13, 14] (by decide +kernel) (by decide +kernel)) (goodIn_sub (fun _ h => List.mem_cons_of_mem _ (List.mem_append_left _ (List.mem_append_right _ h))) (by decide +kernel))
set_option maxRecDepth 20000 in
theorem gX7_skin_X7_demandArgument : GoodIn wsX7_skin (va_wsS RX7 46 yX7_demandArgument wsX7_demandArgument) := goodIn_app (goodIn_of _ (by decide +kernel)) ggX7_skin_X7_demandArgument
set_option maxRecDepth 20000 in
theorem ggX7_skin_X7_demandState : GoodIn wsX7_skin wsX7_demandState := goodIn_ca (goodIn_r _ [17, 18, 19] (by decide +kernel) (by decide +kernel)) (goodIn_sub (fun _ h => List.mem_cons_of_mem _ (List.mem_append_right _ h)) (by decide +kernel))
set_option maxRecDepth 20000 in
theorem gX7_skin_X7_demandState : GoodIn wsX7_skin (va_wsS RX7 65 yX7_demandState wsX7_demandState) := goodIn_app (goodIn_of _ (by decide +kernel)) ggX7_skin_X7_demandState
set_option maxRecDepth 20000 in
theorem ggX7_skin_X5_init : GoodIn wsX7_skin wsX5_init := goodIn_r _ [22, 23, 24, 25, 26, 27, 35] (by decide +kernel) (by decide +kernel)
set_option maxRecDepth 20000 in
theorem gX7_skin_X5_init : GoodIn wsX7_skin (wsX5_init) := ggX7_skin_X5_init
theorem dX7_skin_0 : decode cX7_skin 0 = .ok (.iload_n 1, 1) := by decide +kernel
theorem dX7_skin_1 : decode cX7_skin 1 = .ok (.bipush 8, 2) := by decide +kernel
theorem dX7_skin_3 : decode cX7_skin 3 = .ok (.bipush 30, 2) := by decide +kernel
theorem dX7_skin_5 : decode cX7_skin 5 = .ok (.invokestatic 42, 3) := by decide +kernel
theorem dX7_skin_8 : decode cX7_skin 8 = .ok (.invokestatic 46, 3) := by decide +kernel
theorem dX7_skin_11 : decode cX7_skin 11 = .ok (.aload_n 0, 1) := by decide +kernel
theorem dX7_skin_12 : decode cX7_skin 12 = .ok (.getfield 189, 3) := by decide +kernel
theorem dX7_skin_15 : decode cX7_skin 15 = .ok (.iconst 3, 1) := by decide +kernel
theorem dX7_skin_16 : decode cX7_skin 16 = .ok (.if_icmp .ge 7, 3) := by decide +kernel
theorem dX7_skin_19 : decode cX7_skin 19 = .ok (.iconst 1, 1) := by decide +kernel
theorem dX7_skin_20 : decode cX7_skin 20 = .ok (.goto 4, 3) := by decide +kernel
theorem dX7_skin_23 : decode cX7_skin 23 = .ok (.iconst 0, 1) := by decide +kernel
theorem dX7_skin_24 : decode cX7_skin 24 = .ok (.invokestatic 65, 3) := by decide +kernel
theorem dX7_skin_27 : decode cX7_skin 27 = .ok (.aload_n 0, 1) := by decide +kernel
theorem dX7_skin_28 : decode cX7_skin 28 = .ok (.getfield 189, 3) := by decide +kernel
theorem dX7_skin_31 : decode cX7_skin 31 = .ok (.istore_n 2, 1) := by decide +kernel
theorem dX7_skin_32 : decode cX7_skin 32 = .ok (.aload_n 0, 1) := by decide +kernel
theorem dX7_skin_33 : decode cX7_skin 33 = .ok (.getfield 30, 3) := by decide +kernel
theorem dX7_skin_36 : decode cX7_skin 36 = .ok (.iload_n 2, 1) := by decide +kernel
theorem dX7_skin_37 : decode cX7_skin 37 = .ok (.new 28, 3) := by decide +kernel
theorem dX7_skin_40 : decode cX7_skin 40 = .ok (.dup, 1) := by decide +kernel
theorem dX7_skin_41 : decode cX7_skin 41 = .ok (.iload_n 1, 1) := by decide +kernel
theorem dX7_skin_42 : decode cX7_skin 42 = .ok (.invokespecial 192, 3) := by decide +kernel
theorem dX7_skin_45 : decode cX7_skin 45 = .ok (.aastore, 1) := by decide +kernel
theorem dX7_skin_46 : decode cX7_skin 46 = .ok (.aload_n 0, 1) := by decide +kernel
theorem dX7_skin_47 : decode cX7_skin 47 = .ok (.dup, 1) := by decide +kernel
theorem dX7_skin_48 : decode cX7_skin 48 = .ok (.getfield 189, 3) := by decide +kernel
theorem dX7_skin_51 : decode cX7_skin 51 = .ok (.iconst 1, 1) := by decide +kernel
theorem dX7_skin_52 : decode cX7_skin 52 = .ok (.iadd, 1) := by decide +kernel
theorem dX7_skin_53 : decode cX7_skin 53 = .ok (.putfield 189, 3) := by decide +kernel
theorem dX7_skin_56 : decode cX7_skin 56 = .ok (.iload_n 2, 1) := by decide +kernel
theorem dX7_skin_57 : decode cX7_skin 57 = .ok (.ireturn, 1) := by decide +kernel
set_option maxRecDepth 20000 in
theorem ggX7_pare_X7_skinOf : GoodIn wsX7_pare wsX7_skinOf := goodIn_ca (goodIn_r _ [5, 6, 7, 8, 9, 10, 4, 11, 47, 48, 49, 50, 51, 52, 53] (by decide +kernel) (by decide +kernel)) (goodIn_sub (fun _ h => List.mem_cons_of_mem _ (List.mem_append_left _ (List.mem_append_left _ (List.mem_append_right _ h)))) (by decide +kernel))
set_option maxRecDepth 20000 in
theorem gX7_pare_X7_skinOf : GoodIn wsX7_pare (wsV RX7 194 RX7 yX7_skinOf wsX7_skinOf) := goodIn_app (goodIn_of _ (by decide +kernel)) ggX7_pare_X7_skinOf
set_option maxRecDepth 20000 in
theorem ggX7_pare_X7_isOnGrid : GoodIn wsX7_pare wsX7_isOnGrid := goodIn_r _ [14, 15, 16, 4, 17, 9, 10, 11] (by decide +kernel) (by decide +kernel)
set_option maxRecDepth 20000 in
theorem gX7_pare_X7_isOnGrid : GoodIn wsX7_pare (va_wsS RX7 34 yX7_isOnGrid wsX7_isOnGrid) := goodIn_app (goodIn_of _ (by decide +kernel)) ggX7_pare_X7_isOnGrid
set_option maxRecDepth 20000 in
theorem ggX7_pare_X7_demandPlace : GoodIn wsX7_pare wsX7_demandPlace := goodIn_ca (goodIn_r _ [20, 6, 7] (by decide +kernel) (by decide +kernel)) (goodIn_sub (fun _ h => List.mem_cons_of_mem _ (List.mem_append_left _ (List.mem_append_left _ (List.mem_append_right _ h)))) (by decide +kernel))
set_option maxRecDepth 20000 in
theorem gX7_pare_X7_demandPlace : GoodIn wsX7_pare (va_wsS RX7 38 yX7_demandPlace wsX7_demandPlace) := goodIn_app (goodIn_of _ (by decide +kernel)) ggX7_pare_X7_demandPlace
set_option maxRecDepth 20000 in
theorem ggX7_pare_X7_isWithin : GoodIn wsX7_pare wsX7_isWithin := goodIn_r _ [11] (by decide +kernel) (by decide +kernel)
set_option maxRecDepth 20000 in
theorem gX7_pare_X7_isWithin : GoodIn wsX7_pare (va_wsS RX7 42 yX7_isWithin wsX7_isWithin) := goodIn_app (goodIn_of _ (by decide +kernel)) ggX7_pare_X7_isWithin
set_option maxRecDepth 20000 in
theorem ggX7_pare_X7_demandArgument : GoodIn wsX7_pare wsX7_demandArgument := goodIn_ca (goodIn_r _ [23, 24, 25] (by decide +kernel) (by decide +kernel)) (goodIn_sub (fun _ h => List.mem_cons_of_mem _ (List.mem_append_left _ (List.mem_append_right _ h))) (by decide +kernel))
set_option maxRecDepth 20000 in
theorem gX7_pare_X7_demandArgument : GoodIn wsX7_pare (va_wsS RX7 46 yX7_demandArgument wsX7_demandArgument) := goodIn_app (goodIn_of _ (by decide +kernel)) ggX7_pare_X7_demandArgument
set_option maxRecDepth 20000 in
theorem ggX7_pare_X5_thinnest : GoodIn wsX7_pare wsX5_thinnest := goodIn_r _ [30, 31, 32, 33, 34, 35, 36, 4, 37, 54] (by decide +kernel) (by decide +kernel)
set_option maxRecDepth 20000 in
theorem gX7_pare_X5_thinnest : GoodIn wsX7_pare (wsV RX7 198 RX5 yX5_thinnest wsX5_thinnest) := goodIn_app (goodIn_of _ (by decide +kernel)) ggX7_pare_X5_thinnest
set_option maxRecDepth 20000 in
theorem ggX7_pare_X7_demandState : GoodIn wsX7_pare wsX7_demandState := goodIn_ca (goodIn_r _ [40, 41, 42] (by decide +kernel) (by decide +kernel)) (goodIn_sub (fun _ h => List.mem_cons_of_mem _ (List.mem_append_right _ h)) (by decide +kernel))
set_option maxRecDepth 20000 in
theorem gX7_pare_X7_demandState : GoodIn wsX7_pare (va_wsS RX7 65 yX7_demandState wsX7_demandState) := goodIn_app (goodIn_of _ (by decide +kernel)) ggX7_pare_X7_demandState
set_option maxRecDepth 20000 in
theorem ggX7_pare_X5_thin : GoodIn wsX7_pare wsX5_thin := goodIn_r _ [46, 31, 36, 4, 37, 54] (by decide +kernel) (by decide +kernel)
set_option maxRecDepth 20000 in
theorem gX7_pare_X5_thin : GoodIn wsX7_pare (wsV RX7 201 RX5 yX5_thin wsX5_thin) := goodIn_app (goodIn_of _ (by decide +kernel)) ggX7_pare_X5_thin
theorem dX7_pare_0 : decode cX7_pare 0 = .ok (.aload_n 0, 1) := by decide +kernel
theorem dX7_pare_1 : decode cX7_pare 1 = .ok (.iload_n 1, 1) := by decide +kernel
theorem dX7_pare_2 : decode cX7_pare 2 = .ok (.invokevirtual 194, 3) := by decide +kernel
theorem dX7_pare_5 : decode cX7_pare 5 = .ok (.astore 7, 2) := by decide +kernel
theorem dX7_pare_7 : decode cX7_pare 7 = .ok (.iload_n 2, 1) := by decide +kernel
theorem dX7_pare_8 : decode cX7_pare 8 = .ok (.iload 4, 2) := by decide +kernel
theorem dX7_pare_10 : decode cX7_pare 10 = .ok (.invokestatic 34, 3) := by decide +kernel
theorem dX7_pare_13 : decode cX7_pare 13 = .ok (.ifCond .eq 28, 3) := by decide +kernel
theorem dX7_pare_16 : decode cX7_pare 16 = .ok (.iload_n 3, 1) := by decide +kernel
theorem dX7_pare_17 : decode cX7_pare 17 = .ok (.iload 5, 2) := by decide +kernel
theorem dX7_pare_19 : decode cX7_pare 19 = .ok (.invokestatic 34, 3) := by decide +kernel
theorem dX7_pare_22 : decode cX7_pare 22 = .ok (.ifCond .eq 19, 3) := by decide +kernel
theorem dX7_pare_25 : decode cX7_pare 25 = .ok (.iload_n 2, 1) := by decide +kernel
theorem dX7_pare_26 : decode cX7_pare 26 = .ok (.iload_n 3, 1) := by decide +kernel
theorem dX7_pare_27 : decode cX7_pare 27 = .ok (.if_icmp .gt 14, 3) := by decide +kernel
theorem dX7_pare_30 : decode cX7_pare 30 = .ok (.iload 4, 2) := by decide +kernel
theorem dX7_pare_32 : decode cX7_pare 32 = .ok (.iload 5, 2) := by decide +kernel
theorem dX7_pare_34 : decode cX7_pare 34 = .ok (.if_icmp .gt 7, 3) := by decide +kernel
theorem dX7_pare_37 : decode cX7_pare 37 = .ok (.iconst 1, 1) := by decide +kernel
theorem dX7_pare_38 : decode cX7_pare 38 = .ok (.goto 4, 3) := by decide +kernel
theorem dX7_pare_41 : decode cX7_pare 41 = .ok (.iconst 0, 1) := by decide +kernel
theorem dX7_pare_42 : decode cX7_pare 42 = .ok (.invokestatic 38, 3) := by decide +kernel
theorem dX7_pare_45 : decode cX7_pare 45 = .ok (.iload 6, 2) := by decide +kernel
theorem dX7_pare_47 : decode cX7_pare 47 = .ok (.iconst 1, 1) := by decide +kernel
theorem dX7_pare_48 : decode cX7_pare 48 = .ok (.bipush 27, 2) := by decide +kernel
theorem dX7_pare_50 : decode cX7_pare 50 = .ok (.invokestatic 42, 3) := by decide +kernel
theorem dX7_pare_53 : decode cX7_pare 53 = .ok (.invokestatic 46, 3) := by decide +kernel
theorem dX7_pare_56 : decode cX7_pare 56 = .ok (.aload 7, 2) := by decide +kernel
theorem dX7_pare_58 : decode cX7_pare 58 = .ok (.iload_n 2, 1) := by decide +kernel
theorem dX7_pare_59 : decode cX7_pare 59 = .ok (.iload_n 3, 1) := by decide +kernel
theorem dX7_pare_60 : decode cX7_pare 60 = .ok (.iload 4, 2) := by decide +kernel
theorem dX7_pare_62 : decode cX7_pare 62 = .ok (.iload 5, 2) := by decide +kernel
theorem dX7_pare_64 : decode cX7_pare 64 = .ok (.invokevirtual 198, 3) := by decide +kernel
theorem dX7_pare_67 : decode cX7_pare 67 = .ok (.iload 6, 2) := by decide +kernel
theorem dX7_pare_69 : decode cX7_pare 69 = .ok (.isub, 1) := by decide +kernel
theorem dX7_pare_70 : decode cX7_pare 70 = .ok (.istore 8, 2) := by decide +kernel
theorem dX7_pare_72 : decode cX7_pare 72 = .ok (.iload 8, 2) := by decide +kernel
theorem dX7_pare_74 : decode cX7_pare 74 = .ok (.iconst 3, 1) := by decide +kernel
theorem dX7_pare_75 : decode cX7_pare 75 = .ok (.if_icmp .lt 7, 3) := by decide +kernel
theorem dX7_pare_78 : decode cX7_pare 78 = .ok (.iconst 1, 1) := by decide +kernel
theorem dX7_pare_79 : decode cX7_pare 79 = .ok (.goto 4, 3) := by decide +kernel
theorem dX7_pare_82 : decode cX7_pare 82 = .ok (.iconst 0, 1) := by decide +kernel
theorem dX7_pare_83 : decode cX7_pare 83 = .ok (.invokestatic 65, 3) := by decide +kernel
theorem dX7_pare_86 : decode cX7_pare 86 = .ok (.aload 7, 2) := by decide +kernel
theorem dX7_pare_88 : decode cX7_pare 88 = .ok (.iload_n 2, 1) := by decide +kernel
theorem dX7_pare_89 : decode cX7_pare 89 = .ok (.iload_n 3, 1) := by decide +kernel
theorem dX7_pare_90 : decode cX7_pare 90 = .ok (.iload 4, 2) := by decide +kernel
theorem dX7_pare_92 : decode cX7_pare 92 = .ok (.iload 5, 2) := by decide +kernel
theorem dX7_pare_94 : decode cX7_pare 94 = .ok (.iload 6, 2) := by decide +kernel
theorem dX7_pare_96 : decode cX7_pare 96 = .ok (.invokevirtual 201, 3) := by decide +kernel
theorem dX7_pare_99 : decode cX7_pare 99 = .ok (.iload 8, 2) := by decide +kernel
theorem dX7_pare_101 : decode cX7_pare 101 = .ok (.ireturn, 1) := by decide +kernel
set_option maxRecDepth 20000 in
theorem ggX7_thickAt_X7_skinOf : GoodIn wsX7_thickAt wsX7_skinOf := goodIn_ca (goodIn_r _ [5, 6, 7, 8, 9, 10, 4, 11, 25, 26, 27, 28, 29, 30, 31] (by decide +kernel) (by decide +kernel)) (goodIn_sub (fun _ h => List.mem_cons_of_mem _ (List.mem_append_right _ h)) (by decide +kernel))
set_option maxRecDepth 20000 in
theorem gX7_thickAt_X7_skinOf : GoodIn wsX7_thickAt (wsV RX7 194 RX7 yX7_skinOf wsX7_skinOf) := goodIn_app (goodIn_of _ (by decide +kernel)) ggX7_thickAt_X7_skinOf
set_option maxRecDepth 20000 in
theorem ggX7_thickAt_X7_isOnGrid : GoodIn wsX7_thickAt wsX7_isOnGrid := goodIn_r _ [14, 15, 16, 4, 17, 9, 10, 11] (by decide +kernel) (by decide +kernel)
set_option maxRecDepth 20000 in
theorem gX7_thickAt_X7_isOnGrid : GoodIn wsX7_thickAt (va_wsS RX7 34 yX7_isOnGrid wsX7_isOnGrid) := goodIn_app (goodIn_of _ (by decide +kernel)) ggX7_thickAt_X7_isOnGrid
set_option maxRecDepth 20000 in
theorem ggX7_thickAt_X7_demandPlace : GoodIn wsX7_thickAt wsX7_demandPlace := goodIn_ca (goodIn_r _ [20, 6, 7] (by decide +kernel) (by decide +kernel)) (goodIn_sub (fun _ h => List.mem_cons_of_mem _ (List.mem_append_right _ h)) (by decide +kernel))
set_option maxRecDepth 20000 in
theorem gX7_thickAt_X7_demandPlace : GoodIn wsX7_thickAt (va_wsS RX7 38 yX7_demandPlace wsX7_demandPlace) := goodIn_app (goodIn_of _ (by decide +kernel)) ggX7_thickAt_X7_demandPlace
set_option maxRecDepth 20000 in
theorem ggX7_thickAt_X7_cellOf : GoodIn wsX7_thickAt wsX7_cellOf := goodIn_r _ [23] (by decide +kernel) (by decide +kernel)
set_option maxRecDepth 20000 in
theorem gX7_thickAt_X7_cellOf : GoodIn wsX7_thickAt (va_wsS RX7 79 yX7_cellOf wsX7_cellOf) := goodIn_app (goodIn_of _ (by decide +kernel)) ggX7_thickAt_X7_cellOf
theorem dX7_thickAt_0 : decode cX7_thickAt 0 = .ok (.aload_n 0, 1) := by decide +kernel
theorem dX7_thickAt_1 : decode cX7_thickAt 1 = .ok (.iload_n 1, 1) := by decide +kernel
theorem dX7_thickAt_2 : decode cX7_thickAt 2 = .ok (.invokevirtual 194, 3) := by decide +kernel
theorem dX7_thickAt_5 : decode cX7_thickAt 5 = .ok (.astore 4, 2) := by decide +kernel
theorem dX7_thickAt_7 : decode cX7_thickAt 7 = .ok (.iload_n 2, 1) := by decide +kernel
theorem dX7_thickAt_8 : decode cX7_thickAt 8 = .ok (.iload_n 3, 1) := by decide +kernel
theorem dX7_thickAt_9 : decode cX7_thickAt 9 = .ok (.invokestatic 34, 3) := by decide +kernel
theorem dX7_thickAt_12 : decode cX7_thickAt 12 = .ok (.invokestatic 38, 3) := by decide +kernel
theorem dX7_thickAt_15 : decode cX7_thickAt 15 = .ok (.aload 4, 2) := by decide +kernel
theorem dX7_thickAt_17 : decode cX7_thickAt 17 = .ok (.getfield 205, 3) := by decide +kernel
theorem dX7_thickAt_20 : decode cX7_thickAt 20 = .ok (.iload_n 2, 1) := by decide +kernel
theorem dX7_thickAt_21 : decode cX7_thickAt 21 = .ok (.iload_n 3, 1) := by decide +kernel
theorem dX7_thickAt_22 : decode cX7_thickAt 22 = .ok (.invokestatic 79, 3) := by decide +kernel
theorem dX7_thickAt_25 : decode cX7_thickAt 25 = .ok (.iaload, 1) := by decide +kernel
theorem dX7_thickAt_26 : decode cX7_thickAt 26 = .ok (.ireturn, 1) := by decide +kernel
set_option maxRecDepth 20000 in
theorem ggX7_tooThick_X7_skinOf : GoodIn wsX7_tooThick wsX7_skinOf := goodIn_ca (goodIn_r _ [5, 6, 7, 8, 9, 10, 4, 11, 23, 24, 25, 26, 27, 28, 29] (by decide +kernel) (by decide +kernel)) (goodIn_sub (fun _ h => List.mem_cons_of_mem _ (List.mem_append_right _ h)) (by decide +kernel))
set_option maxRecDepth 20000 in
theorem gX7_tooThick_X7_skinOf : GoodIn wsX7_tooThick (wsV RX7 194 RX7 yX7_skinOf wsX7_skinOf) := goodIn_app (goodIn_of _ (by decide +kernel)) ggX7_tooThick_X7_skinOf
set_option maxRecDepth 20000 in
theorem ggX7_tooThick_X5_placesTooThick : GoodIn wsX7_tooThick wsX5_placesTooThick := goodIn_r _ [16, 17, 18, 4, 19, 20, 21, 15, 22, 10, 11, 30] (by decide +kernel) (by decide +kernel)
set_option maxRecDepth 20000 in
theorem gX7_tooThick_X5_placesTooThick : GoodIn wsX7_tooThick (wsV RX7 208 RX5 yX5_placesTooThick wsX5_placesTooThick) := goodIn_app (goodIn_of _ (by decide +kernel)) ggX7_tooThick_X5_placesTooThick
theorem dX7_tooThick_0 : decode cX7_tooThick 0 = .ok (.aload_n 0, 1) := by decide +kernel
theorem dX7_tooThick_1 : decode cX7_tooThick 1 = .ok (.iload_n 1, 1) := by decide +kernel
theorem dX7_tooThick_2 : decode cX7_tooThick 2 = .ok (.invokevirtual 194, 3) := by decide +kernel
theorem dX7_tooThick_5 : decode cX7_tooThick 5 = .ok (.invokevirtual 208, 3) := by decide +kernel
theorem dX7_tooThick_8 : decode cX7_tooThick 8 = .ok (.ireturn, 1) := by decide +kernel
set_option maxRecDepth 20000 in
theorem ggX7_repair_X7_bookOf : GoodIn wsX7_repair wsX7_bookOf := goodIn_ca (goodIn_r _ [5, 6, 7, 8, 9, 10, 4, 11, 41, 42, 43, 44, 45, 46, 47] (by decide +kernel) (by decide +kernel)) (goodIn_sub (fun _ h => List.mem_cons_of_mem _ (List.mem_append_left _ (List.mem_append_left _ (List.mem_append_right _ h)))) (by decide +kernel))
set_option maxRecDepth 20000 in
theorem gX7_repair_X7_bookOf : GoodIn wsX7_repair (wsV RX7 118 RX7 yX7_bookOf wsX7_bookOf) := goodIn_app (goodIn_of _ (by decide +kernel)) ggX7_repair_X7_bookOf
set_option maxRecDepth 20000 in
theorem ggX7_repair_X7_isWithin : GoodIn wsX7_repair wsX7_isWithin := goodIn_r _ [11] (by decide +kernel) (by decide +kernel)
set_option maxRecDepth 20000 in
theorem gX7_repair_X7_isWithin : GoodIn wsX7_repair (va_wsS RX7 42 yX7_isWithin wsX7_isWithin) := goodIn_app (goodIn_of _ (by decide +kernel)) ggX7_repair_X7_isWithin
set_option maxRecDepth 20000 in
theorem ggX7_repair_X7_demandArgument : GoodIn wsX7_repair wsX7_demandArgument := goodIn_ca (goodIn_r _ [14, 15, 16] (by decide +kernel) (by decide +kernel)) (goodIn_sub (fun _ h => List.mem_cons_of_mem _ (List.mem_append_left _ (List.mem_append_right _ h))) (by decide +kernel))
set_option maxRecDepth 20000 in
theorem gX7_repair_X7_demandArgument : GoodIn wsX7_repair (va_wsS RX7 46 yX7_demandArgument wsX7_demandArgument) := goodIn_app (goodIn_of _ (by decide +kernel)) ggX7_repair_X7_demandArgument
set_option maxRecDepth 20000 in
theorem ggX7_repair_X7_canBeUndone : GoodIn wsX7_repair wsX7_canBeUndone := goodIn_r _ [19] (by decide +kernel) (by decide +kernel)
set_option maxRecDepth 20000 in
theorem gX7_repair_X7_canBeUndone : GoodIn wsX7_repair (va_wsS RX7 214 yX7_canBeUndone wsX7_canBeUndone) := goodIn_app (goodIn_of _ (by decide +kernel)) ggX7_repair_X7_canBeUndone
set_option maxRecDepth 20000 in
theorem ggX7_repair_X7_demandState : GoodIn wsX7_repair wsX7_demandState := goodIn_ca (goodIn_r _ [22, 23, 24] (by decide +kernel) (by decide +kernel)) (goodIn_sub (fun _ h => List.mem_cons_of_mem _ (List.mem_append_right _ h)) (by decide +kernel))
set_option maxRecDepth 20000 in
theorem gX7_repair_X7_demandState : GoodIn wsX7_repair (va_wsS RX7 65 yX7_demandState wsX7_demandState) := goodIn_app (goodIn_of _ (by decide +kernel)) ggX7_repair_X7_demandState
set_option maxRecDepth 20000 in
theorem ggX7_repair_X3_add : GoodIn wsX7_repair wsX3_add := goodIn_r _ [29, 30, 31, 39, 40] (by decide +kernel) (by decide +kernel)
set_option maxRecDepth 20000 in
theorem gX7_repair_X3_add : GoodIn wsX7_repair (wsV RX7 226 RX3 yX3_add wsX3_add) := goodIn_app (goodIn_of _ (by decide +kernel)) ggX7_repair_X3_add
theorem dX7_repair_0 : decode cX7_repair 0 = .ok (.aload_n 0, 1) := by decide +kernel
theorem dX7_repair_1 : decode cX7_repair 1 = .ok (.iload_n 1, 1) := by decide +kernel
theorem dX7_repair_2 : decode cX7_repair 2 = .ok (.invokevirtual 118, 3) := by decide +kernel
theorem dX7_repair_5 : decode cX7_repair 5 = .ok (.astore_n 3, 1) := by decide +kernel
theorem dX7_repair_6 : decode cX7_repair 6 = .ok (.iload_n 2, 1) := by decide +kernel
theorem dX7_repair_7 : decode cX7_repair 7 = .ok (.iconst 0, 1) := by decide +kernel
theorem dX7_repair_8 : decode cX7_repair 8 = .ok (.iconst 4, 1) := by decide +kernel
theorem dX7_repair_9 : decode cX7_repair 9 = .ok (.invokestatic 42, 3) := by decide +kernel
theorem dX7_repair_12 : decode cX7_repair 12 = .ok (.invokestatic 46, 3) := by decide +kernel
theorem dX7_repair_15 : decode cX7_repair 15 = .ok (.aload_n 3, 1) := by decide +kernel
theorem dX7_repair_16 : decode cX7_repair 16 = .ok (.getfield 211, 3) := by decide +kernel
theorem dX7_repair_19 : decode cX7_repair 19 = .ok (.ifCond .eq 10, 3) := by decide +kernel
theorem dX7_repair_22 : decode cX7_repair 22 = .ok (.iload_n 2, 1) := by decide +kernel
theorem dX7_repair_23 : decode cX7_repair 23 = .ok (.invokestatic 214, 3) := by decide +kernel
theorem dX7_repair_26 : decode cX7_repair 26 = .ok (.ifCond .eq 7, 3) := by decide +kernel
theorem dX7_repair_29 : decode cX7_repair 29 = .ok (.iconst 1, 1) := by decide +kernel
theorem dX7_repair_30 : decode cX7_repair 30 = .ok (.goto 4, 3) := by decide +kernel
theorem dX7_repair_33 : decode cX7_repair 33 = .ok (.iconst 0, 1) := by decide +kernel
theorem dX7_repair_34 : decode cX7_repair 34 = .ok (.invokestatic 65, 3) := by decide +kernel
theorem dX7_repair_37 : decode cX7_repair 37 = .ok (.aload_n 3, 1) := by decide +kernel
theorem dX7_repair_38 : decode cX7_repair 38 = .ok (.getfield 217, 3) := by decide +kernel
theorem dX7_repair_41 : decode cX7_repair 41 = .ok (.getfield 221, 3) := by decide +kernel
theorem dX7_repair_44 : decode cX7_repair 44 = .ok (.bipush 20, 2) := by decide +kernel
theorem dX7_repair_46 : decode cX7_repair 46 = .ok (.if_icmp .ge 7, 3) := by decide +kernel
theorem dX7_repair_49 : decode cX7_repair 49 = .ok (.iconst 1, 1) := by decide +kernel
theorem dX7_repair_50 : decode cX7_repair 50 = .ok (.goto 4, 3) := by decide +kernel
theorem dX7_repair_53 : decode cX7_repair 53 = .ok (.iconst 0, 1) := by decide +kernel
theorem dX7_repair_54 : decode cX7_repair 54 = .ok (.invokestatic 65, 3) := by decide +kernel
theorem dX7_repair_57 : decode cX7_repair 57 = .ok (.aload_n 3, 1) := by decide +kernel
theorem dX7_repair_58 : decode cX7_repair 58 = .ok (.getfield 217, 3) := by decide +kernel
theorem dX7_repair_61 : decode cX7_repair 61 = .ok (.iload_n 2, 1) := by decide +kernel
theorem dX7_repair_62 : decode cX7_repair 62 = .ok (.invokevirtual 226, 3) := by decide +kernel
theorem dX7_repair_65 : decode cX7_repair 65 = .ok (.aload_n 3, 1) := by decide +kernel
theorem dX7_repair_66 : decode cX7_repair 66 = .ok (.getfield 217, 3) := by decide +kernel
theorem dX7_repair_69 : decode cX7_repair 69 = .ok (.getfield 221, 3) := by decide +kernel
theorem dX7_repair_72 : decode cX7_repair 72 = .ok (.ireturn, 1) := by decide +kernel
set_option maxRecDepth 20000 in
theorem ggX7_undo_X7_bookOf : GoodIn wsX7_undo wsX7_bookOf := goodIn_ca (goodIn_r _ [5, 6, 7, 8, 9, 10, 4, 11, 38, 39, 40, 41, 42, 43, 44] (by decide +kernel) (by decide +kernel)) (goodIn_sub (fun _ h => List.mem_cons_of_mem _ (List.mem_append_left _ (List.mem_append_right _ h))) (by decide +kernel))
set_option maxRecDepth 20000 in
theorem gX7_undo_X7_bookOf : GoodIn wsX7_undo (wsV RX7 118 RX7 yX7_bookOf wsX7_bookOf) := goodIn_app (goodIn_of _ (by decide +kernel)) ggX7_undo_X7_bookOf
set_option maxRecDepth 20000 in
theorem ggX7_undo_X3_latest : GoodIn wsX7_undo wsX3_latest := goodIn_r _ [16, 17, 18, 45, 46] (by decide +kernel) (by decide +kernel)
set_option maxRecDepth 20000 in
theorem gX7_undo_X3_latest : GoodIn wsX7_undo (wsV RX7 229 RX3 yX3_latest wsX3_latest) := goodIn_app (goodIn_of _ (by decide +kernel)) ggX7_undo_X3_latest
set_option maxRecDepth 20000 in
theorem ggX7_undo_X7_canBeUndone : GoodIn wsX7_undo wsX7_canBeUndone := goodIn_r _ [21] (by decide +kernel) (by decide +kernel)
set_option maxRecDepth 20000 in
theorem gX7_undo_X7_canBeUndone : GoodIn wsX7_undo (va_wsS RX7 214 yX7_canBeUndone wsX7_canBeUndone) := goodIn_app (goodIn_of _ (by decide +kernel)) ggX7_undo_X7_canBeUndone
set_option maxRecDepth 20000 in
theorem ggX7_undo_X7_demandState : GoodIn wsX7_undo wsX7_demandState := goodIn_ca (goodIn_r _ [24, 25, 26] (by decide +kernel) (by decide +kernel)) (goodIn_sub (fun _ h => List.mem_cons_of_mem _ (List.mem_append_right _ h)) (by decide +kernel))
set_option maxRecDepth 20000 in
theorem gX7_undo_X7_demandState : GoodIn wsX7_undo (va_wsS RX7 65 yX7_demandState wsX7_demandState) := goodIn_app (goodIn_of _ (by decide +kernel)) ggX7_undo_X7_demandState
set_option maxRecDepth 20000 in
theorem ggX7_undo_X3_dropLatest : GoodIn wsX7_undo wsX3_dropLatest := goodIn_r _ [30, 17, 45, 46] (by decide +kernel) (by decide +kernel)
set_option maxRecDepth 20000 in
theorem gX7_undo_X3_dropLatest : GoodIn wsX7_undo (wsV RX7 232 RX3 yX3_dropLatest wsX3_dropLatest) := goodIn_app (goodIn_of _ (by decide +kernel)) ggX7_undo_X3_dropLatest
theorem dX7_undo_0 : decode cX7_undo 0 = .ok (.aload_n 0, 1) := by decide +kernel
theorem dX7_undo_1 : decode cX7_undo 1 = .ok (.iload_n 1, 1) := by decide +kernel
theorem dX7_undo_2 : decode cX7_undo 2 = .ok (.invokevirtual 118, 3) := by decide +kernel
theorem dX7_undo_5 : decode cX7_undo 5 = .ok (.getfield 217, 3) := by decide +kernel
theorem dX7_undo_8 : decode cX7_undo 8 = .ok (.astore_n 2, 1) := by decide +kernel
theorem dX7_undo_9 : decode cX7_undo 9 = .ok (.aload_n 2, 1) := by decide +kernel
theorem dX7_undo_10 : decode cX7_undo 10 = .ok (.invokevirtual 229, 3) := by decide +kernel
theorem dX7_undo_13 : decode cX7_undo 13 = .ok (.istore_n 3, 1) := by decide +kernel
theorem dX7_undo_14 : decode cX7_undo 14 = .ok (.iload_n 3, 1) := by decide +kernel
theorem dX7_undo_15 : decode cX7_undo 15 = .ok (.iconst (-1), 1) := by decide +kernel
theorem dX7_undo_16 : decode cX7_undo 16 = .ok (.if_icmp .eq 14, 3) := by decide +kernel
theorem dX7_undo_19 : decode cX7_undo 19 = .ok (.iload_n 3, 1) := by decide +kernel
theorem dX7_undo_20 : decode cX7_undo 20 = .ok (.invokestatic 214, 3) := by decide +kernel
theorem dX7_undo_23 : decode cX7_undo 23 = .ok (.ifCond .eq 7, 3) := by decide +kernel
theorem dX7_undo_26 : decode cX7_undo 26 = .ok (.iconst 1, 1) := by decide +kernel
theorem dX7_undo_27 : decode cX7_undo 27 = .ok (.goto 4, 3) := by decide +kernel
theorem dX7_undo_30 : decode cX7_undo 30 = .ok (.iconst 0, 1) := by decide +kernel
theorem dX7_undo_31 : decode cX7_undo 31 = .ok (.invokestatic 65, 3) := by decide +kernel
theorem dX7_undo_34 : decode cX7_undo 34 = .ok (.aload_n 2, 1) := by decide +kernel
theorem dX7_undo_35 : decode cX7_undo 35 = .ok (.invokevirtual 232, 3) := by decide +kernel
theorem dX7_undo_38 : decode cX7_undo 38 = .ok (.iload_n 3, 1) := by decide +kernel
theorem dX7_undo_39 : decode cX7_undo 39 = .ok (.ireturn, 1) := by decide +kernel
set_option maxRecDepth 20000 in
theorem ggX7_speak_X7_bookOf : GoodIn wsX7_speak wsX7_bookOf := goodIn_ca (goodIn_r _ [5, 6, 7, 8, 9, 10, 4, 11, 42, 43, 44, 45, 46, 47, 48] (by decide +kernel) (by decide +kernel)) (goodIn_sub (fun _ h => List.mem_cons_of_mem _ (List.mem_append_left _ (List.mem_append_left _ (List.mem_append_right _ h)))) (by decide +kernel))
set_option maxRecDepth 20000 in
theorem gX7_speak_X7_bookOf : GoodIn wsX7_speak (wsV RX7 118 RX7 yX7_bookOf wsX7_bookOf) := goodIn_app (goodIn_of _ (by decide +kernel)) ggX7_speak_X7_bookOf
set_option maxRecDepth 20000 in
theorem ggX7_speak_X7_isWithin : GoodIn wsX7_speak wsX7_isWithin := goodIn_r _ [11] (by decide +kernel) (by decide +kernel)
set_option maxRecDepth 20000 in
theorem gX7_speak_X7_isWithin : GoodIn wsX7_speak (va_wsS RX7 42 yX7_isWithin wsX7_isWithin) := goodIn_app (goodIn_of _ (by decide +kernel)) ggX7_speak_X7_isWithin
set_option maxRecDepth 20000 in
theorem ggX7_speak_X7_demandArgument : GoodIn wsX7_speak wsX7_demandArgument := goodIn_ca (goodIn_r _ [14, 15, 16] (by decide +kernel) (by decide +kernel)) (goodIn_sub (fun _ h => List.mem_cons_of_mem _ (List.mem_append_left _ (List.mem_append_right _ h))) (by decide +kernel))
set_option maxRecDepth 20000 in
theorem gX7_speak_X7_demandArgument : GoodIn wsX7_speak (va_wsS RX7 46 yX7_demandArgument wsX7_demandArgument) := goodIn_app (goodIn_of _ (by decide +kernel)) ggX7_speak_X7_demandArgument
set_option maxRecDepth 20000 in
theorem ggX7_speak_X7_demandState : GoodIn wsX7_speak wsX7_demandState := goodIn_ca (goodIn_r _ [19, 20, 21] (by decide +kernel) (by decide +kernel)) (goodIn_sub (fun _ h => List.mem_cons_of_mem _ (List.mem_append_right _ h)) (by decide +kernel))
set_option maxRecDepth 20000 in
theorem gX7_speak_X7_demandState : GoodIn wsX7_speak (va_wsS RX7 65 yX7_demandState wsX7_demandState) := goodIn_app (goodIn_of _ (by decide +kernel)) ggX7_speak_X7_demandState
set_option maxRecDepth 20000 in
theorem ggX7_speak_X6_add : GoodIn wsX7_speak wsX6_add := goodIn_r _ [26, 27, 28, 29, 30, 38, 39, 40, 41] (by decide +kernel) (by decide +kernel)
set_option maxRecDepth 20000 in
theorem gX7_speak_X6_add : GoodIn wsX7_speak (wsV RX7 242 RX6 yX6_add wsX6_add) := goodIn_app (goodIn_of _ (by decide +kernel)) ggX7_speak_X6_add
theorem dX7_speak_0 : decode cX7_speak 0 = .ok (.aload_n 0, 1) := by decide +kernel
theorem dX7_speak_1 : decode cX7_speak 1 = .ok (.iload_n 1, 1) := by decide +kernel
theorem dX7_speak_2 : decode cX7_speak 2 = .ok (.invokevirtual 118, 3) := by decide +kernel
theorem dX7_speak_5 : decode cX7_speak 5 = .ok (.getfield 235, 3) := by decide +kernel
theorem dX7_speak_8 : decode cX7_speak 8 = .ok (.astore 5, 2) := by decide +kernel
theorem dX7_speak_10 : decode cX7_speak 10 = .ok (.iload_n 2, 1) := by decide +kernel
theorem dX7_speak_11 : decode cX7_speak 11 = .ok (.sipush 1400, 3) := by decide +kernel
theorem dX7_speak_14 : decode cX7_speak 14 = .ok (.sipush 2000, 3) := by decide +kernel
theorem dX7_speak_17 : decode cX7_speak 17 = .ok (.invokestatic 42, 3) := by decide +kernel
theorem dX7_speak_20 : decode cX7_speak 20 = .ok (.ifCond .eq 18, 3) := by decide +kernel
theorem dX7_speak_23 : decode cX7_speak 23 = .ok (.iload_n 3, 1) := by decide +kernel
theorem dX7_speak_24 : decode cX7_speak 24 = .ok (.iload_n 2, 1) := by decide +kernel
theorem dX7_speak_25 : decode cX7_speak 25 = .ok (.sipush 2000, 3) := by decide +kernel
theorem dX7_speak_28 : decode cX7_speak 28 = .ok (.invokestatic 42, 3) := by decide +kernel
theorem dX7_speak_31 : decode cX7_speak 31 = .ok (.ifCond .eq 7, 3) := by decide +kernel
theorem dX7_speak_34 : decode cX7_speak 34 = .ok (.iconst 1, 1) := by decide +kernel
theorem dX7_speak_35 : decode cX7_speak 35 = .ok (.goto 4, 3) := by decide +kernel
theorem dX7_speak_38 : decode cX7_speak 38 = .ok (.iconst 0, 1) := by decide +kernel
theorem dX7_speak_39 : decode cX7_speak 39 = .ok (.invokestatic 46, 3) := by decide +kernel
theorem dX7_speak_42 : decode cX7_speak 42 = .ok (.iload 4, 2) := by decide +kernel
theorem dX7_speak_44 : decode cX7_speak 44 = .ok (.iconst 1, 1) := by decide +kernel
theorem dX7_speak_45 : decode cX7_speak 45 = .ok (.bipush 9, 2) := by decide +kernel
theorem dX7_speak_47 : decode cX7_speak 47 = .ok (.invokestatic 42, 3) := by decide +kernel
theorem dX7_speak_50 : decode cX7_speak 50 = .ok (.invokestatic 46, 3) := by decide +kernel
theorem dX7_speak_53 : decode cX7_speak 53 = .ok (.aload 5, 2) := by decide +kernel
theorem dX7_speak_55 : decode cX7_speak 55 = .ok (.getfield 239, 3) := by decide +kernel
theorem dX7_speak_58 : decode cX7_speak 58 = .ok (.bipush 20, 2) := by decide +kernel
theorem dX7_speak_60 : decode cX7_speak 60 = .ok (.if_icmp .ge 7, 3) := by decide +kernel
theorem dX7_speak_63 : decode cX7_speak 63 = .ok (.iconst 1, 1) := by decide +kernel
theorem dX7_speak_64 : decode cX7_speak 64 = .ok (.goto 4, 3) := by decide +kernel
theorem dX7_speak_67 : decode cX7_speak 67 = .ok (.iconst 0, 1) := by decide +kernel
theorem dX7_speak_68 : decode cX7_speak 68 = .ok (.invokestatic 65, 3) := by decide +kernel
theorem dX7_speak_71 : decode cX7_speak 71 = .ok (.aload 5, 2) := by decide +kernel
theorem dX7_speak_73 : decode cX7_speak 73 = .ok (.iload_n 2, 1) := by decide +kernel
theorem dX7_speak_74 : decode cX7_speak 74 = .ok (.iload_n 3, 1) := by decide +kernel
theorem dX7_speak_75 : decode cX7_speak 75 = .ok (.iload 4, 2) := by decide +kernel
theorem dX7_speak_77 : decode cX7_speak 77 = .ok (.invokevirtual 242, 3) := by decide +kernel
theorem dX7_speak_80 : decode cX7_speak 80 = .ok (.aload 5, 2) := by decide +kernel
theorem dX7_speak_82 : decode cX7_speak 82 = .ok (.getfield 239, 3) := by decide +kernel
theorem dX7_speak_85 : decode cX7_speak 85 = .ok (.ireturn, 1) := by decide +kernel
set_option maxRecDepth 20000 in
theorem ggX7_year_X7_bookOf : GoodIn wsX7_year wsX7_bookOf := goodIn_ca (goodIn_r _ [5, 6, 7, 8, 9, 10, 4, 11, 36, 37, 38, 39, 40, 41, 42] (by decide +kernel) (by decide +kernel)) (goodIn_sub (fun _ h => List.mem_cons_of_mem _ (List.mem_append_right _ h)) (by decide +kernel))
set_option maxRecDepth 20000 in
theorem gX7_year_X7_bookOf : GoodIn wsX7_year (wsV RX7 118 RX7 yX7_bookOf wsX7_bookOf) := goodIn_app (goodIn_of _ (by decide +kernel)) ggX7_year_X7_bookOf
set_option maxRecDepth 20000 in
theorem ggX7_year_X6_firstByEnds : GoodIn wsX7_year wsX6_firstByEnds := goodIn_r _ [16, 17, 18, 19, 20, 21, 15, 22, 23, 24, 10, 4, 11, 43, 44, 45, 46] (by decide +kernel) (by decide +kernel)
set_option maxRecDepth 20000 in
theorem gX7_year_X6_firstByEnds : GoodIn wsX7_year (wsV RX7 245 RX6 yX6_firstByEnds wsX6_firstByEnds) := goodIn_app (goodIn_of _ (by decide +kernel)) ggX7_year_X6_firstByEnds
set_option maxRecDepth 20000 in
theorem ggX7_year_X6_lastByEnds : GoodIn wsX7_year wsX6_lastByEnds := goodIn_r _ [28, 17, 23, 19, 20, 21, 15, 22, 18, 24, 10, 4, 11, 43, 44, 45, 46] (by decide +kernel) (by decide +kernel)
set_option maxRecDepth 20000 in
theorem gX7_year_X6_lastByEnds : GoodIn wsX7_year (wsV RX7 248 RX6 yX6_lastByEnds wsX6_lastByEnds) := goodIn_app (goodIn_of _ (by decide +kernel)) ggX7_year_X6_lastByEnds
theorem dX7_year_0 : decode cX7_year 0 = .ok (.aload_n 0, 1) := by decide +kernel
theorem dX7_year_1 : decode cX7_year 1 = .ok (.iload_n 1, 1) := by decide +kernel
theorem dX7_year_2 : decode cX7_year 2 = .ok (.invokevirtual 118, 3) := by decide +kernel
theorem dX7_year_5 : decode cX7_year 5 = .ok (.getfield 235, 3) := by decide +kernel
theorem dX7_year_8 : decode cX7_year 8 = .ok (.astore_n 3, 1) := by decide +kernel
theorem dX7_year_9 : decode cX7_year 9 = .ok (.aload_n 3, 1) := by decide +kernel
theorem dX7_year_10 : decode cX7_year 10 = .ok (.invokevirtual 245, 3) := by decide +kernel
theorem dX7_year_13 : decode cX7_year 13 = .ok (.istore 4, 2) := by decide +kernel
theorem dX7_year_15 : decode cX7_year 15 = .ok (.iload_n 2, 1) := by decide +kernel
theorem dX7_year_16 : decode cX7_year 16 = .ok (.ifCond .eq 18, 3) := by decide +kernel
theorem dX7_year_19 : decode cX7_year 19 = .ok (.iload 4, 2) := by decide +kernel
theorem dX7_year_21 : decode cX7_year 21 = .ok (.iconst (-1), 1) := by decide +kernel
theorem dX7_year_22 : decode cX7_year 22 = .ok (.if_icmp .eq 12, 3) := by decide +kernel
theorem dX7_year_25 : decode cX7_year 25 = .ok (.aload_n 3, 1) := by decide +kernel
theorem dX7_year_26 : decode cX7_year 26 = .ok (.iload 4, 2) := by decide +kernel
theorem dX7_year_28 : decode cX7_year 28 = .ok (.invokevirtual 248, 3) := by decide +kernel
theorem dX7_year_31 : decode cX7_year 31 = .ok (.goto 5, 3) := by decide +kernel
theorem dX7_year_34 : decode cX7_year 34 = .ok (.iload 4, 2) := by decide +kernel
theorem dX7_year_36 : decode cX7_year 36 = .ok (.ireturn, 1) := by decide +kernel
set_option maxRecDepth 20000 in
theorem ggX7_yearAnew_X7_bookOf : GoodIn wsX7_yearAnew wsX7_bookOf := goodIn_ca (goodIn_r _ [5, 6, 7, 8, 9, 10, 4, 11, 36, 37, 38, 39, 40, 41, 42] (by decide +kernel) (by decide +kernel)) (goodIn_sub (fun _ h => List.mem_cons_of_mem _ (List.mem_append_right _ h)) (by decide +kernel))
set_option maxRecDepth 20000 in
theorem gX7_yearAnew_X7_bookOf : GoodIn wsX7_yearAnew (wsV RX7 118 RX7 yX7_bookOf wsX7_bookOf) := goodIn_app (goodIn_of _ (by decide +kernel)) ggX7_yearAnew_X7_bookOf
set_option maxRecDepth 20000 in
theorem ggX7_yearAnew_X6_firstByYears : GoodIn wsX7_yearAnew wsX6_firstByYears := goodIn_r _ [16, 17, 18, 19, 15, 20, 21, 22, 23, 24, 10, 4, 11, 43, 44, 45, 46] (by decide +kernel) (by decide +kernel)
set_option maxRecDepth 20000 in
theorem gX7_yearAnew_X6_firstByYears : GoodIn wsX7_yearAnew (wsV RX7 251 RX6 yX6_firstByYears wsX6_firstByYears) := goodIn_app (goodIn_of _ (by decide +kernel)) ggX7_yearAnew_X6_firstByYears
set_option maxRecDepth 20000 in
theorem ggX7_yearAnew_X6_lastByYears : GoodIn wsX7_yearAnew wsX6_lastByYears := goodIn_r _ [28, 17, 18, 19, 15, 20, 21, 22, 23, 24, 10, 4, 11, 43, 44, 45, 46] (by decide +kernel) (by decide +kernel)
set_option maxRecDepth 20000 in
theorem gX7_yearAnew_X6_lastByYears : GoodIn wsX7_yearAnew (wsV RX7 254 RX6 yX6_lastByYears wsX6_lastByYears) := goodIn_app (goodIn_of _ (by decide +kernel)) ggX7_yearAnew_X6_lastByYears
theorem dX7_yearAnew_0 : decode cX7_yearAnew 0 = .ok (.aload_n 0, 1) := by decide +kernel
theorem dX7_yearAnew_1 : decode cX7_yearAnew 1 = .ok (.iload_n 1, 1) := by decide +kernel
theorem dX7_yearAnew_2 : decode cX7_yearAnew 2 = .ok (.invokevirtual 118, 3) := by decide +kernel
theorem dX7_yearAnew_5 : decode cX7_yearAnew 5 = .ok (.getfield 235, 3) := by decide +kernel
theorem dX7_yearAnew_8 : decode cX7_yearAnew 8 = .ok (.astore_n 3, 1) := by decide +kernel
theorem dX7_yearAnew_9 : decode cX7_yearAnew 9 = .ok (.aload_n 3, 1) := by decide +kernel
theorem dX7_yearAnew_10 : decode cX7_yearAnew 10 = .ok (.invokevirtual 251, 3) := by decide +kernel
theorem dX7_yearAnew_13 : decode cX7_yearAnew 13 = .ok (.istore 4, 2) := by decide +kernel
theorem dX7_yearAnew_15 : decode cX7_yearAnew 15 = .ok (.iload_n 2, 1) := by decide +kernel
theorem dX7_yearAnew_16 : decode cX7_yearAnew 16 = .ok (.ifCond .eq 18, 3) := by decide +kernel
theorem dX7_yearAnew_19 : decode cX7_yearAnew 19 = .ok (.iload 4, 2) := by decide +kernel
theorem dX7_yearAnew_21 : decode cX7_yearAnew 21 = .ok (.iconst (-1), 1) := by decide +kernel
theorem dX7_yearAnew_22 : decode cX7_yearAnew 22 = .ok (.if_icmp .eq 12, 3) := by decide +kernel
theorem dX7_yearAnew_25 : decode cX7_yearAnew 25 = .ok (.aload_n 3, 1) := by decide +kernel
theorem dX7_yearAnew_26 : decode cX7_yearAnew 26 = .ok (.iload 4, 2) := by decide +kernel
theorem dX7_yearAnew_28 : decode cX7_yearAnew 28 = .ok (.invokevirtual 254, 3) := by decide +kernel
theorem dX7_yearAnew_31 : decode cX7_yearAnew 31 = .ok (.goto 5, 3) := by decide +kernel
theorem dX7_yearAnew_34 : decode cX7_yearAnew 34 = .ok (.iload 4, 2) := by decide +kernel
theorem dX7_yearAnew_36 : decode cX7_yearAnew 36 = .ok (.ireturn, 1) := by decide +kernel
theorem dX7_isWithin_0 : decode cX7_isWithin 0 = .ok (.iload_n 0, 1) := by decide +kernel
theorem dX7_isWithin_1 : decode cX7_isWithin 1 = .ok (.iload_n 1, 1) := by decide +kernel
theorem dX7_isWithin_2 : decode cX7_isWithin 2 = .ok (.if_icmp .lt 12, 3) := by decide +kernel
theorem dX7_isWithin_5 : decode cX7_isWithin 5 = .ok (.iload_n 0, 1) := by decide +kernel
theorem dX7_isWithin_6 : decode cX7_isWithin 6 = .ok (.iload_n 2, 1) := by decide +kernel
theorem dX7_isWithin_7 : decode cX7_isWithin 7 = .ok (.if_icmp .gt 7, 3) := by decide +kernel
theorem dX7_isWithin_10 : decode cX7_isWithin 10 = .ok (.iconst 1, 1) := by decide +kernel
theorem dX7_isWithin_11 : decode cX7_isWithin 11 = .ok (.goto 4, 3) := by decide +kernel
theorem dX7_isWithin_14 : decode cX7_isWithin 14 = .ok (.iconst 0, 1) := by decide +kernel
theorem dX7_isWithin_15 : decode cX7_isWithin 15 = .ok (.ireturn, 1) := by decide +kernel
set_option maxRecDepth 20000 in
theorem ggX7_isOnSide_X7_isWithin : GoodIn wsX7_isOnSide wsX7_isWithin := goodIn_r _ [4] (by decide +kernel) (by decide +kernel)
set_option maxRecDepth 20000 in
theorem gX7_isOnSide_X7_isWithin : GoodIn wsX7_isOnSide (va_wsS RX7 42 yX7_isWithin wsX7_isWithin) := goodIn_app (goodIn_of _ (by decide +kernel)) ggX7_isOnSide_X7_isWithin
theorem dX7_isOnSide_0 : decode cX7_isOnSide 0 = .ok (.iload_n 0, 1) := by decide +kernel
theorem dX7_isOnSide_1 : decode cX7_isOnSide 1 = .ok (.iconst 0, 1) := by decide +kernel
theorem dX7_isOnSide_2 : decode cX7_isOnSide 2 = .ok (.bipush 7, 2) := by decide +kernel
theorem dX7_isOnSide_4 : decode cX7_isOnSide 4 = .ok (.invokestatic 42, 3) := by decide +kernel
theorem dX7_isOnSide_7 : decode cX7_isOnSide 7 = .ok (.ireturn, 1) := by decide +kernel
set_option maxRecDepth 20000 in
theorem ggX7_isOnGrid_X7_isOnSide : GoodIn wsX7_isOnGrid wsX7_isOnSide := goodIn_r _ [4, 5, 6, 3, 7] (by decide +kernel) (by decide +kernel)
set_option maxRecDepth 20000 in
theorem gX7_isOnGrid_X7_isOnSide : GoodIn wsX7_isOnGrid (va_wsS RX7 53 yX7_isOnSide wsX7_isOnSide) := goodIn_app (goodIn_of _ (by decide +kernel)) ggX7_isOnGrid_X7_isOnSide
theorem dX7_isOnGrid_0 : decode cX7_isOnGrid 0 = .ok (.iload_n 0, 1) := by decide +kernel
theorem dX7_isOnGrid_1 : decode cX7_isOnGrid 1 = .ok (.invokestatic 53, 3) := by decide +kernel
theorem dX7_isOnGrid_4 : decode cX7_isOnGrid 4 = .ok (.ifCond .eq 14, 3) := by decide +kernel
theorem dX7_isOnGrid_7 : decode cX7_isOnGrid 7 = .ok (.iload_n 1, 1) := by decide +kernel
theorem dX7_isOnGrid_8 : decode cX7_isOnGrid 8 = .ok (.invokestatic 53, 3) := by decide +kernel
theorem dX7_isOnGrid_11 : decode cX7_isOnGrid 11 = .ok (.ifCond .eq 7, 3) := by decide +kernel
theorem dX7_isOnGrid_14 : decode cX7_isOnGrid 14 = .ok (.iconst 1, 1) := by decide +kernel
theorem dX7_isOnGrid_15 : decode cX7_isOnGrid 15 = .ok (.goto 4, 3) := by decide +kernel
theorem dX7_isOnGrid_18 : decode cX7_isOnGrid 18 = .ok (.iconst 0, 1) := by decide +kernel
theorem dX7_isOnGrid_19 : decode cX7_isOnGrid 19 = .ok (.ireturn, 1) := by decide +kernel
theorem dX7_cellOf_0 : decode cX7_cellOf 0 = .ok (.iload_n 1, 1) := by decide +kernel
theorem dX7_cellOf_1 : decode cX7_cellOf 1 = .ok (.bipush 8, 2) := by decide +kernel
theorem dX7_cellOf_3 : decode cX7_cellOf 3 = .ok (.imul, 1) := by decide +kernel
theorem dX7_cellOf_4 : decode cX7_cellOf 4 = .ok (.iload_n 0, 1) := by decide +kernel
theorem dX7_cellOf_5 : decode cX7_cellOf 5 = .ok (.iadd, 1) := by decide +kernel
theorem dX7_cellOf_6 : decode cX7_cellOf 6 = .ok (.ireturn, 1) := by decide +kernel
theorem dX7_canBeUndone_0 : decode cX7_canBeUndone 0 = .ok (.iload_n 0, 1) := by decide +kernel
theorem dX7_canBeUndone_1 : decode cX7_canBeUndone 1 = .ok (.iconst 2, 1) := by decide +kernel
theorem dX7_canBeUndone_2 : decode cX7_canBeUndone 2 = .ok (.if_icmp .gt 7, 3) := by decide +kernel
theorem dX7_canBeUndone_5 : decode cX7_canBeUndone 5 = .ok (.iconst 1, 1) := by decide +kernel
theorem dX7_canBeUndone_6 : decode cX7_canBeUndone 6 = .ok (.goto 4, 3) := by decide +kernel
theorem dX7_canBeUndone_9 : decode cX7_canBeUndone 9 = .ok (.iconst 0, 1) := by decide +kernel
theorem dX7_canBeUndone_10 : decode cX7_canBeUndone 10 = .ok (.ireturn, 1) := by decide +kernel
theorem dX7_demandPlace_0 : decode cX7_demandPlace 0 = .ok (.iload_n 0, 1) := by decide +kernel
theorem dX7_demandPlace_1 : decode cX7_demandPlace 1 = .ok (.ifCond .ne 14, 3) := by decide +kernel
theorem dX7_demandPlace_4 : decode cX7_demandPlace 4 = .ok (.new 257, 3) := by decide +kernel
theorem dX7_demandPlace_7 : decode cX7_demandPlace 7 = .ok (.dup, 1) := by decide +kernel
theorem dX7_demandPlace_8 : decode cX7_demandPlace 8 = .ok (.ldc_w 259, 3) := by decide +kernel
theorem dX7_demandPlace_11 : decode cX7_demandPlace 11 = .ok (.invokespecial 261, 3) := by decide +kernel
theorem dX7_demandPlace_14 : decode cX7_demandPlace 14 = .ok (.athrow, 1) := by decide +kernel
theorem dX7_demandPlace_15 : decode cX7_demandPlace 15 = .ok (.return_, 1) := by decide +kernel
theorem dX7_demandArgument_0 : decode cX7_demandArgument 0 = .ok (.iload_n 0, 1) := by decide +kernel
theorem dX7_demandArgument_1 : decode cX7_demandArgument 1 = .ok (.ifCond .ne 14, 3) := by decide +kernel
theorem dX7_demandArgument_4 : decode cX7_demandArgument 4 = .ok (.new 264, 3) := by decide +kernel
theorem dX7_demandArgument_7 : decode cX7_demandArgument 7 = .ok (.dup, 1) := by decide +kernel
theorem dX7_demandArgument_8 : decode cX7_demandArgument 8 = .ok (.ldc_w 266, 3) := by decide +kernel
theorem dX7_demandArgument_11 : decode cX7_demandArgument 11 = .ok (.invokespecial 268, 3) := by decide +kernel
theorem dX7_demandArgument_14 : decode cX7_demandArgument 14 = .ok (.athrow, 1) := by decide +kernel
theorem dX7_demandArgument_15 : decode cX7_demandArgument 15 = .ok (.return_, 1) := by decide +kernel
theorem dX7_demandState_0 : decode cX7_demandState 0 = .ok (.iload_n 0, 1) := by decide +kernel
theorem dX7_demandState_1 : decode cX7_demandState 1 = .ok (.ifCond .ne 14, 3) := by decide +kernel
theorem dX7_demandState_4 : decode cX7_demandState 4 = .ok (.new 269, 3) := by decide +kernel
theorem dX7_demandState_7 : decode cX7_demandState 7 = .ok (.dup, 1) := by decide +kernel
theorem dX7_demandState_8 : decode cX7_demandState 8 = .ok (.ldc_w 271, 3) := by decide +kernel
theorem dX7_demandState_11 : decode cX7_demandState 11 = .ok (.invokespecial 273, 3) := by decide +kernel
theorem dX7_demandState_14 : decode cX7_demandState 14 = .ok (.athrow, 1) := by decide +kernel
theorem dX7_demandState_15 : decode cX7_demandState 15 = .ok (.return_, 1) := by decide +kernel
set_option maxRecDepth 20000 in
theorem ggX7_printOf_X7_isWithin : GoodIn wsX7_printOf wsX7_isWithin := goodIn_r _ [7] (by decide +kernel) (by decide +kernel)
set_option maxRecDepth 20000 in
theorem gX7_printOf_X7_isWithin : GoodIn wsX7_printOf (va_wsS RX7 42 yX7_isWithin wsX7_isWithin) := goodIn_app (goodIn_of _ (by decide +kernel)) ggX7_printOf_X7_isWithin
theorem dX7_printOf_0 : decode cX7_printOf 0 = .ok (.iload_n 1, 1) := by decide +kernel
theorem dX7_printOf_1 : decode cX7_printOf 1 = .ok (.iconst 0, 1) := by decide +kernel
theorem dX7_printOf_2 : decode cX7_printOf 2 = .ok (.bipush 9, 2) := by decide +kernel
theorem dX7_printOf_4 : decode cX7_printOf 4 = .ok (.invokestatic 42, 3) := by decide +kernel
theorem dX7_printOf_7 : decode cX7_printOf 7 = .ok (.ifCond .eq 12, 3) := by decide +kernel
theorem dX7_printOf_10 : decode cX7_printOf 10 = .ok (.aload_n 0, 1) := by decide +kernel
theorem dX7_printOf_11 : decode cX7_printOf 11 = .ok (.getfield 18, 3) := by decide +kernel
theorem dX7_printOf_14 : decode cX7_printOf 14 = .ok (.iload_n 1, 1) := by decide +kernel
theorem dX7_printOf_15 : decode cX7_printOf 15 = .ok (.aaload, 1) := by decide +kernel
theorem dX7_printOf_16 : decode cX7_printOf 16 = .ok (.goto 4, 3) := by decide +kernel
theorem dX7_printOf_19 : decode cX7_printOf 19 = .ok (.aconst_null, 1) := by decide +kernel
theorem dX7_printOf_20 : decode cX7_printOf 20 = .ok (.astore_n 2, 1) := by decide +kernel
theorem dX7_printOf_21 : decode cX7_printOf 21 = .ok (.aload_n 2, 1) := by decide +kernel
theorem dX7_printOf_22 : decode cX7_printOf 22 = .ok (.ifnonnull 14, 3) := by decide +kernel
theorem dX7_printOf_25 : decode cX7_printOf 25 = .ok (.new 257, 3) := by decide +kernel
theorem dX7_printOf_28 : decode cX7_printOf 28 = .ok (.dup, 1) := by decide +kernel
theorem dX7_printOf_29 : decode cX7_printOf 29 = .ok (.ldc_w 274, 3) := by decide +kernel
theorem dX7_printOf_32 : decode cX7_printOf 32 = .ok (.invokespecial 261, 3) := by decide +kernel
theorem dX7_printOf_35 : decode cX7_printOf 35 = .ok (.athrow, 1) := by decide +kernel
theorem dX7_printOf_36 : decode cX7_printOf 36 = .ok (.aload_n 2, 1) := by decide +kernel
theorem dX7_printOf_37 : decode cX7_printOf 37 = .ok (.areturn, 1) := by decide +kernel
set_option maxRecDepth 20000 in
theorem ggX7_bookOf_X7_isWithin : GoodIn wsX7_bookOf wsX7_isWithin := goodIn_r _ [7] (by decide +kernel) (by decide +kernel)
set_option maxRecDepth 20000 in
theorem gX7_bookOf_X7_isWithin : GoodIn wsX7_bookOf (va_wsS RX7 42 yX7_isWithin wsX7_isWithin) := goodIn_app (goodIn_of _ (by decide +kernel)) ggX7_bookOf_X7_isWithin
theorem dX7_bookOf_0 : decode cX7_bookOf 0 = .ok (.iload_n 1, 1) := by decide +kernel
theorem dX7_bookOf_1 : decode cX7_bookOf 1 = .ok (.iconst 0, 1) := by decide +kernel
theorem dX7_bookOf_2 : decode cX7_bookOf 2 = .ok (.iconst 3, 1) := by decide +kernel
theorem dX7_bookOf_3 : decode cX7_bookOf 3 = .ok (.invokestatic 42, 3) := by decide +kernel
theorem dX7_bookOf_6 : decode cX7_bookOf 6 = .ok (.ifCond .eq 12, 3) := by decide +kernel
theorem dX7_bookOf_9 : decode cX7_bookOf 9 = .ok (.aload_n 0, 1) := by decide +kernel
theorem dX7_bookOf_10 : decode cX7_bookOf 10 = .ok (.getfield 24, 3) := by decide +kernel
theorem dX7_bookOf_13 : decode cX7_bookOf 13 = .ok (.iload_n 1, 1) := by decide +kernel
theorem dX7_bookOf_14 : decode cX7_bookOf 14 = .ok (.aaload, 1) := by decide +kernel
theorem dX7_bookOf_15 : decode cX7_bookOf 15 = .ok (.goto 4, 3) := by decide +kernel
theorem dX7_bookOf_18 : decode cX7_bookOf 18 = .ok (.aconst_null, 1) := by decide +kernel
theorem dX7_bookOf_19 : decode cX7_bookOf 19 = .ok (.astore_n 2, 1) := by decide +kernel
theorem dX7_bookOf_20 : decode cX7_bookOf 20 = .ok (.aload_n 2, 1) := by decide +kernel
theorem dX7_bookOf_21 : decode cX7_bookOf 21 = .ok (.ifnonnull 14, 3) := by decide +kernel
theorem dX7_bookOf_24 : decode cX7_bookOf 24 = .ok (.new 257, 3) := by decide +kernel
theorem dX7_bookOf_27 : decode cX7_bookOf 27 = .ok (.dup, 1) := by decide +kernel
theorem dX7_bookOf_28 : decode cX7_bookOf 28 = .ok (.ldc_w 276, 3) := by decide +kernel
theorem dX7_bookOf_31 : decode cX7_bookOf 31 = .ok (.invokespecial 261, 3) := by decide +kernel
theorem dX7_bookOf_34 : decode cX7_bookOf 34 = .ok (.athrow, 1) := by decide +kernel
theorem dX7_bookOf_35 : decode cX7_bookOf 35 = .ok (.aload_n 2, 1) := by decide +kernel
theorem dX7_bookOf_36 : decode cX7_bookOf 36 = .ok (.areturn, 1) := by decide +kernel
set_option maxRecDepth 20000 in
theorem ggX7_skinOf_X7_isWithin : GoodIn wsX7_skinOf wsX7_isWithin := goodIn_r _ [7] (by decide +kernel) (by decide +kernel)
set_option maxRecDepth 20000 in
theorem gX7_skinOf_X7_isWithin : GoodIn wsX7_skinOf (va_wsS RX7 42 yX7_isWithin wsX7_isWithin) := goodIn_app (goodIn_of _ (by decide +kernel)) ggX7_skinOf_X7_isWithin
theorem dX7_skinOf_0 : decode cX7_skinOf 0 = .ok (.iload_n 1, 1) := by decide +kernel
theorem dX7_skinOf_1 : decode cX7_skinOf 1 = .ok (.iconst 0, 1) := by decide +kernel
theorem dX7_skinOf_2 : decode cX7_skinOf 2 = .ok (.iconst 2, 1) := by decide +kernel
theorem dX7_skinOf_3 : decode cX7_skinOf 3 = .ok (.invokestatic 42, 3) := by decide +kernel
theorem dX7_skinOf_6 : decode cX7_skinOf 6 = .ok (.ifCond .eq 12, 3) := by decide +kernel
theorem dX7_skinOf_9 : decode cX7_skinOf 9 = .ok (.aload_n 0, 1) := by decide +kernel
theorem dX7_skinOf_10 : decode cX7_skinOf 10 = .ok (.getfield 30, 3) := by decide +kernel
theorem dX7_skinOf_13 : decode cX7_skinOf 13 = .ok (.iload_n 1, 1) := by decide +kernel
theorem dX7_skinOf_14 : decode cX7_skinOf 14 = .ok (.aaload, 1) := by decide +kernel
theorem dX7_skinOf_15 : decode cX7_skinOf 15 = .ok (.goto 4, 3) := by decide +kernel
theorem dX7_skinOf_18 : decode cX7_skinOf 18 = .ok (.aconst_null, 1) := by decide +kernel
theorem dX7_skinOf_19 : decode cX7_skinOf 19 = .ok (.astore_n 2, 1) := by decide +kernel
theorem dX7_skinOf_20 : decode cX7_skinOf 20 = .ok (.aload_n 2, 1) := by decide +kernel
theorem dX7_skinOf_21 : decode cX7_skinOf 21 = .ok (.ifnonnull 14, 3) := by decide +kernel
theorem dX7_skinOf_24 : decode cX7_skinOf 24 = .ok (.new 257, 3) := by decide +kernel
theorem dX7_skinOf_27 : decode cX7_skinOf 27 = .ok (.dup, 1) := by decide +kernel
theorem dX7_skinOf_28 : decode cX7_skinOf 28 = .ok (.ldc_w 278, 3) := by decide +kernel
theorem dX7_skinOf_31 : decode cX7_skinOf 31 = .ok (.invokespecial 261, 3) := by decide +kernel
theorem dX7_skinOf_34 : decode cX7_skinOf 34 = .ok (.athrow, 1) := by decide +kernel
theorem dX7_skinOf_35 : decode cX7_skinOf 35 = .ok (.aload_n 2, 1) := by decide +kernel
theorem dX7_skinOf_36 : decode cX7_skinOf 36 = .ok (.areturn, 1) := by decide +kernel
theorem dX7_columnsOf_0 : decode cX7_columnsOf 0 = .ok (.iconst 1, 1) := by decide +kernel
theorem dX7_columnsOf_1 : decode cX7_columnsOf 1 = .ok (.iload_n 0, 1) := by decide +kernel
theorem dX7_columnsOf_2 : decode cX7_columnsOf 2 = .ok (.iconst 1, 1) := by decide +kernel
theorem dX7_columnsOf_3 : decode cX7_columnsOf 3 = .ok (.iadd, 1) := by decide +kernel
theorem dX7_columnsOf_4 : decode cX7_columnsOf 4 = .ok (.iconst 2, 1) := by decide +kernel
theorem dX7_columnsOf_5 : decode cX7_columnsOf 5 = .ok (.idiv, 1) := by decide +kernel
theorem dX7_columnsOf_6 : decode cX7_columnsOf 6 = .ok (.ishl, 1) := by decide +kernel
theorem dX7_columnsOf_7 : decode cX7_columnsOf 7 = .ok (.ireturn, 1) := by decide +kernel
theorem dX7_rowsOf_0 : decode cX7_rowsOf 0 = .ok (.iconst 1, 1) := by decide +kernel
theorem dX7_rowsOf_1 : decode cX7_rowsOf 1 = .ok (.iload_n 0, 1) := by decide +kernel
theorem dX7_rowsOf_2 : decode cX7_rowsOf 2 = .ok (.iconst 2, 1) := by decide +kernel
theorem dX7_rowsOf_3 : decode cX7_rowsOf 3 = .ok (.idiv, 1) := by decide +kernel
theorem dX7_rowsOf_4 : decode cX7_rowsOf 4 = .ok (.ishl, 1) := by decide +kernel
theorem dX7_rowsOf_5 : decode cX7_rowsOf 5 = .ok (.ireturn, 1) := by decide +kernel
set_option maxRecDepth 20000 in
theorem ggX7_foldedPage_X7_columnsOf : GoodIn wsX7_foldedPage wsX7_columnsOf := goodIn_r _ [4] (by decide +kernel) (by decide +kernel)
set_option maxRecDepth 20000 in
theorem gX7_foldedPage_X7_columnsOf : GoodIn wsX7_foldedPage (va_wsS RX7 99 yX7_columnsOf wsX7_columnsOf) := goodIn_app (goodIn_of _ (by decide +kernel)) ggX7_foldedPage_X7_columnsOf
set_option maxRecDepth 20000 in
theorem ggX7_foldedPage_X7_rowsOf : GoodIn wsX7_foldedPage wsX7_rowsOf := goodIn_r _ [7] (by decide +kernel) (by decide +kernel)
set_option maxRecDepth 20000 in
theorem gX7_foldedPage_X7_rowsOf : GoodIn wsX7_foldedPage (va_wsS RX7 102 yX7_rowsOf wsX7_rowsOf) := goodIn_app (goodIn_of _ (by decide +kernel)) ggX7_foldedPage_X7_rowsOf
theorem dX7_foldedPage_0 : decode cX7_foldedPage 0 = .ok (.iload_n 0, 1) := by decide +kernel
theorem dX7_foldedPage_1 : decode cX7_foldedPage 1 = .ok (.invokestatic 99, 3) := by decide +kernel
theorem dX7_foldedPage_4 : decode cX7_foldedPage 4 = .ok (.istore 4, 2) := by decide +kernel
theorem dX7_foldedPage_6 : decode cX7_foldedPage 6 = .ok (.iload_n 0, 1) := by decide +kernel
theorem dX7_foldedPage_7 : decode cX7_foldedPage 7 = .ok (.invokestatic 102, 3) := by decide +kernel
theorem dX7_foldedPage_10 : decode cX7_foldedPage 10 = .ok (.istore 5, 2) := by decide +kernel
theorem dX7_foldedPage_12 : decode cX7_foldedPage 12 = .ok (.iconst 2, 1) := by decide +kernel
theorem dX7_foldedPage_13 : decode cX7_foldedPage 13 = .ok (.istore 6, 2) := by decide +kernel
theorem dX7_foldedPage_15 : decode cX7_foldedPage 15 = .ok (.iload_n 1, 1) := by decide +kernel
theorem dX7_foldedPage_16 : decode cX7_foldedPage 16 = .ok (.ifCond .eq 7, 3) := by decide +kernel
theorem dX7_foldedPage_19 : decode cX7_foldedPage 19 = .ok (.iconst 2, 1) := by decide +kernel
theorem dX7_foldedPage_20 : decode cX7_foldedPage 20 = .ok (.goto 4, 3) := by decide +kernel
theorem dX7_foldedPage_23 : decode cX7_foldedPage 23 = .ok (.iconst 1, 1) := by decide +kernel
theorem dX7_foldedPage_24 : decode cX7_foldedPage 24 = .ok (.istore 7, 2) := by decide +kernel
theorem dX7_foldedPage_26 : decode cX7_foldedPage 26 = .ok (.iconst 0, 1) := by decide +kernel
theorem dX7_foldedPage_27 : decode cX7_foldedPage 27 = .ok (.istore 8, 2) := by decide +kernel
theorem dX7_foldedPage_29 : decode cX7_foldedPage 29 = .ok (.iload 8, 2) := by decide +kernel
theorem dX7_foldedPage_31 : decode cX7_foldedPage 31 = .ok (.iload_n 0, 1) := by decide +kernel
theorem dX7_foldedPage_32 : decode cX7_foldedPage 32 = .ok (.if_icmp .ge 121, 3) := by decide +kernel
theorem dX7_foldedPage_35 : decode cX7_foldedPage 35 = .ok (.iload 8, 2) := by decide +kernel
theorem dX7_foldedPage_37 : decode cX7_foldedPage 37 = .ok (.iconst 2, 1) := by decide +kernel
theorem dX7_foldedPage_38 : decode cX7_foldedPage 38 = .ok (.irem, 1) := by decide +kernel
theorem dX7_foldedPage_39 : decode cX7_foldedPage 39 = .ok (.ifCond .ne 43, 3) := by decide +kernel
theorem dX7_foldedPage_42 : decode cX7_foldedPage 42 = .ok (.iload 4, 2) := by decide +kernel
theorem dX7_foldedPage_44 : decode cX7_foldedPage 44 = .ok (.iconst 2, 1) := by decide +kernel
theorem dX7_foldedPage_45 : decode cX7_foldedPage 45 = .ok (.idiv, 1) := by decide +kernel
theorem dX7_foldedPage_46 : decode cX7_foldedPage 46 = .ok (.istore 4, 2) := by decide +kernel
theorem dX7_foldedPage_48 : decode cX7_foldedPage 48 = .ok (.iload_n 2, 1) := by decide +kernel
theorem dX7_foldedPage_49 : decode cX7_foldedPage 49 = .ok (.iload 4, 2) := by decide +kernel
theorem dX7_foldedPage_51 : decode cX7_foldedPage 51 = .ok (.if_icmp .lt 7, 3) := by decide +kernel
theorem dX7_foldedPage_54 : decode cX7_foldedPage 54 = .ok (.iconst 1, 1) := by decide +kernel
theorem dX7_foldedPage_55 : decode cX7_foldedPage 55 = .ok (.goto 4, 3) := by decide +kernel
theorem dX7_foldedPage_58 : decode cX7_foldedPage 58 = .ok (.iconst 0, 1) := by decide +kernel
theorem dX7_foldedPage_59 : decode cX7_foldedPage 59 = .ok (.istore 9, 2) := by decide +kernel
theorem dX7_foldedPage_61 : decode cX7_foldedPage 61 = .ok (.iload 9, 2) := by decide +kernel
theorem dX7_foldedPage_63 : decode cX7_foldedPage 63 = .ok (.ifCond .eq 14, 3) := by decide +kernel
theorem dX7_foldedPage_66 : decode cX7_foldedPage 66 = .ok (.iconst 2, 1) := by decide +kernel
theorem dX7_foldedPage_67 : decode cX7_foldedPage 67 = .ok (.iload 4, 2) := by decide +kernel
theorem dX7_foldedPage_69 : decode cX7_foldedPage 69 = .ok (.imul, 1) := by decide +kernel
theorem dX7_foldedPage_70 : decode cX7_foldedPage 70 = .ok (.iconst 1, 1) := by decide +kernel
theorem dX7_foldedPage_71 : decode cX7_foldedPage 71 = .ok (.isub, 1) := by decide +kernel
theorem dX7_foldedPage_72 : decode cX7_foldedPage 72 = .ok (.iload_n 2, 1) := by decide +kernel
theorem dX7_foldedPage_73 : decode cX7_foldedPage 73 = .ok (.isub, 1) := by decide +kernel
theorem dX7_foldedPage_74 : decode cX7_foldedPage 74 = .ok (.goto 4, 3) := by decide +kernel
theorem dX7_foldedPage_77 : decode cX7_foldedPage 77 = .ok (.iload_n 2, 1) := by decide +kernel
theorem dX7_foldedPage_78 : decode cX7_foldedPage 78 = .ok (.istore_n 2, 1) := by decide +kernel
theorem dX7_foldedPage_79 : decode cX7_foldedPage 79 = .ok (.goto 40, 3) := by decide +kernel
theorem dX7_foldedPage_82 : decode cX7_foldedPage 82 = .ok (.iload 5, 2) := by decide +kernel
theorem dX7_foldedPage_84 : decode cX7_foldedPage 84 = .ok (.iconst 2, 1) := by decide +kernel
theorem dX7_foldedPage_85 : decode cX7_foldedPage 85 = .ok (.idiv, 1) := by decide +kernel
theorem dX7_foldedPage_86 : decode cX7_foldedPage 86 = .ok (.istore 5, 2) := by decide +kernel
theorem dX7_foldedPage_88 : decode cX7_foldedPage 88 = .ok (.iload_n 3, 1) := by decide +kernel
theorem dX7_foldedPage_89 : decode cX7_foldedPage 89 = .ok (.iload 5, 2) := by decide +kernel
theorem dX7_foldedPage_91 : decode cX7_foldedPage 91 = .ok (.if_icmp .lt 7, 3) := by decide +kernel
theorem dX7_foldedPage_94 : decode cX7_foldedPage 94 = .ok (.iconst 1, 1) := by decide +kernel
theorem dX7_foldedPage_95 : decode cX7_foldedPage 95 = .ok (.goto 4, 3) := by decide +kernel
theorem dX7_foldedPage_98 : decode cX7_foldedPage 98 = .ok (.iconst 0, 1) := by decide +kernel
theorem dX7_foldedPage_99 : decode cX7_foldedPage 99 = .ok (.istore 9, 2) := by decide +kernel
theorem dX7_foldedPage_101 : decode cX7_foldedPage 101 = .ok (.iload 9, 2) := by decide +kernel
theorem dX7_foldedPage_103 : decode cX7_foldedPage 103 = .ok (.ifCond .eq 14, 3) := by decide +kernel
theorem dX7_foldedPage_106 : decode cX7_foldedPage 106 = .ok (.iconst 2, 1) := by decide +kernel
theorem dX7_foldedPage_107 : decode cX7_foldedPage 107 = .ok (.iload 5, 2) := by decide +kernel
theorem dX7_foldedPage_109 : decode cX7_foldedPage 109 = .ok (.imul, 1) := by decide +kernel
theorem dX7_foldedPage_110 : decode cX7_foldedPage 110 = .ok (.iconst 1, 1) := by decide +kernel
theorem dX7_foldedPage_111 : decode cX7_foldedPage 111 = .ok (.isub, 1) := by decide +kernel
theorem dX7_foldedPage_112 : decode cX7_foldedPage 112 = .ok (.iload_n 3, 1) := by decide +kernel
theorem dX7_foldedPage_113 : decode cX7_foldedPage 113 = .ok (.isub, 1) := by decide +kernel
theorem dX7_foldedPage_114 : decode cX7_foldedPage 114 = .ok (.goto 4, 3) := by decide +kernel
theorem dX7_foldedPage_117 : decode cX7_foldedPage 117 = .ok (.iload_n 3, 1) := by decide +kernel
theorem dX7_foldedPage_118 : decode cX7_foldedPage 118 = .ok (.istore_n 3, 1) := by decide +kernel
theorem dX7_foldedPage_119 : decode cX7_foldedPage 119 = .ok (.iload 9, 2) := by decide +kernel
theorem dX7_foldedPage_121 : decode cX7_foldedPage 121 = .ok (.ifCond .eq 13, 3) := by decide +kernel
theorem dX7_foldedPage_124 : decode cX7_foldedPage 124 = .ok (.iload 6, 2) := by decide +kernel
theorem dX7_foldedPage_126 : decode cX7_foldedPage 126 = .ok (.iconst 1, 1) := by decide +kernel
theorem dX7_foldedPage_127 : decode cX7_foldedPage 127 = .ok (.iadd, 1) := by decide +kernel
theorem dX7_foldedPage_128 : decode cX7_foldedPage 128 = .ok (.iload 7, 2) := by decide +kernel
theorem dX7_foldedPage_130 : decode cX7_foldedPage 130 = .ok (.isub, 1) := by decide +kernel
theorem dX7_foldedPage_131 : decode cX7_foldedPage 131 = .ok (.goto 8, 3) := by decide +kernel
theorem dX7_foldedPage_134 : decode cX7_foldedPage 134 = .ok (.iload 6, 2) := by decide +kernel
theorem dX7_foldedPage_136 : decode cX7_foldedPage 136 = .ok (.iload 7, 2) := by decide +kernel
theorem dX7_foldedPage_138 : decode cX7_foldedPage 138 = .ok (.iadd, 1) := by decide +kernel
theorem dX7_foldedPage_139 : decode cX7_foldedPage 139 = .ok (.istore 7, 2) := by decide +kernel
theorem dX7_foldedPage_141 : decode cX7_foldedPage 141 = .ok (.iload 6, 2) := by decide +kernel
theorem dX7_foldedPage_143 : decode cX7_foldedPage 143 = .ok (.iconst 2, 1) := by decide +kernel
theorem dX7_foldedPage_144 : decode cX7_foldedPage 144 = .ok (.imul, 1) := by decide +kernel
theorem dX7_foldedPage_145 : decode cX7_foldedPage 145 = .ok (.istore 6, 2) := by decide +kernel
theorem dX7_foldedPage_147 : decode cX7_foldedPage 147 = .ok (.iinc 8 1, 3) := by decide +kernel
theorem dX7_foldedPage_150 : decode cX7_foldedPage 150 = .ok (.goto (-121), 3) := by decide +kernel
theorem dX7_foldedPage_153 : decode cX7_foldedPage 153 = .ok (.iload 7, 2) := by decide +kernel
theorem dX7_foldedPage_155 : decode cX7_foldedPage 155 = .ok (.ireturn, 1) := by decide +kernel
set_option maxRecDepth 20000 in
theorem ggX7_unfoldedPlace_X7_rowsOf : GoodIn wsX7_unfoldedPlace wsX7_rowsOf := goodIn_r _ [4] (by decide +kernel) (by decide +kernel)
set_option maxRecDepth 20000 in
theorem gX7_unfoldedPlace_X7_rowsOf : GoodIn wsX7_unfoldedPlace (va_wsS RX7 102 yX7_rowsOf wsX7_rowsOf) := goodIn_app (goodIn_of _ (by decide +kernel)) ggX7_unfoldedPlace_X7_rowsOf
set_option maxRecDepth 20000 in
theorem ggX7_unfoldedPlace_X7_columnsOf : GoodIn wsX7_unfoldedPlace wsX7_columnsOf := goodIn_r _ [7] (by decide +kernel) (by decide +kernel)
set_option maxRecDepth 20000 in
theorem gX7_unfoldedPlace_X7_columnsOf : GoodIn wsX7_unfoldedPlace (va_wsS RX7 99 yX7_columnsOf wsX7_columnsOf) := goodIn_app (goodIn_of _ (by decide +kernel)) ggX7_unfoldedPlace_X7_columnsOf
set_option maxRecDepth 20000 in
theorem ggX7_unfoldedPlace_X7_foldedPage : GoodIn wsX7_unfoldedPlace wsX7_foldedPage := goodIn_r _ [10, 5, 6, 3, 7, 1, 2, 4] (by decide +kernel) (by decide +kernel)
set_option maxRecDepth 20000 in
theorem gX7_unfoldedPlace_X7_foldedPage : GoodIn wsX7_unfoldedPlace (va_wsS RX7 105 yX7_foldedPage wsX7_foldedPage) := goodIn_app (goodIn_of _ (by decide +kernel)) ggX7_unfoldedPlace_X7_foldedPage
theorem dX7_unfoldedPlace_0 : decode cX7_unfoldedPlace 0 = .ok (.iconst 0, 1) := by decide +kernel
theorem dX7_unfoldedPlace_1 : decode cX7_unfoldedPlace 1 = .ok (.istore_n 2, 1) := by decide +kernel
theorem dX7_unfoldedPlace_2 : decode cX7_unfoldedPlace 2 = .ok (.iload_n 2, 1) := by decide +kernel
theorem dX7_unfoldedPlace_3 : decode cX7_unfoldedPlace 3 = .ok (.iload_n 0, 1) := by decide +kernel
theorem dX7_unfoldedPlace_4 : decode cX7_unfoldedPlace 4 = .ok (.invokestatic 102, 3) := by decide +kernel
theorem dX7_unfoldedPlace_7 : decode cX7_unfoldedPlace 7 = .ok (.if_icmp .ge 64, 3) := by decide +kernel
theorem dX7_unfoldedPlace_10 : decode cX7_unfoldedPlace 10 = .ok (.iconst 0, 1) := by decide +kernel
theorem dX7_unfoldedPlace_11 : decode cX7_unfoldedPlace 11 = .ok (.istore_n 3, 1) := by decide +kernel
theorem dX7_unfoldedPlace_12 : decode cX7_unfoldedPlace 12 = .ok (.iload_n 3, 1) := by decide +kernel
theorem dX7_unfoldedPlace_13 : decode cX7_unfoldedPlace 13 = .ok (.iload_n 0, 1) := by decide +kernel
theorem dX7_unfoldedPlace_14 : decode cX7_unfoldedPlace 14 = .ok (.invokestatic 99, 3) := by decide +kernel
theorem dX7_unfoldedPlace_17 : decode cX7_unfoldedPlace 17 = .ok (.if_icmp .ge 48, 3) := by decide +kernel
theorem dX7_unfoldedPlace_20 : decode cX7_unfoldedPlace 20 = .ok (.iload_n 0, 1) := by decide +kernel
theorem dX7_unfoldedPlace_21 : decode cX7_unfoldedPlace 21 = .ok (.iconst 0, 1) := by decide +kernel
theorem dX7_unfoldedPlace_22 : decode cX7_unfoldedPlace 22 = .ok (.iload_n 3, 1) := by decide +kernel
theorem dX7_unfoldedPlace_23 : decode cX7_unfoldedPlace 23 = .ok (.iload_n 2, 1) := by decide +kernel
theorem dX7_unfoldedPlace_24 : decode cX7_unfoldedPlace 24 = .ok (.invokestatic 105, 3) := by decide +kernel
theorem dX7_unfoldedPlace_27 : decode cX7_unfoldedPlace 27 = .ok (.iload_n 1, 1) := by decide +kernel
theorem dX7_unfoldedPlace_28 : decode cX7_unfoldedPlace 28 = .ok (.if_icmp .ne 10, 3) := by decide +kernel
theorem dX7_unfoldedPlace_31 : decode cX7_unfoldedPlace 31 = .ok (.bipush 10, 2) := by decide +kernel
theorem dX7_unfoldedPlace_33 : decode cX7_unfoldedPlace 33 = .ok (.iload_n 2, 1) := by decide +kernel
theorem dX7_unfoldedPlace_34 : decode cX7_unfoldedPlace 34 = .ok (.imul, 1) := by decide +kernel
theorem dX7_unfoldedPlace_35 : decode cX7_unfoldedPlace 35 = .ok (.iload_n 3, 1) := by decide +kernel
theorem dX7_unfoldedPlace_36 : decode cX7_unfoldedPlace 36 = .ok (.iadd, 1) := by decide +kernel
theorem dX7_unfoldedPlace_37 : decode cX7_unfoldedPlace 37 = .ok (.ireturn, 1) := by decide +kernel
theorem dX7_unfoldedPlace_38 : decode cX7_unfoldedPlace 38 = .ok (.iload_n 0, 1) := by decide +kernel
theorem dX7_unfoldedPlace_39 : decode cX7_unfoldedPlace 39 = .ok (.iconst 1, 1) := by decide +kernel
theorem dX7_unfoldedPlace_40 : decode cX7_unfoldedPlace 40 = .ok (.iload_n 3, 1) := by decide +kernel
theorem dX7_unfoldedPlace_41 : decode cX7_unfoldedPlace 41 = .ok (.iload_n 2, 1) := by decide +kernel
theorem dX7_unfoldedPlace_42 : decode cX7_unfoldedPlace 42 = .ok (.invokestatic 105, 3) := by decide +kernel
theorem dX7_unfoldedPlace_45 : decode cX7_unfoldedPlace 45 = .ok (.iload_n 1, 1) := by decide +kernel
theorem dX7_unfoldedPlace_46 : decode cX7_unfoldedPlace 46 = .ok (.if_icmp .ne 13, 3) := by decide +kernel
theorem dX7_unfoldedPlace_49 : decode cX7_unfoldedPlace 49 = .ok (.bipush 100, 2) := by decide +kernel
theorem dX7_unfoldedPlace_51 : decode cX7_unfoldedPlace 51 = .ok (.bipush 10, 2) := by decide +kernel
theorem dX7_unfoldedPlace_53 : decode cX7_unfoldedPlace 53 = .ok (.iload_n 2, 1) := by decide +kernel
theorem dX7_unfoldedPlace_54 : decode cX7_unfoldedPlace 54 = .ok (.imul, 1) := by decide +kernel
theorem dX7_unfoldedPlace_55 : decode cX7_unfoldedPlace 55 = .ok (.iadd, 1) := by decide +kernel
theorem dX7_unfoldedPlace_56 : decode cX7_unfoldedPlace 56 = .ok (.iload_n 3, 1) := by decide +kernel
theorem dX7_unfoldedPlace_57 : decode cX7_unfoldedPlace 57 = .ok (.iadd, 1) := by decide +kernel
theorem dX7_unfoldedPlace_58 : decode cX7_unfoldedPlace 58 = .ok (.ireturn, 1) := by decide +kernel
theorem dX7_unfoldedPlace_59 : decode cX7_unfoldedPlace 59 = .ok (.iinc 3 1, 3) := by decide +kernel
theorem dX7_unfoldedPlace_62 : decode cX7_unfoldedPlace 62 = .ok (.goto (-50), 3) := by decide +kernel
theorem dX7_unfoldedPlace_65 : decode cX7_unfoldedPlace 65 = .ok (.iinc 2 1, 3) := by decide +kernel
theorem dX7_unfoldedPlace_68 : decode cX7_unfoldedPlace 68 = .ok (.goto (-66), 3) := by decide +kernel
theorem dX7_unfoldedPlace_71 : decode cX7_unfoldedPlace 71 = .ok (.iconst (-1), 1) := by decide +kernel
theorem dX7_unfoldedPlace_72 : decode cX7_unfoldedPlace 72 = .ok (.ireturn, 1) := by decide +kernel
theorem dJ9_floorMod_7cf53_0 : decode cJ9_floorMod_7cf53 0 = .ok (.iload_n 0, 1) := by decide +kernel
theorem dJ9_floorMod_7cf53_1 : decode cJ9_floorMod_7cf53 1 = .ok (.iload_n 1, 1) := by decide +kernel
theorem dJ9_floorMod_7cf53_2 : decode cJ9_floorMod_7cf53 2 = .ok (.irem, 1) := by decide +kernel
theorem dJ9_floorMod_7cf53_3 : decode cJ9_floorMod_7cf53 3 = .ok (.istore_n 2, 1) := by decide +kernel
theorem dJ9_floorMod_7cf53_4 : decode cJ9_floorMod_7cf53 4 = .ok (.iload_n 0, 1) := by decide +kernel
theorem dJ9_floorMod_7cf53_5 : decode cJ9_floorMod_7cf53 5 = .ok (.iload_n 1, 1) := by decide +kernel
theorem dJ9_floorMod_7cf53_6 : decode cJ9_floorMod_7cf53 6 = .ok (.ixor, 1) := by decide +kernel
theorem dJ9_floorMod_7cf53_7 : decode cJ9_floorMod_7cf53 7 = .ok (.ifCond .ge 11, 3) := by decide +kernel
theorem dJ9_floorMod_7cf53_10 : decode cJ9_floorMod_7cf53 10 = .ok (.iload_n 2, 1) := by decide +kernel
theorem dJ9_floorMod_7cf53_11 : decode cJ9_floorMod_7cf53 11 = .ok (.ifCond .eq 7, 3) := by decide +kernel
theorem dJ9_floorMod_7cf53_14 : decode cJ9_floorMod_7cf53 14 = .ok (.iload_n 2, 1) := by decide +kernel
theorem dJ9_floorMod_7cf53_15 : decode cJ9_floorMod_7cf53 15 = .ok (.iload_n 1, 1) := by decide +kernel
theorem dJ9_floorMod_7cf53_16 : decode cJ9_floorMod_7cf53 16 = .ok (.iadd, 1) := by decide +kernel
theorem dJ9_floorMod_7cf53_17 : decode cJ9_floorMod_7cf53 17 = .ok (.ireturn, 1) := by decide +kernel
theorem dJ9_floorMod_7cf53_18 : decode cJ9_floorMod_7cf53 18 = .ok (.iload_n 2, 1) := by decide +kernel
theorem dJ9_floorMod_7cf53_19 : decode cJ9_floorMod_7cf53 19 = .ok (.ireturn, 1) := by decide +kernel
theorem dJ9_max_7cf53_0 : decode cJ9_max_7cf53 0 = .ok (.iload_n 0, 1) := by decide +kernel
theorem dJ9_max_7cf53_1 : decode cJ9_max_7cf53 1 = .ok (.iload_n 1, 1) := by decide +kernel
theorem dJ9_max_7cf53_2 : decode cJ9_max_7cf53 2 = .ok (.if_icmp .lt 7, 3) := by decide +kernel
theorem dJ9_max_7cf53_5 : decode cJ9_max_7cf53 5 = .ok (.iload_n 0, 1) := by decide +kernel
theorem dJ9_max_7cf53_6 : decode cJ9_max_7cf53 6 = .ok (.goto 4, 3) := by decide +kernel
theorem dJ9_max_7cf53_9 : decode cJ9_max_7cf53 9 = .ok (.iload_n 1, 1) := by decide +kernel
theorem dJ9_max_7cf53_10 : decode cJ9_max_7cf53 10 = .ok (.ireturn, 1) := by decide +kernel
theorem dJ9_min_7cf53_0 : decode cJ9_min_7cf53 0 = .ok (.iload_n 0, 1) := by decide +kernel
theorem dJ9_min_7cf53_1 : decode cJ9_min_7cf53 1 = .ok (.iload_n 1, 1) := by decide +kernel
theorem dJ9_min_7cf53_2 : decode cJ9_min_7cf53 2 = .ok (.if_icmp .gt 7, 3) := by decide +kernel
theorem dJ9_min_7cf53_5 : decode cJ9_min_7cf53 5 = .ok (.iload_n 0, 1) := by decide +kernel
theorem dJ9_min_7cf53_6 : decode cJ9_min_7cf53 6 = .ok (.goto 4, 3) := by decide +kernel
theorem dJ9_min_7cf53_9 : decode cJ9_min_7cf53 9 = .ok (.iload_n 1, 1) := by decide +kernel
theorem dJ9_min_7cf53_10 : decode cJ9_min_7cf53 10 = .ok (.ireturn, 1) := by decide +kernel
theorem dL_at_0 : decode cL_at 0 = .ok (.iload_n 1, 1) := by decide +kernel
theorem dL_at_1 : decode cL_at 1 = .ok (.aload_n 0, 1) := by decide +kernel
theorem dL_at_2 : decode cL_at 2 = .ok (.arraylength, 1) := by decide +kernel
theorem dL_at_3 : decode cL_at 3 = .ok (.if_icmp .ge 9, 3) := by decide +kernel
theorem dL_at_6 : decode cL_at 6 = .ok (.aload_n 0, 1) := by decide +kernel
theorem dL_at_7 : decode cL_at 7 = .ok (.iload_n 1, 1) := by decide +kernel
theorem dL_at_8 : decode cL_at 8 = .ok (.iaload, 1) := by decide +kernel
theorem dL_at_9 : decode cL_at 9 = .ok (.goto 12, 3) := by decide +kernel
theorem dL_at_12 : decode cL_at 12 = .ok (.ldc 7, 2) := by decide +kernel
theorem dL_at_14 : decode cL_at 14 = .ok (.iload_n 1, 1) := by decide +kernel
theorem dL_at_15 : decode cL_at 15 = .ok (.iconst 1, 1) := by decide +kernel
theorem dL_at_16 : decode cL_at 16 = .ok (.iadd, 1) := by decide +kernel
theorem dL_at_17 : decode cL_at 17 = .ok (.imul, 1) := by decide +kernel
theorem dL_at_18 : decode cL_at 18 = .ok (.ldc 8, 2) := by decide +kernel
theorem dL_at_20 : decode cL_at 20 = .ok (.iadd, 1) := by decide +kernel
theorem dL_at_21 : decode cL_at 21 = .ok (.ireturn, 1) := by decide +kernel
theorem dL_low_0 : decode cL_low 0 = .ok (.iload_n 0, 1) := by decide +kernel
theorem dL_low_1 : decode cL_low 1 = .ok (.ldc 9, 2) := by decide +kernel
theorem dL_low_3 : decode cL_low 3 = .ok (.iand, 1) := by decide +kernel
theorem dL_low_4 : decode cL_low 4 = .ok (.iload_n 1, 1) := by decide +kernel
theorem dL_low_5 : decode cL_low 5 = .ok (.irem, 1) := by decide +kernel
theorem dL_low_6 : decode cL_low 6 = .ok (.ireturn, 1) := by decide +kernel
