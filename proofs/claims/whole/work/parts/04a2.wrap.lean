set_option maxRecDepth 20000 in
theorem ggL_drop_X7_drop : GoodIn wsL_drop wsX7_drop := goodIn_ca (goodIn_ca (goodIn_r _ [7, 8, 9, 10, 6, 11, 12, 13, 14, 15, 16, 17, 18, 19, 20, 21, 22, 23, 24, 25, 26, 27, 28, 29, 30, 31, 32, 33, 34, 35, 36, 37, 38, 39, 40, 41, 42, 43, 44, 45, 46, 47, 48, 49, 50, 51, 52, 53, 54] (by decide +kernel) (by decide +kernel)) (goodIn_sub (fun _ h => List.mem_cons_of_mem _ (List.mem_append_left _ (List.mem_append_right _ h))) (by decide +kernel))) (goodIn_sub (fun _ h => List.mem_cons_of_mem _ (List.mem_append_right _ h)) (by decide +kernel))
set_option maxRecDepth 20000 in
theorem gL_drop_X7_drop : GoodIn wsL_drop (wsV RL 7 RX7 yX7_drop wsX7_drop) := goodIn_app (goodIn_of _ (by decide +kernel)) ggL_drop_X7_drop
theorem dL_drop_0 : decode cL_drop 0 = .ok (.aload 5, 2) := by decide +kernel
theorem dL_drop_2 : decode cL_drop 2 = .ok (.iconst 0, 1) := by decide +kernel
theorem dL_drop_3 : decode cL_drop 3 = .ok (.aload_n 0, 1) := by decide +kernel
theorem dL_drop_4 : decode cL_drop 4 = .ok (.iload_n 1, 1) := by decide +kernel
theorem dL_drop_5 : decode cL_drop 5 = .ok (.iload_n 2, 1) := by decide +kernel
theorem dL_drop_6 : decode cL_drop 6 = .ok (.iload_n 3, 1) := by decide +kernel
theorem dL_drop_7 : decode cL_drop 7 = .ok (.iload 4, 2) := by decide +kernel
theorem dL_drop_9 : decode cL_drop 9 = .ok (.invokevirtual 7, 3) := by decide +kernel
theorem dL_drop_12 : decode cL_drop 12 = .ok (.i2l, 1) := by decide +kernel
theorem dL_drop_13 : decode cL_drop 13 = .ok (.lastore, 1) := by decide +kernel
theorem dL_drop_14 : decode cL_drop 14 = .ok (.goto 11, 3) := by decide +kernel
theorem dL_drop_17 : decode cL_drop 17 = .ok (.astore 6, 2) := by decide +kernel
theorem dL_drop_19 : decode cL_drop 19 = .ok (.iconst 1, 1) := by decide +kernel
theorem dL_drop_20 : decode cL_drop 20 = .ok (.ireturn, 1) := by decide +kernel
theorem dL_drop_21 : decode cL_drop 21 = .ok (.astore 6, 2) := by decide +kernel
theorem dL_drop_23 : decode cL_drop 23 = .ok (.iconst 2, 1) := by decide +kernel
theorem dL_drop_24 : decode cL_drop 24 = .ok (.ireturn, 1) := by decide +kernel
theorem dL_drop_25 : decode cL_drop 25 = .ok (.iconst 0, 1) := by decide +kernel
theorem dL_drop_26 : decode cL_drop 26 = .ok (.ireturn, 1) := by decide +kernel
set_option maxRecDepth 20000 in
theorem ggL_comb_X7_comb : GoodIn wsL_comb wsX7_comb := goodIn_ca (goodIn_ca (goodIn_r _ [7, 8, 9, 10, 6, 11, 12, 13, 14, 15, 16, 17, 18, 19, 20, 21, 22, 23, 24, 25, 26, 27, 28, 29, 30, 31, 32, 33, 34, 35, 36, 37, 38, 39, 40, 41, 42, 43, 44, 45, 46, 47, 48, 49, 50, 51] (by decide +kernel) (by decide +kernel)) (goodIn_sub (fun _ h => List.mem_cons_of_mem _ (List.mem_append_left _ (List.mem_append_right _ h))) (by decide +kernel))) (goodIn_sub (fun _ h => List.mem_cons_of_mem _ (List.mem_append_right _ h)) (by decide +kernel))
set_option maxRecDepth 20000 in
theorem gL_comb_X7_comb : GoodIn wsL_comb (wsV RL 17 RX7 yX7_comb wsX7_comb) := goodIn_app (goodIn_of _ (by decide +kernel)) ggL_comb_X7_comb
theorem dL_comb_0 : decode cL_comb 0 = .ok (.aload 4, 2) := by decide +kernel
theorem dL_comb_2 : decode cL_comb 2 = .ok (.iconst 0, 1) := by decide +kernel
theorem dL_comb_3 : decode cL_comb 3 = .ok (.aload_n 0, 1) := by decide +kernel
theorem dL_comb_4 : decode cL_comb 4 = .ok (.iload_n 1, 1) := by decide +kernel
theorem dL_comb_5 : decode cL_comb 5 = .ok (.iload_n 2, 1) := by decide +kernel
theorem dL_comb_6 : decode cL_comb 6 = .ok (.iload_n 3, 1) := by decide +kernel
theorem dL_comb_7 : decode cL_comb 7 = .ok (.invokevirtual 17, 3) := by decide +kernel
theorem dL_comb_10 : decode cL_comb 10 = .ok (.i2l, 1) := by decide +kernel
theorem dL_comb_11 : decode cL_comb 11 = .ok (.lastore, 1) := by decide +kernel
theorem dL_comb_12 : decode cL_comb 12 = .ok (.goto 11, 3) := by decide +kernel
theorem dL_comb_15 : decode cL_comb 15 = .ok (.astore 5, 2) := by decide +kernel
theorem dL_comb_17 : decode cL_comb 17 = .ok (.iconst 1, 1) := by decide +kernel
theorem dL_comb_18 : decode cL_comb 18 = .ok (.ireturn, 1) := by decide +kernel
theorem dL_comb_19 : decode cL_comb 19 = .ok (.astore 5, 2) := by decide +kernel
theorem dL_comb_21 : decode cL_comb 21 = .ok (.iconst 2, 1) := by decide +kernel
theorem dL_comb_22 : decode cL_comb 22 = .ok (.ireturn, 1) := by decide +kernel
theorem dL_comb_23 : decode cL_comb 23 = .ok (.iconst 0, 1) := by decide +kernel
theorem dL_comb_24 : decode cL_comb 24 = .ok (.ireturn, 1) := by decide +kernel
set_option maxRecDepth 20000 in
theorem ggL_lift_X7_lift : GoodIn wsL_lift wsX7_lift := goodIn_ca (goodIn_r _ [6, 7, 8, 9, 10, 11, 5, 12, 13, 14, 15, 16, 17, 18, 19, 20, 21, 22, 23, 24, 25, 26, 27, 28, 29, 30, 31, 32, 33, 34, 35, 36, 37, 38, 39, 40, 41, 42, 43, 44, 45, 46, 47, 48] (by decide +kernel) (by decide +kernel)) (goodIn_sub (fun _ h => List.mem_cons_of_mem _ (List.mem_append_right _ h)) (by decide +kernel))
set_option maxRecDepth 20000 in
theorem gL_lift_X7_lift : GoodIn wsL_lift (wsV RL 21 RX7 yX7_lift wsX7_lift) := goodIn_app (goodIn_of _ (by decide +kernel)) ggL_lift_X7_lift
theorem dL_lift_0 : decode cL_lift 0 = .ok (.aload_n 1, 1) := by decide +kernel
theorem dL_lift_1 : decode cL_lift 1 = .ok (.iconst 0, 1) := by decide +kernel
theorem dL_lift_2 : decode cL_lift 2 = .ok (.aload_n 0, 1) := by decide +kernel
theorem dL_lift_3 : decode cL_lift 3 = .ok (.invokevirtual 21, 3) := by decide +kernel
theorem dL_lift_6 : decode cL_lift 6 = .ok (.i2l, 1) := by decide +kernel
theorem dL_lift_7 : decode cL_lift 7 = .ok (.lastore, 1) := by decide +kernel
theorem dL_lift_8 : decode cL_lift 8 = .ok (.goto 6, 3) := by decide +kernel
theorem dL_lift_11 : decode cL_lift 11 = .ok (.astore_n 2, 1) := by decide +kernel
theorem dL_lift_12 : decode cL_lift 12 = .ok (.iconst 1, 1) := by decide +kernel
theorem dL_lift_13 : decode cL_lift 13 = .ok (.ireturn, 1) := by decide +kernel
theorem dL_lift_14 : decode cL_lift 14 = .ok (.iconst 0, 1) := by decide +kernel
theorem dL_lift_15 : decode cL_lift 15 = .ok (.ireturn, 1) := by decide +kernel
set_option maxRecDepth 20000 in
theorem ggL_cellAt_X7_cellAt : GoodIn wsL_cellAt wsX7_cellAt := goodIn_ca (goodIn_ca (goodIn_r _ [7, 8, 9, 10, 6, 11, 12, 13, 14, 15, 16, 17, 18, 19, 20, 21, 22, 23, 24, 25, 26, 27, 28, 29, 30, 31, 32, 33, 34, 35, 36, 37, 38, 39, 40, 41, 42] (by decide +kernel) (by decide +kernel)) (goodIn_sub (fun _ h => List.mem_cons_of_mem _ (List.mem_append_left _ (List.mem_append_right _ h))) (by decide +kernel))) (goodIn_sub (fun _ h => List.mem_cons_of_mem _ (List.mem_append_right _ h)) (by decide +kernel))
set_option maxRecDepth 20000 in
theorem gL_cellAt_X7_cellAt : GoodIn wsL_cellAt (wsV RL 27 RX7 yX7_cellAt wsX7_cellAt) := goodIn_app (goodIn_of _ (by decide +kernel)) ggL_cellAt_X7_cellAt
theorem dL_cellAt_0 : decode cL_cellAt 0 = .ok (.aload 4, 2) := by decide +kernel
theorem dL_cellAt_2 : decode cL_cellAt 2 = .ok (.iconst 0, 1) := by decide +kernel
theorem dL_cellAt_3 : decode cL_cellAt 3 = .ok (.aload_n 0, 1) := by decide +kernel
theorem dL_cellAt_4 : decode cL_cellAt 4 = .ok (.iload_n 1, 1) := by decide +kernel
theorem dL_cellAt_5 : decode cL_cellAt 5 = .ok (.iload_n 2, 1) := by decide +kernel
theorem dL_cellAt_6 : decode cL_cellAt 6 = .ok (.iload_n 3, 1) := by decide +kernel
theorem dL_cellAt_7 : decode cL_cellAt 7 = .ok (.invokevirtual 27, 3) := by decide +kernel
theorem dL_cellAt_10 : decode cL_cellAt 10 = .ok (.i2l, 1) := by decide +kernel
theorem dL_cellAt_11 : decode cL_cellAt 11 = .ok (.lastore, 1) := by decide +kernel
theorem dL_cellAt_12 : decode cL_cellAt 12 = .ok (.goto 11, 3) := by decide +kernel
theorem dL_cellAt_15 : decode cL_cellAt 15 = .ok (.astore 5, 2) := by decide +kernel
theorem dL_cellAt_17 : decode cL_cellAt 17 = .ok (.iconst 1, 1) := by decide +kernel
theorem dL_cellAt_18 : decode cL_cellAt 18 = .ok (.ireturn, 1) := by decide +kernel
theorem dL_cellAt_19 : decode cL_cellAt 19 = .ok (.astore 5, 2) := by decide +kernel
theorem dL_cellAt_21 : decode cL_cellAt 21 = .ok (.iconst 2, 1) := by decide +kernel
theorem dL_cellAt_22 : decode cL_cellAt 22 = .ok (.ireturn, 1) := by decide +kernel
theorem dL_cellAt_23 : decode cL_cellAt 23 = .ok (.iconst 0, 1) := by decide +kernel
theorem dL_cellAt_24 : decode cL_cellAt 24 = .ok (.ireturn, 1) := by decide +kernel
set_option maxRecDepth 20000 in
theorem ggL_printAt_X7_printAt : GoodIn wsL_printAt wsX7_printAt := goodIn_ca (goodIn_r _ [6, 7, 8, 9, 5, 10, 11, 12, 13, 14, 15, 16, 17, 18, 19, 20, 21, 22, 23, 24, 25, 26, 27, 28, 29, 30, 31, 32, 33, 34, 35, 36] (by decide +kernel) (by decide +kernel)) (goodIn_sub (fun _ h => List.mem_cons_of_mem _ (List.mem_append_right _ h)) (by decide +kernel))
set_option maxRecDepth 20000 in
theorem gL_printAt_X7_printAt : GoodIn wsL_printAt (wsV RL 31 RX7 yX7_printAt wsX7_printAt) := goodIn_app (goodIn_of _ (by decide +kernel)) ggL_printAt_X7_printAt
theorem dL_printAt_0 : decode cL_printAt 0 = .ok (.aload 4, 2) := by decide +kernel
theorem dL_printAt_2 : decode cL_printAt 2 = .ok (.iconst 0, 1) := by decide +kernel
theorem dL_printAt_3 : decode cL_printAt 3 = .ok (.aload_n 0, 1) := by decide +kernel
theorem dL_printAt_4 : decode cL_printAt 4 = .ok (.iload_n 1, 1) := by decide +kernel
theorem dL_printAt_5 : decode cL_printAt 5 = .ok (.iload_n 2, 1) := by decide +kernel
theorem dL_printAt_6 : decode cL_printAt 6 = .ok (.iload_n 3, 1) := by decide +kernel
theorem dL_printAt_7 : decode cL_printAt 7 = .ok (.invokevirtual 31, 3) := by decide +kernel
theorem dL_printAt_10 : decode cL_printAt 10 = .ok (.i2l, 1) := by decide +kernel
theorem dL_printAt_11 : decode cL_printAt 11 = .ok (.lastore, 1) := by decide +kernel
theorem dL_printAt_12 : decode cL_printAt 12 = .ok (.goto 7, 3) := by decide +kernel
theorem dL_printAt_15 : decode cL_printAt 15 = .ok (.astore 5, 2) := by decide +kernel
theorem dL_printAt_17 : decode cL_printAt 17 = .ok (.iconst 1, 1) := by decide +kernel
theorem dL_printAt_18 : decode cL_printAt 18 = .ok (.ireturn, 1) := by decide +kernel
theorem dL_printAt_19 : decode cL_printAt 19 = .ok (.iconst 0, 1) := by decide +kernel
theorem dL_printAt_20 : decode cL_printAt 20 = .ok (.ireturn, 1) := by decide +kernel
set_option maxRecDepth 20000 in
theorem ggL_count_X7_count : GoodIn wsL_count wsX7_count := goodIn_ca (goodIn_ca (goodIn_r _ [7, 8, 9, 10, 6, 11, 12, 13, 14, 15, 16, 17, 18, 19, 20, 21, 22, 23, 24, 25, 26, 27, 28, 29, 30, 31, 32, 33, 34, 35, 36] (by decide +kernel) (by decide +kernel)) (goodIn_sub (fun _ h => List.mem_cons_of_mem _ (List.mem_append_left _ (List.mem_append_right _ h))) (by decide +kernel))) (goodIn_sub (fun _ h => List.mem_cons_of_mem _ (List.mem_append_right _ h)) (by decide +kernel))
set_option maxRecDepth 20000 in
theorem gL_count_X7_count : GoodIn wsL_count (wsV RL 34 RX7 yX7_count wsX7_count) := goodIn_app (goodIn_of _ (by decide +kernel)) ggL_count_X7_count
theorem dL_count_0 : decode cL_count 0 = .ok (.aload_n 3, 1) := by decide +kernel
theorem dL_count_1 : decode cL_count 1 = .ok (.iconst 0, 1) := by decide +kernel
theorem dL_count_2 : decode cL_count 2 = .ok (.aload_n 0, 1) := by decide +kernel
theorem dL_count_3 : decode cL_count 3 = .ok (.iload_n 1, 1) := by decide +kernel
theorem dL_count_4 : decode cL_count 4 = .ok (.iload_n 2, 1) := by decide +kernel
theorem dL_count_5 : decode cL_count 5 = .ok (.invokevirtual 34, 3) := by decide +kernel
theorem dL_count_8 : decode cL_count 8 = .ok (.i2l, 1) := by decide +kernel
theorem dL_count_9 : decode cL_count 9 = .ok (.lastore, 1) := by decide +kernel
theorem dL_count_10 : decode cL_count 10 = .ok (.goto 11, 3) := by decide +kernel
theorem dL_count_13 : decode cL_count 13 = .ok (.astore 4, 2) := by decide +kernel
theorem dL_count_15 : decode cL_count 15 = .ok (.iconst 1, 1) := by decide +kernel
theorem dL_count_16 : decode cL_count 16 = .ok (.ireturn, 1) := by decide +kernel
theorem dL_count_17 : decode cL_count 17 = .ok (.astore 4, 2) := by decide +kernel
theorem dL_count_19 : decode cL_count 19 = .ok (.iconst 2, 1) := by decide +kernel
theorem dL_count_20 : decode cL_count 20 = .ok (.ireturn, 1) := by decide +kernel
theorem dL_count_21 : decode cL_count 21 = .ok (.iconst 0, 1) := by decide +kernel
theorem dL_count_22 : decode cL_count 22 = .ok (.ireturn, 1) := by decide +kernel
set_option maxRecDepth 20000 in
theorem ggL_pageAt_X7_pageAt : GoodIn wsL_pageAt wsX7_pageAt := goodIn_ca (goodIn_r _ [6, 7, 8, 5, 9, 10, 11, 12, 13, 14, 15, 16, 17, 18, 19, 20, 21, 22, 23] (by decide +kernel) (by decide +kernel)) (goodIn_sub (fun _ h => List.mem_cons_of_mem _ (List.mem_append_right _ h)) (by decide +kernel))
set_option maxRecDepth 20000 in
theorem gL_pageAt_X7_pageAt : GoodIn wsL_pageAt (wsV RL 38 RX7 yX7_pageAt wsX7_pageAt) := goodIn_app (goodIn_of _ (by decide +kernel)) ggL_pageAt_X7_pageAt
theorem dL_pageAt_0 : decode cL_pageAt 0 = .ok (.aload 5, 2) := by decide +kernel
theorem dL_pageAt_2 : decode cL_pageAt 2 = .ok (.iconst 0, 1) := by decide +kernel
theorem dL_pageAt_3 : decode cL_pageAt 3 = .ok (.aload_n 0, 1) := by decide +kernel
theorem dL_pageAt_4 : decode cL_pageAt 4 = .ok (.iload_n 1, 1) := by decide +kernel
theorem dL_pageAt_5 : decode cL_pageAt 5 = .ok (.iload_n 2, 1) := by decide +kernel
theorem dL_pageAt_6 : decode cL_pageAt 6 = .ok (.iload_n 3, 1) := by decide +kernel
theorem dL_pageAt_7 : decode cL_pageAt 7 = .ok (.iload 4, 2) := by decide +kernel
theorem dL_pageAt_9 : decode cL_pageAt 9 = .ok (.invokevirtual 38, 3) := by decide +kernel
theorem dL_pageAt_12 : decode cL_pageAt 12 = .ok (.i2l, 1) := by decide +kernel
theorem dL_pageAt_13 : decode cL_pageAt 13 = .ok (.lastore, 1) := by decide +kernel
theorem dL_pageAt_14 : decode cL_pageAt 14 = .ok (.goto 7, 3) := by decide +kernel
theorem dL_pageAt_17 : decode cL_pageAt 17 = .ok (.astore 6, 2) := by decide +kernel
theorem dL_pageAt_19 : decode cL_pageAt 19 = .ok (.iconst 1, 1) := by decide +kernel
theorem dL_pageAt_20 : decode cL_pageAt 20 = .ok (.ireturn, 1) := by decide +kernel
theorem dL_pageAt_21 : decode cL_pageAt 21 = .ok (.iconst 0, 1) := by decide +kernel
theorem dL_pageAt_22 : decode cL_pageAt 22 = .ok (.ireturn, 1) := by decide +kernel
set_option maxRecDepth 20000 in
theorem ggL_placeOf_X7_placeOf : GoodIn wsL_placeOf wsX7_placeOf := goodIn_ca (goodIn_r _ [6, 7, 8, 5, 9, 10, 11, 12, 13, 14, 15, 16, 17, 18, 19, 20, 21, 22, 23, 24, 25, 26] (by decide +kernel) (by decide +kernel)) (goodIn_sub (fun _ h => List.mem_cons_of_mem _ (List.mem_append_right _ h)) (by decide +kernel))
set_option maxRecDepth 20000 in
theorem gL_placeOf_X7_placeOf : GoodIn wsL_placeOf (wsV RL 42 RX7 yX7_placeOf wsX7_placeOf) := goodIn_app (goodIn_of _ (by decide +kernel)) ggL_placeOf_X7_placeOf
theorem dL_placeOf_0 : decode cL_placeOf 0 = .ok (.aload_n 3, 1) := by decide +kernel
theorem dL_placeOf_1 : decode cL_placeOf 1 = .ok (.iconst 0, 1) := by decide +kernel
theorem dL_placeOf_2 : decode cL_placeOf 2 = .ok (.aload_n 0, 1) := by decide +kernel
theorem dL_placeOf_3 : decode cL_placeOf 3 = .ok (.iload_n 1, 1) := by decide +kernel
theorem dL_placeOf_4 : decode cL_placeOf 4 = .ok (.iload_n 2, 1) := by decide +kernel
theorem dL_placeOf_5 : decode cL_placeOf 5 = .ok (.invokevirtual 42, 3) := by decide +kernel
theorem dL_placeOf_8 : decode cL_placeOf 8 = .ok (.i2l, 1) := by decide +kernel
theorem dL_placeOf_9 : decode cL_placeOf 9 = .ok (.lastore, 1) := by decide +kernel
theorem dL_placeOf_10 : decode cL_placeOf 10 = .ok (.goto 7, 3) := by decide +kernel
theorem dL_placeOf_13 : decode cL_placeOf 13 = .ok (.astore 4, 2) := by decide +kernel
theorem dL_placeOf_15 : decode cL_placeOf 15 = .ok (.iconst 1, 1) := by decide +kernel
theorem dL_placeOf_16 : decode cL_placeOf 16 = .ok (.ireturn, 1) := by decide +kernel
theorem dL_placeOf_17 : decode cL_placeOf 17 = .ok (.iconst 0, 1) := by decide +kernel
theorem dL_placeOf_18 : decode cL_placeOf 18 = .ok (.ireturn, 1) := by decide +kernel
set_option maxRecDepth 20000 in
theorem ggL_book_X7_book : GoodIn wsL_book wsX7_book := goodIn_ca (goodIn_ca (goodIn_r _ [7, 8, 9, 10, 11, 12, 13, 14, 6, 15, 16, 17, 18, 19, 20, 21, 22, 23, 24, 25, 26, 27, 28, 29, 30, 31, 32, 33, 34, 35, 36, 37, 38, 39, 40, 41, 42, 43, 44, 45, 46, 47, 48, 49, 50, 51, 52, 53, 54, 55, 56, 57, 58, 59, 60, 61, 62, 63, 64, 65, 66, 67, 68, 69, 70, 71, 72, 73, 74, 75, 76, 77, 78, 79, 80, 81, 82, 83, 84, 85, 86, 87, 88, 89, 90, 91, 92, 93, 94, 95, 96, 97] (by decide +kernel) (by decide +kernel)) (goodIn_sub (fun _ h => List.mem_cons_of_mem _ (List.mem_append_left _ (List.mem_append_right _ h))) (by decide +kernel))) (goodIn_sub (fun _ h => List.mem_cons_of_mem _ (List.mem_append_right _ h)) (by decide +kernel))
set_option maxRecDepth 20000 in
theorem gL_book_X7_book : GoodIn wsL_book (wsV RL 45 RX7 yX7_book wsX7_book) := goodIn_app (goodIn_of _ (by decide +kernel)) ggL_book_X7_book
theorem dL_book_0 : decode cL_book 0 = .ok (.aload 6, 2) := by decide +kernel
theorem dL_book_2 : decode cL_book 2 = .ok (.iconst 0, 1) := by decide +kernel
theorem dL_book_3 : decode cL_book 3 = .ok (.aload_n 0, 1) := by decide +kernel
theorem dL_book_4 : decode cL_book 4 = .ok (.iload_n 1, 1) := by decide +kernel
theorem dL_book_5 : decode cL_book 5 = .ok (.iload_n 2, 1) := by decide +kernel
theorem dL_book_6 : decode cL_book 6 = .ok (.iload_n 3, 1) := by decide +kernel
theorem dL_book_7 : decode cL_book 7 = .ok (.iload 4, 2) := by decide +kernel
theorem dL_book_9 : decode cL_book 9 = .ok (.iload 5, 2) := by decide +kernel
theorem dL_book_11 : decode cL_book 11 = .ok (.invokevirtual 45, 3) := by decide +kernel
theorem dL_book_14 : decode cL_book 14 = .ok (.i2l, 1) := by decide +kernel
theorem dL_book_15 : decode cL_book 15 = .ok (.lastore, 1) := by decide +kernel
theorem dL_book_16 : decode cL_book 16 = .ok (.goto 11, 3) := by decide +kernel
theorem dL_book_19 : decode cL_book 19 = .ok (.astore 7, 2) := by decide +kernel
theorem dL_book_21 : decode cL_book 21 = .ok (.iconst 1, 1) := by decide +kernel
theorem dL_book_22 : decode cL_book 22 = .ok (.ireturn, 1) := by decide +kernel
theorem dL_book_23 : decode cL_book 23 = .ok (.astore 7, 2) := by decide +kernel
theorem dL_book_25 : decode cL_book 25 = .ok (.iconst 2, 1) := by decide +kernel
theorem dL_book_26 : decode cL_book 26 = .ok (.ireturn, 1) := by decide +kernel
theorem dL_book_27 : decode cL_book 27 = .ok (.iconst 0, 1) := by decide +kernel
theorem dL_book_28 : decode cL_book 28 = .ok (.ireturn, 1) := by decide +kernel
set_option maxRecDepth 20000 in
theorem ggL_sew_X7_sew : GoodIn wsL_sew wsX7_sew := goodIn_ca (goodIn_ca (goodIn_ca (goodIn_r _ [8, 9, 10, 11, 7, 12, 13, 14, 15, 16, 17, 18, 19, 20, 21, 22, 23, 24, 25, 26, 27, 28, 29, 30, 31, 32, 33, 34, 35, 36, 37, 38, 39, 40, 41, 42, 43, 44, 45, 46, 47, 48, 49, 50, 51, 52, 53, 54, 55, 56, 57, 58, 59, 60, 61, 62, 63, 64, 65, 66, 67, 68, 69, 70, 71, 72, 73, 74, 75, 76, 77, 78, 79, 80, 81, 82, 83] (by decide +kernel) (by decide +kernel)) (goodIn_sub (fun _ h => List.mem_cons_of_mem _ (List.mem_append_left _ (List.mem_append_left _ (List.mem_append_right _ h)))) (by decide +kernel))) (goodIn_sub (fun _ h => List.mem_cons_of_mem _ (List.mem_append_left _ (List.mem_append_right _ h))) (by decide +kernel))) (goodIn_sub (fun _ h => List.mem_cons_of_mem _ (List.mem_append_right _ h)) (by decide +kernel))
set_option maxRecDepth 20000 in
theorem gL_sew_X7_sew : GoodIn wsL_sew (wsV RL 49 RX7 yX7_sew wsX7_sew) := goodIn_app (goodIn_of _ (by decide +kernel)) ggL_sew_X7_sew
theorem dL_sew_0 : decode cL_sew 0 = .ok (.aload_n 3, 1) := by decide +kernel
theorem dL_sew_1 : decode cL_sew 1 = .ok (.iconst 0, 1) := by decide +kernel
theorem dL_sew_2 : decode cL_sew 2 = .ok (.aload_n 0, 1) := by decide +kernel
theorem dL_sew_3 : decode cL_sew 3 = .ok (.iload_n 1, 1) := by decide +kernel
theorem dL_sew_4 : decode cL_sew 4 = .ok (.iload_n 2, 1) := by decide +kernel
theorem dL_sew_5 : decode cL_sew 5 = .ok (.invokevirtual 49, 3) := by decide +kernel
theorem dL_sew_8 : decode cL_sew 8 = .ok (.i2l, 1) := by decide +kernel
theorem dL_sew_9 : decode cL_sew 9 = .ok (.lastore, 1) := by decide +kernel
theorem dL_sew_10 : decode cL_sew 10 = .ok (.goto 15, 3) := by decide +kernel
theorem dL_sew_13 : decode cL_sew 13 = .ok (.astore 4, 2) := by decide +kernel
theorem dL_sew_15 : decode cL_sew 15 = .ok (.iconst 1, 1) := by decide +kernel
theorem dL_sew_16 : decode cL_sew 16 = .ok (.ireturn, 1) := by decide +kernel
theorem dL_sew_17 : decode cL_sew 17 = .ok (.astore 4, 2) := by decide +kernel
theorem dL_sew_19 : decode cL_sew 19 = .ok (.iconst 2, 1) := by decide +kernel
theorem dL_sew_20 : decode cL_sew 20 = .ok (.ireturn, 1) := by decide +kernel
theorem dL_sew_21 : decode cL_sew 21 = .ok (.astore 4, 2) := by decide +kernel
theorem dL_sew_23 : decode cL_sew 23 = .ok (.iconst 3, 1) := by decide +kernel
theorem dL_sew_24 : decode cL_sew 24 = .ok (.ireturn, 1) := by decide +kernel
theorem dL_sew_25 : decode cL_sew 25 = .ok (.iconst 0, 1) := by decide +kernel
theorem dL_sew_26 : decode cL_sew 26 = .ok (.ireturn, 1) := by decide +kernel
set_option maxRecDepth 20000 in
theorem ggL_unsew_X7_unsew : GoodIn wsL_unsew wsX7_unsew := goodIn_ca (goodIn_ca (goodIn_ca (goodIn_r _ [8, 9, 10, 11, 7, 12, 13, 14, 15, 16, 17, 18, 19, 20, 21, 22, 23, 24, 25, 26, 27, 28, 29, 30, 31, 32, 33, 34, 35, 36, 37, 38, 39, 40, 41, 42, 43, 44, 45, 46, 47, 48, 49, 50, 51, 52, 53, 54, 55, 56, 57, 58, 59, 60, 61, 62, 63, 64, 65, 66, 67, 68, 69, 70, 71, 72, 73, 74, 75, 76, 77, 78, 79, 80] (by decide +kernel) (by decide +kernel)) (goodIn_sub (fun _ h => List.mem_cons_of_mem _ (List.mem_append_left _ (List.mem_append_left _ (List.mem_append_right _ h)))) (by decide +kernel))) (goodIn_sub (fun _ h => List.mem_cons_of_mem _ (List.mem_append_left _ (List.mem_append_right _ h))) (by decide +kernel))) (goodIn_sub (fun _ h => List.mem_cons_of_mem _ (List.mem_append_right _ h)) (by decide +kernel))
set_option maxRecDepth 20000 in
theorem gL_unsew_X7_unsew : GoodIn wsL_unsew (wsV RL 52 RX7 yX7_unsew wsX7_unsew) := goodIn_app (goodIn_of _ (by decide +kernel)) ggL_unsew_X7_unsew
theorem dL_unsew_0 : decode cL_unsew 0 = .ok (.aload_n 3, 1) := by decide +kernel
theorem dL_unsew_1 : decode cL_unsew 1 = .ok (.iconst 0, 1) := by decide +kernel
theorem dL_unsew_2 : decode cL_unsew 2 = .ok (.aload_n 0, 1) := by decide +kernel
theorem dL_unsew_3 : decode cL_unsew 3 = .ok (.iload_n 1, 1) := by decide +kernel
theorem dL_unsew_4 : decode cL_unsew 4 = .ok (.iload_n 2, 1) := by decide +kernel
theorem dL_unsew_5 : decode cL_unsew 5 = .ok (.invokevirtual 52, 3) := by decide +kernel
theorem dL_unsew_8 : decode cL_unsew 8 = .ok (.i2l, 1) := by decide +kernel
theorem dL_unsew_9 : decode cL_unsew 9 = .ok (.lastore, 1) := by decide +kernel
theorem dL_unsew_10 : decode cL_unsew 10 = .ok (.goto 15, 3) := by decide +kernel
theorem dL_unsew_13 : decode cL_unsew 13 = .ok (.astore 4, 2) := by decide +kernel
theorem dL_unsew_15 : decode cL_unsew 15 = .ok (.iconst 1, 1) := by decide +kernel
theorem dL_unsew_16 : decode cL_unsew 16 = .ok (.ireturn, 1) := by decide +kernel
theorem dL_unsew_17 : decode cL_unsew 17 = .ok (.astore 4, 2) := by decide +kernel
theorem dL_unsew_19 : decode cL_unsew 19 = .ok (.iconst 2, 1) := by decide +kernel
theorem dL_unsew_20 : decode cL_unsew 20 = .ok (.ireturn, 1) := by decide +kernel
theorem dL_unsew_21 : decode cL_unsew 21 = .ok (.astore 4, 2) := by decide +kernel
theorem dL_unsew_23 : decode cL_unsew 23 = .ok (.iconst 3, 1) := by decide +kernel
theorem dL_unsew_24 : decode cL_unsew 24 = .ok (.ireturn, 1) := by decide +kernel
theorem dL_unsew_25 : decode cL_unsew 25 = .ok (.iconst 0, 1) := by decide +kernel
theorem dL_unsew_26 : decode cL_unsew 26 = .ok (.ireturn, 1) := by decide +kernel
set_option maxRecDepth 20000 in
theorem ggL_ofThread_X7_ofThread : GoodIn wsL_ofThread wsX7_ofThread := goodIn_ca (goodIn_ca (goodIn_r _ [7, 8, 9, 10, 6, 11, 12, 13, 14, 15, 16, 17, 18, 19, 20, 21, 22, 23, 24, 25, 26, 27, 28, 29, 30, 31, 32, 33, 34, 35, 36, 37, 38, 39, 40, 41, 42, 43, 44, 45, 46, 47, 48, 49, 50, 51, 52, 53, 54, 55, 56, 57, 58, 59, 60, 61, 62, 63, 64] (by decide +kernel) (by decide +kernel)) (goodIn_sub (fun _ h => List.mem_cons_of_mem _ (List.mem_append_left _ (List.mem_append_right _ h))) (by decide +kernel))) (goodIn_sub (fun _ h => List.mem_cons_of_mem _ (List.mem_append_right _ h)) (by decide +kernel))
set_option maxRecDepth 20000 in
theorem gL_ofThread_X7_ofThread : GoodIn wsL_ofThread (wsV RL 55 RX7 yX7_ofThread wsX7_ofThread) := goodIn_app (goodIn_of _ (by decide +kernel)) ggL_ofThread_X7_ofThread
theorem dL_ofThread_0 : decode cL_ofThread 0 = .ok (.aload_n 3, 1) := by decide +kernel
theorem dL_ofThread_1 : decode cL_ofThread 1 = .ok (.iconst 0, 1) := by decide +kernel
theorem dL_ofThread_2 : decode cL_ofThread 2 = .ok (.aload_n 0, 1) := by decide +kernel
theorem dL_ofThread_3 : decode cL_ofThread 3 = .ok (.iload_n 1, 1) := by decide +kernel
theorem dL_ofThread_4 : decode cL_ofThread 4 = .ok (.iload_n 2, 1) := by decide +kernel
theorem dL_ofThread_5 : decode cL_ofThread 5 = .ok (.invokevirtual 55, 3) := by decide +kernel
theorem dL_ofThread_8 : decode cL_ofThread 8 = .ok (.i2l, 1) := by decide +kernel
theorem dL_ofThread_9 : decode cL_ofThread 9 = .ok (.lastore, 1) := by decide +kernel
theorem dL_ofThread_10 : decode cL_ofThread 10 = .ok (.goto 11, 3) := by decide +kernel
theorem dL_ofThread_13 : decode cL_ofThread 13 = .ok (.astore 4, 2) := by decide +kernel
theorem dL_ofThread_15 : decode cL_ofThread 15 = .ok (.iconst 1, 1) := by decide +kernel
theorem dL_ofThread_16 : decode cL_ofThread 16 = .ok (.ireturn, 1) := by decide +kernel
theorem dL_ofThread_17 : decode cL_ofThread 17 = .ok (.astore 4, 2) := by decide +kernel
theorem dL_ofThread_19 : decode cL_ofThread 19 = .ok (.iconst 2, 1) := by decide +kernel
theorem dL_ofThread_20 : decode cL_ofThread 20 = .ok (.ireturn, 1) := by decide +kernel
theorem dL_ofThread_21 : decode cL_ofThread 21 = .ok (.iconst 0, 1) := by decide +kernel
theorem dL_ofThread_22 : decode cL_ofThread 22 = .ok (.ireturn, 1) := by decide +kernel
set_option maxRecDepth 20000 in
theorem ggL_stitches_X7_stitches : GoodIn wsL_stitches wsX7_stitches := goodIn_ca (goodIn_r _ [6, 7, 8, 9, 5, 10, 11, 12, 13, 14, 15, 16, 17, 18, 19, 20, 21, 22, 23, 24, 25, 26, 27, 28, 29, 30, 31, 32, 33, 34, 35, 36, 37, 38, 39, 40, 41, 42, 43, 44, 45, 46, 47, 48, 49] (by decide +kernel) (by decide +kernel)) (goodIn_sub (fun _ h => List.mem_cons_of_mem _ (List.mem_append_right _ h)) (by decide +kernel))
set_option maxRecDepth 20000 in
theorem gL_stitches_X7_stitches : GoodIn wsL_stitches (wsV RL 58 RX7 yX7_stitches wsX7_stitches) := goodIn_app (goodIn_of _ (by decide +kernel)) ggL_stitches_X7_stitches
theorem dL_stitches_0 : decode cL_stitches 0 = .ok (.aload 4, 2) := by decide +kernel
theorem dL_stitches_2 : decode cL_stitches 2 = .ok (.iconst 0, 1) := by decide +kernel
theorem dL_stitches_3 : decode cL_stitches 3 = .ok (.aload_n 0, 1) := by decide +kernel
theorem dL_stitches_4 : decode cL_stitches 4 = .ok (.iload_n 1, 1) := by decide +kernel
theorem dL_stitches_5 : decode cL_stitches 5 = .ok (.iload_n 2, 1) := by decide +kernel
theorem dL_stitches_6 : decode cL_stitches 6 = .ok (.iload_n 3, 1) := by decide +kernel
theorem dL_stitches_7 : decode cL_stitches 7 = .ok (.invokevirtual 58, 3) := by decide +kernel
theorem dL_stitches_10 : decode cL_stitches 10 = .ok (.i2l, 1) := by decide +kernel
theorem dL_stitches_11 : decode cL_stitches 11 = .ok (.lastore, 1) := by decide +kernel
theorem dL_stitches_12 : decode cL_stitches 12 = .ok (.goto 7, 3) := by decide +kernel
theorem dL_stitches_15 : decode cL_stitches 15 = .ok (.astore 5, 2) := by decide +kernel
theorem dL_stitches_17 : decode cL_stitches 17 = .ok (.iconst 1, 1) := by decide +kernel
theorem dL_stitches_18 : decode cL_stitches 18 = .ok (.ireturn, 1) := by decide +kernel
theorem dL_stitches_19 : decode cL_stitches 19 = .ok (.iconst 0, 1) := by decide +kernel
theorem dL_stitches_20 : decode cL_stitches 20 = .ok (.ireturn, 1) := by decide +kernel
set_option maxRecDepth 20000 in
theorem ggL_isHeld_X7_isHeld : GoodIn wsL_isHeld wsX7_isHeld := goodIn_ca (goodIn_r _ [6, 7, 8, 9, 5, 10, 11, 12, 13, 14, 15, 16, 17, 18, 19, 20, 21, 22, 23, 24, 25, 26, 27, 28, 29, 30, 31, 32, 33, 34, 35, 36, 37, 38, 39, 40, 41, 42, 43, 44, 45, 46, 47, 48, 49, 50, 51, 52, 53, 54] (by decide +kernel) (by decide +kernel)) (goodIn_sub (fun _ h => List.mem_cons_of_mem _ (List.mem_append_right _ h)) (by decide +kernel))
set_option maxRecDepth 20000 in
theorem gL_isHeld_X7_isHeld : GoodIn wsL_isHeld (wsV RL 61 RX7 yX7_isHeld wsX7_isHeld) := goodIn_app (goodIn_of _ (by decide +kernel)) ggL_isHeld_X7_isHeld
theorem dL_isHeld_0 : decode cL_isHeld 0 = .ok (.aload_n 3, 1) := by decide +kernel
theorem dL_isHeld_1 : decode cL_isHeld 1 = .ok (.iconst 0, 1) := by decide +kernel
theorem dL_isHeld_2 : decode cL_isHeld 2 = .ok (.aload_n 0, 1) := by decide +kernel
theorem dL_isHeld_3 : decode cL_isHeld 3 = .ok (.iload_n 1, 1) := by decide +kernel
theorem dL_isHeld_4 : decode cL_isHeld 4 = .ok (.iload_n 2, 1) := by decide +kernel
theorem dL_isHeld_5 : decode cL_isHeld 5 = .ok (.invokevirtual 61, 3) := by decide +kernel
theorem dL_isHeld_8 : decode cL_isHeld 8 = .ok (.ifCond .eq 7, 3) := by decide +kernel
theorem dL_isHeld_11 : decode cL_isHeld 11 = .ok (.lconst 1, 1) := by decide +kernel
theorem dL_isHeld_12 : decode cL_isHeld 12 = .ok (.goto 4, 3) := by decide +kernel
theorem dL_isHeld_15 : decode cL_isHeld 15 = .ok (.lconst 0, 1) := by decide +kernel
theorem dL_isHeld_16 : decode cL_isHeld 16 = .ok (.lastore, 1) := by decide +kernel
theorem dL_isHeld_17 : decode cL_isHeld 17 = .ok (.goto 7, 3) := by decide +kernel
theorem dL_isHeld_20 : decode cL_isHeld 20 = .ok (.astore 4, 2) := by decide +kernel
theorem dL_isHeld_22 : decode cL_isHeld 22 = .ok (.iconst 1, 1) := by decide +kernel
theorem dL_isHeld_23 : decode cL_isHeld 23 = .ok (.ireturn, 1) := by decide +kernel
theorem dL_isHeld_24 : decode cL_isHeld 24 = .ok (.iconst 0, 1) := by decide +kernel
theorem dL_isHeld_25 : decode cL_isHeld 25 = .ok (.ireturn, 1) := by decide +kernel
set_option maxRecDepth 20000 in
theorem ggL_back_X7_back : GoodIn wsL_back wsX7_back := goodIn_ca (goodIn_ca (goodIn_r _ [7, 8, 9, 10, 6, 11, 12, 13, 14, 15, 16, 17, 18, 19, 20, 21, 22, 23, 24, 25, 26, 27, 28, 29, 30, 31, 32, 33, 34, 35, 36] (by decide +kernel) (by decide +kernel)) (goodIn_sub (fun _ h => List.mem_cons_of_mem _ (List.mem_append_left _ (List.mem_append_right _ h))) (by decide +kernel))) (goodIn_sub (fun _ h => List.mem_cons_of_mem _ (List.mem_append_right _ h)) (by decide +kernel))
set_option maxRecDepth 20000 in
theorem gL_back_X7_back : GoodIn wsL_back (wsV RL 65 RX7 yX7_back wsX7_back) := goodIn_app (goodIn_of _ (by decide +kernel)) ggL_back_X7_back
theorem dL_back_0 : decode cL_back 0 = .ok (.aload_n 3, 1) := by decide +kernel
theorem dL_back_1 : decode cL_back 1 = .ok (.iconst 0, 1) := by decide +kernel
theorem dL_back_2 : decode cL_back 2 = .ok (.aload_n 0, 1) := by decide +kernel
theorem dL_back_3 : decode cL_back 3 = .ok (.iload_n 1, 1) := by decide +kernel
theorem dL_back_4 : decode cL_back 4 = .ok (.iload_n 2, 1) := by decide +kernel
theorem dL_back_5 : decode cL_back 5 = .ok (.invokevirtual 65, 3) := by decide +kernel
theorem dL_back_8 : decode cL_back 8 = .ok (.i2l, 1) := by decide +kernel
theorem dL_back_9 : decode cL_back 9 = .ok (.lastore, 1) := by decide +kernel
theorem dL_back_10 : decode cL_back 10 = .ok (.goto 11, 3) := by decide +kernel
theorem dL_back_13 : decode cL_back 13 = .ok (.astore 4, 2) := by decide +kernel
theorem dL_back_15 : decode cL_back 15 = .ok (.iconst 1, 1) := by decide +kernel
theorem dL_back_16 : decode cL_back 16 = .ok (.ireturn, 1) := by decide +kernel
theorem dL_back_17 : decode cL_back 17 = .ok (.astore 4, 2) := by decide +kernel
theorem dL_back_19 : decode cL_back 19 = .ok (.iconst 2, 1) := by decide +kernel
theorem dL_back_20 : decode cL_back 20 = .ok (.ireturn, 1) := by decide +kernel
theorem dL_back_21 : decode cL_back 21 = .ok (.iconst 0, 1) := by decide +kernel
theorem dL_back_22 : decode cL_back 22 = .ok (.ireturn, 1) := by decide +kernel
set_option maxRecDepth 20000 in
theorem ggL_swelling_X7_swelling : GoodIn wsL_swelling wsX7_swelling := goodIn_ca (goodIn_r _ [6, 7, 8, 9, 5, 10, 11, 12, 13, 14, 15, 16, 17, 18, 19, 20, 21, 22, 23, 24, 25, 26, 27, 28, 29, 30, 31, 32, 33, 34, 35, 36, 37, 38, 39, 40, 41, 42, 43, 44, 45, 46, 47, 48, 49, 50, 51, 52, 53, 54, 55, 56, 57, 58, 59, 60] (by decide +kernel) (by decide +kernel)) (goodIn_sub (fun _ h => List.mem_cons_of_mem _ (List.mem_append_right _ h)) (by decide +kernel))
set_option maxRecDepth 20000 in
theorem gL_swelling_X7_swelling : GoodIn wsL_swelling (wsV RL 68 RX7 yX7_swelling wsX7_swelling) := goodIn_app (goodIn_of _ (by decide +kernel)) ggL_swelling_X7_swelling
theorem dL_swelling_0 : decode cL_swelling 0 = .ok (.aload_n 2, 1) := by decide +kernel
theorem dL_swelling_1 : decode cL_swelling 1 = .ok (.iconst 0, 1) := by decide +kernel
theorem dL_swelling_2 : decode cL_swelling 2 = .ok (.aload_n 0, 1) := by decide +kernel
theorem dL_swelling_3 : decode cL_swelling 3 = .ok (.iload_n 1, 1) := by decide +kernel
theorem dL_swelling_4 : decode cL_swelling 4 = .ok (.invokevirtual 68, 3) := by decide +kernel
theorem dL_swelling_7 : decode cL_swelling 7 = .ok (.i2l, 1) := by decide +kernel
theorem dL_swelling_8 : decode cL_swelling 8 = .ok (.lastore, 1) := by decide +kernel
theorem dL_swelling_9 : decode cL_swelling 9 = .ok (.goto 6, 3) := by decide +kernel
theorem dL_swelling_12 : decode cL_swelling 12 = .ok (.astore_n 3, 1) := by decide +kernel
theorem dL_swelling_13 : decode cL_swelling 13 = .ok (.iconst 1, 1) := by decide +kernel
theorem dL_swelling_14 : decode cL_swelling 14 = .ok (.ireturn, 1) := by decide +kernel
theorem dL_swelling_15 : decode cL_swelling 15 = .ok (.iconst 0, 1) := by decide +kernel
theorem dL_swelling_16 : decode cL_swelling 16 = .ok (.ireturn, 1) := by decide +kernel
set_option maxRecDepth 20000 in
theorem ggL_strain_X7_strain : GoodIn wsL_strain wsX7_strain := goodIn_ca (goodIn_ca (goodIn_r _ [7, 8, 9, 10, 6, 11, 12, 13, 14, 15, 16, 17, 18, 19, 20, 21, 22, 23, 24, 25, 26, 27, 28, 29, 30, 31, 32, 33, 34, 35, 36, 37, 38, 39, 40, 41, 42, 43, 44, 45, 46, 47, 48, 49, 50, 51, 52, 53, 54, 55, 56, 57, 58, 59, 60, 61, 62, 63, 64, 65, 66, 67, 68, 69, 70, 71, 72, 73, 74, 75, 76, 77, 78, 79, 80, 81] (by decide +kernel) (by decide +kernel)) (goodIn_sub (fun _ h => List.mem_cons_of_mem _ (List.mem_append_left _ (List.mem_append_right _ h))) (by decide +kernel))) (goodIn_sub (fun _ h => List.mem_cons_of_mem _ (List.mem_append_right _ h)) (by decide +kernel))
set_option maxRecDepth 20000 in
theorem gL_strain_X7_strain : GoodIn wsL_strain (wsV RL 72 RX7 yX7_strain wsX7_strain) := goodIn_app (goodIn_of _ (by decide +kernel)) ggL_strain_X7_strain
theorem dL_strain_0 : decode cL_strain 0 = .ok (.aload_n 3, 1) := by decide +kernel
theorem dL_strain_1 : decode cL_strain 1 = .ok (.iconst 0, 1) := by decide +kernel
theorem dL_strain_2 : decode cL_strain 2 = .ok (.aload_n 0, 1) := by decide +kernel
theorem dL_strain_3 : decode cL_strain 3 = .ok (.iload_n 1, 1) := by decide +kernel
theorem dL_strain_4 : decode cL_strain 4 = .ok (.iload_n 2, 1) := by decide +kernel
theorem dL_strain_5 : decode cL_strain 5 = .ok (.invokevirtual 72, 3) := by decide +kernel
theorem dL_strain_8 : decode cL_strain 8 = .ok (.i2l, 1) := by decide +kernel
theorem dL_strain_9 : decode cL_strain 9 = .ok (.lastore, 1) := by decide +kernel
theorem dL_strain_10 : decode cL_strain 10 = .ok (.goto 11, 3) := by decide +kernel
theorem dL_strain_13 : decode cL_strain 13 = .ok (.astore 4, 2) := by decide +kernel
theorem dL_strain_15 : decode cL_strain 15 = .ok (.iconst 1, 1) := by decide +kernel
theorem dL_strain_16 : decode cL_strain 16 = .ok (.ireturn, 1) := by decide +kernel
theorem dL_strain_17 : decode cL_strain 17 = .ok (.astore 4, 2) := by decide +kernel
theorem dL_strain_19 : decode cL_strain 19 = .ok (.iconst 2, 1) := by decide +kernel
theorem dL_strain_20 : decode cL_strain 20 = .ok (.ireturn, 1) := by decide +kernel
theorem dL_strain_21 : decode cL_strain 21 = .ok (.iconst 0, 1) := by decide +kernel
theorem dL_strain_22 : decode cL_strain 22 = .ok (.ireturn, 1) := by decide +kernel
set_option maxRecDepth 20000 in
theorem ggL_worst_X7_worst : GoodIn wsL_worst wsX7_worst := goodIn_ca (goodIn_r _ [6, 7, 8, 9, 5, 10, 11, 12, 13, 14, 15, 16, 17, 18, 19, 20, 21, 22, 23, 24, 25, 26, 27, 28, 29, 30, 31, 32, 33, 34, 35, 36, 37, 38, 39, 40, 41, 42, 43, 44, 45, 46, 47, 48, 49, 50] (by decide +kernel) (by decide +kernel)) (goodIn_sub (fun _ h => List.mem_cons_of_mem _ (List.mem_append_right _ h)) (by decide +kernel))
set_option maxRecDepth 20000 in
theorem gL_worst_X7_worst : GoodIn wsL_worst (wsV RL 75 RX7 yX7_worst wsX7_worst) := goodIn_app (goodIn_of _ (by decide +kernel)) ggL_worst_X7_worst
theorem dL_worst_0 : decode cL_worst 0 = .ok (.aload_n 2, 1) := by decide +kernel
theorem dL_worst_1 : decode cL_worst 1 = .ok (.iconst 0, 1) := by decide +kernel
theorem dL_worst_2 : decode cL_worst 2 = .ok (.aload_n 0, 1) := by decide +kernel
theorem dL_worst_3 : decode cL_worst 3 = .ok (.iload_n 1, 1) := by decide +kernel
theorem dL_worst_4 : decode cL_worst 4 = .ok (.invokevirtual 75, 3) := by decide +kernel
theorem dL_worst_7 : decode cL_worst 7 = .ok (.i2l, 1) := by decide +kernel
theorem dL_worst_8 : decode cL_worst 8 = .ok (.lastore, 1) := by decide +kernel
theorem dL_worst_9 : decode cL_worst 9 = .ok (.goto 6, 3) := by decide +kernel
theorem dL_worst_12 : decode cL_worst 12 = .ok (.astore_n 3, 1) := by decide +kernel
theorem dL_worst_13 : decode cL_worst 13 = .ok (.iconst 1, 1) := by decide +kernel
theorem dL_worst_14 : decode cL_worst 14 = .ok (.ireturn, 1) := by decide +kernel
theorem dL_worst_15 : decode cL_worst 15 = .ok (.iconst 0, 1) := by decide +kernel
theorem dL_worst_16 : decode cL_worst 16 = .ok (.ireturn, 1) := by decide +kernel
set_option maxRecDepth 20000 in
theorem ggL_opens_X7_opens : GoodIn wsL_opens wsX7_opens := goodIn_ca (goodIn_ca (goodIn_r _ [7, 8, 9, 10, 11, 6, 12, 13, 14, 15, 16, 17, 18, 19, 20, 21, 22, 23, 24, 25, 26, 27, 28, 29, 30, 31, 32, 33, 34, 35, 36, 37, 38, 39, 40, 41, 42, 43, 44, 45, 46, 47, 48, 49, 50, 51, 52, 53, 54, 55, 56, 57, 58, 59, 60, 61, 62, 63, 64, 65, 66, 67, 68, 69, 70, 71, 72, 73, 74, 75, 76, 77, 78, 79, 80, 81, 82, 83, 84, 85, 86, 87] (by decide +kernel) (by decide +kernel)) (goodIn_sub (fun _ h => List.mem_cons_of_mem _ (List.mem_append_left _ (List.mem_append_right _ h))) (by decide +kernel))) (goodIn_sub (fun _ h => List.mem_cons_of_mem _ (List.mem_append_right _ h)) (by decide +kernel))
set_option maxRecDepth 20000 in
theorem gL_opens_X7_opens : GoodIn wsL_opens (wsV RL 78 RX7 yX7_opens wsX7_opens) := goodIn_app (goodIn_of _ (by decide +kernel)) ggL_opens_X7_opens
theorem dL_opens_0 : decode cL_opens 0 = .ok (.aload_n 3, 1) := by decide +kernel
theorem dL_opens_1 : decode cL_opens 1 = .ok (.iconst 0, 1) := by decide +kernel
theorem dL_opens_2 : decode cL_opens 2 = .ok (.aload_n 0, 1) := by decide +kernel
theorem dL_opens_3 : decode cL_opens 3 = .ok (.iload_n 1, 1) := by decide +kernel
theorem dL_opens_4 : decode cL_opens 4 = .ok (.iload_n 2, 1) := by decide +kernel
theorem dL_opens_5 : decode cL_opens 5 = .ok (.invokevirtual 78, 3) := by decide +kernel
theorem dL_opens_8 : decode cL_opens 8 = .ok (.i2l, 1) := by decide +kernel
theorem dL_opens_9 : decode cL_opens 9 = .ok (.lastore, 1) := by decide +kernel
theorem dL_opens_10 : decode cL_opens 10 = .ok (.goto 11, 3) := by decide +kernel
theorem dL_opens_13 : decode cL_opens 13 = .ok (.astore 4, 2) := by decide +kernel
theorem dL_opens_15 : decode cL_opens 15 = .ok (.iconst 1, 1) := by decide +kernel
theorem dL_opens_16 : decode cL_opens 16 = .ok (.ireturn, 1) := by decide +kernel
theorem dL_opens_17 : decode cL_opens 17 = .ok (.astore 4, 2) := by decide +kernel
theorem dL_opens_19 : decode cL_opens 19 = .ok (.iconst 2, 1) := by decide +kernel
theorem dL_opens_20 : decode cL_opens 20 = .ok (.ireturn, 1) := by decide +kernel
theorem dL_opens_21 : decode cL_opens 21 = .ok (.iconst 0, 1) := by decide +kernel
theorem dL_opens_22 : decode cL_opens 22 = .ok (.ireturn, 1) := by decide +kernel
set_option maxRecDepth 20000 in
theorem ggL_skin_X7_skin : GoodIn wsL_skin wsX7_skin := goodIn_ca (goodIn_ca (goodIn_r _ [7, 8, 9, 10, 11, 12, 13, 14, 6, 15, 16, 17, 18, 19, 20, 21, 22, 23, 24, 25, 26, 27, 28, 29, 30, 31, 32, 33, 34, 35, 36, 37, 38, 39, 40, 41] (by decide +kernel) (by decide +kernel)) (goodIn_sub (fun _ h => List.mem_cons_of_mem _ (List.mem_append_left _ (List.mem_append_right _ h))) (by decide +kernel))) (goodIn_sub (fun _ h => List.mem_cons_of_mem _ (List.mem_append_right _ h)) (by decide +kernel))
set_option maxRecDepth 20000 in
theorem gL_skin_X7_skin : GoodIn wsL_skin (wsV RL 81 RX7 yX7_skin wsX7_skin) := goodIn_app (goodIn_of _ (by decide +kernel)) ggL_skin_X7_skin
theorem dL_skin_0 : decode cL_skin 0 = .ok (.aload_n 2, 1) := by decide +kernel
theorem dL_skin_1 : decode cL_skin 1 = .ok (.iconst 0, 1) := by decide +kernel
theorem dL_skin_2 : decode cL_skin 2 = .ok (.aload_n 0, 1) := by decide +kernel
theorem dL_skin_3 : decode cL_skin 3 = .ok (.iload_n 1, 1) := by decide +kernel
theorem dL_skin_4 : decode cL_skin 4 = .ok (.invokevirtual 81, 3) := by decide +kernel
theorem dL_skin_7 : decode cL_skin 7 = .ok (.i2l, 1) := by decide +kernel
theorem dL_skin_8 : decode cL_skin 8 = .ok (.lastore, 1) := by decide +kernel
theorem dL_skin_9 : decode cL_skin 9 = .ok (.goto 9, 3) := by decide +kernel
theorem dL_skin_12 : decode cL_skin 12 = .ok (.astore_n 3, 1) := by decide +kernel
theorem dL_skin_13 : decode cL_skin 13 = .ok (.iconst 1, 1) := by decide +kernel
theorem dL_skin_14 : decode cL_skin 14 = .ok (.ireturn, 1) := by decide +kernel
theorem dL_skin_15 : decode cL_skin 15 = .ok (.astore_n 3, 1) := by decide +kernel
theorem dL_skin_16 : decode cL_skin 16 = .ok (.iconst 2, 1) := by decide +kernel
theorem dL_skin_17 : decode cL_skin 17 = .ok (.ireturn, 1) := by decide +kernel
theorem dL_skin_18 : decode cL_skin 18 = .ok (.iconst 0, 1) := by decide +kernel
theorem dL_skin_19 : decode cL_skin 19 = .ok (.ireturn, 1) := by decide +kernel
set_option maxRecDepth 20000 in
theorem ggL_pare_X7_pare : GoodIn wsL_pare wsX7_pare := goodIn_ca (goodIn_ca (goodIn_ca (goodIn_r _ [8, 9, 10, 11, 7, 12, 13, 14, 15, 16, 17, 18, 19, 20, 21, 22, 23, 24, 25, 26, 27, 28, 29, 30, 31, 32, 33, 34, 35, 36, 37, 38, 39, 40, 41, 42, 43, 44, 45, 46, 47, 48, 49, 50, 51, 52, 53, 54, 55, 56, 57, 58, 59, 60, 61] (by decide +kernel) (by decide +kernel)) (goodIn_sub (fun _ h => List.mem_cons_of_mem _ (List.mem_append_left _ (List.mem_append_left _ (List.mem_append_right _ h)))) (by decide +kernel))) (goodIn_sub (fun _ h => List.mem_cons_of_mem _ (List.mem_append_left _ (List.mem_append_right _ h))) (by decide +kernel))) (goodIn_sub (fun _ h => List.mem_cons_of_mem _ (List.mem_append_right _ h)) (by decide +kernel))
set_option maxRecDepth 20000 in
theorem gL_pare_X7_pare : GoodIn wsL_pare (wsV RL 84 RX7 yX7_pare wsX7_pare) := goodIn_app (goodIn_of _ (by decide +kernel)) ggL_pare_X7_pare
theorem dL_pare_0 : decode cL_pare 0 = .ok (.aload 7, 2) := by decide +kernel
theorem dL_pare_2 : decode cL_pare 2 = .ok (.iconst 0, 1) := by decide +kernel
theorem dL_pare_3 : decode cL_pare 3 = .ok (.aload_n 0, 1) := by decide +kernel
theorem dL_pare_4 : decode cL_pare 4 = .ok (.iload_n 1, 1) := by decide +kernel
theorem dL_pare_5 : decode cL_pare 5 = .ok (.iload_n 2, 1) := by decide +kernel
theorem dL_pare_6 : decode cL_pare 6 = .ok (.iload_n 3, 1) := by decide +kernel
theorem dL_pare_7 : decode cL_pare 7 = .ok (.iload 4, 2) := by decide +kernel
theorem dL_pare_9 : decode cL_pare 9 = .ok (.iload 5, 2) := by decide +kernel
theorem dL_pare_11 : decode cL_pare 11 = .ok (.iload 6, 2) := by decide +kernel
theorem dL_pare_13 : decode cL_pare 13 = .ok (.invokevirtual 84, 3) := by decide +kernel
theorem dL_pare_16 : decode cL_pare 16 = .ok (.i2l, 1) := by decide +kernel
theorem dL_pare_17 : decode cL_pare 17 = .ok (.lastore, 1) := by decide +kernel
theorem dL_pare_18 : decode cL_pare 18 = .ok (.goto 15, 3) := by decide +kernel
theorem dL_pare_21 : decode cL_pare 21 = .ok (.astore 8, 2) := by decide +kernel
theorem dL_pare_23 : decode cL_pare 23 = .ok (.iconst 1, 1) := by decide +kernel
theorem dL_pare_24 : decode cL_pare 24 = .ok (.ireturn, 1) := by decide +kernel
theorem dL_pare_25 : decode cL_pare 25 = .ok (.astore 8, 2) := by decide +kernel
theorem dL_pare_27 : decode cL_pare 27 = .ok (.iconst 2, 1) := by decide +kernel
theorem dL_pare_28 : decode cL_pare 28 = .ok (.ireturn, 1) := by decide +kernel
theorem dL_pare_29 : decode cL_pare 29 = .ok (.astore 8, 2) := by decide +kernel
theorem dL_pare_31 : decode cL_pare 31 = .ok (.iconst 3, 1) := by decide +kernel
theorem dL_pare_32 : decode cL_pare 32 = .ok (.ireturn, 1) := by decide +kernel
theorem dL_pare_33 : decode cL_pare 33 = .ok (.iconst 0, 1) := by decide +kernel
theorem dL_pare_34 : decode cL_pare 34 = .ok (.ireturn, 1) := by decide +kernel
set_option maxRecDepth 20000 in
theorem ggL_thickAt_X7_thickAt : GoodIn wsL_thickAt wsX7_thickAt := goodIn_ca (goodIn_r _ [6, 7, 8, 9, 5, 10, 11, 12, 13, 14, 15, 16, 17, 18, 19, 20, 21, 22, 23, 24, 25, 26, 27, 28, 29, 30, 31, 32, 33, 34, 35, 36] (by decide +kernel) (by decide +kernel)) (goodIn_sub (fun _ h => List.mem_cons_of_mem _ (List.mem_append_right _ h)) (by decide +kernel))
set_option maxRecDepth 20000 in
theorem gL_thickAt_X7_thickAt : GoodIn wsL_thickAt (wsV RL 88 RX7 yX7_thickAt wsX7_thickAt) := goodIn_app (goodIn_of _ (by decide +kernel)) ggL_thickAt_X7_thickAt
theorem dL_thickAt_0 : decode cL_thickAt 0 = .ok (.aload 4, 2) := by decide +kernel
theorem dL_thickAt_2 : decode cL_thickAt 2 = .ok (.iconst 0, 1) := by decide +kernel
theorem dL_thickAt_3 : decode cL_thickAt 3 = .ok (.aload_n 0, 1) := by decide +kernel
theorem dL_thickAt_4 : decode cL_thickAt 4 = .ok (.iload_n 1, 1) := by decide +kernel
theorem dL_thickAt_5 : decode cL_thickAt 5 = .ok (.iload_n 2, 1) := by decide +kernel
theorem dL_thickAt_6 : decode cL_thickAt 6 = .ok (.iload_n 3, 1) := by decide +kernel
theorem dL_thickAt_7 : decode cL_thickAt 7 = .ok (.invokevirtual 88, 3) := by decide +kernel
theorem dL_thickAt_10 : decode cL_thickAt 10 = .ok (.i2l, 1) := by decide +kernel
theorem dL_thickAt_11 : decode cL_thickAt 11 = .ok (.lastore, 1) := by decide +kernel
theorem dL_thickAt_12 : decode cL_thickAt 12 = .ok (.goto 7, 3) := by decide +kernel
theorem dL_thickAt_15 : decode cL_thickAt 15 = .ok (.astore 5, 2) := by decide +kernel
theorem dL_thickAt_17 : decode cL_thickAt 17 = .ok (.iconst 1, 1) := by decide +kernel
theorem dL_thickAt_18 : decode cL_thickAt 18 = .ok (.ireturn, 1) := by decide +kernel
theorem dL_thickAt_19 : decode cL_thickAt 19 = .ok (.iconst 0, 1) := by decide +kernel
theorem dL_thickAt_20 : decode cL_thickAt 20 = .ok (.ireturn, 1) := by decide +kernel
set_option maxRecDepth 20000 in
theorem ggL_tooThick_X7_tooThick : GoodIn wsL_tooThick wsX7_tooThick := goodIn_ca (goodIn_r _ [6, 7, 8, 9, 5, 10, 11, 12, 13, 14, 15, 16, 17, 18, 19, 20, 21, 22, 23, 24, 25, 26, 27, 28, 29, 30, 31, 32, 33, 34, 35] (by decide +kernel) (by decide +kernel)) (goodIn_sub (fun _ h => List.mem_cons_of_mem _ (List.mem_append_right _ h)) (by decide +kernel))
set_option maxRecDepth 20000 in
theorem gL_tooThick_X7_tooThick : GoodIn wsL_tooThick (wsV RL 91 RX7 yX7_tooThick wsX7_tooThick) := goodIn_app (goodIn_of _ (by decide +kernel)) ggL_tooThick_X7_tooThick
theorem dL_tooThick_0 : decode cL_tooThick 0 = .ok (.aload_n 2, 1) := by decide +kernel
theorem dL_tooThick_1 : decode cL_tooThick 1 = .ok (.iconst 0, 1) := by decide +kernel
theorem dL_tooThick_2 : decode cL_tooThick 2 = .ok (.aload_n 0, 1) := by decide +kernel
theorem dL_tooThick_3 : decode cL_tooThick 3 = .ok (.iload_n 1, 1) := by decide +kernel
theorem dL_tooThick_4 : decode cL_tooThick 4 = .ok (.invokevirtual 91, 3) := by decide +kernel
theorem dL_tooThick_7 : decode cL_tooThick 7 = .ok (.i2l, 1) := by decide +kernel
theorem dL_tooThick_8 : decode cL_tooThick 8 = .ok (.lastore, 1) := by decide +kernel
theorem dL_tooThick_9 : decode cL_tooThick 9 = .ok (.goto 6, 3) := by decide +kernel
theorem dL_tooThick_12 : decode cL_tooThick 12 = .ok (.astore_n 3, 1) := by decide +kernel
theorem dL_tooThick_13 : decode cL_tooThick 13 = .ok (.iconst 1, 1) := by decide +kernel
theorem dL_tooThick_14 : decode cL_tooThick 14 = .ok (.ireturn, 1) := by decide +kernel
theorem dL_tooThick_15 : decode cL_tooThick 15 = .ok (.iconst 0, 1) := by decide +kernel
theorem dL_tooThick_16 : decode cL_tooThick 16 = .ok (.ireturn, 1) := by decide +kernel
set_option maxRecDepth 20000 in
theorem ggL_repair_X7_repair : GoodIn wsL_repair wsX7_repair := goodIn_ca (goodIn_ca (goodIn_ca (goodIn_r _ [8, 9, 10, 11, 7, 12, 13, 14, 15, 16, 17, 18, 19, 20, 21, 22, 23, 24, 25, 26, 27, 28, 29, 30, 31, 32, 33, 34, 35, 36, 37, 38, 39, 40, 41, 42, 43, 44, 45, 46, 47, 48, 49, 50, 51, 52, 53, 54] (by decide +kernel) (by decide +kernel)) (goodIn_sub (fun _ h => List.mem_cons_of_mem _ (List.mem_append_left _ (List.mem_append_left _ (List.mem_append_right _ h)))) (by decide +kernel))) (goodIn_sub (fun _ h => List.mem_cons_of_mem _ (List.mem_append_left _ (List.mem_append_right _ h))) (by decide +kernel))) (goodIn_sub (fun _ h => List.mem_cons_of_mem _ (List.mem_append_right _ h)) (by decide +kernel))
set_option maxRecDepth 20000 in
theorem gL_repair_X7_repair : GoodIn wsL_repair (wsV RL 94 RX7 yX7_repair wsX7_repair) := goodIn_app (goodIn_of _ (by decide +kernel)) ggL_repair_X7_repair
theorem dL_repair_0 : decode cL_repair 0 = .ok (.aload_n 3, 1) := by decide +kernel
theorem dL_repair_1 : decode cL_repair 1 = .ok (.iconst 0, 1) := by decide +kernel
theorem dL_repair_2 : decode cL_repair 2 = .ok (.aload_n 0, 1) := by decide +kernel
theorem dL_repair_3 : decode cL_repair 3 = .ok (.iload_n 1, 1) := by decide +kernel
theorem dL_repair_4 : decode cL_repair 4 = .ok (.iload_n 2, 1) := by decide +kernel
theorem dL_repair_5 : decode cL_repair 5 = .ok (.invokevirtual 94, 3) := by decide +kernel
theorem dL_repair_8 : decode cL_repair 8 = .ok (.i2l, 1) := by decide +kernel
theorem dL_repair_9 : decode cL_repair 9 = .ok (.lastore, 1) := by decide +kernel
theorem dL_repair_10 : decode cL_repair 10 = .ok (.goto 15, 3) := by decide +kernel
theorem dL_repair_13 : decode cL_repair 13 = .ok (.astore 4, 2) := by decide +kernel
theorem dL_repair_15 : decode cL_repair 15 = .ok (.iconst 1, 1) := by decide +kernel
theorem dL_repair_16 : decode cL_repair 16 = .ok (.ireturn, 1) := by decide +kernel
theorem dL_repair_17 : decode cL_repair 17 = .ok (.astore 4, 2) := by decide +kernel
theorem dL_repair_19 : decode cL_repair 19 = .ok (.iconst 2, 1) := by decide +kernel
theorem dL_repair_20 : decode cL_repair 20 = .ok (.ireturn, 1) := by decide +kernel
theorem dL_repair_21 : decode cL_repair 21 = .ok (.astore 4, 2) := by decide +kernel
theorem dL_repair_23 : decode cL_repair 23 = .ok (.iconst 3, 1) := by decide +kernel
theorem dL_repair_24 : decode cL_repair 24 = .ok (.ireturn, 1) := by decide +kernel
theorem dL_repair_25 : decode cL_repair 25 = .ok (.iconst 0, 1) := by decide +kernel
theorem dL_repair_26 : decode cL_repair 26 = .ok (.ireturn, 1) := by decide +kernel
set_option maxRecDepth 20000 in
theorem ggL_undo_X7_undo : GoodIn wsL_undo wsX7_undo := goodIn_ca (goodIn_ca (goodIn_r _ [7, 8, 9, 10, 6, 11, 12, 13, 14, 15, 16, 17, 18, 19, 20, 21, 22, 23, 24, 25, 26, 27, 28, 29, 30, 31, 32, 33, 34, 35, 36, 37, 38, 39, 40, 41, 42, 43, 44, 45, 46, 47, 48, 49, 50, 51, 52] (by decide +kernel) (by decide +kernel)) (goodIn_sub (fun _ h => List.mem_cons_of_mem _ (List.mem_append_left _ (List.mem_append_right _ h))) (by decide +kernel))) (goodIn_sub (fun _ h => List.mem_cons_of_mem _ (List.mem_append_right _ h)) (by decide +kernel))
set_option maxRecDepth 20000 in
theorem gL_undo_X7_undo : GoodIn wsL_undo (wsV RL 97 RX7 yX7_undo wsX7_undo) := goodIn_app (goodIn_of _ (by decide +kernel)) ggL_undo_X7_undo
theorem dL_undo_0 : decode cL_undo 0 = .ok (.aload_n 2, 1) := by decide +kernel
theorem dL_undo_1 : decode cL_undo 1 = .ok (.iconst 0, 1) := by decide +kernel
theorem dL_undo_2 : decode cL_undo 2 = .ok (.aload_n 0, 1) := by decide +kernel
theorem dL_undo_3 : decode cL_undo 3 = .ok (.iload_n 1, 1) := by decide +kernel
theorem dL_undo_4 : decode cL_undo 4 = .ok (.invokevirtual 97, 3) := by decide +kernel
theorem dL_undo_7 : decode cL_undo 7 = .ok (.i2l, 1) := by decide +kernel
theorem dL_undo_8 : decode cL_undo 8 = .ok (.lastore, 1) := by decide +kernel
theorem dL_undo_9 : decode cL_undo 9 = .ok (.goto 9, 3) := by decide +kernel
theorem dL_undo_12 : decode cL_undo 12 = .ok (.astore_n 3, 1) := by decide +kernel
theorem dL_undo_13 : decode cL_undo 13 = .ok (.iconst 1, 1) := by decide +kernel
theorem dL_undo_14 : decode cL_undo 14 = .ok (.ireturn, 1) := by decide +kernel
theorem dL_undo_15 : decode cL_undo 15 = .ok (.astore_n 3, 1) := by decide +kernel
theorem dL_undo_16 : decode cL_undo 16 = .ok (.iconst 2, 1) := by decide +kernel
theorem dL_undo_17 : decode cL_undo 17 = .ok (.ireturn, 1) := by decide +kernel
theorem dL_undo_18 : decode cL_undo 18 = .ok (.iconst 0, 1) := by decide +kernel
theorem dL_undo_19 : decode cL_undo 19 = .ok (.ireturn, 1) := by decide +kernel
set_option maxRecDepth 20000 in
theorem ggL_speak_X7_speak : GoodIn wsL_speak wsX7_speak := goodIn_ca (goodIn_ca (goodIn_ca (goodIn_r _ [8, 9, 10, 11, 7, 12, 13, 14, 15, 16, 17, 18, 19, 20, 21, 22, 23, 24, 25, 26, 27, 28, 29, 30, 31, 32, 33, 34, 35, 36, 37, 38, 39, 40, 41, 42, 43, 44, 45, 46, 47, 48, 49, 50, 51, 52, 53, 54, 55] (by decide +kernel) (by decide +kernel)) (goodIn_sub (fun _ h => List.mem_cons_of_mem _ (List.mem_append_left _ (List.mem_append_left _ (List.mem_append_right _ h)))) (by decide +kernel))) (goodIn_sub (fun _ h => List.mem_cons_of_mem _ (List.mem_append_left _ (List.mem_append_right _ h))) (by decide +kernel))) (goodIn_sub (fun _ h => List.mem_cons_of_mem _ (List.mem_append_right _ h)) (by decide +kernel))
set_option maxRecDepth 20000 in
theorem gL_speak_X7_speak : GoodIn wsL_speak (wsV RL 100 RX7 yX7_speak wsX7_speak) := goodIn_app (goodIn_of _ (by decide +kernel)) ggL_speak_X7_speak
theorem dL_speak_0 : decode cL_speak 0 = .ok (.aload 5, 2) := by decide +kernel
theorem dL_speak_2 : decode cL_speak 2 = .ok (.iconst 0, 1) := by decide +kernel
theorem dL_speak_3 : decode cL_speak 3 = .ok (.aload_n 0, 1) := by decide +kernel
theorem dL_speak_4 : decode cL_speak 4 = .ok (.iload_n 1, 1) := by decide +kernel
theorem dL_speak_5 : decode cL_speak 5 = .ok (.iload_n 2, 1) := by decide +kernel
theorem dL_speak_6 : decode cL_speak 6 = .ok (.iload_n 3, 1) := by decide +kernel
theorem dL_speak_7 : decode cL_speak 7 = .ok (.iload 4, 2) := by decide +kernel
theorem dL_speak_9 : decode cL_speak 9 = .ok (.invokevirtual 100, 3) := by decide +kernel
theorem dL_speak_12 : decode cL_speak 12 = .ok (.i2l, 1) := by decide +kernel
theorem dL_speak_13 : decode cL_speak 13 = .ok (.lastore, 1) := by decide +kernel
theorem dL_speak_14 : decode cL_speak 14 = .ok (.goto 15, 3) := by decide +kernel
theorem dL_speak_17 : decode cL_speak 17 = .ok (.astore 6, 2) := by decide +kernel
theorem dL_speak_19 : decode cL_speak 19 = .ok (.iconst 1, 1) := by decide +kernel
theorem dL_speak_20 : decode cL_speak 20 = .ok (.ireturn, 1) := by decide +kernel
theorem dL_speak_21 : decode cL_speak 21 = .ok (.astore 6, 2) := by decide +kernel
theorem dL_speak_23 : decode cL_speak 23 = .ok (.iconst 2, 1) := by decide +kernel
theorem dL_speak_24 : decode cL_speak 24 = .ok (.ireturn, 1) := by decide +kernel
theorem dL_speak_25 : decode cL_speak 25 = .ok (.astore 6, 2) := by decide +kernel
theorem dL_speak_27 : decode cL_speak 27 = .ok (.iconst 3, 1) := by decide +kernel
theorem dL_speak_28 : decode cL_speak 28 = .ok (.ireturn, 1) := by decide +kernel
theorem dL_speak_29 : decode cL_speak 29 = .ok (.iconst 0, 1) := by decide +kernel
theorem dL_speak_30 : decode cL_speak 30 = .ok (.ireturn, 1) := by decide +kernel
set_option maxRecDepth 20000 in
theorem ggL_year_X7_year : GoodIn wsL_year wsX7_year := goodIn_ca (goodIn_r _ [6, 7, 8, 9, 5, 10, 11, 12, 13, 14, 15, 16, 17, 18, 19, 20, 21, 22, 23, 24, 25, 26, 27, 28, 29, 30, 31, 32, 33, 34, 35, 36, 37, 38, 39, 40, 41, 42, 43, 44, 45, 46, 47, 48, 49, 50, 51] (by decide +kernel) (by decide +kernel)) (goodIn_sub (fun _ h => List.mem_cons_of_mem _ (List.mem_append_right _ h)) (by decide +kernel))
set_option maxRecDepth 20000 in
theorem gL_year_X7_year : GoodIn wsL_year (wsV RL 103 RX7 yX7_year wsX7_year) := goodIn_app (goodIn_of _ (by decide +kernel)) ggL_year_X7_year
theorem dL_year_0 : decode cL_year 0 = .ok (.aload_n 3, 1) := by decide +kernel
theorem dL_year_1 : decode cL_year 1 = .ok (.iconst 0, 1) := by decide +kernel
theorem dL_year_2 : decode cL_year 2 = .ok (.aload_n 0, 1) := by decide +kernel
theorem dL_year_3 : decode cL_year 3 = .ok (.iload_n 1, 1) := by decide +kernel
theorem dL_year_4 : decode cL_year 4 = .ok (.iload_n 2, 1) := by decide +kernel
theorem dL_year_5 : decode cL_year 5 = .ok (.invokevirtual 103, 3) := by decide +kernel
theorem dL_year_8 : decode cL_year 8 = .ok (.i2l, 1) := by decide +kernel
theorem dL_year_9 : decode cL_year 9 = .ok (.lastore, 1) := by decide +kernel
theorem dL_year_10 : decode cL_year 10 = .ok (.goto 7, 3) := by decide +kernel
theorem dL_year_13 : decode cL_year 13 = .ok (.astore 4, 2) := by decide +kernel
theorem dL_year_15 : decode cL_year 15 = .ok (.iconst 1, 1) := by decide +kernel
theorem dL_year_16 : decode cL_year 16 = .ok (.ireturn, 1) := by decide +kernel
theorem dL_year_17 : decode cL_year 17 = .ok (.iconst 0, 1) := by decide +kernel
theorem dL_year_18 : decode cL_year 18 = .ok (.ireturn, 1) := by decide +kernel
set_option maxRecDepth 20000 in
theorem ggL_yearAnew_X7_yearAnew : GoodIn wsL_yearAnew wsX7_yearAnew := goodIn_ca (goodIn_r _ [6, 7, 8, 9, 5, 10, 11, 12, 13, 14, 15, 16, 17, 18, 19, 20, 21, 22, 23, 24, 25, 26, 27, 28, 29, 30, 31, 32, 33, 34, 35, 36, 37, 38, 39, 40, 41, 42, 43, 44, 45, 46, 47, 48, 49, 50, 51] (by decide +kernel) (by decide +kernel)) (goodIn_sub (fun _ h => List.mem_cons_of_mem _ (List.mem_append_right _ h)) (by decide +kernel))
set_option maxRecDepth 20000 in
theorem gL_yearAnew_X7_yearAnew : GoodIn wsL_yearAnew (wsV RL 107 RX7 yX7_yearAnew wsX7_yearAnew) := goodIn_app (goodIn_of _ (by decide +kernel)) ggL_yearAnew_X7_yearAnew
theorem dL_yearAnew_0 : decode cL_yearAnew 0 = .ok (.aload_n 3, 1) := by decide +kernel
theorem dL_yearAnew_1 : decode cL_yearAnew 1 = .ok (.iconst 0, 1) := by decide +kernel
theorem dL_yearAnew_2 : decode cL_yearAnew 2 = .ok (.aload_n 0, 1) := by decide +kernel
theorem dL_yearAnew_3 : decode cL_yearAnew 3 = .ok (.iload_n 1, 1) := by decide +kernel
theorem dL_yearAnew_4 : decode cL_yearAnew 4 = .ok (.iload_n 2, 1) := by decide +kernel
theorem dL_yearAnew_5 : decode cL_yearAnew 5 = .ok (.invokevirtual 107, 3) := by decide +kernel
theorem dL_yearAnew_8 : decode cL_yearAnew 8 = .ok (.i2l, 1) := by decide +kernel
theorem dL_yearAnew_9 : decode cL_yearAnew 9 = .ok (.lastore, 1) := by decide +kernel
theorem dL_yearAnew_10 : decode cL_yearAnew 10 = .ok (.goto 7, 3) := by decide +kernel
theorem dL_yearAnew_13 : decode cL_yearAnew 13 = .ok (.astore 4, 2) := by decide +kernel
theorem dL_yearAnew_15 : decode cL_yearAnew 15 = .ok (.iconst 1, 1) := by decide +kernel
theorem dL_yearAnew_16 : decode cL_yearAnew 16 = .ok (.ireturn, 1) := by decide +kernel
theorem dL_yearAnew_17 : decode cL_yearAnew 17 = .ok (.iconst 0, 1) := by decide +kernel
theorem dL_yearAnew_18 : decode cL_yearAnew 18 = .ok (.ireturn, 1) := by decide +kernel
