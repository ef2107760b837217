set_option maxRecDepth 20000 in
theorem ggL_drop_X7_drop_q0 : GoodIn wsL_drop (.code yX7_drop cX7_drop 5 (some .int) :: wsX7_drop_r1) := goodIn_r _ [9, 10, 11, 12, 8, 13, 14, 15, 16, 17, 18, 19, 20, 21, 22, 23, 24, 25, 26, 27, 28, 29, 30, 31, 32] (by decide +kernel) (by decide +kernel)
set_option maxRecDepth 20000 in
theorem ggL_drop_X7_drop_q1 : GoodIn wsL_drop (wsX7_drop_r2) := goodIn_r _ [33, 34, 35, 36, 37, 38, 39, 40, 41, 42, 43, 44] (by decide +kernel) (by decide +kernel)
set_option maxRecDepth 20000 in
theorem ggL_drop_X7_drop_q2 : GoodIn wsL_drop (wsX70) := goodIn_r _ [45, 46, 47, 48, 49, 50, 51] (by decide +kernel) (by decide +kernel)
set_option maxRecDepth 20000 in
theorem ggL_drop_X7_drop_q3 : GoodIn wsL_drop (wsX00) := goodIn_r _ [52, 53, 54, 55, 56] (by decide +kernel) (by decide +kernel)
set_option maxRecDepth 20000 in
theorem ggL_drop_X7_drop : GoodIn wsL_drop wsX7_drop := goodIn_ca (goodIn_ca (goodIn_ca (goodIn_ca (goodIn_ca ggL_drop_X7_drop_q0 ggL_drop_X7_drop_q1) ggL_drop_X7_drop_q2) ggL_drop_X7_drop_q3) (goodIn_sub (fun _ h => List.mem_cons_of_mem _ (List.mem_append_left _ (List.mem_append_right _ h))) (by decide +kernel))) (goodIn_sub (fun _ h => List.mem_cons_of_mem _ (List.mem_append_right _ h)) (by decide +kernel))
set_option maxRecDepth 20000 in
theorem gL_drop_X7_drop : GoodIn wsL_drop (wsV RL 10 RX7 yX7_drop wsX7_drop) := goodIn_app (goodIn_of _ (by decide +kernel)) ggL_drop_X7_drop
theorem dL_drop_0 : decode cL_drop 0 = .ok (.aload_n 0, 1) := by decide +kernel
theorem dL_drop_1 : decode cL_drop 1 = .ok (.iload_n 1, 1) := by decide +kernel
theorem dL_drop_2 : decode cL_drop 2 = .ok (.iload_n 2, 1) := by decide +kernel
theorem dL_drop_3 : decode cL_drop 3 = .ok (.iload_n 3, 1) := by decide +kernel
theorem dL_drop_4 : decode cL_drop 4 = .ok (.iload 4, 2) := by decide +kernel
theorem dL_drop_6 : decode cL_drop 6 = .ok (.invokevirtual 10, 3) := by decide +kernel
theorem dL_drop_9 : decode cL_drop 9 = .ok (.ireturn, 1) := by decide +kernel
theorem dL_drop_10 : decode cL_drop 10 = .ok (.astore 5, 2) := by decide +kernel
theorem dL_drop_12 : decode cL_drop 12 = .ok (.ldc 18, 2) := by decide +kernel
theorem dL_drop_14 : decode cL_drop 14 = .ok (.ireturn, 1) := by decide +kernel
theorem dL_drop_15 : decode cL_drop 15 = .ok (.astore 5, 2) := by decide +kernel
theorem dL_drop_17 : decode cL_drop 17 = .ok (.ldc 21, 2) := by decide +kernel
theorem dL_drop_19 : decode cL_drop 19 = .ok (.ireturn, 1) := by decide +kernel
set_option maxRecDepth 20000 in
theorem ggL_comb_X7_comb_q0 : GoodIn wsL_comb (.code yX7_comb cX7_comb 4 (some .int) :: wsX7_comb_r1) := goodIn_r _ [9, 10, 11, 12, 8, 13, 14, 15, 16, 17, 18, 19, 20, 21, 22, 23, 24, 25, 26, 27, 28, 29, 30, 31, 32] (by decide +kernel) (by decide +kernel)
set_option maxRecDepth 20000 in
theorem ggL_comb_X7_comb_q1 : GoodIn wsL_comb (wsX7_comb_r2) := goodIn_r _ [33, 34, 35, 36, 37, 38, 39, 40, 41] (by decide +kernel) (by decide +kernel)
set_option maxRecDepth 20000 in
theorem ggL_comb_X7_comb_q2 : GoodIn wsL_comb (wsX70) := goodIn_r _ [42, 43, 44, 45, 46, 47, 48] (by decide +kernel) (by decide +kernel)
set_option maxRecDepth 20000 in
theorem ggL_comb_X7_comb_q3 : GoodIn wsL_comb (wsX00) := goodIn_r _ [49, 50, 51, 52, 53] (by decide +kernel) (by decide +kernel)
set_option maxRecDepth 20000 in
theorem ggL_comb_X7_comb : GoodIn wsL_comb wsX7_comb := goodIn_ca (goodIn_ca (goodIn_ca (goodIn_ca (goodIn_ca ggL_comb_X7_comb_q0 ggL_comb_X7_comb_q1) ggL_comb_X7_comb_q2) ggL_comb_X7_comb_q3) (goodIn_sub (fun _ h => List.mem_cons_of_mem _ (List.mem_append_left _ (List.mem_append_right _ h))) (by decide +kernel))) (goodIn_sub (fun _ h => List.mem_cons_of_mem _ (List.mem_append_right _ h)) (by decide +kernel))
set_option maxRecDepth 20000 in
theorem gL_comb_X7_comb : GoodIn wsL_comb (wsV RL 22 RX7 yX7_comb wsX7_comb) := goodIn_app (goodIn_of _ (by decide +kernel)) ggL_comb_X7_comb
theorem dL_comb_0 : decode cL_comb 0 = .ok (.aload_n 0, 1) := by decide +kernel
theorem dL_comb_1 : decode cL_comb 1 = .ok (.iload_n 1, 1) := by decide +kernel
theorem dL_comb_2 : decode cL_comb 2 = .ok (.iload_n 2, 1) := by decide +kernel
theorem dL_comb_3 : decode cL_comb 3 = .ok (.iload_n 3, 1) := by decide +kernel
theorem dL_comb_4 : decode cL_comb 4 = .ok (.invokevirtual 22, 3) := by decide +kernel
theorem dL_comb_7 : decode cL_comb 7 = .ok (.ireturn, 1) := by decide +kernel
theorem dL_comb_8 : decode cL_comb 8 = .ok (.astore 4, 2) := by decide +kernel
theorem dL_comb_10 : decode cL_comb 10 = .ok (.ldc 18, 2) := by decide +kernel
theorem dL_comb_12 : decode cL_comb 12 = .ok (.ireturn, 1) := by decide +kernel
theorem dL_comb_13 : decode cL_comb 13 = .ok (.astore 4, 2) := by decide +kernel
theorem dL_comb_15 : decode cL_comb 15 = .ok (.ldc 21, 2) := by decide +kernel
theorem dL_comb_17 : decode cL_comb 17 = .ok (.ireturn, 1) := by decide +kernel
set_option maxRecDepth 20000 in
theorem ggL_lift_X7_lift_q0 : GoodIn wsL_lift (.code yX7_lift cX7_lift 2 (some .int) :: wsX7_lift_r1) := goodIn_r _ [7, 8, 9, 10, 11, 12, 6, 13, 14, 15, 16, 17, 18, 19, 20, 21, 22, 23, 24, 25, 26, 27, 28, 29, 30] (by decide +kernel) (by decide +kernel)
set_option maxRecDepth 20000 in
theorem ggL_lift_X7_lift_q1 : GoodIn wsL_lift (wsX7_lift_r2) := goodIn_r _ [31, 32, 33, 34, 35, 36] (by decide +kernel) (by decide +kernel)
set_option maxRecDepth 20000 in
theorem ggL_lift_X7_lift_q2 : GoodIn wsL_lift (wsX70) := goodIn_r _ [37, 38, 39, 40, 41, 42, 43] (by decide +kernel) (by decide +kernel)
set_option maxRecDepth 20000 in
theorem ggL_lift_X7_lift_q3 : GoodIn wsL_lift (wsX20) := goodIn_r _ [44] (by decide +kernel) (by decide +kernel)
set_option maxRecDepth 20000 in
theorem ggL_lift_X7_lift_q4 : GoodIn wsL_lift (wsX00) := goodIn_r _ [45, 46, 47, 48, 49] (by decide +kernel) (by decide +kernel)
set_option maxRecDepth 20000 in
theorem ggL_lift_X7_lift : GoodIn wsL_lift wsX7_lift := goodIn_ca (goodIn_ca (goodIn_ca (goodIn_ca (goodIn_ca ggL_lift_X7_lift_q0 ggL_lift_X7_lift_q1) ggL_lift_X7_lift_q2) ggL_lift_X7_lift_q3) ggL_lift_X7_lift_q4) (goodIn_sub (fun _ h => List.mem_cons_of_mem _ (List.mem_append_right _ h)) (by decide +kernel))
set_option maxRecDepth 20000 in
theorem gL_lift_X7_lift : GoodIn wsL_lift (wsV RL 26 RX7 yX7_lift wsX7_lift) := goodIn_app (goodIn_of _ (by decide +kernel)) ggL_lift_X7_lift
theorem dL_lift_0 : decode cL_lift 0 = .ok (.aload_n 0, 1) := by decide +kernel
theorem dL_lift_1 : decode cL_lift 1 = .ok (.invokevirtual 26, 3) := by decide +kernel
theorem dL_lift_4 : decode cL_lift 4 = .ok (.ireturn, 1) := by decide +kernel
theorem dL_lift_5 : decode cL_lift 5 = .ok (.astore_n 1, 1) := by decide +kernel
theorem dL_lift_6 : decode cL_lift 6 = .ok (.ldc 32, 2) := by decide +kernel
theorem dL_lift_8 : decode cL_lift 8 = .ok (.ireturn, 1) := by decide +kernel
set_option maxRecDepth 20000 in
theorem ggL_cellAt_X7_cellAt : GoodIn wsL_cellAt wsX7_cellAt := goodIn_ca (goodIn_ca (goodIn_r _ [9, 10, 11, 12, 8, 13, 14, 15, 16, 17, 18, 19, 20, 21, 22, 23, 24, 25, 26, 27, 28, 29, 30, 31, 32, 33, 34, 35, 36, 37, 38, 39, 40, 41, 42, 43, 44] (by decide +kernel) (by decide +kernel)) (goodIn_sub (fun _ h => List.mem_cons_of_mem _ (List.mem_append_left _ (List.mem_append_right _ h))) (by decide +kernel))) (goodIn_sub (fun _ h => List.mem_cons_of_mem _ (List.mem_append_right _ h)) (by decide +kernel))
set_option maxRecDepth 20000 in
theorem gL_cellAt_X7_cellAt : GoodIn wsL_cellAt (wsV RL 33 RX7 yX7_cellAt wsX7_cellAt) := goodIn_app (goodIn_of _ (by decide +kernel)) ggL_cellAt_X7_cellAt
theorem dL_cellAt_0 : decode cL_cellAt 0 = .ok (.aload_n 0, 1) := by decide +kernel
theorem dL_cellAt_1 : decode cL_cellAt 1 = .ok (.iload_n 1, 1) := by decide +kernel
theorem dL_cellAt_2 : decode cL_cellAt 2 = .ok (.iload_n 2, 1) := by decide +kernel
theorem dL_cellAt_3 : decode cL_cellAt 3 = .ok (.iload_n 3, 1) := by decide +kernel
theorem dL_cellAt_4 : decode cL_cellAt 4 = .ok (.invokevirtual 33, 3) := by decide +kernel
theorem dL_cellAt_7 : decode cL_cellAt 7 = .ok (.ireturn, 1) := by decide +kernel
theorem dL_cellAt_8 : decode cL_cellAt 8 = .ok (.astore 4, 2) := by decide +kernel
theorem dL_cellAt_10 : decode cL_cellAt 10 = .ok (.ldc 18, 2) := by decide +kernel
theorem dL_cellAt_12 : decode cL_cellAt 12 = .ok (.ireturn, 1) := by decide +kernel
theorem dL_cellAt_13 : decode cL_cellAt 13 = .ok (.astore 4, 2) := by decide +kernel
theorem dL_cellAt_15 : decode cL_cellAt 15 = .ok (.ldc 21, 2) := by decide +kernel
theorem dL_cellAt_17 : decode cL_cellAt 17 = .ok (.ireturn, 1) := by decide +kernel
set_option maxRecDepth 20000 in
theorem ggL_printAt_X7_printAt : GoodIn wsL_printAt wsX7_printAt := goodIn_ca (goodIn_r _ [7, 8, 9, 10, 6, 11, 12, 13, 14, 15, 16, 17, 18, 19, 20, 21, 22, 23, 24, 25, 26, 27, 28, 29, 30, 31, 32, 33, 34, 35, 36, 37] (by decide +kernel) (by decide +kernel)) (goodIn_sub (fun _ h => List.mem_cons_of_mem _ (List.mem_append_right _ h)) (by decide +kernel))
set_option maxRecDepth 20000 in
theorem gL_printAt_X7_printAt : GoodIn wsL_printAt (wsV RL 37 RX7 yX7_printAt wsX7_printAt) := goodIn_app (goodIn_of _ (by decide +kernel)) ggL_printAt_X7_printAt
theorem dL_printAt_0 : decode cL_printAt 0 = .ok (.aload_n 0, 1) := by decide +kernel
theorem dL_printAt_1 : decode cL_printAt 1 = .ok (.iload_n 1, 1) := by decide +kernel
theorem dL_printAt_2 : decode cL_printAt 2 = .ok (.iload_n 2, 1) := by decide +kernel
theorem dL_printAt_3 : decode cL_printAt 3 = .ok (.iload_n 3, 1) := by decide +kernel
theorem dL_printAt_4 : decode cL_printAt 4 = .ok (.invokevirtual 37, 3) := by decide +kernel
theorem dL_printAt_7 : decode cL_printAt 7 = .ok (.ireturn, 1) := by decide +kernel
theorem dL_printAt_8 : decode cL_printAt 8 = .ok (.astore 4, 2) := by decide +kernel
theorem dL_printAt_10 : decode cL_printAt 10 = .ok (.ldc 18, 2) := by decide +kernel
theorem dL_printAt_12 : decode cL_printAt 12 = .ok (.ireturn, 1) := by decide +kernel
set_option maxRecDepth 20000 in
theorem ggL_count_X7_count : GoodIn wsL_count wsX7_count := goodIn_ca (goodIn_ca (goodIn_r _ [9, 10, 11, 12, 8, 13, 14, 15, 16, 17, 18, 19, 20, 21, 22, 23, 24, 25, 26, 27, 28, 29, 30, 31, 32, 33, 34, 35, 36, 37, 38] (by decide +kernel) (by decide +kernel)) (goodIn_sub (fun _ h => List.mem_cons_of_mem _ (List.mem_append_left _ (List.mem_append_right _ h))) (by decide +kernel))) (goodIn_sub (fun _ h => List.mem_cons_of_mem _ (List.mem_append_right _ h)) (by decide +kernel))
set_option maxRecDepth 20000 in
theorem gL_count_X7_count : GoodIn wsL_count (wsV RL 40 RX7 yX7_count wsX7_count) := goodIn_app (goodIn_of _ (by decide +kernel)) ggL_count_X7_count
theorem dL_count_0 : decode cL_count 0 = .ok (.aload_n 0, 1) := by decide +kernel
theorem dL_count_1 : decode cL_count 1 = .ok (.iload_n 1, 1) := by decide +kernel
theorem dL_count_2 : decode cL_count 2 = .ok (.iload_n 2, 1) := by decide +kernel
theorem dL_count_3 : decode cL_count 3 = .ok (.invokevirtual 40, 3) := by decide +kernel
theorem dL_count_6 : decode cL_count 6 = .ok (.ireturn, 1) := by decide +kernel
theorem dL_count_7 : decode cL_count 7 = .ok (.astore_n 3, 1) := by decide +kernel
theorem dL_count_8 : decode cL_count 8 = .ok (.ldc 18, 2) := by decide +kernel
theorem dL_count_10 : decode cL_count 10 = .ok (.ireturn, 1) := by decide +kernel
theorem dL_count_11 : decode cL_count 11 = .ok (.astore_n 3, 1) := by decide +kernel
theorem dL_count_12 : decode cL_count 12 = .ok (.ldc 21, 2) := by decide +kernel
theorem dL_count_14 : decode cL_count 14 = .ok (.ireturn, 1) := by decide +kernel
set_option maxRecDepth 20000 in
theorem ggL_pageAt_X7_pageAt : GoodIn wsL_pageAt wsX7_pageAt := goodIn_ca (goodIn_r _ [7, 8, 9, 6, 10, 11, 12, 13, 14, 15, 16, 17, 18, 19, 20, 21, 22, 23, 24] (by decide +kernel) (by decide +kernel)) (goodIn_sub (fun _ h => List.mem_cons_of_mem _ (List.mem_append_right _ h)) (by decide +kernel))
set_option maxRecDepth 20000 in
theorem gL_pageAt_X7_pageAt : GoodIn wsL_pageAt (wsV RL 44 RX7 yX7_pageAt wsX7_pageAt) := goodIn_app (goodIn_of _ (by decide +kernel)) ggL_pageAt_X7_pageAt
theorem dL_pageAt_0 : decode cL_pageAt 0 = .ok (.aload_n 0, 1) := by decide +kernel
theorem dL_pageAt_1 : decode cL_pageAt 1 = .ok (.iload_n 1, 1) := by decide +kernel
theorem dL_pageAt_2 : decode cL_pageAt 2 = .ok (.iload_n 2, 1) := by decide +kernel
theorem dL_pageAt_3 : decode cL_pageAt 3 = .ok (.iload_n 3, 1) := by decide +kernel
theorem dL_pageAt_4 : decode cL_pageAt 4 = .ok (.iload 4, 2) := by decide +kernel
theorem dL_pageAt_6 : decode cL_pageAt 6 = .ok (.invokevirtual 44, 3) := by decide +kernel
theorem dL_pageAt_9 : decode cL_pageAt 9 = .ok (.ireturn, 1) := by decide +kernel
theorem dL_pageAt_10 : decode cL_pageAt 10 = .ok (.astore 5, 2) := by decide +kernel
theorem dL_pageAt_12 : decode cL_pageAt 12 = .ok (.ldc 21, 2) := by decide +kernel
theorem dL_pageAt_14 : decode cL_pageAt 14 = .ok (.ireturn, 1) := by decide +kernel
set_option maxRecDepth 20000 in
theorem ggL_placeOf_X7_placeOf : GoodIn wsL_placeOf wsX7_placeOf := goodIn_ca (goodIn_r _ [7, 8, 9, 6, 10, 11, 12, 13, 14, 15, 16, 17, 18, 19, 20, 21, 22, 23, 24, 25, 26, 27] (by decide +kernel) (by decide +kernel)) (goodIn_sub (fun _ h => List.mem_cons_of_mem _ (List.mem_append_right _ h)) (by decide +kernel))
set_option maxRecDepth 20000 in
theorem gL_placeOf_X7_placeOf : GoodIn wsL_placeOf (wsV RL 48 RX7 yX7_placeOf wsX7_placeOf) := goodIn_app (goodIn_of _ (by decide +kernel)) ggL_placeOf_X7_placeOf
theorem dL_placeOf_0 : decode cL_placeOf 0 = .ok (.aload_n 0, 1) := by decide +kernel
theorem dL_placeOf_1 : decode cL_placeOf 1 = .ok (.iload_n 1, 1) := by decide +kernel
theorem dL_placeOf_2 : decode cL_placeOf 2 = .ok (.iload_n 2, 1) := by decide +kernel
theorem dL_placeOf_3 : decode cL_placeOf 3 = .ok (.invokevirtual 48, 3) := by decide +kernel
theorem dL_placeOf_6 : decode cL_placeOf 6 = .ok (.ireturn, 1) := by decide +kernel
theorem dL_placeOf_7 : decode cL_placeOf 7 = .ok (.astore_n 3, 1) := by decide +kernel
theorem dL_placeOf_8 : decode cL_placeOf 8 = .ok (.ldc 21, 2) := by decide +kernel
theorem dL_placeOf_10 : decode cL_placeOf 10 = .ok (.ireturn, 1) := by decide +kernel
set_option maxRecDepth 20000 in
theorem ggL_book_X7_book_q0 : GoodIn wsL_book (.code yX7_book cX7_book 7 (some .int) :: wsX7_book_r1) := goodIn_r _ [9, 10, 11, 12, 13, 14, 15, 16, 8, 17, 18, 19, 20, 21, 22, 23, 24, 25, 26, 27, 28, 29, 30, 31, 32] (by decide +kernel) (by decide +kernel)
set_option maxRecDepth 20000 in
theorem ggL_book_X7_book_q1 : GoodIn wsL_book (wsX7_book_r2) := goodIn_r _ [33, 34, 35, 36, 37, 38, 39, 40, 41, 42, 43, 44, 45, 46, 47, 48, 49, 50, 51, 52, 53, 54, 55, 56] (by decide +kernel) (by decide +kernel)
set_option maxRecDepth 20000 in
theorem ggL_book_X7_book_q2 : GoodIn wsL_book (wsX7_book_r3) := goodIn_r _ [57, 58, 59, 60, 61, 62, 63, 64, 65, 66, 67, 68, 69] (by decide +kernel) (by decide +kernel)
set_option maxRecDepth 20000 in
theorem ggL_book_X7_book_q3 : GoodIn wsL_book (wsX70) := goodIn_r _ [70, 71, 72, 73, 74, 75, 76] (by decide +kernel) (by decide +kernel)
set_option maxRecDepth 20000 in
theorem ggL_book_X7_book_q4 : GoodIn wsL_book (wsX10) := goodIn_r _ [77, 78, 79, 80, 81, 82, 83] (by decide +kernel) (by decide +kernel)
set_option maxRecDepth 20000 in
theorem ggL_book_X7_book_q5 : GoodIn wsL_book (wsX30) := goodIn_r _ [84, 85] (by decide +kernel) (by decide +kernel)
set_option maxRecDepth 20000 in
theorem ggL_book_X7_book_q6 : GoodIn wsL_book (wsX60) := goodIn_r _ [86, 87, 88, 89] (by decide +kernel) (by decide +kernel)
set_option maxRecDepth 20000 in
theorem ggL_book_X7_book_q7 : GoodIn wsL_book (wsX40) := goodIn_r _ [90, 91, 92, 93, 94, 95, 96, 97, 98, 99] (by decide +kernel) (by decide +kernel)
set_option maxRecDepth 20000 in
theorem ggL_book_X7_book : GoodIn wsL_book wsX7_book := goodIn_ca (goodIn_ca (goodIn_ca (goodIn_ca (goodIn_ca (goodIn_ca (goodIn_ca (goodIn_ca ggL_book_X7_book_q0 (goodIn_app ggL_book_X7_book_q1 ggL_book_X7_book_q2)) ggL_book_X7_book_q3) ggL_book_X7_book_q4) ggL_book_X7_book_q5) ggL_book_X7_book_q6) ggL_book_X7_book_q7) (goodIn_sub (fun _ h => List.mem_cons_of_mem _ (List.mem_append_left _ (List.mem_append_right _ h))) (by decide +kernel))) (goodIn_sub (fun _ h => List.mem_cons_of_mem _ (List.mem_append_right _ h)) (by decide +kernel))
set_option maxRecDepth 20000 in
theorem gL_book_X7_book : GoodIn wsL_book (wsV RL 51 RX7 yX7_book wsX7_book) := goodIn_app (goodIn_of _ (by decide +kernel)) ggL_book_X7_book
theorem dL_book_0 : decode cL_book 0 = .ok (.aload_n 0, 1) := by decide +kernel
theorem dL_book_1 : decode cL_book 1 = .ok (.iload_n 1, 1) := by decide +kernel
theorem dL_book_2 : decode cL_book 2 = .ok (.iload_n 2, 1) := by decide +kernel
theorem dL_book_3 : decode cL_book 3 = .ok (.iload_n 3, 1) := by decide +kernel
theorem dL_book_4 : decode cL_book 4 = .ok (.iload 4, 2) := by decide +kernel
theorem dL_book_6 : decode cL_book 6 = .ok (.iload 5, 2) := by decide +kernel
theorem dL_book_8 : decode cL_book 8 = .ok (.invokevirtual 51, 3) := by decide +kernel
theorem dL_book_11 : decode cL_book 11 = .ok (.ireturn, 1) := by decide +kernel
theorem dL_book_12 : decode cL_book 12 = .ok (.astore 6, 2) := by decide +kernel
theorem dL_book_14 : decode cL_book 14 = .ok (.ldc 21, 2) := by decide +kernel
theorem dL_book_16 : decode cL_book 16 = .ok (.ireturn, 1) := by decide +kernel
theorem dL_book_17 : decode cL_book 17 = .ok (.astore 6, 2) := by decide +kernel
theorem dL_book_19 : decode cL_book 19 = .ok (.ldc 32, 2) := by decide +kernel
theorem dL_book_21 : decode cL_book 21 = .ok (.ireturn, 1) := by decide +kernel
set_option maxRecDepth 20000 in
theorem ggL_sew_X7_sew_q0 : GoodIn wsL_sew (.code yX7_sew cX7_sew 4 (some .int) :: wsX7_sew_r1) := goodIn_r _ [11, 12, 13, 14, 10, 15, 16, 17, 18, 19, 20, 21, 22, 23, 24, 25, 26, 27, 28, 29, 30, 31, 32, 33, 34] (by decide +kernel) (by decide +kernel)
set_option maxRecDepth 20000 in
theorem ggL_sew_X7_sew_q1 : GoodIn wsL_sew (wsX7_sew_r2) := goodIn_r _ [35, 36, 37, 38, 39, 40, 41, 42, 43, 44, 45, 46, 47, 48, 49, 50, 51, 52, 53, 54, 55, 56, 57, 58] (by decide +kernel) (by decide +kernel)
set_option maxRecDepth 20000 in
theorem ggL_sew_X7_sew_q2 : GoodIn wsL_sew (wsX7_sew_r3) := goodIn_r _ [59, 60, 61, 62] (by decide +kernel) (by decide +kernel)
set_option maxRecDepth 20000 in
theorem ggL_sew_X7_sew_q3 : GoodIn wsL_sew (wsX10) := goodIn_r _ [63, 64, 65, 66, 67, 68, 69] (by decide +kernel) (by decide +kernel)
set_option maxRecDepth 20000 in
theorem ggL_sew_X7_sew_q4 : GoodIn wsL_sew (wsX40) := goodIn_r _ [70, 71, 72, 73, 74, 75, 76, 77, 78, 79] (by decide +kernel) (by decide +kernel)
set_option maxRecDepth 20000 in
theorem ggL_sew_X7_sew_q5 : GoodIn wsL_sew (wsX70) := goodIn_r _ [80, 81, 82, 83, 84, 85, 86] (by decide +kernel) (by decide +kernel)
set_option maxRecDepth 20000 in
theorem ggL_sew_X7_sew : GoodIn wsL_sew wsX7_sew := goodIn_ca (goodIn_ca (goodIn_ca (goodIn_ca (goodIn_ca (goodIn_ca (goodIn_ca ggL_sew_X7_sew_q0 (goodIn_app ggL_sew_X7_sew_q1 ggL_sew_X7_sew_q2)) ggL_sew_X7_sew_q3) ggL_sew_X7_sew_q4) ggL_sew_X7_sew_q5) (goodIn_sub (fun _ h => List.mem_cons_of_mem _ (List.mem_append_left _ (List.mem_append_left _ (List.mem_append_right _ h)))) (by decide +kernel))) (goodIn_sub (fun _ h => List.mem_cons_of_mem _ (List.mem_append_left _ (List.mem_append_right _ h))) (by decide +kernel))) (goodIn_sub (fun _ h => List.mem_cons_of_mem _ (List.mem_append_right _ h)) (by decide +kernel))
set_option maxRecDepth 20000 in
theorem gL_sew_X7_sew : GoodIn wsL_sew (wsV RL 55 RX7 yX7_sew wsX7_sew) := goodIn_app (goodIn_of _ (by decide +kernel)) ggL_sew_X7_sew
theorem dL_sew_0 : decode cL_sew 0 = .ok (.aload_n 0, 1) := by decide +kernel
theorem dL_sew_1 : decode cL_sew 1 = .ok (.iload_n 1, 1) := by decide +kernel
theorem dL_sew_2 : decode cL_sew 2 = .ok (.iload_n 2, 1) := by decide +kernel
theorem dL_sew_3 : decode cL_sew 3 = .ok (.invokevirtual 55, 3) := by decide +kernel
theorem dL_sew_6 : decode cL_sew 6 = .ok (.ireturn, 1) := by decide +kernel
theorem dL_sew_7 : decode cL_sew 7 = .ok (.astore_n 3, 1) := by decide +kernel
theorem dL_sew_8 : decode cL_sew 8 = .ok (.ldc 18, 2) := by decide +kernel
theorem dL_sew_10 : decode cL_sew 10 = .ok (.ireturn, 1) := by decide +kernel
theorem dL_sew_11 : decode cL_sew 11 = .ok (.astore_n 3, 1) := by decide +kernel
theorem dL_sew_12 : decode cL_sew 12 = .ok (.ldc 21, 2) := by decide +kernel
theorem dL_sew_14 : decode cL_sew 14 = .ok (.ireturn, 1) := by decide +kernel
theorem dL_sew_15 : decode cL_sew 15 = .ok (.astore_n 3, 1) := by decide +kernel
theorem dL_sew_16 : decode cL_sew 16 = .ok (.ldc 32, 2) := by decide +kernel
theorem dL_sew_18 : decode cL_sew 18 = .ok (.ireturn, 1) := by decide +kernel
set_option maxRecDepth 20000 in
theorem ggL_unsew_X7_unsew_q0 : GoodIn wsL_unsew (.code yX7_unsew cX7_unsew 5 (some .int) :: wsX7_unsew_r1) := goodIn_r _ [11, 12, 13, 14, 10, 15, 16, 17, 18, 19, 20, 21, 22, 23, 24, 25, 26, 27, 28, 29, 30, 31, 32, 33, 34] (by decide +kernel) (by decide +kernel)
set_option maxRecDepth 20000 in
theorem ggL_unsew_X7_unsew_q1 : GoodIn wsL_unsew (wsX7_unsew_r2) := goodIn_r _ [35, 36, 37, 38, 39, 40, 41, 42, 43, 44, 45, 46, 47, 48, 49, 50, 51, 52, 53, 54, 55, 56, 57, 58] (by decide +kernel) (by decide +kernel)
set_option maxRecDepth 20000 in
theorem ggL_unsew_X7_unsew_q2 : GoodIn wsL_unsew (wsX7_unsew_r3) := goodIn_r _ [59] (by decide +kernel) (by decide +kernel)
set_option maxRecDepth 20000 in
theorem ggL_unsew_X7_unsew_q3 : GoodIn wsL_unsew (wsX10) := goodIn_r _ [60, 61, 62, 63, 64, 65, 66] (by decide +kernel) (by decide +kernel)
set_option maxRecDepth 20000 in
theorem ggL_unsew_X7_unsew_q4 : GoodIn wsL_unsew (wsX40) := goodIn_r _ [67, 68, 69, 70, 71, 72, 73, 74, 75, 76] (by decide +kernel) (by decide +kernel)
set_option maxRecDepth 20000 in
theorem ggL_unsew_X7_unsew_q5 : GoodIn wsL_unsew (wsX70) := goodIn_r _ [77, 78, 79, 80, 81, 82, 83] (by decide +kernel) (by decide +kernel)
set_option maxRecDepth 20000 in
theorem ggL_unsew_X7_unsew : GoodIn wsL_unsew wsX7_unsew := goodIn_ca (goodIn_ca (goodIn_ca (goodIn_ca (goodIn_ca (goodIn_ca (goodIn_ca ggL_unsew_X7_unsew_q0 (goodIn_app ggL_unsew_X7_unsew_q1 ggL_unsew_X7_unsew_q2)) ggL_unsew_X7_unsew_q3) ggL_unsew_X7_unsew_q4) ggL_unsew_X7_unsew_q5) (goodIn_sub (fun _ h => List.mem_cons_of_mem _ (List.mem_append_left _ (List.mem_append_left _ (List.mem_append_right _ h)))) (by decide +kernel))) (goodIn_sub (fun _ h => List.mem_cons_of_mem _ (List.mem_append_left _ (List.mem_append_right _ h))) (by decide +kernel))) (goodIn_sub (fun _ h => List.mem_cons_of_mem _ (List.mem_append_right _ h)) (by decide +kernel))
set_option maxRecDepth 20000 in
theorem gL_unsew_X7_unsew : GoodIn wsL_unsew (wsV RL 58 RX7 yX7_unsew wsX7_unsew) := goodIn_app (goodIn_of _ (by decide +kernel)) ggL_unsew_X7_unsew
theorem dL_unsew_0 : decode cL_unsew 0 = .ok (.aload_n 0, 1) := by decide +kernel
theorem dL_unsew_1 : decode cL_unsew 1 = .ok (.iload_n 1, 1) := by decide +kernel
theorem dL_unsew_2 : decode cL_unsew 2 = .ok (.iload_n 2, 1) := by decide +kernel
theorem dL_unsew_3 : decode cL_unsew 3 = .ok (.invokevirtual 58, 3) := by decide +kernel
theorem dL_unsew_6 : decode cL_unsew 6 = .ok (.ireturn, 1) := by decide +kernel
theorem dL_unsew_7 : decode cL_unsew 7 = .ok (.astore_n 3, 1) := by decide +kernel
theorem dL_unsew_8 : decode cL_unsew 8 = .ok (.ldc 18, 2) := by decide +kernel
theorem dL_unsew_10 : decode cL_unsew 10 = .ok (.ireturn, 1) := by decide +kernel
theorem dL_unsew_11 : decode cL_unsew 11 = .ok (.astore_n 3, 1) := by decide +kernel
theorem dL_unsew_12 : decode cL_unsew 12 = .ok (.ldc 21, 2) := by decide +kernel
theorem dL_unsew_14 : decode cL_unsew 14 = .ok (.ireturn, 1) := by decide +kernel
theorem dL_unsew_15 : decode cL_unsew 15 = .ok (.astore_n 3, 1) := by decide +kernel
theorem dL_unsew_16 : decode cL_unsew 16 = .ok (.ldc 32, 2) := by decide +kernel
theorem dL_unsew_18 : decode cL_unsew 18 = .ok (.ireturn, 1) := by decide +kernel
set_option maxRecDepth 20000 in
theorem ggL_ofThread_X7_ofThread_q0 : GoodIn wsL_ofThread (.code yX7_ofThread cX7_ofThread 4 (some .int) :: wsX7_ofThread_r1) := goodIn_r _ [9, 10, 11, 12, 8, 13, 14, 15, 16, 17, 18, 19, 20, 21, 22, 23, 24, 25, 26, 27, 28, 29, 30, 31, 32] (by decide +kernel) (by decide +kernel)
set_option maxRecDepth 20000 in
theorem ggL_ofThread_X7_ofThread_q1 : GoodIn wsL_ofThread (wsX7_ofThread_r2) := goodIn_r _ [33, 34, 35, 36, 37, 38, 39, 40, 41, 42] (by decide +kernel) (by decide +kernel)
set_option maxRecDepth 20000 in
theorem ggL_ofThread_X7_ofThread_q2 : GoodIn wsL_ofThread (wsX10) := goodIn_r _ [43, 44, 45, 46, 47, 48, 49] (by decide +kernel) (by decide +kernel)
set_option maxRecDepth 20000 in
theorem ggL_ofThread_X7_ofThread_q3 : GoodIn wsL_ofThread (wsX40) := goodIn_r _ [50, 51, 52, 53, 54, 55, 56, 57, 58, 59] (by decide +kernel) (by decide +kernel)
set_option maxRecDepth 20000 in
theorem ggL_ofThread_X7_ofThread_q4 : GoodIn wsL_ofThread (wsX70) := goodIn_r _ [60, 61, 62, 63, 64, 65, 66] (by decide +kernel) (by decide +kernel)
set_option maxRecDepth 20000 in
theorem ggL_ofThread_X7_ofThread : GoodIn wsL_ofThread wsX7_ofThread := goodIn_ca (goodIn_ca (goodIn_ca (goodIn_ca (goodIn_ca (goodIn_ca ggL_ofThread_X7_ofThread_q0 ggL_ofThread_X7_ofThread_q1) ggL_ofThread_X7_ofThread_q2) ggL_ofThread_X7_ofThread_q3) ggL_ofThread_X7_ofThread_q4) (goodIn_sub (fun _ h => List.mem_cons_of_mem _ (List.mem_append_left _ (List.mem_append_right _ h))) (by decide +kernel))) (goodIn_sub (fun _ h => List.mem_cons_of_mem _ (List.mem_append_right _ h)) (by decide +kernel))
set_option maxRecDepth 20000 in
theorem gL_ofThread_X7_ofThread : GoodIn wsL_ofThread (wsV RL 61 RX7 yX7_ofThread wsX7_ofThread) := goodIn_app (goodIn_of _ (by decide +kernel)) ggL_ofThread_X7_ofThread
theorem dL_ofThread_0 : decode cL_ofThread 0 = .ok (.aload_n 0, 1) := by decide +kernel
theorem dL_ofThread_1 : decode cL_ofThread 1 = .ok (.iload_n 1, 1) := by decide +kernel
theorem dL_ofThread_2 : decode cL_ofThread 2 = .ok (.iload_n 2, 1) := by decide +kernel
theorem dL_ofThread_3 : decode cL_ofThread 3 = .ok (.invokevirtual 61, 3) := by decide +kernel
theorem dL_ofThread_6 : decode cL_ofThread 6 = .ok (.ireturn, 1) := by decide +kernel
theorem dL_ofThread_7 : decode cL_ofThread 7 = .ok (.astore_n 3, 1) := by decide +kernel
theorem dL_ofThread_8 : decode cL_ofThread 8 = .ok (.ldc 18, 2) := by decide +kernel
theorem dL_ofThread_10 : decode cL_ofThread 10 = .ok (.ireturn, 1) := by decide +kernel
theorem dL_ofThread_11 : decode cL_ofThread 11 = .ok (.astore_n 3, 1) := by decide +kernel
theorem dL_ofThread_12 : decode cL_ofThread 12 = .ok (.ldc 21, 2) := by decide +kernel
theorem dL_ofThread_14 : decode cL_ofThread 14 = .ok (.ireturn, 1) := by decide +kernel
set_option maxRecDepth 20000 in
theorem ggL_stitches_X7_stitches_q0 : GoodIn wsL_stitches (.code yX7_stitches cX7_stitches 5 (some .int) :: [.methodLink RX7 118 yX7_bookOf, .instanceMethod yX7_bookOf, .selects RX7 yX7_bookOf yX7_bookOf, .initialized RX7, .code yX7_bookOf cX7_bookOf 3 (some (.object "MarbleBench$Book")), .classLink RX7 257 "java/lang/IndexOutOfBoundsException", .initialized "java/lang/IndexOutOfBoundsException", .fieldLink RX7 24 "MarbleBench" "books" "[LMarbleBench$Book;", .methodLink RX7 42 yX7_isWithin, .static yX7_isWithin, .code yX7_isWithin cX7_isWithin 3 (some .boolean), .methodLink RX7 38 yX7_demandPlace, .static yX7_demandPlace, .code yX7_demandPlace cX7_demandPlace 1 none, .methodLink RX7 164 yX4_stitchesAt, .instanceMethod yX4_stitchesAt, .selects RX4 yX4_stitchesAt yX4_stitchesAt, .initialized RX4, .code yX4_stitchesAt cX4_stitchesAt 4 (some .int), .fieldLink RX4 9 "MarbleBench$Sewing" "laid" "[I"]) := goodIn_r _ [7, 8, 9, 10, 6, 11, 12, 13, 14, 15, 16, 17, 18, 19, 20, 21, 22, 23, 24, 25, 26] (by decide +kernel) (by decide +kernel)
set_option maxRecDepth 20000 in
theorem ggL_stitches_X7_stitches_q1 : GoodIn wsL_stitches (wsX10) := goodIn_r _ [27, 28, 29, 30, 31, 32, 33] (by decide +kernel) (by decide +kernel)
set_option maxRecDepth 20000 in
theorem ggL_stitches_X7_stitches_q2 : GoodIn wsL_stitches (wsX40) := goodIn_r _ [34, 35, 36, 37, 38, 39, 40, 41, 42, 43] (by decide +kernel) (by decide +kernel)
set_option maxRecDepth 20000 in
theorem ggL_stitches_X7_stitches_q3 : GoodIn wsL_stitches (wsX70) := goodIn_r _ [44, 45, 46, 47, 48, 49, 50] (by decide +kernel) (by decide +kernel)
set_option maxRecDepth 20000 in
theorem ggL_stitches_X7_stitches : GoodIn wsL_stitches wsX7_stitches := goodIn_ca (goodIn_ca (goodIn_ca (goodIn_ca ggL_stitches_X7_stitches_q0 ggL_stitches_X7_stitches_q1) ggL_stitches_X7_stitches_q2) ggL_stitches_X7_stitches_q3) (goodIn_sub (fun _ h => List.mem_cons_of_mem _ (List.mem_append_right _ h)) (by decide +kernel))
set_option maxRecDepth 20000 in
theorem gL_stitches_X7_stitches : GoodIn wsL_stitches (wsV RL 64 RX7 yX7_stitches wsX7_stitches) := goodIn_app (goodIn_of _ (by decide +kernel)) ggL_stitches_X7_stitches
theorem dL_stitches_0 : decode cL_stitches 0 = .ok (.aload_n 0, 1) := by decide +kernel
theorem dL_stitches_1 : decode cL_stitches 1 = .ok (.iload_n 1, 1) := by decide +kernel
theorem dL_stitches_2 : decode cL_stitches 2 = .ok (.iload_n 2, 1) := by decide +kernel
theorem dL_stitches_3 : decode cL_stitches 3 = .ok (.iload_n 3, 1) := by decide +kernel
theorem dL_stitches_4 : decode cL_stitches 4 = .ok (.invokevirtual 64, 3) := by decide +kernel
theorem dL_stitches_7 : decode cL_stitches 7 = .ok (.ireturn, 1) := by decide +kernel
theorem dL_stitches_8 : decode cL_stitches 8 = .ok (.astore 4, 2) := by decide +kernel
theorem dL_stitches_10 : decode cL_stitches 10 = .ok (.ldc 18, 2) := by decide +kernel
theorem dL_stitches_12 : decode cL_stitches 12 = .ok (.ireturn, 1) := by decide +kernel
set_option maxRecDepth 20000 in
theorem ggL_isHeld_X7_isHeld_q0 : GoodIn wsL_isHeld (.code yX7_isHeld cX7_isHeld 4 (some .boolean) :: wsX7_isHeld_r1) := goodIn_r _ [7, 8, 9, 10, 6, 11, 12, 13, 14, 15, 16, 17, 18, 19, 20, 21, 22, 23, 24, 25, 26, 27, 28, 29, 30] (by decide +kernel) (by decide +kernel)
set_option maxRecDepth 20000 in
theorem ggL_isHeld_X7_isHeld_q1 : GoodIn wsL_isHeld (wsX7_isHeld_r2) := goodIn_r _ [31] (by decide +kernel) (by decide +kernel)
set_option maxRecDepth 20000 in
theorem ggL_isHeld_X7_isHeld_q2 : GoodIn wsL_isHeld (wsX10) := goodIn_r _ [32, 33, 34, 35, 36, 37, 38] (by decide +kernel) (by decide +kernel)
set_option maxRecDepth 20000 in
theorem ggL_isHeld_X7_isHeld_q3 : GoodIn wsL_isHeld (wsX40) := goodIn_r _ [39, 40, 41, 42, 43, 44, 45, 46, 47, 48] (by decide +kernel) (by decide +kernel)
set_option maxRecDepth 20000 in
theorem ggL_isHeld_X7_isHeld_q4 : GoodIn wsL_isHeld (wsX70) := goodIn_r _ [49, 50, 51, 52, 53, 54, 55] (by decide +kernel) (by decide +kernel)
set_option maxRecDepth 20000 in
theorem ggL_isHeld_X7_isHeld : GoodIn wsL_isHeld wsX7_isHeld := goodIn_ca (goodIn_ca (goodIn_ca (goodIn_ca (goodIn_ca ggL_isHeld_X7_isHeld_q0 ggL_isHeld_X7_isHeld_q1) ggL_isHeld_X7_isHeld_q2) ggL_isHeld_X7_isHeld_q3) ggL_isHeld_X7_isHeld_q4) (goodIn_sub (fun _ h => List.mem_cons_of_mem _ (List.mem_append_right _ h)) (by decide +kernel))
set_option maxRecDepth 20000 in
theorem gL_isHeld_X7_isHeld : GoodIn wsL_isHeld (wsV RL 67 RX7 yX7_isHeld wsX7_isHeld) := goodIn_app (goodIn_of _ (by decide +kernel)) ggL_isHeld_X7_isHeld
theorem dL_isHeld_0 : decode cL_isHeld 0 = .ok (.aload_n 0, 1) := by decide +kernel
theorem dL_isHeld_1 : decode cL_isHeld 1 = .ok (.iload_n 1, 1) := by decide +kernel
theorem dL_isHeld_2 : decode cL_isHeld 2 = .ok (.iload_n 2, 1) := by decide +kernel
theorem dL_isHeld_3 : decode cL_isHeld 3 = .ok (.invokevirtual 67, 3) := by decide +kernel
theorem dL_isHeld_6 : decode cL_isHeld 6 = .ok (.ifCond .eq 7, 3) := by decide +kernel
theorem dL_isHeld_9 : decode cL_isHeld 9 = .ok (.iconst 1, 1) := by decide +kernel
theorem dL_isHeld_10 : decode cL_isHeld 10 = .ok (.goto 4, 3) := by decide +kernel
theorem dL_isHeld_13 : decode cL_isHeld 13 = .ok (.iconst 0, 1) := by decide +kernel
theorem dL_isHeld_14 : decode cL_isHeld 14 = .ok (.ireturn, 1) := by decide +kernel
theorem dL_isHeld_15 : decode cL_isHeld 15 = .ok (.astore_n 3, 1) := by decide +kernel
theorem dL_isHeld_16 : decode cL_isHeld 16 = .ok (.ldc 18, 2) := by decide +kernel
theorem dL_isHeld_18 : decode cL_isHeld 18 = .ok (.ireturn, 1) := by decide +kernel
set_option maxRecDepth 20000 in
theorem ggL_back_X7_back : GoodIn wsL_back wsX7_back := goodIn_ca (goodIn_ca (goodIn_r _ [9, 10, 11, 12, 8, 13, 14, 15, 16, 17, 18, 19, 20, 21, 22, 23, 24, 25, 26, 27, 28, 29, 30, 31, 32, 33, 34, 35, 36, 37, 38] (by decide +kernel) (by decide +kernel)) (goodIn_sub (fun _ h => List.mem_cons_of_mem _ (List.mem_append_left _ (List.mem_append_right _ h))) (by decide +kernel))) (goodIn_sub (fun _ h => List.mem_cons_of_mem _ (List.mem_append_right _ h)) (by decide +kernel))
set_option maxRecDepth 20000 in
theorem gL_back_X7_back : GoodIn wsL_back (wsV RL 71 RX7 yX7_back wsX7_back) := goodIn_app (goodIn_of _ (by decide +kernel)) ggL_back_X7_back
theorem dL_back_0 : decode cL_back 0 = .ok (.aload_n 0, 1) := by decide +kernel
theorem dL_back_1 : decode cL_back 1 = .ok (.iload_n 1, 1) := by decide +kernel
theorem dL_back_2 : decode cL_back 2 = .ok (.iload_n 2, 1) := by decide +kernel
theorem dL_back_3 : decode cL_back 3 = .ok (.invokevirtual 71, 3) := by decide +kernel
theorem dL_back_6 : decode cL_back 6 = .ok (.ireturn, 1) := by decide +kernel
theorem dL_back_7 : decode cL_back 7 = .ok (.astore_n 3, 1) := by decide +kernel
theorem dL_back_8 : decode cL_back 8 = .ok (.ldc 18, 2) := by decide +kernel
theorem dL_back_10 : decode cL_back 10 = .ok (.ireturn, 1) := by decide +kernel
theorem dL_back_11 : decode cL_back 11 = .ok (.astore_n 3, 1) := by decide +kernel
theorem dL_back_12 : decode cL_back 12 = .ok (.ldc 21, 2) := by decide +kernel
theorem dL_back_14 : decode cL_back 14 = .ok (.ireturn, 1) := by decide +kernel
