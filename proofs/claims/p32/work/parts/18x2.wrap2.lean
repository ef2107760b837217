theorem dL_coloured_28 : decode cL_coloured 28 = .ok (.irem, 1) := by decide +kernel
theorem dL_coloured_29 : decode cL_coloured 29 = .ok (.iload_n 2, 1) := by decide +kernel
theorem dL_coloured_30 : decode cL_coloured 30 = .ok (.bipush 8, 2) := by decide +kernel
theorem dL_coloured_32 : decode cL_coloured 32 = .ok (.idiv, 1) := by decide +kernel
theorem dL_coloured_33 : decode cL_coloured 33 = .ok (.iconst 1, 1) := by decide +kernel
theorem dL_coloured_34 : decode cL_coloured 34 = .ok (.invokestatic 116, 3) := by decide +kernel
theorem dL_coloured_37 : decode cL_coloured 37 = .ok (.istore 4, 2) := by decide +kernel
theorem dL_coloured_39 : decode cL_coloured 39 = .ok (.iload_n 1, 1) := by decide +kernel
theorem dL_coloured_40 : decode cL_coloured 40 = .ok (.iload_n 3, 1) := by decide +kernel
theorem dL_coloured_41 : decode cL_coloured 41 = .ok (.ifCond .lt 24, 3) := by decide +kernel
theorem dL_coloured_44 : decode cL_coloured 44 = .ok (.iload_n 3, 1) := by decide +kernel
theorem dL_coloured_45 : decode cL_coloured 45 = .ok (.bipush 6, 2) := by decide +kernel
theorem dL_coloured_47 : decode cL_coloured 47 = .ok (.if_icmp .ge 18, 3) := by decide +kernel
theorem dL_coloured_50 : decode cL_coloured 50 = .ok (.iload 4, 2) := by decide +kernel
theorem dL_coloured_52 : decode cL_coloured 52 = .ok (.ifCond .le 13, 3) := by decide +kernel
theorem dL_coloured_55 : decode cL_coloured 55 = .ok (.iload 4, 2) := by decide +kernel
theorem dL_coloured_57 : decode cL_coloured 57 = .ok (.iconst 3, 1) := by decide +kernel
theorem dL_coloured_58 : decode cL_coloured 58 = .ok (.if_icmp .ge 7, 3) := by decide +kernel
theorem dL_coloured_61 : decode cL_coloured 61 = .ok (.iconst 1, 1) := by decide +kernel
theorem dL_coloured_62 : decode cL_coloured 62 = .ok (.goto 20, 3) := by decide +kernel
theorem dL_coloured_65 : decode cL_coloured 65 = .ok (.iload_n 3, 1) := by decide +kernel
theorem dL_coloured_66 : decode cL_coloured 66 = .ok (.iconst (-1), 1) := by decide +kernel
theorem dL_coloured_67 : decode cL_coloured 67 = .ok (.if_icmp .ne 12, 3) := by decide +kernel
theorem dL_coloured_70 : decode cL_coloured 70 = .ok (.iload 4, 2) := by decide +kernel
theorem dL_coloured_72 : decode cL_coloured 72 = .ok (.ifCond .ne 7, 3) := by decide +kernel
theorem dL_coloured_75 : decode cL_coloured 75 = .ok (.iconst 0, 1) := by decide +kernel
theorem dL_coloured_76 : decode cL_coloured 76 = .ok (.goto 6, 3) := by decide +kernel
theorem dL_coloured_79 : decode cL_coloured 79 = .ok (.sipush 1000, 3) := by decide +kernel
theorem dL_coloured_82 : decode cL_coloured 82 = .ok (.iadd, 1) := by decide +kernel
theorem dL_coloured_83 : decode cL_coloured 83 = .ok (.istore_n 1, 1) := by decide +kernel
theorem dL_coloured_84 : decode cL_coloured 84 = .ok (.iinc 2 1, 3) := by decide +kernel
theorem dL_coloured_87 : decode cL_coloured 87 = .ok (.goto (-83), 3) := by decide +kernel
theorem dL_coloured_90 : decode cL_coloured 90 = .ok (.iload_n 1, 1) := by decide +kernel
theorem dL_coloured_91 : decode cL_coloured 91 = .ok (.ireturn, 1) := by decide +kernel
set_option maxRecDepth 20000 in
theorem ggL_paints_L_coloured_q0 : GoodIn wsL_paints (.code yL_coloured cL_coloured 5 (some .int) :: wsL_coloured_r1) := goodIn_r _ [5, 6, 7, 4, 8, 9, 10, 11, 12, 13, 14, 15, 16, 17, 18, 19, 20, 21, 22, 23, 24, 25, 26, 27, 28] (by decide +kernel) (by decide +kernel)
set_option maxRecDepth 20000 in
theorem ggL_paints_L_coloured_q1 : GoodIn wsL_paints (wsL_coloured_r2) := goodIn_r _ [29, 30, 31, 32, 33, 34, 35, 36, 37, 38, 39, 40] (by decide +kernel) (by decide +kernel)
set_option maxRecDepth 20000 in
theorem ggL_paints_L_coloured_q2 : GoodIn wsL_paints (wsX70) := goodIn_r _ [147, 148, 149, 150, 151, 152, 153] (by decide +kernel) (by decide +kernel)
set_option maxRecDepth 20000 in
theorem ggL_paints_L_coloured_q3 : GoodIn wsL_paints (wsX00) := goodIn_r _ [154, 155, 156, 157, 158] (by decide +kernel) (by decide +kernel)
set_option maxRecDepth 20000 in
theorem ggL_paints_L_coloured : GoodIn wsL_paints wsL_coloured := goodIn_ca (goodIn_ca (goodIn_ca (goodIn_ca (goodIn_ca ggL_paints_L_coloured_q0 ggL_paints_L_coloured_q1) ggL_paints_L_coloured_q2) ggL_paints_L_coloured_q3) (goodIn_sub (fun _ h => List.mem_cons_of_mem _ (List.mem_append_left _ (List.mem_append_left _ (List.mem_append_right _ h)))) (by decide +kernel))) (goodIn_sub (fun _ h => List.mem_cons_of_mem _ (List.mem_append_left _ (List.mem_append_right _ h))) (by decide +kernel))
set_option maxRecDepth 20000 in
theorem gL_paints_L_coloured : GoodIn wsL_paints (va_wsS RL 121 yL_coloured wsL_coloured) := goodIn_app (goodIn_of _ (by decide +kernel)) ggL_paints_L_coloured
set_option maxRecDepth 20000 in
theorem ggL_paints_L_low : GoodIn wsL_paints wsL_low := goodIn_r _ [43, 44] (by decide +kernel) (by decide +kernel)
set_option maxRecDepth 20000 in
theorem gL_paints_L_low : GoodIn wsL_paints (va_wsS RL 125 yL_low wsL_low) := goodIn_app (goodIn_of _ (by decide +kernel)) ggL_paints_L_low
set_option maxRecDepth 20000 in
theorem ggL_paints_L_drop_q0 : GoodIn wsL_paints (.codeWith yL_drop cL_drop 6 (some .int) [(0, 9, 10, 16), (0, 9, 15, 19)] :: wsL_drop_r1) := goodIn_r _ [47, 9, 10, 11, 12, 48, 49, 50, 16, 51, 18, 19, 20, 21, 22, 23, 24, 25, 26, 27, 28, 29, 30, 31, 32] (by decide +kernel) (by decide +kernel)
set_option maxRecDepth 20000 in
theorem ggL_paints_L_drop_q1 : GoodIn wsL_paints (wsL_drop_r2) := goodIn_r _ [33, 34, 35, 36, 37, 52, 53, 54, 55, 56, 57, 58, 59, 60, 61, 62, 63, 64, 65, 66] (by decide +kernel) (by decide +kernel)
set_option maxRecDepth 20000 in
theorem ggL_paints_L_drop_q2 : GoodIn wsL_paints (wsX70) := goodIn_r _ [147, 148, 149, 150, 151, 152, 153] (by decide +kernel) (by decide +kernel)
set_option maxRecDepth 20000 in
theorem ggL_paints_L_drop_q3 : GoodIn wsL_paints (wsX00) := goodIn_r _ [154, 155, 156, 157, 158] (by decide +kernel) (by decide +kernel)
set_option maxRecDepth 20000 in
theorem ggL_paints_L_drop : GoodIn wsL_paints wsL_drop := goodIn_ca (goodIn_ca (goodIn_ca (goodIn_ca (goodIn_ca ggL_paints_L_drop_q0 ggL_paints_L_drop_q1) ggL_paints_L_drop_q2) ggL_paints_L_drop_q3) (goodIn_sub (fun _ h => List.mem_cons_of_mem _ (List.mem_append_left _ (List.mem_append_left _ (List.mem_append_right _ h)))) (by decide +kernel))) (goodIn_sub (fun _ h => List.mem_cons_of_mem _ (List.mem_append_left _ (List.mem_append_right _ h))) (by decide +kernel))
set_option maxRecDepth 20000 in
theorem gL_paints_L_drop : GoodIn wsL_paints (va_wsS RL 128 yL_drop wsL_drop) := goodIn_app (goodIn_of _ (by decide +kernel)) ggL_paints_L_drop
set_option maxRecDepth 20000 in
theorem ggL_paints_L_cellAt_q0 : GoodIn wsL_paints (.codeWith yL_cellAt cL_cellAt 5 (some .int) [(0, 7, 8, 16), (0, 7, 13, 19)] :: wsL_cellAt_r1) := goodIn_r _ [8, 9, 10, 11, 12, 13, 14, 15, 16, 17, 18, 19, 20, 21, 22, 23, 24, 25, 26, 27, 28, 29, 30, 31, 32] (by decide +kernel) (by decide +kernel)
set_option maxRecDepth 20000 in
theorem ggL_paints_L_cellAt_q1 : GoodIn wsL_paints (wsL_cellAt_r2) := goodIn_r _ [33, 34, 35, 36, 37, 38, 39, 40] (by decide +kernel) (by decide +kernel)
set_option maxRecDepth 20000 in
theorem ggL_paints_L_cellAt_q2 : GoodIn wsL_paints (wsX70) := goodIn_r _ [147, 148, 149, 150, 151, 152, 153] (by decide +kernel) (by decide +kernel)
set_option maxRecDepth 20000 in
theorem ggL_paints_L_cellAt_q3 : GoodIn wsL_paints (wsX00) := goodIn_r _ [154, 155, 156, 157, 158] (by decide +kernel) (by decide +kernel)
set_option maxRecDepth 20000 in
theorem ggL_paints_L_cellAt : GoodIn wsL_paints wsL_cellAt := goodIn_ca (goodIn_ca (goodIn_ca (goodIn_ca (goodIn_ca ggL_paints_L_cellAt_q0 ggL_paints_L_cellAt_q1) ggL_paints_L_cellAt_q2) ggL_paints_L_cellAt_q3) (goodIn_sub (fun _ h => List.mem_cons_of_mem _ (List.mem_append_left _ (List.mem_append_left _ (List.mem_append_right _ h)))) (by decide +kernel))) (goodIn_sub (fun _ h => List.mem_cons_of_mem _ (List.mem_append_left _ (List.mem_append_right _ h))) (by decide +kernel))
set_option maxRecDepth 20000 in
theorem gL_paints_L_cellAt : GoodIn wsL_paints (va_wsS RL 116 yL_cellAt wsL_cellAt) := goodIn_app (goodIn_of _ (by decide +kernel)) ggL_paints_L_cellAt
set_option maxRecDepth 20000 in
theorem ggL_paints_L_comb_q0 : GoodIn wsL_paints (.codeWith yL_comb cL_comb 5 (some .int) [(0, 7, 8, 16), (0, 7, 13, 19)] :: wsL_comb_r1) := goodIn_r _ [69, 9, 10, 11, 12, 70, 71, 72, 16, 73, 18, 22, 23, 24, 25, 26, 27, 28, 29, 30, 31, 32, 33, 34, 35] (by decide +kernel) (by decide +kernel)
set_option maxRecDepth 20000 in
theorem ggL_paints_L_comb_q1 : GoodIn wsL_paints (wsL_comb_r2) := goodIn_r _ [36, 37, 74, 75, 76, 55, 77, 78, 58, 79, 59, 39, 40, 80, 81, 82, 83] (by decide +kernel) (by decide +kernel)
set_option maxRecDepth 20000 in
theorem ggL_paints_L_comb_q2 : GoodIn wsL_paints (wsX70) := goodIn_r _ [147, 148, 149, 150, 151, 152, 153] (by decide +kernel) (by decide +kernel)
set_option maxRecDepth 20000 in
theorem ggL_paints_L_comb_q3 : GoodIn wsL_paints (wsX00) := goodIn_r _ [154, 155, 156, 157, 158] (by decide +kernel) (by decide +kernel)
set_option maxRecDepth 20000 in
theorem ggL_paints_L_comb : GoodIn wsL_paints wsL_comb := goodIn_ca (goodIn_ca (goodIn_ca (goodIn_ca (goodIn_ca ggL_paints_L_comb_q0 ggL_paints_L_comb_q1) ggL_paints_L_comb_q2) ggL_paints_L_comb_q3) (goodIn_sub (fun _ h => List.mem_cons_of_mem _ (List.mem_append_left _ (List.mem_append_left _ (List.mem_append_right _ h)))) (by decide +kernel))) (goodIn_sub (fun _ h => List.mem_cons_of_mem _ (List.mem_append_left _ (List.mem_append_right _ h))) (by decide +kernel))
set_option maxRecDepth 20000 in
theorem gL_paints_L_comb : GoodIn wsL_paints (va_wsS RL 131 yL_comb wsL_comb) := goodIn_app (goodIn_of _ (by decide +kernel)) ggL_paints_L_comb
set_option maxRecDepth 20000 in
theorem ggL_paints_L_lift_q0 : GoodIn wsL_paints (.codeWith yL_lift cL_lift 2 (some .int) [(0, 4, 5, 30)] :: wsL_lift_r1) := goodIn_r _ [86, 87, 1, 88, 89, 90, 16, 91, 92, 93, 18, 94, 95, 96, 97, 98, 99, 100, 101, 55, 102, 103, 104, 105, 58] (by decide +kernel) (by decide +kernel)
set_option maxRecDepth 20000 in
theorem ggL_paints_L_lift_q1 : GoodIn wsL_paints (wsL_lift_r2) := goodIn_r _ [106, 107, 108, 109, 110, 111, 112, 113, 114, 115, 116, 59] (by decide +kernel) (by decide +kernel)
set_option maxRecDepth 20000 in
theorem ggL_paints_L_lift_q2 : GoodIn wsL_paints (wsX70) := goodIn_r _ [147, 148, 149, 150, 151, 152, 153] (by decide +kernel) (by decide +kernel)
set_option maxRecDepth 20000 in
theorem ggL_paints_L_lift_q3 : GoodIn wsL_paints (wsX20) := goodIn_r _ [159] (by decide +kernel) (by decide +kernel)
set_option maxRecDepth 20000 in
theorem ggL_paints_L_lift_q4 : GoodIn wsL_paints (wsX00) := goodIn_r _ [154, 155, 156, 157, 158] (by decide +kernel) (by decide +kernel)
set_option maxRecDepth 20000 in
theorem ggL_paints_L_lift : GoodIn wsL_paints wsL_lift := goodIn_ca (goodIn_ca (goodIn_ca (goodIn_ca (goodIn_ca ggL_paints_L_lift_q0 ggL_paints_L_lift_q1) ggL_paints_L_lift_q2) ggL_paints_L_lift_q3) ggL_paints_L_lift_q4) (goodIn_sub (fun _ h => List.mem_cons_of_mem _ (List.mem_append_right _ h)) (by decide +kernel))
set_option maxRecDepth 20000 in
theorem gL_paints_L_lift : GoodIn wsL_paints (va_wsS RL 134 yL_lift wsL_lift) := goodIn_app (goodIn_of _ (by decide +kernel)) ggL_paints_L_lift
set_option maxRecDepth 20000 in
theorem ggL_paints_X7_clean : GoodIn wsL_paints wsX7_clean := goodIn_r _ [120, 18, 121, 122, 123, 55, 124, 58, 59, 147, 148, 149, 150, 151, 152, 153, 154, 155, 156, 157, 158] (by decide +kernel) (by decide +kernel)
set_option maxRecDepth 20000 in
theorem gL_paints_X7_clean : GoodIn wsL_paints (wsV RL 136 RX7 yX7_clean wsX7_clean) := goodIn_app (goodIn_of _ (by decide +kernel)) ggL_paints_X7_clean
set_option maxRecDepth 20000 in
theorem ggL_paints_L_count : GoodIn wsL_paints wsL_count := goodIn_ca (goodIn_ca (goodIn_r _ [127, 9, 10, 11, 12, 128, 129, 130, 16, 131, 132, 133, 134, 135, 31, 32, 93, 25, 26, 27, 33, 34, 35, 36, 37, 136, 137, 138, 105, 139, 112, 147, 148, 149, 150, 151, 152, 153, 159] (by decide +kernel) (by decide +kernel)) (goodIn_sub (fun _ h => List.mem_cons_of_mem _ (List.mem_append_left _ (List.mem_append_left _ (List.mem_append_right _ h)))) (by decide +kernel))) (goodIn_sub (fun _ h => List.mem_cons_of_mem _ (List.mem_append_left _ (List.mem_append_right _ h))) (by decide +kernel))
set_option maxRecDepth 20000 in
theorem gL_paints_L_count : GoodIn wsL_paints (va_wsS RL 139 yL_count wsL_count) := goodIn_app (goodIn_of _ (by decide +kernel)) ggL_paints_L_count
set_option maxRecDepth 20000 in
theorem ggL_paints_L_printAt : GoodIn wsL_paints wsL_printAt := goodIn_ca (goodIn_r _ [142, 9, 11, 143, 144, 145, 16, 146, 132, 133, 134, 135, 31, 32, 93, 25, 26, 27, 19, 20, 21, 22, 23, 24, 28, 29, 30, 38, 39, 40, 159, 147, 148, 149, 150, 151, 152, 153] (by decide +kernel) (by decide +kernel)) (goodIn_sub (fun _ h => List.mem_cons_of_mem _ (List.mem_append_left _ (List.mem_append_left _ (List.mem_append_right _ h)))) (by decide +kernel))
set_option maxRecDepth 20000 in
theorem gL_paints_L_printAt : GoodIn wsL_paints (va_wsS RL 142 yL_printAt wsL_printAt) := goodIn_app (goodIn_of _ (by decide +kernel)) ggL_paints_L_printAt
theorem dL_paints_0 : decode cL_paints 0 = .ok (.aload_n 0, 1) := by decide +kernel
theorem dL_paints_1 : decode cL_paints 1 = .ok (.invokestatic 121, 3) := by decide +kernel
theorem dL_paints_4 : decode cL_paints 4 = .ok (.istore 4, 2) := by decide +kernel
theorem dL_paints_6 : decode cL_paints 6 = .ok (.iload_n 2, 1) := by decide +kernel
theorem dL_paints_7 : decode cL_paints 7 = .ok (.bipush 8, 2) := by decide +kernel
theorem dL_paints_9 : decode cL_paints 9 = .ok (.invokestatic 125, 3) := by decide +kernel
theorem dL_paints_12 : decode cL_paints 12 = .ok (.istore 5, 2) := by decide +kernel
theorem dL_paints_14 : decode cL_paints 14 = .ok (.iload 5, 2) := by decide +kernel
theorem dL_paints_16 : decode cL_paints 16 = .ok (.iconst 4, 1) := by decide +kernel
theorem dL_paints_17 : decode cL_paints 17 = .ok (.if_icmp .ge 148, 3) := by decide +kernel
theorem dL_paints_20 : decode cL_paints 20 = .ok (.iconst 1, 1) := by decide +kernel
theorem dL_paints_21 : decode cL_paints 21 = .ok (.iload_n 3, 1) := by decide +kernel
theorem dL_paints_22 : decode cL_paints 22 = .ok (.bipush 9, 2) := by decide +kernel
theorem dL_paints_24 : decode cL_paints 24 = .ok (.ishr, 1) := by decide +kernel
theorem dL_paints_25 : decode cL_paints 25 = .ok (.bipush 64, 2) := by decide +kernel
theorem dL_paints_27 : decode cL_paints 27 = .ok (.invokestatic 125, 3) := by decide +kernel
theorem dL_paints_30 : decode cL_paints 30 = .ok (.iadd, 1) := by decide +kernel
theorem dL_paints_31 : decode cL_paints 31 = .ok (.istore 6, 2) := by decide +kernel
theorem dL_paints_33 : decode cL_paints 33 = .ok (.iload_n 3, 1) := by decide +kernel
theorem dL_paints_34 : decode cL_paints 34 = .ok (.bipush 8, 2) := by decide +kernel
theorem dL_paints_36 : decode cL_paints 36 = .ok (.invokestatic 125, 3) := by decide +kernel
theorem dL_paints_39 : decode cL_paints 39 = .ok (.istore 7, 2) := by decide +kernel
theorem dL_paints_41 : decode cL_paints 41 = .ok (.iload_n 3, 1) := by decide +kernel
theorem dL_paints_42 : decode cL_paints 42 = .ok (.iconst 3, 1) := by decide +kernel
theorem dL_paints_43 : decode cL_paints 43 = .ok (.ishr, 1) := by decide +kernel
theorem dL_paints_44 : decode cL_paints 44 = .ok (.bipush 8, 2) := by decide +kernel
theorem dL_paints_46 : decode cL_paints 46 = .ok (.invokestatic 125, 3) := by decide +kernel
theorem dL_paints_49 : decode cL_paints 49 = .ok (.istore 8, 2) := by decide +kernel
theorem dL_paints_51 : decode cL_paints 51 = .ok (.iload_n 3, 1) := by decide +kernel
theorem dL_paints_52 : decode cL_paints 52 = .ok (.bipush 6, 2) := by decide +kernel
theorem dL_paints_54 : decode cL_paints 54 = .ok (.ishr, 1) := by decide +kernel
theorem dL_paints_55 : decode cL_paints 55 = .ok (.bipush 6, 2) := by decide +kernel
theorem dL_paints_57 : decode cL_paints 57 = .ok (.invokestatic 125, 3) := by decide +kernel
theorem dL_paints_60 : decode cL_paints 60 = .ok (.istore 9, 2) := by decide +kernel
theorem dL_paints_62 : decode cL_paints 62 = .ok (.aload_n 0, 1) := by decide +kernel
theorem dL_paints_63 : decode cL_paints 63 = .ok (.iload 7, 2) := by decide +kernel
theorem dL_paints_65 : decode cL_paints 65 = .ok (.iload 8, 2) := by decide +kernel
theorem dL_paints_67 : decode cL_paints 67 = .ok (.iload 9, 2) := by decide +kernel
theorem dL_paints_69 : decode cL_paints 69 = .ok (.iload 6, 2) := by decide +kernel
theorem dL_paints_71 : decode cL_paints 71 = .ok (.invokestatic 128, 3) := by decide +kernel
theorem dL_paints_74 : decode cL_paints 74 = .ok (.istore 10, 2) := by decide +kernel
theorem dL_paints_76 : decode cL_paints 76 = .ok (.aload_n 0, 1) := by decide +kernel
theorem dL_paints_77 : decode cL_paints 77 = .ok (.invokestatic 121, 3) := by decide +kernel
theorem dL_paints_80 : decode cL_paints 80 = .ok (.istore 11, 2) := by decide +kernel
theorem dL_paints_82 : decode cL_paints 82 = .ok (.iload 10, 2) := by decide +kernel
theorem dL_paints_84 : decode cL_paints 84 = .ok (.ifCond .lt 79, 3) := by decide +kernel
theorem dL_paints_87 : decode cL_paints 87 = .ok (.iload 10, 2) := by decide +kernel
theorem dL_paints_89 : decode cL_paints 89 = .ok (.iload 6, 2) := by decide +kernel
theorem dL_paints_91 : decode cL_paints 91 = .ok (.if_icmp .gt 72, 3) := by decide +kernel
theorem dL_paints_94 : decode cL_paints 94 = .ok (.iload 11, 2) := by decide +kernel
theorem dL_paints_96 : decode cL_paints 96 = .ok (.iload 4, 2) := by decide +kernel
theorem dL_paints_98 : decode cL_paints 98 = .ok (.if_icmp .lt 65, 3) := by decide +kernel
theorem dL_paints_101 : decode cL_paints 101 = .ok (.iload 11, 2) := by decide +kernel
theorem dL_paints_103 : decode cL_paints 103 = .ok (.iload 4, 2) := by decide +kernel
theorem dL_paints_105 : decode cL_paints 105 = .ok (.iload 10, 2) := by decide +kernel
theorem dL_paints_107 : decode cL_paints 107 = .ok (.iadd, 1) := by decide +kernel
theorem dL_paints_108 : decode cL_paints 108 = .ok (.if_icmp .gt 55, 3) := by decide +kernel
theorem dL_paints_111 : decode cL_paints 111 = .ok (.iload 11, 2) := by decide +kernel
theorem dL_paints_113 : decode cL_paints 113 = .ok (.bipush 65, 2) := by decide +kernel
theorem dL_paints_115 : decode cL_paints 115 = .ok (.if_icmp .ge 48, 3) := by decide +kernel
theorem dL_paints_118 : decode cL_paints 118 = .ok (.iload 10, 2) := by decide +kernel
theorem dL_paints_120 : decode cL_paints 120 = .ok (.ifCond .eq 8, 3) := by decide +kernel
theorem dL_paints_123 : decode cL_paints 123 = .ok (.iload 11, 2) := by decide +kernel
theorem dL_paints_125 : decode cL_paints 125 = .ok (.ifCond .le 38, 3) := by decide +kernel
theorem dL_paints_128 : decode cL_paints 128 = .ok (.aload_n 0, 1) := by decide +kernel
theorem dL_paints_129 : decode cL_paints 129 = .ok (.iload 7, 2) := by decide +kernel
theorem dL_paints_131 : decode cL_paints 131 = .ok (.iload 8, 2) := by decide +kernel
theorem dL_paints_133 : decode cL_paints 133 = .ok (.iconst 0, 1) := by decide +kernel
theorem dL_paints_134 : decode cL_paints 134 = .ok (.invokestatic 116, 3) := by decide +kernel
theorem dL_paints_137 : decode cL_paints 137 = .ok (.iload 9, 2) := by decide +kernel
theorem dL_paints_139 : decode cL_paints 139 = .ok (.if_icmp .lt 24, 3) := by decide +kernel
theorem dL_paints_142 : decode cL_paints 142 = .ok (.aload_n 0, 1) := by decide +kernel
theorem dL_paints_143 : decode cL_paints 143 = .ok (.iload 7, 2) := by decide +kernel
theorem dL_paints_145 : decode cL_paints 145 = .ok (.iload 8, 2) := by decide +kernel
theorem dL_paints_147 : decode cL_paints 147 = .ok (.iload 9, 2) := by decide +kernel
theorem dL_paints_149 : decode cL_paints 149 = .ok (.iload 6, 2) := by decide +kernel
theorem dL_paints_151 : decode cL_paints 151 = .ok (.invokestatic 128, 3) := by decide +kernel
theorem dL_paints_154 : decode cL_paints 154 = .ok (.iload 10, 2) := by decide +kernel
theorem dL_paints_156 : decode cL_paints 156 = .ok (.if_icmp .ne 7, 3) := by decide +kernel
theorem dL_paints_159 : decode cL_paints 159 = .ok (.iconst 1, 1) := by decide +kernel
theorem dL_paints_160 : decode cL_paints 160 = .ok (.goto 4, 3) := by decide +kernel
theorem dL_paints_163 : decode cL_paints 163 = .ok (.iconst 0, 1) := by decide +kernel
theorem dL_paints_164 : decode cL_paints 164 = .ok (.ireturn, 1) := by decide +kernel
theorem dL_paints_165 : decode cL_paints 165 = .ok (.iload 5, 2) := by decide +kernel
theorem dL_paints_167 : decode cL_paints 167 = .ok (.bipush 7, 2) := by decide +kernel
theorem dL_paints_169 : decode cL_paints 169 = .ok (.if_icmp .ge 111, 3) := by decide +kernel
theorem dL_paints_172 : decode cL_paints 172 = .ok (.iload_n 3, 1) := by decide +kernel
theorem dL_paints_173 : decode cL_paints 173 = .ok (.iconst 2, 1) := by decide +kernel
theorem dL_paints_174 : decode cL_paints 174 = .ok (.invokestatic 125, 3) := by decide +kernel
theorem dL_paints_177 : decode cL_paints 177 = .ok (.ifCond .ne 7, 3) := by decide +kernel
theorem dL_paints_180 : decode cL_paints 180 = .ok (.iconst 1, 1) := by decide +kernel
theorem dL_paints_181 : decode cL_paints 181 = .ok (.goto 4, 3) := by decide +kernel
theorem dL_paints_184 : decode cL_paints 184 = .ok (.iconst 0, 1) := by decide +kernel
theorem dL_paints_185 : decode cL_paints 185 = .ok (.istore 6, 2) := by decide +kernel
theorem dL_paints_187 : decode cL_paints 187 = .ok (.iload_n 3, 1) := by decide +kernel
theorem dL_paints_188 : decode cL_paints 188 = .ok (.iconst 1, 1) := by decide +kernel
theorem dL_paints_189 : decode cL_paints 189 = .ok (.ishr, 1) := by decide +kernel
theorem dL_paints_190 : decode cL_paints 190 = .ok (.bipush 8, 2) := by decide +kernel
theorem dL_paints_192 : decode cL_paints 192 = .ok (.invokestatic 125, 3) := by decide +kernel
theorem dL_paints_195 : decode cL_paints 195 = .ok (.istore 7, 2) := by decide +kernel
theorem dL_paints_197 : decode cL_paints 197 = .ok (.iload_n 3, 1) := by decide +kernel
theorem dL_paints_198 : decode cL_paints 198 = .ok (.iconst 4, 1) := by decide +kernel
theorem dL_paints_199 : decode cL_paints 199 = .ok (.ishr, 1) := by decide +kernel
theorem dL_paints_200 : decode cL_paints 200 = .ok (.bipush 15, 2) := by decide +kernel
theorem dL_paints_202 : decode cL_paints 202 = .ok (.invokestatic 125, 3) := by decide +kernel
theorem dL_paints_205 : decode cL_paints 205 = .ok (.bipush 7, 2) := by decide +kernel
theorem dL_paints_207 : decode cL_paints 207 = .ok (.isub, 1) := by decide +kernel
theorem dL_paints_208 : decode cL_paints 208 = .ok (.istore 8, 2) := by decide +kernel
theorem dL_paints_210 : decode cL_paints 210 = .ok (.aload_n 0, 1) := by decide +kernel
theorem dL_paints_211 : decode cL_paints 211 = .ok (.iload 6, 2) := by decide +kernel
theorem dL_paints_213 : decode cL_paints 213 = .ok (.iload 7, 2) := by decide +kernel
theorem dL_paints_215 : decode cL_paints 215 = .ok (.iload 8, 2) := by decide +kernel
theorem dL_paints_217 : decode cL_paints 217 = .ok (.invokestatic 131, 3) := by decide +kernel
theorem dL_paints_220 : decode cL_paints 220 = .ok (.istore 9, 2) := by decide +kernel
theorem dL_paints_222 : decode cL_paints 222 = .ok (.iload 9, 2) := by decide +kernel
theorem dL_paints_224 : decode cL_paints 224 = .ok (.ifCond .lt 54, 3) := by decide +kernel
theorem dL_paints_227 : decode cL_paints 227 = .ok (.iload 9, 2) := by decide +kernel
theorem dL_paints_229 : decode cL_paints 229 = .ok (.bipush 9, 2) := by decide +kernel
theorem dL_paints_231 : decode cL_paints 231 = .ok (.if_icmp .ge 47, 3) := by decide +kernel
theorem dL_paints_234 : decode cL_paints 234 = .ok (.aload_n 0, 1) := by decide +kernel
theorem dL_paints_235 : decode cL_paints 235 = .ok (.invokestatic 121, 3) := by decide +kernel
theorem dL_paints_238 : decode cL_paints 238 = .ok (.iload 4, 2) := by decide +kernel
theorem dL_paints_240 : decode cL_paints 240 = .ok (.if_icmp .ne 38, 3) := by decide +kernel
theorem dL_paints_243 : decode cL_paints 243 = .ok (.aload_n 0, 1) := by decide +kernel
theorem dL_paints_244 : decode cL_paints 244 = .ok (.iload 6, 2) := by decide +kernel
theorem dL_paints_246 : decode cL_paints 246 = .ok (.iload 7, 2) := by decide +kernel
theorem dL_paints_248 : decode cL_paints 248 = .ok (.iload 8, 2) := by decide +kernel
theorem dL_paints_250 : decode cL_paints 250 = .ok (.ineg, 1) := by decide +kernel
theorem dL_paints_251 : decode cL_paints 251 = .ok (.invokestatic 131, 3) := by decide +kernel
theorem dL_paints_254 : decode cL_paints 254 = .ok (.iload 9, 2) := by decide +kernel
theorem dL_paints_256 : decode cL_paints 256 = .ok (.if_icmp .ne 22, 3) := by decide +kernel
theorem dL_paints_259 : decode cL_paints 259 = .ok (.aload_n 0, 1) := by decide +kernel
theorem dL_paints_260 : decode cL_paints 260 = .ok (.iload 6, 2) := by decide +kernel
theorem dL_paints_262 : decode cL_paints 262 = .ok (.iload 7, 2) := by decide +kernel
theorem dL_paints_264 : decode cL_paints 264 = .ok (.iload 8, 2) := by decide +kernel
theorem dL_paints_266 : decode cL_paints 266 = .ok (.invokestatic 131, 3) := by decide +kernel
theorem dL_paints_269 : decode cL_paints 269 = .ok (.iload 9, 2) := by decide +kernel
theorem dL_paints_271 : decode cL_paints 271 = .ok (.if_icmp .ne 7, 3) := by decide +kernel
theorem dL_paints_274 : decode cL_paints 274 = .ok (.iconst 1, 1) := by decide +kernel
theorem dL_paints_275 : decode cL_paints 275 = .ok (.goto 4, 3) := by decide +kernel
theorem dL_paints_278 : decode cL_paints 278 = .ok (.iconst 0, 1) := by decide +kernel
theorem dL_paints_279 : decode cL_paints 279 = .ok (.ireturn, 1) := by decide +kernel
theorem dL_paints_280 : decode cL_paints 280 = .ok (.aload_n 0, 1) := by decide +kernel
theorem dL_paints_281 : decode cL_paints 281 = .ok (.invokestatic 134, 3) := by decide +kernel
theorem dL_paints_284 : decode cL_paints 284 = .ok (.istore 6, 2) := by decide +kernel
theorem dL_paints_286 : decode cL_paints 286 = .ok (.aload_n 1, 1) := by decide +kernel
theorem dL_paints_287 : decode cL_paints 287 = .ok (.iconst 0, 1) := by decide +kernel
theorem dL_paints_288 : decode cL_paints 288 = .ok (.iaload, 1) := by decide +kernel
theorem dL_paints_289 : decode cL_paints 289 = .ok (.bipush 10, 2) := by decide +kernel
theorem dL_paints_291 : decode cL_paints 291 = .ok (.if_icmp .ne 49, 3) := by decide +kernel
theorem dL_paints_294 : decode cL_paints 294 = .ok (.iload 6, 2) := by decide +kernel
theorem dL_paints_296 : decode cL_paints 296 = .ok (.ldc 32, 2) := by decide +kernel
theorem dL_paints_298 : decode cL_paints 298 = .ok (.if_icmp .ne 40, 3) := by decide +kernel
theorem dL_paints_301 : decode cL_paints 301 = .ok (.aload_n 0, 1) := by decide +kernel
theorem dL_paints_302 : decode cL_paints 302 = .ok (.invokestatic 121, 3) := by decide +kernel
theorem dL_paints_305 : decode cL_paints 305 = .ok (.iload 4, 2) := by decide +kernel
theorem dL_paints_307 : decode cL_paints 307 = .ok (.if_icmp .ne 31, 3) := by decide +kernel
theorem dL_paints_310 : decode cL_paints 310 = .ok (.iload_n 3, 1) := by decide +kernel
theorem dL_paints_311 : decode cL_paints 311 = .ok (.iconst 3, 1) := by decide +kernel
theorem dL_paints_312 : decode cL_paints 312 = .ok (.invokestatic 125, 3) := by decide +kernel
theorem dL_paints_315 : decode cL_paints 315 = .ok (.ifCond .gt 19, 3) := by decide +kernel
theorem dL_paints_318 : decode cL_paints 318 = .ok (.aload_n 0, 1) := by decide +kernel
theorem dL_paints_319 : decode cL_paints 319 = .ok (.invokevirtual 136, 3) := by decide +kernel
theorem dL_paints_322 : decode cL_paints 322 = .ok (.iload 4, 2) := by decide +kernel
theorem dL_paints_324 : decode cL_paints 324 = .ok (.if_icmp .ne 14, 3) := by decide +kernel
theorem dL_paints_327 : decode cL_paints 327 = .ok (.aload_n 0, 1) := by decide +kernel
theorem dL_paints_328 : decode cL_paints 328 = .ok (.invokestatic 121, 3) := by decide +kernel
theorem dL_paints_331 : decode cL_paints 331 = .ok (.ifCond .ne 7, 3) := by decide +kernel
theorem dL_paints_334 : decode cL_paints 334 = .ok (.iconst 1, 1) := by decide +kernel
theorem dL_paints_335 : decode cL_paints 335 = .ok (.goto 4, 3) := by decide +kernel
theorem dL_paints_338 : decode cL_paints 338 = .ok (.iconst 0, 1) := by decide +kernel
theorem dL_paints_339 : decode cL_paints 339 = .ok (.ireturn, 1) := by decide +kernel
theorem dL_paints_340 : decode cL_paints 340 = .ok (.aload_n 1, 1) := by decide +kernel
theorem dL_paints_341 : decode cL_paints 341 = .ok (.iconst 0, 1) := by decide +kernel
theorem dL_paints_342 : decode cL_paints 342 = .ok (.dup2, 1) := by decide +kernel
theorem dL_paints_343 : decode cL_paints 343 = .ok (.iaload, 1) := by decide +kernel
theorem dL_paints_344 : decode cL_paints 344 = .ok (.iconst 1, 1) := by decide +kernel
theorem dL_paints_345 : decode cL_paints 345 = .ok (.iadd, 1) := by decide +kernel
theorem dL_paints_346 : decode cL_paints 346 = .ok (.iastore, 1) := by decide +kernel
theorem dL_paints_347 : decode cL_paints 347 = .ok (.iconst 0, 1) := by decide +kernel
theorem dL_paints_348 : decode cL_paints 348 = .ok (.istore 7, 2) := by decide +kernel
theorem dL_paints_350 : decode cL_paints 350 = .ok (.iload 6, 2) := by decide +kernel
theorem dL_paints_352 : decode cL_paints 352 = .ok (.aload_n 1, 1) := by decide +kernel
theorem dL_paints_353 : decode cL_paints 353 = .ok (.iconst 0, 1) := by decide +kernel
theorem dL_paints_354 : decode cL_paints 354 = .ok (.iaload, 1) := by decide +kernel
theorem dL_paints_355 : decode cL_paints 355 = .ok (.iconst 1, 1) := by decide +kernel
theorem dL_paints_356 : decode cL_paints 356 = .ok (.isub, 1) := by decide +kernel
theorem dL_paints_357 : decode cL_paints 357 = .ok (.if_icmp .ne 22, 3) := by decide +kernel
theorem dL_paints_360 : decode cL_paints 360 = .ok (.aload_n 0, 1) := by decide +kernel
theorem dL_paints_361 : decode cL_paints 361 = .ok (.iload 6, 2) := by decide +kernel
theorem dL_paints_363 : decode cL_paints 363 = .ok (.iconst (-1), 1) := by decide +kernel
theorem dL_paints_364 : decode cL_paints 364 = .ok (.invokestatic 139, 3) := by decide +kernel
theorem dL_paints_367 : decode cL_paints 367 = .ok (.bipush 64, 2) := by decide +kernel
theorem dL_paints_369 : decode cL_paints 369 = .ok (.iload 4, 2) := by decide +kernel
theorem dL_paints_371 : decode cL_paints 371 = .ok (.isub, 1) := by decide +kernel
theorem dL_paints_372 : decode cL_paints 372 = .ok (.if_icmp .ne 7, 3) := by decide +kernel
theorem dL_paints_375 : decode cL_paints 375 = .ok (.iconst 1, 1) := by decide +kernel
theorem dL_paints_376 : decode cL_paints 376 = .ok (.goto 4, 3) := by decide +kernel
theorem dL_paints_379 : decode cL_paints 379 = .ok (.iconst 0, 1) := by decide +kernel
theorem dL_paints_380 : decode cL_paints 380 = .ok (.istore 8, 2) := by decide +kernel
theorem dL_paints_382 : decode cL_paints 382 = .ok (.iconst 0, 1) := by decide +kernel
theorem dL_paints_383 : decode cL_paints 383 = .ok (.istore 9, 2) := by decide +kernel
theorem dL_paints_385 : decode cL_paints 385 = .ok (.iload 9, 2) := by decide +kernel
theorem dL_paints_387 : decode cL_paints 387 = .ok (.bipush 6, 2) := by decide +kernel
theorem dL_paints_389 : decode cL_paints 389 = .ok (.if_icmp .ge 22, 3) := by decide +kernel
theorem dL_paints_392 : decode cL_paints 392 = .ok (.iload 7, 2) := by decide +kernel
theorem dL_paints_394 : decode cL_paints 394 = .ok (.aload_n 0, 1) := by decide +kernel
theorem dL_paints_395 : decode cL_paints 395 = .ok (.iload 6, 2) := by decide +kernel
