theorem dL_pare_4 : decode cL_pare 4 = .ok (.iload 4, 2) := by decide +kernel
theorem dL_pare_6 : decode cL_pare 6 = .ok (.iload 5, 2) := by decide +kernel
theorem dL_pare_8 : decode cL_pare 8 = .ok (.iload 6, 2) := by decide +kernel
theorem dL_pare_10 : decode cL_pare 10 = .ok (.invokevirtual 90, 3) := by decide +kernel
theorem dL_pare_13 : decode cL_pare 13 = .ok (.ireturn, 1) := by decide +kernel
theorem dL_pare_14 : decode cL_pare 14 = .ok (.astore 7, 2) := by decide +kernel
theorem dL_pare_16 : decode cL_pare 16 = .ok (.ldc 18, 2) := by decide +kernel
theorem dL_pare_18 : decode cL_pare 18 = .ok (.ireturn, 1) := by decide +kernel
theorem dL_pare_19 : decode cL_pare 19 = .ok (.astore 7, 2) := by decide +kernel
theorem dL_pare_21 : decode cL_pare 21 = .ok (.ldc 21, 2) := by decide +kernel
theorem dL_pare_23 : decode cL_pare 23 = .ok (.ireturn, 1) := by decide +kernel
theorem dL_pare_24 : decode cL_pare 24 = .ok (.astore 7, 2) := by decide +kernel
theorem dL_pare_26 : decode cL_pare 26 = .ok (.ldc 32, 2) := by decide +kernel
theorem dL_pare_28 : decode cL_pare 28 = .ok (.ireturn, 1) := by decide +kernel
set_option maxRecDepth 20000 in
theorem ggL_thickAt_X7_thickAt : GoodIn wsL_thickAt wsX7_thickAt := goodIn_ca (goodIn_r _ [7, 8, 9, 10, 6, 11, 12, 13, 14, 15, 16, 17, 18, 19, 20, 21, 22, 23, 24, 25, 26, 27, 28, 29, 30, 31, 32, 33, 34, 35, 36, 37] (by decide +kernel) (by decide +kernel)) (goodIn_sub (fun _ h => List.mem_cons_of_mem _ (List.mem_append_right _ h)) (by decide +kernel))
set_option maxRecDepth 20000 in
theorem gL_thickAt_X7_thickAt : GoodIn wsL_thickAt (wsV RL 94 RX7 yX7_thickAt wsX7_thickAt) := goodIn_app (goodIn_of _ (by decide +kernel)) ggL_thickAt_X7_thickAt
theorem dL_thickAt_0 : decode cL_thickAt 0 = .ok (.aload_n 0, 1) := by decide +kernel
theorem dL_thickAt_1 : decode cL_thickAt 1 = .ok (.iload_n 1, 1) := by decide +kernel
theorem dL_thickAt_2 : decode cL_thickAt 2 = .ok (.iload_n 2, 1) := by decide +kernel
theorem dL_thickAt_3 : decode cL_thickAt 3 = .ok (.iload_n 3, 1) := by decide +kernel
theorem dL_thickAt_4 : decode cL_thickAt 4 = .ok (.invokevirtual 94, 3) := by decide +kernel
theorem dL_thickAt_7 : decode cL_thickAt 7 = .ok (.ireturn, 1) := by decide +kernel
theorem dL_thickAt_8 : decode cL_thickAt 8 = .ok (.astore 4, 2) := by decide +kernel
theorem dL_thickAt_10 : decode cL_thickAt 10 = .ok (.ldc 18, 2) := by decide +kernel
theorem dL_thickAt_12 : decode cL_thickAt 12 = .ok (.ireturn, 1) := by decide +kernel
set_option maxRecDepth 20000 in
theorem ggL_tooThick_X7_tooThick : GoodIn wsL_tooThick wsX7_tooThick := goodIn_ca (goodIn_r _ [7, 8, 9, 10, 6, 11, 12, 13, 14, 15, 16, 17, 18, 19, 20, 21, 22, 23, 24, 25, 26, 27, 28, 29, 30, 31, 32, 33, 34, 35, 36] (by decide +kernel) (by decide +kernel)) (goodIn_sub (fun _ h => List.mem_cons_of_mem _ (List.mem_append_right _ h)) (by decide +kernel))
set_option maxRecDepth 20000 in
theorem gL_tooThick_X7_tooThick : GoodIn wsL_tooThick (wsV RL 97 RX7 yX7_tooThick wsX7_tooThick) := goodIn_app (goodIn_of _ (by decide +kernel)) ggL_tooThick_X7_tooThick
theorem dL_tooThick_0 : decode cL_tooThick 0 = .ok (.aload_n 0, 1) := by decide +kernel
theorem dL_tooThick_1 : decode cL_tooThick 1 = .ok (.iload_n 1, 1) := by decide +kernel
theorem dL_tooThick_2 : decode cL_tooThick 2 = .ok (.invokevirtual 97, 3) := by decide +kernel
theorem dL_tooThick_5 : decode cL_tooThick 5 = .ok (.ireturn, 1) := by decide +kernel
theorem dL_tooThick_6 : decode cL_tooThick 6 = .ok (.astore_n 2, 1) := by decide +kernel
theorem dL_tooThick_7 : decode cL_tooThick 7 = .ok (.ldc 18, 2) := by decide +kernel
theorem dL_tooThick_9 : decode cL_tooThick 9 = .ok (.ireturn, 1) := by decide +kernel
set_option maxRecDepth 20000 in
theorem ggL_repair_X7_repair : GoodIn wsL_repair wsX7_repair := goodIn_ca (goodIn_ca (goodIn_ca (goodIn_r _ [11, 12, 13, 14, 10, 15, 16, 17, 18, 19, 20, 21, 22, 23, 24, 25, 26, 27, 28, 29, 30, 31, 32, 33, 34, 35, 36, 37, 38, 39, 40, 41, 42, 43, 44, 45, 46, 47, 48, 49, 50, 51, 52, 53, 54, 55, 56, 57] (by decide +kernel) (by decide +kernel)) (goodIn_sub (fun _ h => List.mem_cons_of_mem _ (List.mem_append_left _ (List.mem_append_left _ (List.mem_append_right _ h)))) (by decide +kernel))) (goodIn_sub (fun _ h => List.mem_cons_of_mem _ (List.mem_append_left _ (List.mem_append_right _ h))) (by decide +kernel))) (goodIn_sub (fun _ h => List.mem_cons_of_mem _ (List.mem_append_right _ h)) (by decide +kernel))
set_option maxRecDepth 20000 in
theorem gL_repair_X7_repair : GoodIn wsL_repair (wsV RL 100 RX7 yX7_repair wsX7_repair) := goodIn_app (goodIn_of _ (by decide +kernel)) ggL_repair_X7_repair
theorem dL_repair_0 : decode cL_repair 0 = .ok (.aload_n 0, 1) := by decide +kernel
theorem dL_repair_1 : decode cL_repair 1 = .ok (.iload_n 1, 1) := by decide +kernel
theorem dL_repair_2 : decode cL_repair 2 = .ok (.iload_n 2, 1) := by decide +kernel
theorem dL_repair_3 : decode cL_repair 3 = .ok (.invokevirtual 100, 3) := by decide +kernel
theorem dL_repair_6 : decode cL_repair 6 = .ok (.ireturn, 1) := by decide +kernel
theorem dL_repair_7 : decode cL_repair 7 = .ok (.astore_n 3, 1) := by decide +kernel
theorem dL_repair_8 : decode cL_repair 8 = .ok (.ldc 18, 2) := by decide +kernel
theorem dL_repair_10 : decode cL_repair 10 = .ok (.ireturn, 1) := by decide +kernel
theorem dL_repair_11 : decode cL_repair 11 = .ok (.astore_n 3, 1) := by decide +kernel
theorem dL_repair_12 : decode cL_repair 12 = .ok (.ldc 21, 2) := by decide +kernel
theorem dL_repair_14 : decode cL_repair 14 = .ok (.ireturn, 1) := by decide +kernel
theorem dL_repair_15 : decode cL_repair 15 = .ok (.astore_n 3, 1) := by decide +kernel
theorem dL_repair_16 : decode cL_repair 16 = .ok (.ldc 32, 2) := by decide +kernel
theorem dL_repair_18 : decode cL_repair 18 = .ok (.ireturn, 1) := by decide +kernel
set_option maxRecDepth 20000 in
theorem ggL_undo_X7_undo : GoodIn wsL_undo wsX7_undo := goodIn_ca (goodIn_ca (goodIn_r _ [9, 10, 11, 12, 8, 13, 14, 15, 16, 17, 18, 19, 20, 21, 22, 23, 24, 25, 26, 27, 28, 29, 30, 31, 32, 33, 34, 35, 36, 37, 38, 39, 40, 41, 42, 43, 44, 45, 46, 47, 48, 49, 50, 51, 52, 53, 54] (by decide +kernel) (by decide +kernel)) (goodIn_sub (fun _ h => List.mem_cons_of_mem _ (List.mem_append_left _ (List.mem_append_right _ h))) (by decide +kernel))) (goodIn_sub (fun _ h => List.mem_cons_of_mem _ (List.mem_append_right _ h)) (by decide +kernel))
set_option maxRecDepth 20000 in
theorem gL_undo_X7_undo : GoodIn wsL_undo (wsV RL 103 RX7 yX7_undo wsX7_undo) := goodIn_app (goodIn_of _ (by decide +kernel)) ggL_undo_X7_undo
theorem dL_undo_0 : decode cL_undo 0 = .ok (.aload_n 0, 1) := by decide +kernel
theorem dL_undo_1 : decode cL_undo 1 = .ok (.iload_n 1, 1) := by decide +kernel
theorem dL_undo_2 : decode cL_undo 2 = .ok (.invokevirtual 103, 3) := by decide +kernel
theorem dL_undo_5 : decode cL_undo 5 = .ok (.ireturn, 1) := by decide +kernel
theorem dL_undo_6 : decode cL_undo 6 = .ok (.astore_n 2, 1) := by decide +kernel
theorem dL_undo_7 : decode cL_undo 7 = .ok (.ldc 18, 2) := by decide +kernel
theorem dL_undo_9 : decode cL_undo 9 = .ok (.ireturn, 1) := by decide +kernel
theorem dL_undo_10 : decode cL_undo 10 = .ok (.astore_n 2, 1) := by decide +kernel
theorem dL_undo_11 : decode cL_undo 11 = .ok (.ldc 32, 2) := by decide +kernel
theorem dL_undo_13 : decode cL_undo 13 = .ok (.ireturn, 1) := by decide +kernel
set_option maxRecDepth 20000 in
theorem ggL_speak_X7_speak : GoodIn wsL_speak wsX7_speak := goodIn_ca (goodIn_ca (goodIn_ca (goodIn_r _ [11, 12, 13, 14, 10, 15, 16, 17, 18, 19, 20, 21, 22, 23, 24, 25, 26, 27, 28, 29, 30, 31, 32, 33, 34, 35, 36, 37, 38, 39, 40, 41, 42, 43, 44, 45, 46, 47, 48, 49, 50, 51, 52, 53, 54, 55, 56, 57, 58] (by decide +kernel) (by decide +kernel)) (goodIn_sub (fun _ h => List.mem_cons_of_mem _ (List.mem_append_left _ (List.mem_append_left _ (List.mem_append_right _ h)))) (by decide +kernel))) (goodIn_sub (fun _ h => List.mem_cons_of_mem _ (List.mem_append_left _ (List.mem_append_right _ h))) (by decide +kernel))) (goodIn_sub (fun _ h => List.mem_cons_of_mem _ (List.mem_append_right _ h)) (by decide +kernel))
set_option maxRecDepth 20000 in
theorem gL_speak_X7_speak : GoodIn wsL_speak (wsV RL 106 RX7 yX7_speak wsX7_speak) := goodIn_app (goodIn_of _ (by decide +kernel)) ggL_speak_X7_speak
theorem dL_speak_0 : decode cL_speak 0 = .ok (.aload_n 0, 1) := by decide +kernel
theorem dL_speak_1 : decode cL_speak 1 = .ok (.iload_n 1, 1) := by decide +kernel
theorem dL_speak_2 : decode cL_speak 2 = .ok (.iload_n 2, 1) := by decide +kernel
theorem dL_speak_3 : decode cL_speak 3 = .ok (.iload_n 3, 1) := by decide +kernel
theorem dL_speak_4 : decode cL_speak 4 = .ok (.iload 4, 2) := by decide +kernel
theorem dL_speak_6 : decode cL_speak 6 = .ok (.invokevirtual 106, 3) := by decide +kernel
theorem dL_speak_9 : decode cL_speak 9 = .ok (.ireturn, 1) := by decide +kernel
theorem dL_speak_10 : decode cL_speak 10 = .ok (.astore 5, 2) := by decide +kernel
theorem dL_speak_12 : decode cL_speak 12 = .ok (.ldc 18, 2) := by decide +kernel
theorem dL_speak_14 : decode cL_speak 14 = .ok (.ireturn, 1) := by decide +kernel
theorem dL_speak_15 : decode cL_speak 15 = .ok (.astore 5, 2) := by decide +kernel
theorem dL_speak_17 : decode cL_speak 17 = .ok (.ldc 21, 2) := by decide +kernel
theorem dL_speak_19 : decode cL_speak 19 = .ok (.ireturn, 1) := by decide +kernel
theorem dL_speak_20 : decode cL_speak 20 = .ok (.astore 5, 2) := by decide +kernel
theorem dL_speak_22 : decode cL_speak 22 = .ok (.ldc 32, 2) := by decide +kernel
theorem dL_speak_24 : decode cL_speak 24 = .ok (.ireturn, 1) := by decide +kernel
set_option maxRecDepth 20000 in
theorem ggL_year_X7_year : GoodIn wsL_year wsX7_year := goodIn_ca (goodIn_r _ [7, 8, 9, 10, 6, 11, 12, 13, 14, 15, 16, 17, 18, 19, 20, 21, 22, 23, 24, 25, 26, 27, 28, 29, 30, 31, 32, 33, 34, 35, 36, 37, 38, 39, 40, 41, 42, 43, 44, 45, 46, 47, 48, 49, 50, 51, 52] (by decide +kernel) (by decide +kernel)) (goodIn_sub (fun _ h => List.mem_cons_of_mem _ (List.mem_append_right _ h)) (by decide +kernel))
set_option maxRecDepth 20000 in
theorem gL_year_X7_year : GoodIn wsL_year (wsV RL 109 RX7 yX7_year wsX7_year) := goodIn_app (goodIn_of _ (by decide +kernel)) ggL_year_X7_year
theorem dL_year_0 : decode cL_year 0 = .ok (.aload_n 0, 1) := by decide +kernel
theorem dL_year_1 : decode cL_year 1 = .ok (.iload_n 1, 1) := by decide +kernel
theorem dL_year_2 : decode cL_year 2 = .ok (.iload_n 2, 1) := by decide +kernel
theorem dL_year_3 : decode cL_year 3 = .ok (.invokevirtual 109, 3) := by decide +kernel
theorem dL_year_6 : decode cL_year 6 = .ok (.ireturn, 1) := by decide +kernel
theorem dL_year_7 : decode cL_year 7 = .ok (.astore_n 3, 1) := by decide +kernel
theorem dL_year_8 : decode cL_year 8 = .ok (.ldc 18, 2) := by decide +kernel
theorem dL_year_10 : decode cL_year 10 = .ok (.ireturn, 1) := by decide +kernel
set_option maxRecDepth 20000 in
theorem ggL_yearAnew_X7_yearAnew : GoodIn wsL_yearAnew wsX7_yearAnew := goodIn_ca (goodIn_r _ [7, 8, 9, 10, 6, 11, 12, 13, 14, 15, 16, 17, 18, 19, 20, 21, 22, 23, 24, 25, 26, 27, 28, 29, 30, 31, 32, 33, 34, 35, 36, 37, 38, 39, 40, 41, 42, 43, 44, 45, 46, 47, 48, 49, 50, 51, 52] (by decide +kernel) (by decide +kernel)) (goodIn_sub (fun _ h => List.mem_cons_of_mem _ (List.mem_append_right _ h)) (by decide +kernel))
set_option maxRecDepth 20000 in
theorem gL_yearAnew_X7_yearAnew : GoodIn wsL_yearAnew (wsV RL 113 RX7 yX7_yearAnew wsX7_yearAnew) := goodIn_app (goodIn_of _ (by decide +kernel)) ggL_yearAnew_X7_yearAnew
theorem dL_yearAnew_0 : decode cL_yearAnew 0 = .ok (.aload_n 0, 1) := by decide +kernel
theorem dL_yearAnew_1 : decode cL_yearAnew 1 = .ok (.iload_n 1, 1) := by decide +kernel
theorem dL_yearAnew_2 : decode cL_yearAnew 2 = .ok (.iload_n 2, 1) := by decide +kernel
theorem dL_yearAnew_3 : decode cL_yearAnew 3 = .ok (.invokevirtual 113, 3) := by decide +kernel
theorem dL_yearAnew_6 : decode cL_yearAnew 6 = .ok (.ireturn, 1) := by decide +kernel
theorem dL_yearAnew_7 : decode cL_yearAnew 7 = .ok (.astore_n 3, 1) := by decide +kernel
theorem dL_yearAnew_8 : decode cL_yearAnew 8 = .ok (.ldc 18, 2) := by decide +kernel
theorem dL_yearAnew_10 : decode cL_yearAnew 10 = .ok (.ireturn, 1) := by decide +kernel
set_option maxRecDepth 20000 in
theorem ggL_coloured_L_cellAt : GoodIn wsL_coloured wsL_cellAt := goodIn_ca (goodIn_ca (goodIn_r _ [4, 5, 6, 7, 8, 9, 10, 11, 12, 13, 14, 15, 16, 17, 18, 19, 20, 21, 22, 23, 24, 25, 26, 27, 28, 29, 30, 31, 32, 33, 34, 35, 36, 37, 38, 39, 40, 41, 42, 43, 44, 45, 46, 47, 48] (by decide +kernel) (by decide +kernel)) (goodIn_sub (fun _ h => List.mem_cons_of_mem _ (List.mem_append_left _ (List.mem_append_right _ h))) (by decide +kernel))) (goodIn_sub (fun _ h => List.mem_cons_of_mem _ (List.mem_append_right _ h)) (by decide +kernel))
set_option maxRecDepth 20000 in
theorem gL_coloured_L_cellAt : GoodIn wsL_coloured (va_wsS RL 116 yL_cellAt wsL_cellAt) := goodIn_app (goodIn_of _ (by decide +kernel)) ggL_coloured_L_cellAt
theorem dL_coloured_0 : decode cL_coloured 0 = .ok (.iconst 0, 1) := by decide +kernel
theorem dL_coloured_1 : decode cL_coloured 1 = .ok (.istore_n 1, 1) := by decide +kernel
theorem dL_coloured_2 : decode cL_coloured 2 = .ok (.iconst 0, 1) := by decide +kernel
theorem dL_coloured_3 : decode cL_coloured 3 = .ok (.istore_n 2, 1) := by decide +kernel
theorem dL_coloured_4 : decode cL_coloured 4 = .ok (.iload_n 2, 1) := by decide +kernel
theorem dL_coloured_5 : decode cL_coloured 5 = .ok (.bipush 64, 2) := by decide +kernel
theorem dL_coloured_7 : decode cL_coloured 7 = .ok (.if_icmp .ge 83, 3) := by decide +kernel
theorem dL_coloured_10 : decode cL_coloured 10 = .ok (.aload_n 0, 1) := by decide +kernel
theorem dL_coloured_11 : decode cL_coloured 11 = .ok (.iload_n 2, 1) := by decide +kernel
theorem dL_coloured_12 : decode cL_coloured 12 = .ok (.bipush 8, 2) := by decide +kernel
theorem dL_coloured_14 : decode cL_coloured 14 = .ok (.irem, 1) := by decide +kernel
theorem dL_coloured_15 : decode cL_coloured 15 = .ok (.iload_n 2, 1) := by decide +kernel
theorem dL_coloured_16 : decode cL_coloured 16 = .ok (.bipush 8, 2) := by decide +kernel
theorem dL_coloured_18 : decode cL_coloured 18 = .ok (.idiv, 1) := by decide +kernel
theorem dL_coloured_19 : decode cL_coloured 19 = .ok (.iconst 0, 1) := by decide +kernel
theorem dL_coloured_20 : decode cL_coloured 20 = .ok (.invokestatic 116, 3) := by decide +kernel
theorem dL_coloured_23 : decode cL_coloured 23 = .ok (.istore_n 3, 1) := by decide +kernel
theorem dL_coloured_24 : decode cL_coloured 24 = .ok (.aload_n 0, 1) := by decide +kernel
theorem dL_coloured_25 : decode cL_coloured 25 = .ok (.iload_n 2, 1) := by decide +kernel
theorem dL_coloured_26 : decode cL_coloured 26 = .ok (.bipush 8, 2) := by decide +kernel
theorem dL_coloured_28 : decode cL_coloured 28 = .ok (.irem, 1) := by decide +kernel
theorem dL_coloured_29 : decode cL_coloured 29 = .ok (.iload_n 2, 1) := by decide +kernel
theorem dL_coloured_30 : decode cL_coloured 30 = .ok (.bipush 8, 2) := by decide +kernel
theorem dL_coloured_32 : decode cL_coloured 32 = .ok (.idiv, 1) := by decide +kernel
theorem dL_coloured_33 : decode cL_coloured 33 = .ok (.iconst 1, 1) := by decide +kernel
theorem dL_coloured_34 : decode cL_coloured 34 = .ok (.invokestatic 116, 3) := by decide +kernel
theorem dL_coloured_37 : decode cL_coloured 37 = .ok (.istore 4, 2) := by decide +kernel
theorem dL_coloured_39 : decode cL_coloured 39 = .ok (.iload_n 1, 1) := by decide +kernel
theorem dL_coloured_40 : decode cL_coloured 40 = .ok (.iload_n 3, 1) := by decide +kernel
theorem dL_coloured_41 : decode cL_coloured 41 = .ok (.ifCond .lt 24, 3) := by decide +kernel
theorem dL_coloured_44 : decode cL_coloured 44 = .ok (.iload_n 3, 1) := by decide +kernel
theorem dL_coloured_45 : decode cL_coloured 45 = .ok (.bipush 6, 2) := by decide +kernel
theorem dL_coloured_47 : decode cL_coloured 47 = .ok (.if_icmp .ge 18, 3) := by decide +kernel
theorem dL_coloured_50 : decode cL_coloured 50 = .ok (.iload 4, 2) := by decide +kernel
theorem dL_coloured_52 : decode cL_coloured 52 = .ok (.ifCond .le 13, 3) := by decide +kernel
theorem dL_coloured_55 : decode cL_coloured 55 = .ok (.iload 4, 2) := by decide +kernel
theorem dL_coloured_57 : decode cL_coloured 57 = .ok (.iconst 3, 1) := by decide +kernel
theorem dL_coloured_58 : decode cL_coloured 58 = .ok (.if_icmp .ge 7, 3) := by decide +kernel
theorem dL_coloured_61 : decode cL_coloured 61 = .ok (.iconst 1, 1) := by decide +kernel
theorem dL_coloured_62 : decode cL_coloured 62 = .ok (.goto 20, 3) := by decide +kernel
theorem dL_coloured_65 : decode cL_coloured 65 = .ok (.iload_n 3, 1) := by decide +kernel
theorem dL_coloured_66 : decode cL_coloured 66 = .ok (.iconst (-1), 1) := by decide +kernel
theorem dL_coloured_67 : decode cL_coloured 67 = .ok (.if_icmp .ne 12, 3) := by decide +kernel
theorem dL_coloured_70 : decode cL_coloured 70 = .ok (.iload 4, 2) := by decide +kernel
theorem dL_coloured_72 : decode cL_coloured 72 = .ok (.ifCond .ne 7, 3) := by decide +kernel
theorem dL_coloured_75 : decode cL_coloured 75 = .ok (.iconst 0, 1) := by decide +kernel
theorem dL_coloured_76 : decode cL_coloured 76 = .ok (.goto 6, 3) := by decide +kernel
theorem dL_coloured_79 : decode cL_coloured 79 = .ok (.sipush 1000, 3) := by decide +kernel
theorem dL_coloured_82 : decode cL_coloured 82 = .ok (.iadd, 1) := by decide +kernel
theorem dL_coloured_83 : decode cL_coloured 83 = .ok (.istore_n 1, 1) := by decide +kernel
theorem dL_coloured_84 : decode cL_coloured 84 = .ok (.iinc 2 1, 3) := by decide +kernel
theorem dL_coloured_87 : decode cL_coloured 87 = .ok (.goto (-83), 3) := by decide +kernel
theorem dL_coloured_90 : decode cL_coloured 90 = .ok (.iload_n 1, 1) := by decide +kernel
theorem dL_coloured_91 : decode cL_coloured 91 = .ok (.ireturn, 1) := by decide +kernel
set_option maxRecDepth 20000 in
theorem ggL_paints_L_coloured : GoodIn wsL_paints wsL_coloured := goodIn_ca (goodIn_ca (goodIn_r _ [5, 6, 7, 4, 8, 9, 10, 11, 12, 13, 14, 15, 16, 17, 18, 19, 20, 21, 22, 23, 24, 25, 26, 27, 28, 29, 30, 31, 32, 33, 34, 35, 36, 37, 38, 39, 40, 147, 148, 149, 150, 151, 152, 153, 154, 155, 156, 157, 158] (by decide +kernel) (by decide +kernel)) (goodIn_sub (fun _ h => List.mem_cons_of_mem _ (List.mem_append_left _ (List.mem_append_left _ (List.mem_append_right _ h)))) (by decide +kernel))) (goodIn_sub (fun _ h => List.mem_cons_of_mem _ (List.mem_append_left _ (List.mem_append_right _ h))) (by decide +kernel))
set_option maxRecDepth 20000 in
theorem gL_paints_L_coloured : GoodIn wsL_paints (va_wsS RL 121 yL_coloured wsL_coloured) := goodIn_app (goodIn_of _ (by decide +kernel)) ggL_paints_L_coloured
set_option maxRecDepth 20000 in
theorem ggL_paints_L_low : GoodIn wsL_paints wsL_low := goodIn_r _ [43, 44] (by decide +kernel) (by decide +kernel)
set_option maxRecDepth 20000 in
theorem gL_paints_L_low : GoodIn wsL_paints (va_wsS RL 125 yL_low wsL_low) := goodIn_app (goodIn_of _ (by decide +kernel)) ggL_paints_L_low
set_option maxRecDepth 20000 in
theorem ggL_paints_L_drop : GoodIn wsL_paints wsL_drop := goodIn_ca (goodIn_ca (goodIn_r _ [47, 9, 10, 11, 12, 48, 49, 50, 16, 51, 18, 19, 20, 21, 22, 23, 24, 25, 26, 27, 28, 29, 30, 31, 32, 33, 34, 35, 36, 37, 52, 53, 54, 55, 56, 57, 58, 59, 60, 61, 62, 63, 64, 65, 66, 147, 148, 149, 150, 151, 152, 153, 154, 155, 156, 157, 158] (by decide +kernel) (by decide +kernel)) (goodIn_sub (fun _ h => List.mem_cons_of_mem _ (List.mem_append_left _ (List.mem_append_left _ (List.mem_append_right _ h)))) (by decide +kernel))) (goodIn_sub (fun _ h => List.mem_cons_of_mem _ (List.mem_append_left _ (List.mem_append_right _ h))) (by decide +kernel))
set_option maxRecDepth 20000 in
theorem gL_paints_L_drop : GoodIn wsL_paints (va_wsS RL 128 yL_drop wsL_drop) := goodIn_app (goodIn_of _ (by decide +kernel)) ggL_paints_L_drop
set_option maxRecDepth 20000 in
theorem ggL_paints_L_cellAt : GoodIn wsL_paints wsL_cellAt := goodIn_ca (goodIn_ca (goodIn_r _ [8, 9, 10, 11, 12, 13, 14, 15, 16, 17, 18, 19, 20, 21, 22, 23, 24, 25, 26, 27, 28, 29, 30, 31, 32, 33, 34, 35, 36, 37, 38, 39, 40, 147, 148, 149, 150, 151, 152, 153, 154, 155, 156, 157, 158] (by decide +kernel) (by decide +kernel)) (goodIn_sub (fun _ h => List.mem_cons_of_mem _ (List.mem_append_left _ (List.mem_append_left _ (List.mem_append_right _ h)))) (by decide +kernel))) (goodIn_sub (fun _ h => List.mem_cons_of_mem _ (List.mem_append_left _ (List.mem_append_right _ h))) (by decide +kernel))
set_option maxRecDepth 20000 in
theorem gL_paints_L_cellAt : GoodIn wsL_paints (va_wsS RL 116 yL_cellAt wsL_cellAt) := goodIn_app (goodIn_of _ (by decide +kernel)) ggL_paints_L_cellAt
set_option maxRecDepth 20000 in
theorem ggL_paints_L_comb : GoodIn wsL_paints wsL_comb := goodIn_ca (goodIn_ca (goodIn_r _ [69, 9, 10, 11, 12, 70, 71, 72, 16, 73, 18, 22, 23, 24, 25, 26, 27, 28, 29, 30, 31, 32, 33, 34, 35, 36, 37, 74, 75, 76, 55, 77, 78, 58, 79, 59, 39, 40, 80, 81, 82, 83, 147, 148, 149, 150, 151, 152, 153, 154, 155, 156, 157, 158] (by decide +kernel) (by decide +kernel)) (goodIn_sub (fun _ h => List.mem_cons_of_mem _ (List.mem_append_left _ (List.mem_append_left _ (List.mem_append_right _ h)))) (by decide +kernel))) (goodIn_sub (fun _ h => List.mem_cons_of_mem _ (List.mem_append_left _ (List.mem_append_right _ h))) (by decide +kernel))
set_option maxRecDepth 20000 in
theorem gL_paints_L_comb : GoodIn wsL_paints (va_wsS RL 131 yL_comb wsL_comb) := goodIn_app (goodIn_of _ (by decide +kernel)) ggL_paints_L_comb
set_option maxRecDepth 20000 in
theorem ggL_paints_L_lift : GoodIn wsL_paints wsL_lift := goodIn_ca (goodIn_r _ [86, 87, 1, 88, 89, 90, 16, 91, 92, 93, 18, 94, 95, 96, 97, 98, 99, 100, 101, 55, 102, 103, 104, 105, 58, 106, 107, 108, 109, 110, 111, 112, 113, 114, 115, 116, 59, 147, 148, 149, 150, 151, 152, 153, 159, 154, 155, 156, 157, 158] (by decide +kernel) (by decide +kernel)) (goodIn_sub (fun _ h => List.mem_cons_of_mem _ (List.mem_append_right _ h)) (by decide +kernel))
set_option maxRecDepth 20000 in
theorem gL_paints_L_lift : GoodIn wsL_paints (va_wsS RL 134 yL_lift wsL_lift) := goodIn_app (goodIn_of _ (by decide +kernel)) ggL_paints_L_lift
set_option maxRecDepth 20000 in
theorem ggL_paints_X7_clean : GoodIn wsL_paints wsX7_clean := goodIn_r _ [120, 18, 121, 122, 123, 55, 124, 58, 59, 147, 148, 149, 150, 151, 152, 153, 154, 155, 156, 157, 158] (by decide +kernel) (by decide +kernel)
set_option maxRecDepth 20000 in
theorem gL_paints_X7_clean : GoodIn wsL_paints (wsV RL 136 RX7 yX7_clean wsX7_clean) := goodIn_app (goodIn_of _ (by decide +kernel)) ggL_paints_X7_clean
set_option maxRecDepth 20000 in
theorem ggL_paints_L_count : GoodIn wsL_paints wsL_count := goodIn_ca (goodIn_ca (goodIn_r _ [127, 9, 10, 11, 12, 128, 129, 130, 16, 131, 132, 133, 134, 135, 31, 32, 93, 25, 26, 27, 33, 34, 35, 36, 37, 136, 137, 138, 105, 139, 112, 147, 148, 149, 150, 151, 152, 153, 159] (by decide +kernel) (by decide +kernel)) (goodIn_sub (fun _ h => List.mem_cons_of_mem _ (List.mem_append_left _ (List.mem_append_left _ (List.mem_append_right _ h)))) (by decide +kernel))) (goodIn_sub (fun _ h => List.mem_cons_of_mem _ (List.mem_append_left _ (List.mem_append_right _ h))) (by decide +kernel))
set_option maxRecDepth 20000 in
theorem gL_paints_L_count : GoodIn wsL_paints (va_wsS RL 139 yL_count wsL_count) := goodIn_app (goodIn_of _ (by decide +kernel)) ggL_paints_L_count
set_option maxRecDepth 20000 in
theorem ggL_paints_L_printAt : GoodIn wsL_paints wsL_printAt := goodIn_ca (goodIn_r _ [142, 9, 11, 143, 144, 145, 16, 146, 132, 133, 134, 135, 31, 32, 93, 25, 26, 27, 19, 20, 21, 22, 23, 24, 28, 29, 30, 38, 39, 40, 159, 147, 148, 149, 150, 151, 152, 153] (by decide +kernel) (by decide +kernel)) (goodIn_sub (fun _ h => List.mem_cons_of_mem _ (List.mem_append_left _ (List.mem_append_left _ (List.mem_append_right _ h)))) (by decide +kernel))
set_option maxRecDepth 20000 in
theorem gL_paints_L_printAt : GoodIn wsL_paints (va_wsS RL 142 yL_printAt wsL_printAt) := goodIn_app (goodIn_of _ (by decide +kernel)) ggL_paints_L_printAt
theorem dL_paints_0 : decode cL_paints 0 = .ok (.aload_n 0, 1) := by decide +kernel
theorem dL_paints_1 : decode cL_paints 1 = .ok (.invokestatic 121, 3) := by decide +kernel
theorem dL_paints_4 : decode cL_paints 4 = .ok (.istore 4, 2) := by decide +kernel
theorem dL_paints_6 : decode cL_paints 6 = .ok (.iload_n 2, 1) := by decide +kernel
theorem dL_paints_7 : decode cL_paints 7 = .ok (.bipush 8, 2) := by decide +kernel
theorem dL_paints_9 : decode cL_paints 9 = .ok (.invokestatic 125, 3) := by decide +kernel
theorem dL_paints_12 : decode cL_paints 12 = .ok (.istore 5, 2) := by decide +kernel
theorem dL_paints_14 : decode cL_paints 14 = .ok (.iload 5, 2) := by decide +kernel
theorem dL_paints_16 : decode cL_paints 16 = .ok (.iconst 4, 1) := by decide +kernel
theorem dL_paints_17 : decode cL_paints 17 = .ok (.if_icmp .ge 148, 3) := by decide +kernel
theorem dL_paints_20 : decode cL_paints 20 = .ok (.iconst 1, 1) := by decide +kernel
theorem dL_paints_21 : decode cL_paints 21 = .ok (.iload_n 3, 1) := by decide +kernel
theorem dL_paints_22 : decode cL_paints 22 = .ok (.bipush 9, 2) := by decide +kernel
theorem dL_paints_24 : decode cL_paints 24 = .ok (.ishr, 1) := by decide +kernel
theorem dL_paints_25 : decode cL_paints 25 = .ok (.bipush 64, 2) := by decide +kernel
theorem dL_paints_27 : decode cL_paints 27 = .ok (.invokestatic 125, 3) := by decide +kernel
theorem dL_paints_30 : decode cL_paints 30 = .ok (.iadd, 1) := by decide +kernel
theorem dL_paints_31 : decode cL_paints 31 = .ok (.istore 6, 2) := by decide +kernel
theorem dL_paints_33 : decode cL_paints 33 = .ok (.iload_n 3, 1) := by decide +kernel
theorem dL_paints_34 : decode cL_paints 34 = .ok (.bipush 8, 2) := by decide +kernel
theorem dL_paints_36 : decode cL_paints 36 = .ok (.invokestatic 125, 3) := by decide +kernel
theorem dL_paints_39 : decode cL_paints 39 = .ok (.istore 7, 2) := by decide +kernel
theorem dL_paints_41 : decode cL_paints 41 = .ok (.iload_n 3, 1) := by decide +kernel
theorem dL_paints_42 : decode cL_paints 42 = .ok (.iconst 3, 1) := by decide +kernel
theorem dL_paints_43 : decode cL_paints 43 = .ok (.ishr, 1) := by decide +kernel
theorem dL_paints_44 : decode cL_paints 44 = .ok (.bipush 8, 2) := by decide +kernel
theorem dL_paints_46 : decode cL_paints 46 = .ok (.invokestatic 125, 3) := by decide +kernel
theorem dL_paints_49 : decode cL_paints 49 = .ok (.istore 8, 2) := by decide +kernel
theorem dL_paints_51 : decode cL_paints 51 = .ok (.iload_n 3, 1) := by decide +kernel
theorem dL_paints_52 : decode cL_paints 52 = .ok (.bipush 6, 2) := by decide +kernel
theorem dL_paints_54 : decode cL_paints 54 = .ok (.ishr, 1) := by decide +kernel
theorem dL_paints_55 : decode cL_paints 55 = .ok (.bipush 6, 2) := by decide +kernel
theorem dL_paints_57 : decode cL_paints 57 = .ok (.invokestatic 125, 3) := by decide +kernel
theorem dL_paints_60 : decode cL_paints 60 = .ok (.istore 9, 2) := by decide +kernel
theorem dL_paints_62 : decode cL_paints 62 = .ok (.aload_n 0, 1) := by decide +kernel
theorem dL_paints_63 : decode cL_paints 63 = .ok (.iload 7, 2) := by decide +kernel
theorem dL_paints_65 : decode cL_paints 65 = .ok (.iload 8, 2) := by decide +kernel
theorem dL_paints_67 : decode cL_paints 67 = .ok (.iload 9, 2) := by decide +kernel
theorem dL_paints_69 : decode cL_paints 69 = .ok (.iload 6, 2) := by decide +kernel
theorem dL_paints_71 : decode cL_paints 71 = .ok (.invokestatic 128, 3) := by decide +kernel
theorem dL_paints_74 : decode cL_paints 74 = .ok (.istore 10, 2) := by decide +kernel
theorem dL_paints_76 : decode cL_paints 76 = .ok (.aload_n 0, 1) := by decide +kernel
theorem dL_paints_77 : decode cL_paints 77 = .ok (.invokestatic 121, 3) := by decide +kernel
theorem dL_paints_80 : decode cL_paints 80 = .ok (.istore 11, 2) := by decide +kernel
theorem dL_paints_82 : decode cL_paints 82 = .ok (.iload 10, 2) := by decide +kernel
theorem dL_paints_84 : decode cL_paints 84 = .ok (.ifCond .lt 79, 3) := by decide +kernel
theorem dL_paints_87 : decode cL_paints 87 = .ok (.iload 10, 2) := by decide +kernel
theorem dL_paints_89 : decode cL_paints 89 = .ok (.iload 6, 2) := by decide +kernel
theorem dL_paints_91 : decode cL_paints 91 = .ok (.if_icmp .gt 72, 3) := by decide +kernel
theorem dL_paints_94 : decode cL_paints 94 = .ok (.iload 11, 2) := by decide +kernel
theorem dL_paints_96 : decode cL_paints 96 = .ok (.iload 4, 2) := by decide +kernel
theorem dL_paints_98 : decode cL_paints 98 = .ok (.if_icmp .lt 65, 3) := by decide +kernel
theorem dL_paints_101 : decode cL_paints 101 = .ok (.iload 11, 2) := by decide +kernel
theorem dL_paints_103 : decode cL_paints 103 = .ok (.iload 4, 2) := by decide +kernel
theorem dL_paints_105 : decode cL_paints 105 = .ok (.iload 10, 2) := by decide +kernel
theorem dL_paints_107 : decode cL_paints 107 = .ok (.iadd, 1) := by decide +kernel
theorem dL_paints_108 : decode cL_paints 108 = .ok (.if_icmp .gt 55, 3) := by decide +kernel
theorem dL_paints_111 : decode cL_paints 111 = .ok (.iload 11, 2) := by decide +kernel
theorem dL_paints_113 : decode cL_paints 113 = .ok (.bipush 65, 2) := by decide +kernel
theorem dL_paints_115 : decode cL_paints 115 = .ok (.if_icmp .ge 48, 3) := by decide +kernel
theorem dL_paints_118 : decode cL_paints 118 = .ok (.iload 10, 2) := by decide +kernel
theorem dL_paints_120 : decode cL_paints 120 = .ok (.ifCond .eq 8, 3) := by decide +kernel
theorem dL_paints_123 : decode cL_paints 123 = .ok (.iload 11, 2) := by decide +kernel
theorem dL_paints_125 : decode cL_paints 125 = .ok (.ifCond .le 38, 3) := by decide +kernel
theorem dL_paints_128 : decode cL_paints 128 = .ok (.aload_n 0, 1) := by decide +kernel
theorem dL_paints_129 : decode cL_paints 129 = .ok (.iload 7, 2) := by decide +kernel
theorem dL_paints_131 : decode cL_paints 131 = .ok (.iload 8, 2) := by decide +kernel
theorem dL_paints_133 : decode cL_paints 133 = .ok (.iconst 0, 1) := by decide +kernel
theorem dL_paints_134 : decode cL_paints 134 = .ok (.invokestatic 116, 3) := by decide +kernel
theorem dL_paints_137 : decode cL_paints 137 = .ok (.iload 9, 2) := by decide +kernel
theorem dL_paints_139 : decode cL_paints 139 = .ok (.if_icmp .lt 24, 3) := by decide +kernel
theorem dL_paints_142 : decode cL_paints 142 = .ok (.aload_n 0, 1) := by decide +kernel
theorem dL_paints_143 : decode cL_paints 143 = .ok (.iload 7, 2) := by decide +kernel
theorem dL_paints_145 : decode cL_paints 145 = .ok (.iload 8, 2) := by decide +kernel
theorem dL_paints_147 : decode cL_paints 147 = .ok (.iload 9, 2) := by decide +kernel
theorem dL_paints_149 : decode cL_paints 149 = .ok (.iload 6, 2) := by decide +kernel
theorem dL_paints_151 : decode cL_paints 151 = .ok (.invokestatic 128, 3) := by decide +kernel
theorem dL_paints_154 : decode cL_paints 154 = .ok (.iload 10, 2) := by decide +kernel
theorem dL_paints_156 : decode cL_paints 156 = .ok (.if_icmp .ne 7, 3) := by decide +kernel
theorem dL_paints_159 : decode cL_paints 159 = .ok (.iconst 1, 1) := by decide +kernel
theorem dL_paints_160 : decode cL_paints 160 = .ok (.goto 4, 3) := by decide +kernel
theorem dL_paints_163 : decode cL_paints 163 = .ok (.iconst 0, 1) := by decide +kernel
theorem dL_paints_164 : decode cL_paints 164 = .ok (.ireturn, 1) := by decide +kernel
theorem dL_paints_165 : decode cL_paints 165 = .ok (.iload 5, 2) := by decide +kernel
theorem dL_paints_167 : decode cL_paints 167 = .ok (.bipush 7, 2) := by decide +kernel
theorem dL_paints_169 : decode cL_paints 169 = .ok (.if_icmp .ge 111, 3) := by decide +kernel
theorem dL_paints_172 : decode cL_paints 172 = .ok (.iload_n 3, 1) := by decide +kernel
theorem dL_paints_173 : decode cL_paints 173 = .ok (.iconst 2, 1) := by decide +kernel
theorem dL_paints_174 : decode cL_paints 174 = .ok (.invokestatic 125, 3) := by decide +kernel
theorem dL_paints_177 : decode cL_paints 177 = .ok (.ifCond .ne 7, 3) := by decide +kernel
theorem dL_paints_180 : decode cL_paints 180 = .ok (.iconst 1, 1) := by decide +kernel
theorem dL_paints_181 : decode cL_paints 181 = .ok (.goto 4, 3) := by decide +kernel
