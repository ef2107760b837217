set_option maxRecDepth 20000 in
theorem ggL_swelling_X7_swelling_q0 : GoodIn wsL_swelling (.code yX7_swelling cX7_swelling 2 (some .int) :: wsX7_swelling_r1) := goodIn_r _ [7, 8, 9, 10, 6, 11, 12, 13, 14, 15, 16, 17, 18, 19, 20, 21, 22, 23, 24, 25, 26, 27, 28, 29, 30] (by decide +kernel) (by decide +kernel)
set_option maxRecDepth 20000 in
theorem ggL_swelling_X7_swelling_q1 : GoodIn wsL_swelling (wsX7_swelling_r2) := goodIn_r _ [31, 32, 33, 34, 35, 36, 37] (by decide +kernel) (by decide +kernel)
set_option maxRecDepth 20000 in
theorem ggL_swelling_X7_swelling_q2 : GoodIn wsL_swelling (wsX10) := goodIn_r _ [38, 39, 40, 41, 42, 43, 44] (by decide +kernel) (by decide +kernel)
set_option maxRecDepth 20000 in
theorem ggL_swelling_X7_swelling_q3 : GoodIn wsL_swelling (wsX70) := goodIn_r _ [45, 46, 47, 48, 49, 50, 51] (by decide +kernel) (by decide +kernel)
set_option maxRecDepth 20000 in
theorem ggL_swelling_X7_swelling_q4 : GoodIn wsL_swelling (wsX40) := goodIn_r _ [52, 53, 54, 55, 56, 57, 58, 59, 60, 61] (by decide +kernel) (by decide +kernel)
set_option maxRecDepth 20000 in
theorem ggL_swelling_X7_swelling : GoodIn wsL_swelling wsX7_swelling := goodIn_ca (goodIn_ca (goodIn_ca (goodIn_ca (goodIn_ca ggL_swelling_X7_swelling_q0 ggL_swelling_X7_swelling_q1) ggL_swelling_X7_swelling_q2) ggL_swelling_X7_swelling_q3) ggL_swelling_X7_swelling_q4) (goodIn_sub (fun _ h => List.mem_cons_of_mem _ (List.mem_append_right _ h)) (by decide +kernel))
set_option maxRecDepth 20000 in
theorem gL_swelling_X7_swelling : GoodIn wsL_swelling (wsV RL 74 RX7 yX7_swelling wsX7_swelling) := goodIn_app (goodIn_of _ (by decide +kernel)) ggL_swelling_X7_swelling
theorem dL_swelling_0 : decode cL_swelling 0 = .ok (.aload_n 0, 1) := by decide +kernel
theorem dL_swelling_1 : decode cL_swelling 1 = .ok (.iload_n 1, 1) := by decide +kernel
theorem dL_swelling_2 : decode cL_swelling 2 = .ok (.invokevirtual 74, 3) := by decide +kernel
theorem dL_swelling_5 : decode cL_swelling 5 = .ok (.ireturn, 1) := by decide +kernel
theorem dL_swelling_6 : decode cL_swelling 6 = .ok (.astore_n 2, 1) := by decide +kernel
theorem dL_swelling_7 : decode cL_swelling 7 = .ok (.ldc 18, 2) := by decide +kernel
theorem dL_swelling_9 : decode cL_swelling 9 = .ok (.ireturn, 1) := by decide +kernel
set_option maxRecDepth 20000 in
theorem ggL_strain_X7_strain_q0 : GoodIn wsL_strain (.code yX7_strain cX7_strain 4 (some .int) :: wsX7_strain_r1) := goodIn_r _ [9, 10, 11, 12, 8, 13, 14, 15, 16, 17, 18, 19, 20, 21, 22, 23, 24, 25, 26, 27, 28, 29, 30, 31, 32] (by decide +kernel) (by decide +kernel)
set_option maxRecDepth 20000 in
theorem ggL_strain_X7_strain_q1 : GoodIn wsL_strain (wsX7_strain_r2) := goodIn_r _ [33, 34, 35, 36, 37, 38, 39, 40, 41, 42, 43, 44, 45, 46, 47, 48, 49, 50, 51, 52, 53, 54, 55, 56] (by decide +kernel) (by decide +kernel)
set_option maxRecDepth 20000 in
theorem ggL_strain_X7_strain_q2 : GoodIn wsL_strain (wsX7_strain_r3) := goodIn_r _ [57, 58, 59] (by decide +kernel) (by decide +kernel)
set_option maxRecDepth 20000 in
theorem ggL_strain_X7_strain_q3 : GoodIn wsL_strain (wsX10) := goodIn_r _ [60, 61, 62, 63, 64, 65, 66] (by decide +kernel) (by decide +kernel)
set_option maxRecDepth 20000 in
theorem ggL_strain_X7_strain_q4 : GoodIn wsL_strain (wsX70) := goodIn_r _ [67, 68, 69, 70, 71, 72, 73] (by decide +kernel) (by decide +kernel)
set_option maxRecDepth 20000 in
theorem ggL_strain_X7_strain_q5 : GoodIn wsL_strain (wsX40) := goodIn_r _ [74, 75, 76, 77, 78, 79, 80, 81, 82, 83] (by decide +kernel) (by decide +kernel)
set_option maxRecDepth 20000 in
theorem ggL_strain_X7_strain : GoodIn wsL_strain wsX7_strain := goodIn_ca (goodIn_ca (goodIn_ca (goodIn_ca (goodIn_ca (goodIn_ca ggL_strain_X7_strain_q0 (goodIn_app ggL_strain_X7_strain_q1 ggL_strain_X7_strain_q2)) ggL_strain_X7_strain_q3) ggL_strain_X7_strain_q4) ggL_strain_X7_strain_q5) (goodIn_sub (fun _ h => List.mem_cons_of_mem _ (List.mem_append_left _ (List.mem_append_right _ h))) (by decide +kernel))) (goodIn_sub (fun _ h => List.mem_cons_of_mem _ (List.mem_append_right _ h)) (by decide +kernel))
set_option maxRecDepth 20000 in
theorem gL_strain_X7_strain : GoodIn wsL_strain (wsV RL 78 RX7 yX7_strain wsX7_strain) := goodIn_app (goodIn_of _ (by decide +kernel)) ggL_strain_X7_strain
theorem dL_strain_0 : decode cL_strain 0 = .ok (.aload_n 0, 1) := by decide +kernel
theorem dL_strain_1 : decode cL_strain 1 = .ok (.iload_n 1, 1) := by decide +kernel
theorem dL_strain_2 : decode cL_strain 2 = .ok (.iload_n 2, 1) := by decide +kernel
theorem dL_strain_3 : decode cL_strain 3 = .ok (.invokevirtual 78, 3) := by decide +kernel
theorem dL_strain_6 : decode cL_strain 6 = .ok (.ireturn, 1) := by decide +kernel
theorem dL_strain_7 : decode cL_strain 7 = .ok (.astore_n 3, 1) := by decide +kernel
theorem dL_strain_8 : decode cL_strain 8 = .ok (.ldc 18, 2) := by decide +kernel
theorem dL_strain_10 : decode cL_strain 10 = .ok (.ireturn, 1) := by decide +kernel
theorem dL_strain_11 : decode cL_strain 11 = .ok (.astore_n 3, 1) := by decide +kernel
theorem dL_strain_12 : decode cL_strain 12 = .ok (.ldc 21, 2) := by decide +kernel
theorem dL_strain_14 : decode cL_strain 14 = .ok (.ireturn, 1) := by decide +kernel
set_option maxRecDepth 20000 in
theorem ggL_worst_X7_worst_q0 : GoodIn wsL_worst (.code yX7_worst cX7_worst 2 (some .int) :: wsX7_worst_r1) := goodIn_r _ [7, 8, 9, 10, 6, 11, 12, 13, 14, 15, 16, 17, 18, 19, 20, 21, 22, 23, 24, 25, 26, 27, 28, 29, 30] (by decide +kernel) (by decide +kernel)
set_option maxRecDepth 20000 in
theorem ggL_worst_X7_worst_q1 : GoodIn wsL_worst (wsX7_worst_r2) := goodIn_r _ [31, 32, 33, 34, 35, 36, 37] (by decide +kernel) (by decide +kernel)
set_option maxRecDepth 20000 in
theorem ggL_worst_X7_worst_q2 : GoodIn wsL_worst (wsX70) := goodIn_r _ [38, 39, 40, 41, 42, 43, 44] (by decide +kernel) (by decide +kernel)
set_option maxRecDepth 20000 in
theorem ggL_worst_X7_worst_q3 : GoodIn wsL_worst (wsX10) := goodIn_r _ [45, 46, 47, 48, 49, 50, 51] (by decide +kernel) (by decide +kernel)
set_option maxRecDepth 20000 in
theorem ggL_worst_X7_worst : GoodIn wsL_worst wsX7_worst := goodIn_ca (goodIn_ca (goodIn_ca (goodIn_ca ggL_worst_X7_worst_q0 ggL_worst_X7_worst_q1) ggL_worst_X7_worst_q2) ggL_worst_X7_worst_q3) (goodIn_sub (fun _ h => List.mem_cons_of_mem _ (List.mem_append_right _ h)) (by decide +kernel))
set_option maxRecDepth 20000 in
theorem gL_worst_X7_worst : GoodIn wsL_worst (wsV RL 81 RX7 yX7_worst wsX7_worst) := goodIn_app (goodIn_of _ (by decide +kernel)) ggL_worst_X7_worst
theorem dL_worst_0 : decode cL_worst 0 = .ok (.aload_n 0, 1) := by decide +kernel
theorem dL_worst_1 : decode cL_worst 1 = .ok (.iload_n 1, 1) := by decide +kernel
theorem dL_worst_2 : decode cL_worst 2 = .ok (.invokevirtual 81, 3) := by decide +kernel
theorem dL_worst_5 : decode cL_worst 5 = .ok (.ireturn, 1) := by decide +kernel
theorem dL_worst_6 : decode cL_worst 6 = .ok (.astore_n 2, 1) := by decide +kernel
theorem dL_worst_7 : decode cL_worst 7 = .ok (.ldc 18, 2) := by decide +kernel
theorem dL_worst_9 : decode cL_worst 9 = .ok (.ireturn, 1) := by decide +kernel
set_option maxRecDepth 20000 in
theorem ggL_opens_X7_opens_q0 : GoodIn wsL_opens (.code yX7_opens cX7_opens 4 (some .int) :: wsX7_opens_r1) := goodIn_r _ [9, 10, 11, 12, 13, 8, 14, 15, 16, 17, 18, 19, 20, 21, 22, 23, 24, 25, 26, 27, 28, 29, 30, 31, 32] (by decide +kernel) (by decide +kernel)
set_option maxRecDepth 20000 in
theorem ggL_opens_X7_opens_q1 : GoodIn wsL_opens (wsX7_opens_r2) := goodIn_r _ [33, 34, 35, 36, 37, 38, 39, 40, 41, 42, 43, 44, 45, 46, 47, 48, 49, 50, 51, 52, 53, 54, 55, 56] (by decide +kernel) (by decide +kernel)
set_option maxRecDepth 20000 in
theorem ggL_opens_X7_opens_q2 : GoodIn wsL_opens (wsX7_opens_r3) := goodIn_r _ [57, 58, 59, 60, 61, 62, 63, 64, 65] (by decide +kernel) (by decide +kernel)
set_option maxRecDepth 20000 in
theorem ggL_opens_X7_opens_q3 : GoodIn wsL_opens (wsX70) := goodIn_r _ [66, 67, 68, 69, 70, 71, 72] (by decide +kernel) (by decide +kernel)
set_option maxRecDepth 20000 in
theorem ggL_opens_X7_opens_q4 : GoodIn wsL_opens (wsX10) := goodIn_r _ [73, 74, 75, 76, 77, 78, 79] (by decide +kernel) (by decide +kernel)
set_option maxRecDepth 20000 in
theorem ggL_opens_X7_opens_q5 : GoodIn wsL_opens (wsX40) := goodIn_r _ [80, 81, 82, 83, 84, 85, 86, 87, 88, 89] (by decide +kernel) (by decide +kernel)
set_option maxRecDepth 20000 in
theorem ggL_opens_X7_opens : GoodIn wsL_opens wsX7_opens := goodIn_ca (goodIn_ca (goodIn_ca (goodIn_ca (goodIn_ca (goodIn_ca ggL_opens_X7_opens_q0 (goodIn_app ggL_opens_X7_opens_q1 ggL_opens_X7_opens_q2)) ggL_opens_X7_opens_q3) ggL_opens_X7_opens_q4) ggL_opens_X7_opens_q5) (goodIn_sub (fun _ h => List.mem_cons_of_mem _ (List.mem_append_left _ (List.mem_append_right _ h))) (by decide +kernel))) (goodIn_sub (fun _ h => List.mem_cons_of_mem _ (List.mem_append_right _ h)) (by decide +kernel))
set_option maxRecDepth 20000 in
theorem gL_opens_X7_opens : GoodIn wsL_opens (wsV RL 84 RX7 yX7_opens wsX7_opens) := goodIn_app (goodIn_of _ (by decide +kernel)) ggL_opens_X7_opens
theorem dL_opens_0 : decode cL_opens 0 = .ok (.aload_n 0, 1) := by decide +kernel
theorem dL_opens_1 : decode cL_opens 1 = .ok (.iload_n 1, 1) := by decide +kernel
theorem dL_opens_2 : decode cL_opens 2 = .ok (.iload_n 2, 1) := by decide +kernel
theorem dL_opens_3 : decode cL_opens 3 = .ok (.invokevirtual 84, 3) := by decide +kernel
theorem dL_opens_6 : decode cL_opens 6 = .ok (.ireturn, 1) := by decide +kernel
theorem dL_opens_7 : decode cL_opens 7 = .ok (.astore_n 3, 1) := by decide +kernel
theorem dL_opens_8 : decode cL_opens 8 = .ok (.ldc 18, 2) := by decide +kernel
theorem dL_opens_10 : decode cL_opens 10 = .ok (.ireturn, 1) := by decide +kernel
theorem dL_opens_11 : decode cL_opens 11 = .ok (.astore_n 3, 1) := by decide +kernel
theorem dL_opens_12 : decode cL_opens 12 = .ok (.ldc 21, 2) := by decide +kernel
theorem dL_opens_14 : decode cL_opens 14 = .ok (.ireturn, 1) := by decide +kernel
set_option maxRecDepth 20000 in
theorem ggL_skin_X7_skin : GoodIn wsL_skin wsX7_skin := goodIn_ca (goodIn_ca (goodIn_r _ [9, 10, 11, 12, 13, 14, 15, 16, 8, 17, 18, 19, 20, 21, 22, 23, 24, 25, 26, 27, 28, 29, 30, 31, 32, 33, 34, 35, 36, 37, 38, 39, 40, 41, 42, 43] (by decide +kernel) (by decide +kernel)) (goodIn_sub (fun _ h => List.mem_cons_of_mem _ (List.mem_append_left _ (List.mem_append_right _ h))) (by decide +kernel))) (goodIn_sub (fun _ h => List.mem_cons_of_mem _ (List.mem_append_right _ h)) (by decide +kernel))
set_option maxRecDepth 20000 in
theorem gL_skin_X7_skin : GoodIn wsL_skin (wsV RL 87 RX7 yX7_skin wsX7_skin) := goodIn_app (goodIn_of _ (by decide +kernel)) ggL_skin_X7_skin
theorem dL_skin_0 : decode cL_skin 0 = .ok (.aload_n 0, 1) := by decide +kernel
theorem dL_skin_1 : decode cL_skin 1 = .ok (.iload_n 1, 1) := by decide +kernel
theorem dL_skin_2 : decode cL_skin 2 = .ok (.invokevirtual 87, 3) := by decide +kernel
theorem dL_skin_5 : decode cL_skin 5 = .ok (.ireturn, 1) := by decide +kernel
theorem dL_skin_6 : decode cL_skin 6 = .ok (.astore_n 2, 1) := by decide +kernel
theorem dL_skin_7 : decode cL_skin 7 = .ok (.ldc 21, 2) := by decide +kernel
theorem dL_skin_9 : decode cL_skin 9 = .ok (.ireturn, 1) := by decide +kernel
theorem dL_skin_10 : decode cL_skin 10 = .ok (.astore_n 2, 1) := by decide +kernel
theorem dL_skin_11 : decode cL_skin 11 = .ok (.ldc 32, 2) := by decide +kernel
theorem dL_skin_13 : decode cL_skin 13 = .ok (.ireturn, 1) := by decide +kernel
set_option maxRecDepth 20000 in
theorem ggL_pare_X7_pare_q0 : GoodIn wsL_pare (.code yX7_pare cX7_pare 9 (some .int) :: wsX7_pare_r1) := goodIn_r _ [11, 12, 13, 14, 10, 15, 16, 17, 18, 19, 20, 21, 22, 23, 24, 25, 26, 27, 28, 29, 30, 31, 32, 33, 34] (by decide +kernel) (by decide +kernel)
set_option maxRecDepth 20000 in
theorem ggL_pare_X7_pare_q1 : GoodIn wsL_pare (wsX7_pare_r2) := goodIn_r _ [35, 36, 37, 38, 39, 40, 41, 42, 43, 44, 45, 46, 47, 48, 49, 50, 51, 52, 53, 54, 55, 56] (by decide +kernel) (by decide +kernel)
set_option maxRecDepth 20000 in
theorem ggL_pare_X7_pare_q2 : GoodIn wsL_pare (wsX70) := goodIn_r _ [57, 58, 59, 60, 61, 62, 63] (by decide +kernel) (by decide +kernel)
set_option maxRecDepth 20000 in
theorem ggL_pare_X7_pare_q3 : GoodIn wsL_pare (wsX50) := goodIn_r _ [64] (by decide +kernel) (by decide +kernel)
set_option maxRecDepth 20000 in
theorem ggL_pare_X7_pare : GoodIn wsL_pare wsX7_pare := goodIn_ca (goodIn_ca (goodIn_ca (goodIn_ca (goodIn_ca (goodIn_ca ggL_pare_X7_pare_q0 ggL_pare_X7_pare_q1) ggL_pare_X7_pare_q2) ggL_pare_X7_pare_q3) (goodIn_sub (fun _ h => List.mem_cons_of_mem _ (List.mem_append_left _ (List.mem_append_left _ (List.mem_append_right _ h)))) (by decide +kernel))) (goodIn_sub (fun _ h => List.mem_cons_of_mem _ (List.mem_append_left _ (List.mem_append_right _ h))) (by decide +kernel))) (goodIn_sub (fun _ h => List.mem_cons_of_mem _ (List.mem_append_right _ h)) (by decide +kernel))
set_option maxRecDepth 20000 in
theorem gL_pare_X7_pare : GoodIn wsL_pare (wsV RL 90 RX7 yX7_pare wsX7_pare) := goodIn_app (goodIn_of _ (by decide +kernel)) ggL_pare_X7_pare
theorem dL_pare_0 : decode cL_pare 0 = .ok (.aload_n 0, 1) := by decide +kernel
theorem dL_pare_1 : decode cL_pare 1 = .ok (.iload_n 1, 1) := by decide +kernel
theorem dL_pare_2 : decode cL_pare 2 = .ok (.iload_n 2, 1) := by decide +kernel
theorem dL_pare_3 : decode cL_pare 3 = .ok (.iload_n 3, 1) := by decide +kernel
theorem dL_pare_4 : decode cL_pare 4 = .ok (.iload 4, 2) := by decide +kernel
theorem dL_pare_6 : decode cL_pare 6 = .ok (.iload 5, 2) := by decide +kernel
theorem dL_pare_8 : decode cL_pare 8 = .ok (.iload 6, 2) := by decide +kernel
theorem dL_pare_10 : decode cL_pare 10 = .ok (.invokevirtual 90, 3) := by decide +kernel
theorem dL_pare_13 : decode cL_pare 13 = .ok (.ireturn, 1) := by decide +kernel
theorem dL_pare_14 : decode cL_pare 14 = .ok (.astore 7, 2) := by decide +kernel
theorem dL_pare_16 : decode cL_pare 16 = .ok (.ldc 18, 2) := by decide +kernel
theorem dL_pare_18 : decode cL_pare 18 = .ok (.ireturn, 1) := by decide +kernel
theorem dL_pare_19 : decode cL_pare 19 = .ok (.astore 7, 2) := by decide +kernel
theorem dL_pare_21 : decode cL_pare 21 = .ok (.ldc 21, 2) := by decide +kernel
theorem dL_pare_23 : decode cL_pare 23 = .ok (.ireturn, 1) := by decide +kernel
theorem dL_pare_24 : decode cL_pare 24 = .ok (.astore 7, 2) := by decide +kernel
theorem dL_pare_26 : decode cL_pare 26 = .ok (.ldc 32, 2) := by decide +kernel
theorem dL_pare_28 : decode cL_pare 28 = .ok (.ireturn, 1) := by decide +kernel
set_option maxRecDepth 20000 in
theorem ggL_thickAt_X7_thickAt : GoodIn wsL_thickAt wsX7_thickAt := goodIn_ca (goodIn_r _ [7, 8, 9, 10, 6, 11, 12, 13, 14, 15, 16, 17, 18, 19, 20, 21, 22, 23, 24, 25, 26, 27, 28, 29, 30, 31, 32, 33, 34, 35, 36, 37] (by decide +kernel) (by decide +kernel)) (goodIn_sub (fun _ h => List.mem_cons_of_mem _ (List.mem_append_right _ h)) (by decide +kernel))
set_option maxRecDepth 20000 in
theorem gL_thickAt_X7_thickAt : GoodIn wsL_thickAt (wsV RL 94 RX7 yX7_thickAt wsX7_thickAt) := goodIn_app (goodIn_of _ (by decide +kernel)) ggL_thickAt_X7_thickAt
theorem dL_thickAt_0 : decode cL_thickAt 0 = .ok (.aload_n 0, 1) := by decide +kernel
theorem dL_thickAt_1 : decode cL_thickAt 1 = .ok (.iload_n 1, 1) := by decide +kernel
theorem dL_thickAt_2 : decode cL_thickAt 2 = .ok (.iload_n 2, 1) := by decide +kernel
theorem dL_thickAt_3 : decode cL_thickAt 3 = .ok (.iload_n 3, 1) := by decide +kernel
theorem dL_thickAt_4 : decode cL_thickAt 4 = .ok (.invokevirtual 94, 3) := by decide +kernel
theorem dL_thickAt_7 : decode cL_thickAt 7 = .ok (.ireturn, 1) := by decide +kernel
theorem dL_thickAt_8 : decode cL_thickAt 8 = .ok (.astore 4, 2) := by decide +kernel
theorem dL_thickAt_10 : decode cL_thickAt 10 = .ok (.ldc 18, 2) := by decide +kernel
theorem dL_thickAt_12 : decode cL_thickAt 12 = .ok (.ireturn, 1) := by decide +kernel
set_option maxRecDepth 20000 in
theorem ggL_tooThick_X7_tooThick : GoodIn wsL_tooThick wsX7_tooThick := goodIn_ca (goodIn_r _ [7, 8, 9, 10, 6, 11, 12, 13, 14, 15, 16, 17, 18, 19, 20, 21, 22, 23, 24, 25, 26, 27, 28, 29, 30, 31, 32, 33, 34, 35, 36] (by decide +kernel) (by decide +kernel)) (goodIn_sub (fun _ h => List.mem_cons_of_mem _ (List.mem_append_right _ h)) (by decide +kernel))
set_option maxRecDepth 20000 in
theorem gL_tooThick_X7_tooThick : GoodIn wsL_tooThick (wsV RL 97 RX7 yX7_tooThick wsX7_tooThick) := goodIn_app (goodIn_of _ (by decide +kernel)) ggL_tooThick_X7_tooThick
theorem dL_tooThick_0 : decode cL_tooThick 0 = .ok (.aload_n 0, 1) := by decide +kernel
theorem dL_tooThick_1 : decode cL_tooThick 1 = .ok (.iload_n 1, 1) := by decide +kernel
theorem dL_tooThick_2 : decode cL_tooThick 2 = .ok (.invokevirtual 97, 3) := by decide +kernel
theorem dL_tooThick_5 : decode cL_tooThick 5 = .ok (.ireturn, 1) := by decide +kernel
theorem dL_tooThick_6 : decode cL_tooThick 6 = .ok (.astore_n 2, 1) := by decide +kernel
theorem dL_tooThick_7 : decode cL_tooThick 7 = .ok (.ldc 18, 2) := by decide +kernel
theorem dL_tooThick_9 : decode cL_tooThick 9 = .ok (.ireturn, 1) := by decide +kernel
set_option maxRecDepth 20000 in
theorem ggL_repair_X7_repair_q0 : GoodIn wsL_repair (.code yX7_repair cX7_repair 4 (some .int) :: wsX7_repair_r1) := goodIn_r _ [11, 12, 13, 14, 10, 15, 16, 17, 18, 19, 20, 21, 22, 23, 24, 25, 26, 27, 28, 29, 30, 31, 32, 33, 34] (by decide +kernel) (by decide +kernel)
set_option maxRecDepth 20000 in
theorem ggL_repair_X7_repair_q1 : GoodIn wsL_repair (wsX7_repair_r2) := goodIn_r _ [35, 36, 37, 38, 39, 40, 41] (by decide +kernel) (by decide +kernel)
set_option maxRecDepth 20000 in
theorem ggL_repair_X7_repair_q2 : GoodIn wsL_repair (wsX10) := goodIn_r _ [42, 43, 44, 45, 46, 47, 48] (by decide +kernel) (by decide +kernel)
set_option maxRecDepth 20000 in
theorem ggL_repair_X7_repair_q3 : GoodIn wsL_repair (wsX30) := goodIn_r _ [49, 50] (by decide +kernel) (by decide +kernel)
set_option maxRecDepth 20000 in
theorem ggL_repair_X7_repair_q4 : GoodIn wsL_repair (wsX70) := goodIn_r _ [51, 52, 53, 54, 55, 56, 57] (by decide +kernel) (by decide +kernel)
set_option maxRecDepth 20000 in
theorem ggL_repair_X7_repair : GoodIn wsL_repair wsX7_repair := goodIn_ca (goodIn_ca (goodIn_ca (goodIn_ca (goodIn_ca (goodIn_ca (goodIn_ca ggL_repair_X7_repair_q0 ggL_repair_X7_repair_q1) ggL_repair_X7_repair_q2) ggL_repair_X7_repair_q3) ggL_repair_X7_repair_q4) (goodIn_sub (fun _ h => List.mem_cons_of_mem _ (List.mem_append_left _ (List.mem_append_left _ (List.mem_append_right _ h)))) (by decide +kernel))) (goodIn_sub (fun _ h => List.mem_cons_of_mem _ (List.mem_append_left _ (List.mem_append_right _ h))) (by decide +kernel))) (goodIn_sub (fun _ h => List.mem_cons_of_mem _ (List.mem_append_right _ h)) (by decide +kernel))
set_option maxRecDepth 20000 in
theorem gL_repair_X7_repair : GoodIn wsL_repair (wsV RL 100 RX7 yX7_repair wsX7_repair) := goodIn_app (goodIn_of _ (by decide +kernel)) ggL_repair_X7_repair
theorem dL_repair_0 : decode cL_repair 0 = .ok (.aload_n 0, 1) := by decide +kernel
theorem dL_repair_1 : decode cL_repair 1 = .ok (.iload_n 1, 1) := by decide +kernel
theorem dL_repair_2 : decode cL_repair 2 = .ok (.iload_n 2, 1) := by decide +kernel
theorem dL_repair_3 : decode cL_repair 3 = .ok (.invokevirtual 100, 3) := by decide +kernel
theorem dL_repair_6 : decode cL_repair 6 = .ok (.ireturn, 1) := by decide +kernel
theorem dL_repair_7 : decode cL_repair 7 = .ok (.astore_n 3, 1) := by decide +kernel
theorem dL_repair_8 : decode cL_repair 8 = .ok (.ldc 18, 2) := by decide +kernel
theorem dL_repair_10 : decode cL_repair 10 = .ok (.ireturn, 1) := by decide +kernel
theorem dL_repair_11 : decode cL_repair 11 = .ok (.astore_n 3, 1) := by decide +kernel
theorem dL_repair_12 : decode cL_repair 12 = .ok (.ldc 21, 2) := by decide +kernel
theorem dL_repair_14 : decode cL_repair 14 = .ok (.ireturn, 1) := by decide +kernel
theorem dL_repair_15 : decode cL_repair 15 = .ok (.astore_n 3, 1) := by decide +kernel
theorem dL_repair_16 : decode cL_repair 16 = .ok (.ldc 32, 2) := by decide +kernel
theorem dL_repair_18 : decode cL_repair 18 = .ok (.ireturn, 1) := by decide +kernel
set_option maxRecDepth 20000 in
theorem ggL_undo_X7_undo_q0 : GoodIn wsL_undo (.code yX7_undo cX7_undo 4 (some .int) :: wsX7_undo_r1) := goodIn_r _ [9, 10, 11, 12, 8, 13, 14, 15, 16, 17, 18, 19, 20, 21, 22, 23, 24, 25, 26, 27, 28, 29, 30, 31, 32] (by decide +kernel) (by decide +kernel)
set_option maxRecDepth 20000 in
theorem ggL_undo_X7_undo_q1 : GoodIn wsL_undo (wsX7_undo_r2) := goodIn_r _ [33, 34, 35, 36, 37, 38] (by decide +kernel) (by decide +kernel)
set_option maxRecDepth 20000 in
theorem ggL_undo_X7_undo_q2 : GoodIn wsL_undo (wsX10) := goodIn_r _ [39, 40, 41, 42, 43, 44, 45] (by decide +kernel) (by decide +kernel)
set_option maxRecDepth 20000 in
theorem ggL_undo_X7_undo_q3 : GoodIn wsL_undo (wsX70) := goodIn_r _ [46, 47, 48, 49, 50, 51, 52] (by decide +kernel) (by decide +kernel)
set_option maxRecDepth 20000 in
theorem ggL_undo_X7_undo_q4 : GoodIn wsL_undo (wsX30) := goodIn_r _ [53, 54] (by decide +kernel) (by decide +kernel)
set_option maxRecDepth 20000 in
theorem ggL_undo_X7_undo : GoodIn wsL_undo wsX7_undo := goodIn_ca (goodIn_ca (goodIn_ca (goodIn_ca (goodIn_ca (goodIn_ca ggL_undo_X7_undo_q0 ggL_undo_X7_undo_q1) ggL_undo_X7_undo_q2) ggL_undo_X7_undo_q3) ggL_undo_X7_undo_q4) (goodIn_sub (fun _ h => List.mem_cons_of_mem _ (List.mem_append_left _ (List.mem_append_right _ h))) (by decide +kernel))) (goodIn_sub (fun _ h => List.mem_cons_of_mem _ (List.mem_append_right _ h)) (by decide +kernel))
set_option maxRecDepth 20000 in
theorem gL_undo_X7_undo : GoodIn wsL_undo (wsV RL 103 RX7 yX7_undo wsX7_undo) := goodIn_app (goodIn_of _ (by decide +kernel)) ggL_undo_X7_undo
theorem dL_undo_0 : decode cL_undo 0 = .ok (.aload_n 0, 1) := by decide +kernel
theorem dL_undo_1 : decode cL_undo 1 = .ok (.iload_n 1, 1) := by decide +kernel
theorem dL_undo_2 : decode cL_undo 2 = .ok (.invokevirtual 103, 3) := by decide +kernel
theorem dL_undo_5 : decode cL_undo 5 = .ok (.ireturn, 1) := by decide +kernel
theorem dL_undo_6 : decode cL_undo 6 = .ok (.astore_n 2, 1) := by decide +kernel
theorem dL_undo_7 : decode cL_undo 7 = .ok (.ldc 18, 2) := by decide +kernel
theorem dL_undo_9 : decode cL_undo 9 = .ok (.ireturn, 1) := by decide +kernel
theorem dL_undo_10 : decode cL_undo 10 = .ok (.astore_n 2, 1) := by decide +kernel
theorem dL_undo_11 : decode cL_undo 11 = .ok (.ldc 32, 2) := by decide +kernel
theorem dL_undo_13 : decode cL_undo 13 = .ok (.ireturn, 1) := by decide +kernel
set_option maxRecDepth 20000 in
theorem ggL_speak_X7_speak_q0 : GoodIn wsL_speak (.code yX7_speak cX7_speak 6 (some .int) :: wsX7_speak_r1) := goodIn_r _ [11, 12, 13, 14, 10, 15, 16, 17, 18, 19, 20, 21, 22, 23, 24, 25, 26, 27, 28, 29, 30, 31, 32, 33, 34] (by decide +kernel) (by decide +kernel)
set_option maxRecDepth 20000 in
theorem ggL_speak_X7_speak_q1 : GoodIn wsL_speak (wsX7_speak_r2) := goodIn_r _ [35, 36, 37, 38, 39, 40] (by decide +kernel) (by decide +kernel)
set_option maxRecDepth 20000 in
theorem ggL_speak_X7_speak_q2 : GoodIn wsL_speak (wsX10) := goodIn_r _ [41, 42, 43, 44, 45, 46, 47] (by decide +kernel) (by decide +kernel)
set_option maxRecDepth 20000 in
theorem ggL_speak_X7_speak_q3 : GoodIn wsL_speak (wsX60) := goodIn_r _ [48, 49, 50, 51] (by decide +kernel) (by decide +kernel)
set_option maxRecDepth 20000 in
theorem ggL_speak_X7_speak_q4 : GoodIn wsL_speak (wsX70) := goodIn_r _ [52, 53, 54, 55, 56, 57, 58] (by decide +kernel) (by decide +kernel)
set_option maxRecDepth 20000 in
theorem ggL_speak_X7_speak : GoodIn wsL_speak wsX7_speak := goodIn_ca (goodIn_ca (goodIn_ca (goodIn_ca (goodIn_ca (goodIn_ca (goodIn_ca ggL_speak_X7_speak_q0 ggL_speak_X7_speak_q1) ggL_speak_X7_speak_q2) ggL_speak_X7_speak_q3) ggL_speak_X7_speak_q4) (goodIn_sub (fun _ h => List.mem_cons_of_mem _ (List.mem_append_left _ (List.mem_append_left _ (List.mem_append_right _ h)))) (by decide +kernel))) (goodIn_sub (fun _ h => List.mem_cons_of_mem _ (List.mem_append_left _ (List.mem_append_right _ h))) (by decide +kernel))) (goodIn_sub (fun _ h => List.mem_cons_of_mem _ (List.mem_append_right _ h)) (by decide +kernel))
set_option maxRecDepth 20000 in
theorem gL_speak_X7_speak : GoodIn wsL_speak (wsV RL 106 RX7 yX7_speak wsX7_speak) := goodIn_app (goodIn_of _ (by decide +kernel)) ggL_speak_X7_speak
theorem dL_speak_0 : decode cL_speak 0 = .ok (.aload_n 0, 1) := by decide +kernel
theorem dL_speak_1 : decode cL_speak 1 = .ok (.iload_n 1, 1) := by decide +kernel
theorem dL_speak_2 : decode cL_speak 2 = .ok (.iload_n 2, 1) := by decide +kernel
theorem dL_speak_3 : decode cL_speak 3 = .ok (.iload_n 3, 1) := by decide +kernel
theorem dL_speak_4 : decode cL_speak 4 = .ok (.iload 4, 2) := by decide +kernel
theorem dL_speak_6 : decode cL_speak 6 = .ok (.invokevirtual 106, 3) := by decide +kernel
theorem dL_speak_9 : decode cL_speak 9 = .ok (.ireturn, 1) := by decide +kernel
theorem dL_speak_10 : decode cL_speak 10 = .ok (.astore 5, 2) := by decide +kernel
theorem dL_speak_12 : decode cL_speak 12 = .ok (.ldc 18, 2) := by decide +kernel
theorem dL_speak_14 : decode cL_speak 14 = .ok (.ireturn, 1) := by decide +kernel
theorem dL_speak_15 : decode cL_speak 15 = .ok (.astore 5, 2) := by decide +kernel
theorem dL_speak_17 : decode cL_speak 17 = .ok (.ldc 21, 2) := by decide +kernel
theorem dL_speak_19 : decode cL_speak 19 = .ok (.ireturn, 1) := by decide +kernel
theorem dL_speak_20 : decode cL_speak 20 = .ok (.astore 5, 2) := by decide +kernel
theorem dL_speak_22 : decode cL_speak 22 = .ok (.ldc 32, 2) := by decide +kernel
theorem dL_speak_24 : decode cL_speak 24 = .ok (.ireturn, 1) := by decide +kernel
set_option maxRecDepth 20000 in
theorem ggL_year_X7_year_q0 : GoodIn wsL_year (.code yX7_year cX7_year 5 (some .int) :: wsX7_year_r1) := goodIn_r _ [7, 8, 9, 10, 6, 11, 12, 13, 14, 15, 16, 17, 18, 19, 20, 21, 22, 23, 24, 25, 26, 27, 28, 29, 30] (by decide +kernel) (by decide +kernel)
set_option maxRecDepth 20000 in
theorem ggL_year_X7_year_q1 : GoodIn wsL_year (wsX7_year_r2) := goodIn_r _ [31, 32, 33, 34] (by decide +kernel) (by decide +kernel)
set_option maxRecDepth 20000 in
theorem ggL_year_X7_year_q2 : GoodIn wsL_year (wsX10) := goodIn_r _ [35, 36, 37, 38, 39, 40, 41] (by decide +kernel) (by decide +kernel)
set_option maxRecDepth 20000 in
theorem ggL_year_X7_year_q3 : GoodIn wsL_year (wsX70) := goodIn_r _ [42, 43, 44, 45, 46, 47, 48] (by decide +kernel) (by decide +kernel)
set_option maxRecDepth 20000 in
theorem ggL_year_X7_year_q4 : GoodIn wsL_year (wsX60) := goodIn_r _ [49, 50, 51, 52] (by decide +kernel) (by decide +kernel)
set_option maxRecDepth 20000 in
theorem ggL_year_X7_year : GoodIn wsL_year wsX7_year := goodIn_ca (goodIn_ca (goodIn_ca (goodIn_ca (goodIn_ca ggL_year_X7_year_q0 ggL_year_X7_year_q1) ggL_year_X7_year_q2) ggL_year_X7_year_q3) ggL_year_X7_year_q4) (goodIn_sub (fun _ h => List.mem_cons_of_mem _ (List.mem_append_right _ h)) (by decide +kernel))
set_option maxRecDepth 20000 in
theorem gL_year_X7_year : GoodIn wsL_year (wsV RL 109 RX7 yX7_year wsX7_year) := goodIn_app (goodIn_of _ (by decide +kernel)) ggL_year_X7_year
theorem dL_year_0 : decode cL_year 0 = .ok (.aload_n 0, 1) := by decide +kernel
theorem dL_year_1 : decode cL_year 1 = .ok (.iload_n 1, 1) := by decide +kernel
theorem dL_year_2 : decode cL_year 2 = .ok (.iload_n 2, 1) := by decide +kernel
theorem dL_year_3 : decode cL_year 3 = .ok (.invokevirtual 109, 3) := by decide +kernel
theorem dL_year_6 : decode cL_year 6 = .ok (.ireturn, 1) := by decide +kernel
theorem dL_year_7 : decode cL_year 7 = .ok (.astore_n 3, 1) := by decide +kernel
theorem dL_year_8 : decode cL_year 8 = .ok (.ldc 18, 2) := by decide +kernel
theorem dL_year_10 : decode cL_year 10 = .ok (.ireturn, 1) := by decide +kernel
set_option maxRecDepth 20000 in
theorem ggL_yearAnew_X7_yearAnew_q0 : GoodIn wsL_yearAnew (.code yX7_yearAnew cX7_yearAnew 5 (some .int) :: wsX7_yearAnew_r1) := goodIn_r _ [7, 8, 9, 10, 6, 11, 12, 13, 14, 15, 16, 17, 18, 19, 20, 21, 22, 23, 24, 25, 26, 27, 28, 29, 30] (by decide +kernel) (by decide +kernel)
set_option maxRecDepth 20000 in
theorem ggL_yearAnew_X7_yearAnew_q1 : GoodIn wsL_yearAnew (wsX7_yearAnew_r2) := goodIn_r _ [31, 32, 33, 34] (by decide +kernel) (by decide +kernel)
set_option maxRecDepth 20000 in
theorem ggL_yearAnew_X7_yearAnew_q2 : GoodIn wsL_yearAnew (wsX10) := goodIn_r _ [35, 36, 37, 38, 39, 40, 41] (by decide +kernel) (by decide +kernel)
set_option maxRecDepth 20000 in
theorem ggL_yearAnew_X7_yearAnew_q3 : GoodIn wsL_yearAnew (wsX70) := goodIn_r _ [42, 43, 44, 45, 46, 47, 48] (by decide +kernel) (by decide +kernel)
set_option maxRecDepth 20000 in
theorem ggL_yearAnew_X7_yearAnew_q4 : GoodIn wsL_yearAnew (wsX60) := goodIn_r _ [49, 50, 51, 52] (by decide +kernel) (by decide +kernel)
set_option maxRecDepth 20000 in
theorem ggL_yearAnew_X7_yearAnew : GoodIn wsL_yearAnew wsX7_yearAnew := goodIn_ca (goodIn_ca (goodIn_ca (goodIn_ca (goodIn_ca ggL_yearAnew_X7_yearAnew_q0 ggL_yearAnew_X7_yearAnew_q1) ggL_yearAnew_X7_yearAnew_q2) ggL_yearAnew_X7_yearAnew_q3) ggL_yearAnew_X7_yearAnew_q4) (goodIn_sub (fun _ h => List.mem_cons_of_mem _ (List.mem_append_right _ h)) (by decide +kernel))
set_option maxRecDepth 20000 in
theorem gL_yearAnew_X7_yearAnew : GoodIn wsL_yearAnew (wsV RL 113 RX7 yX7_yearAnew wsX7_yearAnew) := goodIn_app (goodIn_of _ (by decide +kernel)) ggL_yearAnew_X7_yearAnew
theorem dL_yearAnew_0 : decode cL_yearAnew 0 = .ok (.aload_n 0, 1) := by decide +kernel
theorem dL_yearAnew_1 : decode cL_yearAnew 1 = .ok (.iload_n 1, 1) := by decide +kernel
theorem dL_yearAnew_2 : decode cL_yearAnew 2 = .ok (.iload_n 2, 1) := by decide +kernel
theorem dL_yearAnew_3 : decode cL_yearAnew 3 = .ok (.invokevirtual 113, 3) := by decide +kernel
theorem dL_yearAnew_6 : decode cL_yearAnew 6 = .ok (.ireturn, 1) := by decide +kernel
theorem dL_yearAnew_7 : decode cL_yearAnew 7 = .ok (.astore_n 3, 1) := by decide +kernel
theorem dL_yearAnew_8 : decode cL_yearAnew 8 = .ok (.ldc 18, 2) := by decide +kernel
theorem dL_yearAnew_10 : decode cL_yearAnew 10 = .ok (.ireturn, 1) := by decide +kernel
set_option maxRecDepth 20000 in
theorem ggL_coloured_L_cellAt_q0 : GoodIn wsL_coloured (.codeWith yL_cellAt cL_cellAt 5 (some .int) [(0, 7, 8, 16), (0, 7, 13, 19)] :: wsL_cellAt_r1) := goodIn_r _ [4, 5, 6, 7, 8, 9, 10, 11, 12, 13, 14, 15, 16, 17, 18, 19, 20, 21, 22, 23, 24, 25, 26, 27, 28] (by decide +kernel) (by decide +kernel)
set_option maxRecDepth 20000 in
theorem ggL_coloured_L_cellAt_q1 : GoodIn wsL_coloured (wsL_cellAt_r2) := goodIn_r _ [29, 30, 31, 32, 33, 34, 35, 36] (by decide +kernel) (by decide +kernel)
set_option maxRecDepth 20000 in
theorem ggL_coloured_L_cellAt_q2 : GoodIn wsL_coloured (wsX70) := goodIn_r _ [37, 38, 39, 40, 41, 42, 43] (by decide +kernel) (by decide +kernel)
set_option maxRecDepth 20000 in
theorem ggL_coloured_L_cellAt_q3 : GoodIn wsL_coloured (wsX00) := goodIn_r _ [44, 45, 46, 47, 48] (by decide +kernel) (by decide +kernel)
set_option maxRecDepth 20000 in
theorem ggL_coloured_L_cellAt : GoodIn wsL_coloured wsL_cellAt := goodIn_ca (goodIn_ca (goodIn_ca (goodIn_ca (goodIn_ca ggL_coloured_L_cellAt_q0 ggL_coloured_L_cellAt_q1) ggL_coloured_L_cellAt_q2) ggL_coloured_L_cellAt_q3) (goodIn_sub (fun _ h => List.mem_cons_of_mem _ (List.mem_append_left _ (List.mem_append_right _ h))) (by decide +kernel))) (goodIn_sub (fun _ h => List.mem_cons_of_mem _ (List.mem_append_right _ h)) (by decide +kernel))
set_option maxRecDepth 20000 in
theorem gL_coloured_L_cellAt : GoodIn wsL_coloured (va_wsS RL 116 yL_cellAt wsL_cellAt) := goodIn_app (goodIn_of _ (by decide +kernel)) ggL_coloured_L_cellAt
theorem dL_coloured_0 : decode cL_coloured 0 = .ok (.iconst 0, 1) := by decide +kernel
theorem dL_coloured_1 : decode cL_coloured 1 = .ok (.istore_n 1, 1) := by decide +kernel
theorem dL_coloured_2 : decode cL_coloured 2 = .ok (.iconst 0, 1) := by decide +kernel
theorem dL_coloured_3 : decode cL_coloured 3 = .ok (.istore_n 2, 1) := by decide +kernel
theorem dL_coloured_4 : decode cL_coloured 4 = .ok (.iload_n 2, 1) := by decide +kernel
theorem dL_coloured_5 : decode cL_coloured 5 = .ok (.bipush 64, 2) := by decide +kernel
theorem dL_coloured_7 : decode cL_coloured 7 = .ok (.if_icmp .ge 83, 3) := by decide +kernel
theorem dL_coloured_10 : decode cL_coloured 10 = .ok (.aload_n 0, 1) := by decide +kernel
theorem dL_coloured_11 : decode cL_coloured 11 = .ok (.iload_n 2, 1) := by decide +kernel
theorem dL_coloured_12 : decode cL_coloured 12 = .ok (.bipush 8, 2) := by decide +kernel
theorem dL_coloured_14 : decode cL_coloured 14 = .ok (.irem, 1) := by decide +kernel
theorem dL_coloured_15 : decode cL_coloured 15 = .ok (.iload_n 2, 1) := by decide +kernel
theorem dL_coloured_16 : decode cL_coloured 16 = .ok (.bipush 8, 2) := by decide +kernel
theorem dL_coloured_18 : decode cL_coloured 18 = .ok (.idiv, 1) := by decide +kernel
theorem dL_coloured_19 : decode cL_coloured 19 = .ok (.iconst 0, 1) := by decide +kernel
theorem dL_coloured_20 : decode cL_coloured 20 = .ok (.invokestatic 116, 3) := by decide +kernel
theorem dL_coloured_23 : decode cL_coloured 23 = .ok (.istore_n 3, 1) := by decide +kernel
theorem dL_coloured_24 : decode cL_coloured 24 = .ok (.aload_n 0, 1) := by decide +kernel
theorem dL_coloured_25 : decode cL_coloured 25 = .ok (.iload_n 2, 1) := by decide +kernel
theorem dL_coloured_26 : decode cL_coloured 26 = .ok (.bipush 8, 2) := by decide +kernel
