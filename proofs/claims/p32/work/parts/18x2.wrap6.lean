theorem dL_pares_215 : decode cL_pares 215 = .ok (.iload 6, 2) := by decide +kernel
theorem dL_pares_217 : decode cL_pares 217 = .ok (.iload 5, 2) := by decide +kernel
theorem dL_pares_219 : decode cL_pares 219 = .ok (.iload 7, 2) := by decide +kernel
theorem dL_pares_221 : decode cL_pares 221 = .ok (.iload 8, 2) := by decide +kernel
theorem dL_pares_223 : decode cL_pares 223 = .ok (.invokestatic 173, 3) := by decide +kernel
theorem dL_pares_226 : decode cL_pares 226 = .ok (.ldc 18, 2) := by decide +kernel
theorem dL_pares_228 : decode cL_pares 228 = .ok (.if_icmp .ne 7, 3) := by decide +kernel
theorem dL_pares_231 : decode cL_pares 231 = .ok (.iconst 1, 1) := by decide +kernel
theorem dL_pares_232 : decode cL_pares 232 = .ok (.goto 4, 3) := by decide +kernel
theorem dL_pares_235 : decode cL_pares 235 = .ok (.iconst 0, 1) := by decide +kernel
theorem dL_pares_236 : decode cL_pares 236 = .ok (.ireturn, 1) := by decide +kernel
set_option maxRecDepth 20000 in
theorem ggL_repairs_L_low : GoodIn wsL_repairs wsL_low := goodIn_r _ [5, 6] (by decide +kernel) (by decide +kernel)
set_option maxRecDepth 20000 in
theorem gL_repairs_L_low : GoodIn wsL_repairs (va_wsS RL 125 yL_low wsL_low) := goodIn_app (goodIn_of _ (by decide +kernel)) ggL_repairs_L_low
set_option maxRecDepth 20000 in
theorem ggL_repairs_L_repair_q0 : GoodIn wsL_repairs (.codeWith yL_repair cL_repair 4 (some .int) [(0, 6, 7, 16), (0, 6, 11, 19), (0, 6, 15, 30)] :: wsL_repair_r1) := goodIn_r _ [9, 10, 11, 12, 13, 14, 1, 15, 16, 17, 18, 19, 20, 21, 22, 23, 24, 25, 26, 27, 28, 29, 30, 31, 32] (by decide +kernel) (by decide +kernel)
set_option maxRecDepth 20000 in
theorem ggL_repairs_L_repair_q1 : GoodIn wsL_repairs (wsL_repair_r2) := goodIn_r _ [33, 34, 35, 36, 37, 38, 39, 40, 41, 42, 43, 44, 45, 46, 47, 48, 49] (by decide +kernel) (by decide +kernel)
set_option maxRecDepth 20000 in
theorem ggL_repairs_L_repair_q2 : GoodIn wsL_repairs (wsX10) := goodIn_r _ [65, 66, 67, 68, 69, 70, 71] (by decide +kernel) (by decide +kernel)
set_option maxRecDepth 20000 in
theorem ggL_repairs_L_repair_q3 : GoodIn wsL_repairs (wsX30) := goodIn_r _ [72, 73] (by decide +kernel) (by decide +kernel)
set_option maxRecDepth 20000 in
theorem ggL_repairs_L_repair_q4 : GoodIn wsL_repairs (wsX70) := goodIn_r _ [74, 75, 76, 77, 78, 79, 80] (by decide +kernel) (by decide +kernel)
set_option maxRecDepth 20000 in
theorem ggL_repairs_L_repair : GoodIn wsL_repairs wsL_repair := goodIn_ca (goodIn_ca (goodIn_ca (goodIn_ca (goodIn_ca (goodIn_ca (goodIn_ca ggL_repairs_L_repair_q0 ggL_repairs_L_repair_q1) ggL_repairs_L_repair_q2) ggL_repairs_L_repair_q3) ggL_repairs_L_repair_q4) (goodIn_sub (fun _ h => List.mem_cons_of_mem _ (List.mem_append_left _ (List.mem_append_left _ (List.mem_append_right _ h)))) (by decide +kernel))) (goodIn_sub (fun _ h => List.mem_cons_of_mem _ (List.mem_append_left _ (List.mem_append_right _ h))) (by decide +kernel))) (goodIn_sub (fun _ h => List.mem_cons_of_mem _ (List.mem_append_right _ h)) (by decide +kernel))
set_option maxRecDepth 20000 in
theorem gL_repairs_L_repair : GoodIn wsL_repairs (va_wsS RL 176 yL_repair wsL_repair) := goodIn_app (goodIn_of _ (by decide +kernel)) ggL_repairs_L_repair
set_option maxRecDepth 20000 in
theorem ggL_repairs_L_undo_q0 : GoodIn wsL_repairs (.codeWith yL_undo cL_undo 3 (some .int) [(0, 5, 6, 16), (0, 5, 10, 30)] :: wsL_undo_r1) := goodIn_r _ [52, 10, 12, 13, 1, 53, 54, 55, 18, 56, 20, 21, 22, 23, 24, 25, 26, 27, 28, 29, 57, 58, 59, 46, 60] (by decide +kernel) (by decide +kernel)
set_option maxRecDepth 20000 in
theorem ggL_repairs_L_undo_q1 : GoodIn wsL_repairs (wsL_undo_r2) := goodIn_r _ [48, 49, 35, 36, 37, 38, 39, 40, 41, 42, 61, 62, 63, 64] (by decide +kernel) (by decide +kernel)
set_option maxRecDepth 20000 in
theorem ggL_repairs_L_undo_q2 : GoodIn wsL_repairs (wsX10) := goodIn_r _ [65, 66, 67, 68, 69, 70, 71] (by decide +kernel) (by decide +kernel)
set_option maxRecDepth 20000 in
theorem ggL_repairs_L_undo_q3 : GoodIn wsL_repairs (wsX70) := goodIn_r _ [74, 75, 76, 77, 78, 79, 80] (by decide +kernel) (by decide +kernel)
set_option maxRecDepth 20000 in
theorem ggL_repairs_L_undo_q4 : GoodIn wsL_repairs (wsX30) := goodIn_r _ [72, 73] (by decide +kernel) (by decide +kernel)
set_option maxRecDepth 20000 in
theorem ggL_repairs_L_undo : GoodIn wsL_repairs wsL_undo := goodIn_ca (goodIn_ca (goodIn_ca (goodIn_ca (goodIn_ca (goodIn_ca ggL_repairs_L_undo_q0 ggL_repairs_L_undo_q1) ggL_repairs_L_undo_q2) ggL_repairs_L_undo_q3) ggL_repairs_L_undo_q4) (goodIn_sub (fun _ h => List.mem_cons_of_mem _ (List.mem_append_left _ (List.mem_append_left _ (List.mem_append_right _ h)))) (by decide +kernel))) (goodIn_sub (fun _ h => List.mem_cons_of_mem _ (List.mem_append_right _ h)) (by decide +kernel))
set_option maxRecDepth 20000 in
theorem gL_repairs_L_undo : GoodIn wsL_repairs (va_wsS RL 178 yL_undo wsL_undo) := goodIn_app (goodIn_of _ (by decide +kernel)) ggL_repairs_L_undo
theorem dL_repairs_0 : decode cL_repairs 0 = .ok (.iload 4, 2) := by decide +kernel
theorem dL_repairs_2 : decode cL_repairs 2 = .ok (.iconst 5, 1) := by decide +kernel
theorem dL_repairs_3 : decode cL_repairs 3 = .ok (.invokestatic 125, 3) := by decide +kernel
theorem dL_repairs_6 : decode cL_repairs 6 = .ok (.istore 5, 2) := by decide +kernel
theorem dL_repairs_8 : decode cL_repairs 8 = .ok (.aload_n 0, 1) := by decide +kernel
theorem dL_repairs_9 : decode cL_repairs 9 = .ok (.iload_n 3, 1) := by decide +kernel
theorem dL_repairs_10 : decode cL_repairs 10 = .ok (.iload 5, 2) := by decide +kernel
theorem dL_repairs_12 : decode cL_repairs 12 = .ok (.invokestatic 176, 3) := by decide +kernel
theorem dL_repairs_15 : decode cL_repairs 15 = .ok (.istore 6, 2) := by decide +kernel
theorem dL_repairs_17 : decode cL_repairs 17 = .ok (.iload 6, 2) := by decide +kernel
theorem dL_repairs_19 : decode cL_repairs 19 = .ok (.ldc 32, 2) := by decide +kernel
theorem dL_repairs_21 : decode cL_repairs 21 = .ok (.if_icmp .ne 35, 3) := by decide +kernel
theorem dL_repairs_24 : decode cL_repairs 24 = .ok (.aload_n 2, 1) := by decide +kernel
theorem dL_repairs_25 : decode cL_repairs 25 = .ok (.iload_n 3, 1) := by decide +kernel
theorem dL_repairs_26 : decode cL_repairs 26 = .ok (.iaload, 1) := by decide +kernel
theorem dL_repairs_27 : decode cL_repairs 27 = .ok (.bipush 20, 2) := by decide +kernel
theorem dL_repairs_29 : decode cL_repairs 29 = .ok (.if_icmp .eq 21, 3) := by decide +kernel
theorem dL_repairs_32 : decode cL_repairs 32 = .ok (.aload_n 1, 1) := by decide +kernel
theorem dL_repairs_33 : decode cL_repairs 33 = .ok (.bipush 6, 2) := by decide +kernel
theorem dL_repairs_35 : decode cL_repairs 35 = .ok (.iload_n 3, 1) := by decide +kernel
theorem dL_repairs_36 : decode cL_repairs 36 = .ok (.imul, 1) := by decide +kernel
theorem dL_repairs_37 : decode cL_repairs 37 = .ok (.iconst 4, 1) := by decide +kernel
theorem dL_repairs_38 : decode cL_repairs 38 = .ok (.iadd, 1) := by decide +kernel
theorem dL_repairs_39 : decode cL_repairs 39 = .ok (.iaload, 1) := by decide +kernel
theorem dL_repairs_40 : decode cL_repairs 40 = .ok (.iconst 1, 1) := by decide +kernel
theorem dL_repairs_41 : decode cL_repairs 41 = .ok (.if_icmp .ne 13, 3) := by decide +kernel
theorem dL_repairs_44 : decode cL_repairs 44 = .ok (.iload 5, 2) := by decide +kernel
theorem dL_repairs_46 : decode cL_repairs 46 = .ok (.iconst 2, 1) := by decide +kernel
theorem dL_repairs_47 : decode cL_repairs 47 = .ok (.if_icmp .le 7, 3) := by decide +kernel
theorem dL_repairs_50 : decode cL_repairs 50 = .ok (.iconst 1, 1) := by decide +kernel
theorem dL_repairs_51 : decode cL_repairs 51 = .ok (.goto 4, 3) := by decide +kernel
theorem dL_repairs_54 : decode cL_repairs 54 = .ok (.iconst 0, 1) := by decide +kernel
theorem dL_repairs_55 : decode cL_repairs 55 = .ok (.ireturn, 1) := by decide +kernel
theorem dL_repairs_56 : decode cL_repairs 56 = .ok (.aload_n 2, 1) := by decide +kernel
theorem dL_repairs_57 : decode cL_repairs 57 = .ok (.iload_n 3, 1) := by decide +kernel
theorem dL_repairs_58 : decode cL_repairs 58 = .ok (.dup2, 1) := by decide +kernel
theorem dL_repairs_59 : decode cL_repairs 59 = .ok (.iaload, 1) := by decide +kernel
theorem dL_repairs_60 : decode cL_repairs 60 = .ok (.iconst 1, 1) := by decide +kernel
theorem dL_repairs_61 : decode cL_repairs 61 = .ok (.iadd, 1) := by decide +kernel
theorem dL_repairs_62 : decode cL_repairs 62 = .ok (.iastore, 1) := by decide +kernel
theorem dL_repairs_63 : decode cL_repairs 63 = .ok (.iload 6, 2) := by decide +kernel
theorem dL_repairs_65 : decode cL_repairs 65 = .ok (.aload_n 2, 1) := by decide +kernel
theorem dL_repairs_66 : decode cL_repairs 66 = .ok (.iload_n 3, 1) := by decide +kernel
theorem dL_repairs_67 : decode cL_repairs 67 = .ok (.iaload, 1) := by decide +kernel
theorem dL_repairs_68 : decode cL_repairs 68 = .ok (.if_icmp .ne 21, 3) := by decide +kernel
theorem dL_repairs_71 : decode cL_repairs 71 = .ok (.aload_n 1, 1) := by decide +kernel
theorem dL_repairs_72 : decode cL_repairs 72 = .ok (.bipush 6, 2) := by decide +kernel
theorem dL_repairs_74 : decode cL_repairs 74 = .ok (.iload_n 3, 1) := by decide +kernel
theorem dL_repairs_75 : decode cL_repairs 75 = .ok (.imul, 1) := by decide +kernel
theorem dL_repairs_76 : decode cL_repairs 76 = .ok (.iconst 4, 1) := by decide +kernel
theorem dL_repairs_77 : decode cL_repairs 77 = .ok (.iadd, 1) := by decide +kernel
theorem dL_repairs_78 : decode cL_repairs 78 = .ok (.iaload, 1) := by decide +kernel
theorem dL_repairs_79 : decode cL_repairs 79 = .ok (.iconst 1, 1) := by decide +kernel
theorem dL_repairs_80 : decode cL_repairs 80 = .ok (.if_icmp .ne 11, 3) := by decide +kernel
theorem dL_repairs_83 : decode cL_repairs 83 = .ok (.iload 5, 2) := by decide +kernel
theorem dL_repairs_85 : decode cL_repairs 85 = .ok (.iconst 2, 1) := by decide +kernel
theorem dL_repairs_86 : decode cL_repairs 86 = .ok (.if_icmp .le 5, 3) := by decide +kernel
theorem dL_repairs_89 : decode cL_repairs 89 = .ok (.iconst 0, 1) := by decide +kernel
theorem dL_repairs_90 : decode cL_repairs 90 = .ok (.ireturn, 1) := by decide +kernel
theorem dL_repairs_91 : decode cL_repairs 91 = .ok (.iload 4, 2) := by decide +kernel
theorem dL_repairs_93 : decode cL_repairs 93 = .ok (.iconst 3, 1) := by decide +kernel
theorem dL_repairs_94 : decode cL_repairs 94 = .ok (.ishr, 1) := by decide +kernel
theorem dL_repairs_95 : decode cL_repairs 95 = .ok (.iconst 2, 1) := by decide +kernel
theorem dL_repairs_96 : decode cL_repairs 96 = .ok (.invokestatic 125, 3) := by decide +kernel
theorem dL_repairs_99 : decode cL_repairs 99 = .ok (.ifCond .ne 11, 3) := by decide +kernel
theorem dL_repairs_102 : decode cL_repairs 102 = .ok (.aload_n 0, 1) := by decide +kernel
theorem dL_repairs_103 : decode cL_repairs 103 = .ok (.iload_n 3, 1) := by decide +kernel
theorem dL_repairs_104 : decode cL_repairs 104 = .ok (.invokestatic 178, 3) := by decide +kernel
theorem dL_repairs_107 : decode cL_repairs 107 = .ok (.goto 5, 3) := by decide +kernel
theorem dL_repairs_110 : decode cL_repairs 110 = .ok (.bipush (-5), 2) := by decide +kernel
theorem dL_repairs_112 : decode cL_repairs 112 = .ok (.istore 7, 2) := by decide +kernel
theorem dL_repairs_114 : decode cL_repairs 114 = .ok (.aload_n 2, 1) := by decide +kernel
theorem dL_repairs_115 : decode cL_repairs 115 = .ok (.iload_n 3, 1) := by decide +kernel
theorem dL_repairs_116 : decode cL_repairs 116 = .ok (.dup2, 1) := by decide +kernel
theorem dL_repairs_117 : decode cL_repairs 117 = .ok (.iaload, 1) := by decide +kernel
theorem dL_repairs_118 : decode cL_repairs 118 = .ok (.iload 7, 2) := by decide +kernel
theorem dL_repairs_120 : decode cL_repairs 120 = .ok (.ifCond .lt 7, 3) := by decide +kernel
theorem dL_repairs_123 : decode cL_repairs 123 = .ok (.iconst 1, 1) := by decide +kernel
theorem dL_repairs_124 : decode cL_repairs 124 = .ok (.goto 4, 3) := by decide +kernel
theorem dL_repairs_127 : decode cL_repairs 127 = .ok (.iconst 0, 1) := by decide +kernel
theorem dL_repairs_128 : decode cL_repairs 128 = .ok (.isub, 1) := by decide +kernel
theorem dL_repairs_129 : decode cL_repairs 129 = .ok (.iastore, 1) := by decide +kernel
theorem dL_repairs_130 : decode cL_repairs 130 = .ok (.iload 7, 2) := by decide +kernel
theorem dL_repairs_132 : decode cL_repairs 132 = .ok (.bipush (-5), 2) := by decide +kernel
theorem dL_repairs_134 : decode cL_repairs 134 = .ok (.if_icmp .eq 21, 3) := by decide +kernel
theorem dL_repairs_137 : decode cL_repairs 137 = .ok (.iload 7, 2) := by decide +kernel
theorem dL_repairs_139 : decode cL_repairs 139 = .ok (.iload 5, 2) := by decide +kernel
theorem dL_repairs_141 : decode cL_repairs 141 = .ok (.iconst 3, 1) := by decide +kernel
theorem dL_repairs_142 : decode cL_repairs 142 = .ok (.if_icmp .ge 8, 3) := by decide +kernel
theorem dL_repairs_145 : decode cL_repairs 145 = .ok (.iload 5, 2) := by decide +kernel
theorem dL_repairs_147 : decode cL_repairs 147 = .ok (.goto 5, 3) := by decide +kernel
theorem dL_repairs_150 : decode cL_repairs 150 = .ok (.ldc 32, 2) := by decide +kernel
theorem dL_repairs_152 : decode cL_repairs 152 = .ok (.if_icmp .ne 7, 3) := by decide +kernel
theorem dL_repairs_155 : decode cL_repairs 155 = .ok (.iconst 1, 1) := by decide +kernel
theorem dL_repairs_156 : decode cL_repairs 156 = .ok (.goto 4, 3) := by decide +kernel
theorem dL_repairs_159 : decode cL_repairs 159 = .ok (.iconst 0, 1) := by decide +kernel
theorem dL_repairs_160 : decode cL_repairs 160 = .ok (.ireturn, 1) := by decide +kernel
set_option maxRecDepth 20000 in
theorem ggL_speaks_L_low : GoodIn wsL_speaks wsL_low := goodIn_r _ [5, 6] (by decide +kernel) (by decide +kernel)
set_option maxRecDepth 20000 in
theorem gL_speaks_L_low : GoodIn wsL_speaks (va_wsS RL 125 yL_low wsL_low) := goodIn_app (goodIn_of _ (by decide +kernel)) ggL_speaks_L_low
set_option maxRecDepth 20000 in
theorem ggL_speaks_L_speak_q0 : GoodIn wsL_speaks (.codeWith yL_speak cL_speak 6 (some .int) [(0, 9, 10, 16), (0, 9, 15, 19), (0, 9, 20, 30)] :: wsL_speak_r1) := goodIn_r _ [9, 10, 11, 12, 13, 14, 1, 15, 16, 17, 18, 19, 20, 21, 22, 23, 24, 25, 26, 27, 28, 29, 30, 31, 32] (by decide +kernel) (by decide +kernel)
set_option maxRecDepth 20000 in
theorem ggL_speaks_L_speak_q1 : GoodIn wsL_speaks (wsL_speak_r2) := goodIn_r _ [33, 34, 35, 36, 37, 38, 39, 40, 41, 42, 43, 44, 45, 46, 47, 48] (by decide +kernel) (by decide +kernel)
set_option maxRecDepth 20000 in
theorem ggL_speaks_L_speak_q2 : GoodIn wsL_speaks (wsX10) := goodIn_r _ [83, 84, 85, 86, 87, 88, 89] (by decide +kernel) (by decide +kernel)
set_option maxRecDepth 20000 in
theorem ggL_speaks_L_speak_q3 : GoodIn wsL_speaks (wsX60) := goodIn_r _ [90, 91, 92, 93] (by decide +kernel) (by decide +kernel)
set_option maxRecDepth 20000 in
theorem ggL_speaks_L_speak_q4 : GoodIn wsL_speaks (wsX70) := goodIn_r _ [94, 95, 96, 97, 98, 99, 100] (by decide +kernel) (by decide +kernel)
set_option maxRecDepth 20000 in
theorem ggL_speaks_L_speak : GoodIn wsL_speaks wsL_speak := goodIn_ca (goodIn_ca (goodIn_ca (goodIn_ca (goodIn_ca (goodIn_ca (goodIn_ca ggL_speaks_L_speak_q0 ggL_speaks_L_speak_q1) ggL_speaks_L_speak_q2) ggL_speaks_L_speak_q3) ggL_speaks_L_speak_q4) (goodIn_sub (fun _ h => List.mem_cons_of_mem _ (List.mem_append_left _ (List.mem_append_left _ (List.mem_append_right _ h)))) (by decide +kernel))) (goodIn_sub (fun _ h => List.mem_cons_of_mem _ (List.mem_append_left _ (List.mem_append_right _ h))) (by decide +kernel))) (goodIn_sub (fun _ h => List.mem_cons_of_mem _ (List.mem_append_right _ h)) (by decide +kernel))
set_option maxRecDepth 20000 in
theorem gL_speaks_L_speak : GoodIn wsL_speaks (va_wsS RL 180 yL_speak wsL_speak) := goodIn_app (goodIn_of _ (by decide +kernel)) ggL_speaks_L_speak
set_option maxRecDepth 20000 in
theorem ggL_speaks_L_year_q0 : GoodIn wsL_speaks (.codeWith yL_year cL_year 4 (some .int) [(0, 6, 7, 16)] :: wsL_year_r1) := goodIn_r _ [51, 10, 13, 52, 53, 54, 18, 55, 20, 21, 22, 23, 24, 25, 26, 27, 28, 29, 56, 57, 58, 43, 59, 45, 46] (by decide +kernel) (by decide +kernel)
set_option maxRecDepth 20000 in
theorem ggL_speaks_L_year_q1 : GoodIn wsL_speaks (wsL_year_r2) := goodIn_r _ [60, 61, 62, 63, 47, 48, 64, 65, 66, 67] (by decide +kernel) (by decide +kernel)
set_option maxRecDepth 20000 in
theorem ggL_speaks_L_year_q2 : GoodIn wsL_speaks (wsX10) := goodIn_r _ [83, 84, 85, 86, 87, 88, 89] (by decide +kernel) (by decide +kernel)
set_option maxRecDepth 20000 in
theorem ggL_speaks_L_year_q3 : GoodIn wsL_speaks (wsX70) := goodIn_r _ [94, 95, 96, 97, 98, 99, 100] (by decide +kernel) (by decide +kernel)
set_option maxRecDepth 20000 in
theorem ggL_speaks_L_year_q4 : GoodIn wsL_speaks (wsX60) := goodIn_r _ [90, 91, 92, 93] (by decide +kernel) (by decide +kernel)
set_option maxRecDepth 20000 in
theorem ggL_speaks_L_year : GoodIn wsL_speaks wsL_year := goodIn_ca (goodIn_ca (goodIn_ca (goodIn_ca (goodIn_ca ggL_speaks_L_year_q0 ggL_speaks_L_year_q1) ggL_speaks_L_year_q2) ggL_speaks_L_year_q3) ggL_speaks_L_year_q4) (goodIn_sub (fun _ h => List.mem_cons_of_mem _ (List.mem_append_left _ (List.mem_append_left _ (List.mem_append_right _ h)))) (by decide +kernel))
set_option maxRecDepth 20000 in
theorem gL_speaks_L_year : GoodIn wsL_speaks (va_wsS RL 182 yL_year wsL_year) := goodIn_app (goodIn_of _ (by decide +kernel)) ggL_speaks_L_year
set_option maxRecDepth 20000 in
theorem ggL_speaks_L_yearAnew_q0 : GoodIn wsL_speaks (.codeWith yL_yearAnew cL_yearAnew 4 (some .int) [(0, 6, 7, 16)] :: wsL_yearAnew_r1) := goodIn_r _ [70, 10, 13, 71, 72, 73, 18, 74, 20, 21, 22, 23, 24, 25, 26, 27, 28, 29, 75, 76, 77, 43, 78, 60, 61] (by decide +kernel) (by decide +kernel)
set_option maxRecDepth 20000 in
theorem ggL_speaks_L_yearAnew_q1 : GoodIn wsL_speaks (wsL_yearAnew_r2) := goodIn_r _ [62, 63, 45, 46, 47, 48, 79, 80, 81, 82] (by decide +kernel) (by decide +kernel)
set_option maxRecDepth 20000 in
theorem ggL_speaks_L_yearAnew_q2 : GoodIn wsL_speaks (wsX10) := goodIn_r _ [83, 84, 85, 86, 87, 88, 89] (by decide +kernel) (by decide +kernel)
set_option maxRecDepth 20000 in
theorem ggL_speaks_L_yearAnew_q3 : GoodIn wsL_speaks (wsX70) := goodIn_r _ [94, 95, 96, 97, 98, 99, 100] (by decide +kernel) (by decide +kernel)
set_option maxRecDepth 20000 in
theorem ggL_speaks_L_yearAnew_q4 : GoodIn wsL_speaks (wsX60) := goodIn_r _ [90, 91, 92, 93] (by decide +kernel) (by decide +kernel)
set_option maxRecDepth 20000 in
theorem ggL_speaks_L_yearAnew : GoodIn wsL_speaks wsL_yearAnew := goodIn_ca (goodIn_ca (goodIn_ca (goodIn_ca (goodIn_ca ggL_speaks_L_yearAnew_q0 ggL_speaks_L_yearAnew_q1) ggL_speaks_L_yearAnew_q2) ggL_speaks_L_yearAnew_q3) ggL_speaks_L_yearAnew_q4) (goodIn_sub (fun _ h => List.mem_cons_of_mem _ (List.mem_append_left _ (List.mem_append_left _ (List.mem_append_right _ h)))) (by decide +kernel))
set_option maxRecDepth 20000 in
theorem gL_speaks_L_yearAnew : GoodIn wsL_speaks (va_wsS RL 185 yL_yearAnew wsL_yearAnew) := goodIn_app (goodIn_of _ (by decide +kernel)) ggL_speaks_L_yearAnew
theorem dL_speaks_0 : decode cL_speaks 0 = .ok (.sipush 1400, 3) := by decide +kernel
theorem dL_speaks_3 : decode cL_speaks 3 = .ok (.iload_n 2, 1) := by decide +kernel
theorem dL_speaks_4 : decode cL_speaks 4 = .ok (.sipush 601, 3) := by decide +kernel
theorem dL_speaks_7 : decode cL_speaks 7 = .ok (.invokestatic 125, 3) := by decide +kernel
theorem dL_speaks_10 : decode cL_speaks 10 = .ok (.iadd, 1) := by decide +kernel
theorem dL_speaks_11 : decode cL_speaks 11 = .ok (.istore_n 3, 1) := by decide +kernel
theorem dL_speaks_12 : decode cL_speaks 12 = .ok (.iload_n 3, 1) := by decide +kernel
theorem dL_speaks_13 : decode cL_speaks 13 = .ok (.iload_n 2, 1) := by decide +kernel
theorem dL_speaks_14 : decode cL_speaks 14 = .ok (.bipush 10, 2) := by decide +kernel
theorem dL_speaks_16 : decode cL_speaks 16 = .ok (.ishr, 1) := by decide +kernel
theorem dL_speaks_17 : decode cL_speaks 17 = .ok (.sipush 2001, 3) := by decide +kernel
theorem dL_speaks_20 : decode cL_speaks 20 = .ok (.iload_n 3, 1) := by decide +kernel
theorem dL_speaks_21 : decode cL_speaks 21 = .ok (.isub, 1) := by decide +kernel
theorem dL_speaks_22 : decode cL_speaks 22 = .ok (.invokestatic 125, 3) := by decide +kernel
theorem dL_speaks_25 : decode cL_speaks 25 = .ok (.iadd, 1) := by decide +kernel
theorem dL_speaks_26 : decode cL_speaks 26 = .ok (.istore 4, 2) := by decide +kernel
theorem dL_speaks_28 : decode cL_speaks 28 = .ok (.aload_n 0, 1) := by decide +kernel
theorem dL_speaks_29 : decode cL_speaks 29 = .ok (.iload_n 1, 1) := by decide +kernel
theorem dL_speaks_30 : decode cL_speaks 30 = .ok (.iload_n 3, 1) := by decide +kernel
theorem dL_speaks_31 : decode cL_speaks 31 = .ok (.iload 4, 2) := by decide +kernel
theorem dL_speaks_33 : decode cL_speaks 33 = .ok (.iconst 1, 1) := by decide +kernel
theorem dL_speaks_34 : decode cL_speaks 34 = .ok (.iload_n 2, 1) := by decide +kernel
theorem dL_speaks_35 : decode cL_speaks 35 = .ok (.bipush 20, 2) := by decide +kernel
theorem dL_speaks_37 : decode cL_speaks 37 = .ok (.ishr, 1) := by decide +kernel
theorem dL_speaks_38 : decode cL_speaks 38 = .ok (.bipush 9, 2) := by decide +kernel
theorem dL_speaks_40 : decode cL_speaks 40 = .ok (.invokestatic 125, 3) := by decide +kernel
theorem dL_speaks_43 : decode cL_speaks 43 = .ok (.iadd, 1) := by decide +kernel
theorem dL_speaks_44 : decode cL_speaks 44 = .ok (.invokestatic 180, 3) := by decide +kernel
theorem dL_speaks_47 : decode cL_speaks 47 = .ok (.istore 5, 2) := by decide +kernel
theorem dL_speaks_49 : decode cL_speaks 49 = .ok (.aload_n 0, 1) := by decide +kernel
theorem dL_speaks_50 : decode cL_speaks 50 = .ok (.iload_n 1, 1) := by decide +kernel
theorem dL_speaks_51 : decode cL_speaks 51 = .ok (.iconst 0, 1) := by decide +kernel
theorem dL_speaks_52 : decode cL_speaks 52 = .ok (.invokestatic 182, 3) := by decide +kernel
theorem dL_speaks_55 : decode cL_speaks 55 = .ok (.istore 6, 2) := by decide +kernel
theorem dL_speaks_57 : decode cL_speaks 57 = .ok (.aload_n 0, 1) := by decide +kernel
theorem dL_speaks_58 : decode cL_speaks 58 = .ok (.iload_n 1, 1) := by decide +kernel
theorem dL_speaks_59 : decode cL_speaks 59 = .ok (.iconst 1, 1) := by decide +kernel
theorem dL_speaks_60 : decode cL_speaks 60 = .ok (.invokestatic 182, 3) := by decide +kernel
theorem dL_speaks_63 : decode cL_speaks 63 = .ok (.istore 7, 2) := by decide +kernel
theorem dL_speaks_65 : decode cL_speaks 65 = .ok (.iload 5, 2) := by decide +kernel
theorem dL_speaks_67 : decode cL_speaks 67 = .ok (.ifCond .gt 10, 3) := by decide +kernel
theorem dL_speaks_70 : decode cL_speaks 70 = .ok (.iload 5, 2) := by decide +kernel
theorem dL_speaks_72 : decode cL_speaks 72 = .ok (.ldc 32, 2) := by decide +kernel
theorem dL_speaks_74 : decode cL_speaks 74 = .ok (.if_icmp .ne 71, 3) := by decide +kernel
theorem dL_speaks_77 : decode cL_speaks 77 = .ok (.iload 6, 2) := by decide +kernel
theorem dL_speaks_79 : decode cL_speaks 79 = .ok (.sipush 1400, 3) := by decide +kernel
theorem dL_speaks_82 : decode cL_speaks 82 = .ok (.if_icmp .lt 63, 3) := by decide +kernel
theorem dL_speaks_85 : decode cL_speaks 85 = .ok (.iload 6, 2) := by decide +kernel
theorem dL_speaks_87 : decode cL_speaks 87 = .ok (.iload 7, 2) := by decide +kernel
theorem dL_speaks_89 : decode cL_speaks 89 = .ok (.if_icmp .gt 56, 3) := by decide +kernel
theorem dL_speaks_92 : decode cL_speaks 92 = .ok (.iload 7, 2) := by decide +kernel
theorem dL_speaks_94 : decode cL_speaks 94 = .ok (.sipush 2000, 3) := by decide +kernel
theorem dL_speaks_97 : decode cL_speaks 97 = .ok (.if_icmp .gt 48, 3) := by decide +kernel
theorem dL_speaks_100 : decode cL_speaks 100 = .ok (.aload_n 0, 1) := by decide +kernel
theorem dL_speaks_101 : decode cL_speaks 101 = .ok (.iload_n 1, 1) := by decide +kernel
theorem dL_speaks_102 : decode cL_speaks 102 = .ok (.iconst 0, 1) := by decide +kernel
theorem dL_speaks_103 : decode cL_speaks 103 = .ok (.invokestatic 185, 3) := by decide +kernel
theorem dL_speaks_106 : decode cL_speaks 106 = .ok (.iload 6, 2) := by decide +kernel
theorem dL_speaks_108 : decode cL_speaks 108 = .ok (.if_icmp .ne 37, 3) := by decide +kernel
theorem dL_speaks_111 : decode cL_speaks 111 = .ok (.aload_n 0, 1) := by decide +kernel
theorem dL_speaks_112 : decode cL_speaks 112 = .ok (.iload_n 1, 1) := by decide +kernel
theorem dL_speaks_113 : decode cL_speaks 113 = .ok (.iconst 1, 1) := by decide +kernel
theorem dL_speaks_114 : decode cL_speaks 114 = .ok (.invokestatic 185, 3) := by decide +kernel
theorem dL_speaks_117 : decode cL_speaks 117 = .ok (.iload 7, 2) := by decide +kernel
theorem dL_speaks_119 : decode cL_speaks 119 = .ok (.if_icmp .ne 26, 3) := by decide +kernel
theorem dL_speaks_122 : decode cL_speaks 122 = .ok (.iload 5, 2) := by decide +kernel
theorem dL_speaks_124 : decode cL_speaks 124 = .ok (.iconst 1, 1) := by decide +kernel
theorem dL_speaks_125 : decode cL_speaks 125 = .ok (.if_icmp .ne 16, 3) := by decide +kernel
theorem dL_speaks_128 : decode cL_speaks 128 = .ok (.iload 6, 2) := by decide +kernel
theorem dL_speaks_130 : decode cL_speaks 130 = .ok (.iload_n 3, 1) := by decide +kernel
theorem dL_speaks_131 : decode cL_speaks 131 = .ok (.if_icmp .ne 14, 3) := by decide +kernel
theorem dL_speaks_134 : decode cL_speaks 134 = .ok (.iload 7, 2) := by decide +kernel
theorem dL_speaks_136 : decode cL_speaks 136 = .ok (.iload 4, 2) := by decide +kernel
theorem dL_speaks_138 : decode cL_speaks 138 = .ok (.if_icmp .ne 7, 3) := by decide +kernel
theorem dL_speaks_141 : decode cL_speaks 141 = .ok (.iconst 1, 1) := by decide +kernel
theorem dL_speaks_142 : decode cL_speaks 142 = .ok (.goto 4, 3) := by decide +kernel
theorem dL_speaks_145 : decode cL_speaks 145 = .ok (.iconst 0, 1) := by decide +kernel
theorem dL_speaks_146 : decode cL_speaks 146 = .ok (.ireturn, 1) := by decide +kernel
set_option maxRecDepth 20000 in
theorem ggL_begins_L_low : GoodIn wsL_begins wsL_low := goodIn_r _ [5, 6] (by decide +kernel) (by decide +kernel)
set_option maxRecDepth 20000 in
theorem gL_begins_L_low : GoodIn wsL_begins (va_wsS RL 125 yL_low wsL_low) := goodIn_app (goodIn_of _ (by decide +kernel)) ggL_begins_L_low
set_option maxRecDepth 20000 in
theorem ggL_begins_L_skin_q0 : GoodIn wsL_begins (.codeWith yL_skin cL_skin 3 (some .int) [(0, 5, 6, 19), (0, 5, 10, 30)] :: wsL_skin_r1) := goodIn_r _ [9, 10, 11, 12, 1, 13, 14, 15, 16, 17, 18, 19, 20, 21, 22, 23, 24, 25, 26, 27, 28, 29, 30, 31, 32] (by decide +kernel) (by decide +kernel)
set_option maxRecDepth 20000 in
theorem ggL_begins_L_skin_q1 : GoodIn wsL_begins (wsL_skin_r2) := goodIn_r _ [33, 34, 35, 36, 37, 38, 39, 40, 41, 42, 43] (by decide +kernel) (by decide +kernel)
set_option maxRecDepth 20000 in
theorem ggL_begins_L_skin_q2 : GoodIn wsL_begins (wsX70) := goodIn_r _ [262, 263, 264, 265, 266, 267, 268] (by decide +kernel) (by decide +kernel)
set_option maxRecDepth 20000 in
theorem ggL_begins_L_skin_q3 : GoodIn wsL_begins (wsX50) := goodIn_r _ [269] (by decide +kernel) (by decide +kernel)
set_option maxRecDepth 20000 in
theorem ggL_begins_L_skin : GoodIn wsL_begins wsL_skin := goodIn_ca (goodIn_ca (goodIn_ca (goodIn_ca (goodIn_ca ggL_begins_L_skin_q0 ggL_begins_L_skin_q1) ggL_begins_L_skin_q2) ggL_begins_L_skin_q3) (goodIn_sub (fun _ h => List.mem_cons_of_mem _ (List.mem_append_left _ (List.mem_append_left _ (List.mem_append_right _ h)))) (by decide +kernel))) (goodIn_sub (fun _ h => List.mem_cons_of_mem _ (List.mem_append_left _ (List.mem_append_right _ h))) (by decide +kernel))
set_option maxRecDepth 20000 in
theorem gL_begins_L_skin : GoodIn wsL_begins (va_wsS RL 187 yL_skin wsL_skin) := goodIn_app (goodIn_of _ (by decide +kernel)) ggL_begins_L_skin
set_option maxRecDepth 20000 in
theorem ggL_begins_L_thickAt : GoodIn wsL_begins wsL_thickAt := goodIn_ca (goodIn_r _ [46, 47, 48, 49, 50, 51, 16, 52, 53, 54, 55, 56, 57, 58, 19, 23, 24, 25, 59, 60, 61, 62, 63, 64, 65, 66, 67, 68, 69, 70, 269, 262, 263, 264, 265, 266, 267, 268] (by decide +kernel) (by decide +kernel)) (goodIn_sub (fun _ h => List.mem_cons_of_mem _ (List.mem_append_right _ h)) (by decide +kernel))
set_option maxRecDepth 20000 in
theorem gL_begins_L_thickAt : GoodIn wsL_begins (va_wsS RL 169 yL_thickAt wsL_thickAt) := goodIn_app (goodIn_of _ (by decide +kernel)) ggL_begins_L_thickAt
set_option maxRecDepth 20000 in
theorem ggL_begins_L_tooThick : GoodIn wsL_begins wsL_tooThick := goodIn_ca (goodIn_r _ [73, 47, 48, 74, 75, 76, 16, 77, 53, 54, 55, 56, 57, 58, 19, 23, 24, 25, 78, 79, 80, 22, 81, 43, 69, 70, 82, 83, 84, 262, 263, 264, 265, 266, 267, 268, 269] (by decide +kernel) (by decide +kernel)) (goodIn_sub (fun _ h => List.mem_cons_of_mem _ (List.mem_append_right _ h)) (by decide +kernel))
set_option maxRecDepth 20000 in
theorem gL_begins_L_tooThick : GoodIn wsL_begins (va_wsS RL 171 yL_tooThick wsL_tooThick) := goodIn_app (goodIn_of _ (by decide +kernel)) ggL_begins_L_tooThick
set_option maxRecDepth 20000 in
theorem ggL_begins_L_book_q0 : GoodIn wsL_begins (.codeWith yL_book cL_book 7 (some .int) [(0, 11, 12, 19), (0, 11, 17, 30)] :: wsL_book_r1) := goodIn_r _ [87, 10, 11, 12, 1, 88, 89, 90, 16, 91, 92, 93, 94, 95, 96, 23, 24, 25, 26, 27, 28, 29, 30, 31, 32] (by decide +kernel) (by decide +kernel)
set_option maxRecDepth 20000 in
theorem ggL_begins_L_book_q1 : GoodIn wsL_begins (wsL_book_r2) := goodIn_r _ [33, 34, 35, 97, 98, 99, 100, 40, 41, 101, 102, 103, 104, 105, 106, 107, 108, 109, 110, 111, 112, 113, 114, 115] (by decide +kernel) (by decide +kernel)
set_option maxRecDepth 20000 in
theorem ggL_begins_L_book_q2 : GoodIn wsL_begins (wsL_book_r3) := goodIn_r _ [116, 117, 118, 119, 42, 120, 121, 122, 123, 124, 125, 126, 127, 128, 129, 130, 131, 132, 133, 134, 135] (by decide +kernel) (by decide +kernel)
set_option maxRecDepth 20000 in
theorem ggL_begins_L_book_q3 : GoodIn wsL_begins (wsX70) := goodIn_r _ [262, 263, 264, 265, 266, 267, 268] (by decide +kernel) (by decide +kernel)
set_option maxRecDepth 20000 in
theorem ggL_begins_L_book_q4 : GoodIn wsL_begins (wsX10) := goodIn_r _ [270, 271, 272, 273, 274, 275, 276] (by decide +kernel) (by decide +kernel)
set_option maxRecDepth 20000 in
theorem ggL_begins_L_book_q5 : GoodIn wsL_begins (wsX30) := goodIn_r _ [277, 278] (by decide +kernel) (by decide +kernel)
set_option maxRecDepth 20000 in
theorem ggL_begins_L_book_q6 : GoodIn wsL_begins (wsX60) := goodIn_r _ [279, 280, 281, 282] (by decide +kernel) (by decide +kernel)
set_option maxRecDepth 20000 in
theorem ggL_begins_L_book_q7 : GoodIn wsL_begins (wsX40) := goodIn_r _ [283, 284, 285, 286, 287, 288, 289, 290, 291, 292] (by decide +kernel) (by decide +kernel)
set_option maxRecDepth 20000 in
theorem ggL_begins_L_book : GoodIn wsL_begins wsL_book := goodIn_ca (goodIn_ca (goodIn_ca (goodIn_ca (goodIn_ca (goodIn_ca (goodIn_ca (goodIn_ca ggL_begins_L_book_q0 (goodIn_app ggL_begins_L_book_q1 ggL_begins_L_book_q2)) ggL_begins_L_book_q3) ggL_begins_L_book_q4) ggL_begins_L_book_q5) ggL_begins_L_book_q6) ggL_begins_L_book_q7) (goodIn_sub (fun _ h => List.mem_cons_of_mem _ (List.mem_append_left _ (List.mem_append_left _ (List.mem_append_right _ h)))) (by decide +kernel))) (goodIn_sub (fun _ h => List.mem_cons_of_mem _ (List.mem_append_left _ (List.mem_append_right _ h))) (by decide +kernel))
set_option maxRecDepth 20000 in
theorem gL_begins_L_book : GoodIn wsL_begins (va_wsS RL 189 yL_book wsL_book) := goodIn_app (goodIn_of _ (by decide +kernel)) ggL_begins_L_book
set_option maxRecDepth 20000 in
theorem ggL_begins_L_year_q0 : GoodIn wsL_begins (.codeWith yL_year cL_year 4 (some .int) [(0, 6, 7, 16)] :: wsL_year_r1) := goodIn_r _ [138, 47, 48, 139, 140, 141, 16, 142, 143, 144, 145, 146, 57, 58, 93, 23, 24, 25, 147, 148, 149, 107, 150, 151, 124] (by decide +kernel) (by decide +kernel)
set_option maxRecDepth 20000 in
theorem ggL_begins_L_year_q1 : GoodIn wsL_begins (wsL_year_r2) := goodIn_r _ [152, 153, 154, 155, 125, 126, 156, 157, 158, 159] (by decide +kernel) (by decide +kernel)
set_option maxRecDepth 20000 in
theorem ggL_begins_L_year_q2 : GoodIn wsL_begins (wsX10) := goodIn_r _ [270, 271, 272, 273, 274, 275, 276] (by decide +kernel) (by decide +kernel)
set_option maxRecDepth 20000 in
theorem ggL_begins_L_year_q3 : GoodIn wsL_begins (wsX70) := goodIn_r _ [262, 263, 264, 265, 266, 267, 268] (by decide +kernel) (by decide +kernel)
set_option maxRecDepth 20000 in
theorem ggL_begins_L_year_q4 : GoodIn wsL_begins (wsX60) := goodIn_r _ [279, 280, 281, 282] (by decide +kernel) (by decide +kernel)
set_option maxRecDepth 20000 in
theorem ggL_begins_L_year : GoodIn wsL_begins wsL_year := goodIn_ca (goodIn_ca (goodIn_ca (goodIn_ca (goodIn_ca ggL_begins_L_year_q0 ggL_begins_L_year_q1) ggL_begins_L_year_q2) ggL_begins_L_year_q3) ggL_begins_L_year_q4) (goodIn_sub (fun _ h => List.mem_cons_of_mem _ (List.mem_append_right _ h)) (by decide +kernel))
