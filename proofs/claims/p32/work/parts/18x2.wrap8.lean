set_option maxRecDepth 20000 in
theorem ggL_acts_L_sews_q6 : GoodIn wsL_acts (wsX10) := goodIn_r _ [545, 546, 547, 548, 549, 550, 551] (by decide +kernel) (by decide +kernel)
set_option maxRecDepth 20000 in
theorem ggL_acts_L_sews_q7 : GoodIn wsL_acts (wsX40) := goodIn_r _ [558, 559, 560, 561, 562, 563, 564, 565, 566, 567] (by decide +kernel) (by decide +kernel)
set_option maxRecDepth 20000 in
theorem ggL_acts_L_sews_q8 : GoodIn wsL_acts (wsX70) := goodIn_r _ [537, 538, 539, 540, 541, 542, 543] (by decide +kernel) (by decide +kernel)
set_option maxRecDepth 20000 in
theorem ggL_acts_L_sews : GoodIn wsL_acts wsL_sews := goodIn_ca (goodIn_ca (goodIn_ca (goodIn_ca (goodIn_ca (goodIn_ca (goodIn_ca ggL_acts_L_sews_q0 (goodIn_app ggL_acts_L_sews_q1 (goodIn_app ggL_acts_L_sews_q2 (goodIn_app ggL_acts_L_sews_q3 (goodIn_app ggL_acts_L_sews_q4 ggL_acts_L_sews_q5))))) ggL_acts_L_sews_q6) ggL_acts_L_sews_q7) ggL_acts_L_sews_q8) (goodIn_sub (fun _ h => List.mem_cons_of_mem _ (List.mem_append_right _ h)) (by decide +kernel))) (goodIn_sub (fun _ h => List.mem_cons_of_mem _ (List.mem_append_left _ (List.mem_append_left _ (List.mem_append_right _ h)))) (by decide +kernel))) (goodIn_sub (fun _ h => List.mem_cons_of_mem _ (List.mem_append_left _ (List.mem_append_right _ h))) (by decide +kernel))
set_option maxRecDepth 20000 in
theorem gL_acts_L_sews : GoodIn wsL_acts (va_wsS RL 208 yL_sews wsL_sews) := goodIn_app (goodIn_of _ (by decide +kernel)) ggL_acts_L_sews
set_option maxRecDepth 20000 in
theorem ggL_acts_L_back : GoodIn wsL_acts wsL_back := goodIn_ca (goodIn_ca (goodIn_r _ [451, 50, 13, 51, 15, 452, 453, 454, 19, 455, 146, 147, 148, 149, 60, 61, 96, 26, 27, 28, 29, 30, 31, 32, 33, 545, 546, 547, 548, 549, 550, 551, 537, 538, 539, 540, 541, 542, 543] (by decide +kernel) (by decide +kernel)) (goodIn_sub (fun _ h => List.mem_cons_of_mem _ (List.mem_append_right _ h)) (by decide +kernel))) (goodIn_sub (fun _ h => List.mem_cons_of_mem _ (List.mem_append_left _ (List.mem_append_left _ (List.mem_append_right _ h)))) (by decide +kernel))
set_option maxRecDepth 20000 in
theorem gL_acts_L_back : GoodIn wsL_acts (va_wsS RL 212 yL_back wsL_back) := goodIn_app (goodIn_of _ (by decide +kernel)) ggL_acts_L_back
set_option maxRecDepth 20000 in
theorem ggL_acts_L_strain_q0 : GoodIn wsL_acts (.codeWith yL_strain cL_strain 4 (some .int) [(0, 6, 7, 16), (0, 6, 11, 19)] :: wsL_strain_r1) := goodIn_r _ [246, 50, 13, 51, 15, 247, 248, 249, 19, 250, 146, 147, 148, 149, 60, 61, 96, 26, 27, 28, 29, 30, 31, 32, 33] (by decide +kernel) (by decide +kernel)
set_option maxRecDepth 20000 in
theorem ggL_acts_L_strain_q1 : GoodIn wsL_acts (wsL_strain_r2) := goodIn_r _ [251, 234, 235, 99, 236, 117, 237, 238, 184, 239, 118, 240, 241, 242, 243, 112, 174, 175, 176, 115, 177, 137, 178, 179] (by decide +kernel) (by decide +kernel)
set_option maxRecDepth 20000 in
theorem ggL_acts_L_strain_q2 : GoodIn wsL_acts (wsL_strain_r3) := goodIn_r _ [180, 181, 138, 182, 183, 185, 186, 187, 188, 189, 134] (by decide +kernel) (by decide +kernel)
set_option maxRecDepth 20000 in
theorem ggL_acts_L_strain_q3 : GoodIn wsL_acts (wsX10) := goodIn_r _ [545, 546, 547, 548, 549, 550, 551] (by decide +kernel) (by decide +kernel)
set_option maxRecDepth 20000 in
theorem ggL_acts_L_strain_q4 : GoodIn wsL_acts (wsX70) := goodIn_r _ [537, 538, 539, 540, 541, 542, 543] (by decide +kernel) (by decide +kernel)
set_option maxRecDepth 20000 in
theorem ggL_acts_L_strain_q5 : GoodIn wsL_acts (wsX40) := goodIn_r _ [558, 559, 560, 561, 562, 563, 564, 565, 566, 567] (by decide +kernel) (by decide +kernel)
set_option maxRecDepth 20000 in
theorem ggL_acts_L_strain : GoodIn wsL_acts wsL_strain := goodIn_ca (goodIn_ca (goodIn_ca (goodIn_ca (goodIn_ca (goodIn_ca ggL_acts_L_strain_q0 (goodIn_app ggL_acts_L_strain_q1 ggL_acts_L_strain_q2)) ggL_acts_L_strain_q3) ggL_acts_L_strain_q4) ggL_acts_L_strain_q5) (goodIn_sub (fun _ h => List.mem_cons_of_mem _ (List.mem_append_right _ h)) (by decide +kernel))) (goodIn_sub (fun _ h => List.mem_cons_of_mem _ (List.mem_append_left _ (List.mem_append_left _ (List.mem_append_right _ h)))) (by decide +kernel))
set_option maxRecDepth 20000 in
theorem gL_acts_L_strain : GoodIn wsL_acts (va_wsS RL 164 yL_strain wsL_strain) := goodIn_app (goodIn_of _ (by decide +kernel)) ggL_acts_L_strain
set_option maxRecDepth 20000 in
theorem ggL_acts_L_swelling_q0 : GoodIn wsL_acts (.codeWith yL_swelling cL_swelling 3 (some .int) [(0, 5, 6, 16)] :: wsL_swelling_r1) := goodIn_r _ [169, 50, 51, 170, 171, 172, 19, 173, 146, 147, 148, 149, 60, 61, 96, 26, 27, 28, 174, 175, 176, 115, 177, 137, 178] (by decide +kernel) (by decide +kernel)
set_option maxRecDepth 20000 in
theorem ggL_acts_L_swelling_q1 : GoodIn wsL_acts (wsL_swelling_r2) := goodIn_r _ [179, 180, 181, 138, 182, 183, 184, 185, 186, 187, 188, 189, 134] (by decide +kernel) (by decide +kernel)
set_option maxRecDepth 20000 in
theorem ggL_acts_L_swelling_q2 : GoodIn wsL_acts (wsX10) := goodIn_r _ [545, 546, 547, 548, 549, 550, 551] (by decide +kernel) (by decide +kernel)
set_option maxRecDepth 20000 in
theorem ggL_acts_L_swelling_q3 : GoodIn wsL_acts (wsX70) := goodIn_r _ [537, 538, 539, 540, 541, 542, 543] (by decide +kernel) (by decide +kernel)
set_option maxRecDepth 20000 in
theorem ggL_acts_L_swelling_q4 : GoodIn wsL_acts (wsX40) := goodIn_r _ [558, 559, 560, 561, 562, 563, 564, 565, 566, 567] (by decide +kernel) (by decide +kernel)
set_option maxRecDepth 20000 in
theorem ggL_acts_L_swelling : GoodIn wsL_acts wsL_swelling := goodIn_ca (goodIn_ca (goodIn_ca (goodIn_ca (goodIn_ca ggL_acts_L_swelling_q0 ggL_acts_L_swelling_q1) ggL_acts_L_swelling_q2) ggL_acts_L_swelling_q3) ggL_acts_L_swelling_q4) (goodIn_sub (fun _ h => List.mem_cons_of_mem _ (List.mem_append_right _ h)) (by decide +kernel))
set_option maxRecDepth 20000 in
theorem gL_acts_L_swelling : GoodIn wsL_acts (va_wsS RL 151 yL_swelling wsL_swelling) := goodIn_app (goodIn_of _ (by decide +kernel)) ggL_acts_L_swelling
set_option maxRecDepth 20000 in
theorem ggL_acts_L_pares_q0 : GoodIn wsL_acts (.code yL_pares cL_pares 13 (some .boolean) :: wsL_pares_r1) := goodIn_r _ [458, 9, 51, 1, 2, 3, 4, 5, 47, 48, 49, 50, 52, 53, 54, 19, 55, 56, 57, 58, 59, 60, 61, 22, 26] (by decide +kernel) (by decide +kernel)
set_option maxRecDepth 20000 in
theorem ggL_acts_L_pares_q1 : GoodIn wsL_acts (wsL_pares_r2) := goodIn_r _ [27, 28, 62, 63, 64, 65, 66, 67, 68, 69, 70, 71, 72, 73, 74, 75, 76, 77, 78, 79, 80, 81, 82, 83] (by decide +kernel) (by decide +kernel)
set_option maxRecDepth 20000 in
theorem ggL_acts_L_pares_q2 : GoodIn wsL_acts (wsL_pares_r3) := goodIn_r _ [25, 84, 46, 85, 86, 87, 459, 460, 461, 13, 14, 15, 462, 463, 464, 465, 29, 30, 31, 32, 33, 466, 467, 468] (by decide +kernel) (by decide +kernel)
set_option maxRecDepth 20000 in
theorem ggL_acts_L_pares_q3 : GoodIn wsL_acts (wsL_pares_r4) := goodIn_r _ [469, 470, 238, 184, 239, 34, 35, 36, 37, 38, 471, 472, 473, 474] (by decide +kernel) (by decide +kernel)
set_option maxRecDepth 20000 in
theorem ggL_acts_L_pares_q4 : GoodIn wsL_acts (wsX50) := goodIn_r _ [544] (by decide +kernel) (by decide +kernel)
set_option maxRecDepth 20000 in
theorem ggL_acts_L_pares_q5 : GoodIn wsL_acts (wsX70) := goodIn_r _ [537, 538, 539, 540, 541, 542, 543] (by decide +kernel) (by decide +kernel)
set_option maxRecDepth 20000 in
theorem ggL_acts_L_pares : GoodIn wsL_acts wsL_pares := goodIn_ca (goodIn_ca (goodIn_ca (goodIn_ca (goodIn_ca (goodIn_ca ggL_acts_L_pares_q0 (goodIn_app ggL_acts_L_pares_q1 (goodIn_app ggL_acts_L_pares_q2 ggL_acts_L_pares_q3))) ggL_acts_L_pares_q4) ggL_acts_L_pares_q5) (goodIn_sub (fun _ h => List.mem_cons_of_mem _ (List.mem_append_right _ h)) (by decide +kernel))) (goodIn_sub (fun _ h => List.mem_cons_of_mem _ (List.mem_append_left _ (List.mem_append_left _ (List.mem_append_right _ h)))) (by decide +kernel))) (goodIn_sub (fun _ h => List.mem_cons_of_mem _ (List.mem_append_left _ (List.mem_append_right _ h))) (by decide +kernel))
set_option maxRecDepth 20000 in
theorem gL_acts_L_pares : GoodIn wsL_acts (va_wsS RL 214 yL_pares wsL_pares) := goodIn_app (goodIn_of _ (by decide +kernel)) ggL_acts_L_pares
set_option maxRecDepth 20000 in
theorem ggL_acts_L_repairs_q0 : GoodIn wsL_acts (.code yL_repairs cL_repairs 8 (some .boolean) :: wsL_repairs_r1) := goodIn_r _ [477, 9, 1, 2, 3, 4, 5, 478, 479, 480, 50, 13, 14, 51, 15, 481, 482, 483, 19, 484, 146, 147, 148, 149, 60] (by decide +kernel) (by decide +kernel)
set_option maxRecDepth 20000 in
theorem ggL_acts_L_repairs_q1 : GoodIn wsL_acts (wsL_repairs_r2) := goodIn_r _ [61, 96, 26, 27, 28, 29, 30, 31, 32, 33, 485, 486, 487, 34, 35, 36, 37, 38, 488, 489, 490, 106, 491, 492] (by decide +kernel) (by decide +kernel)
set_option maxRecDepth 20000 in
theorem ggL_acts_L_repairs_q2 : GoodIn wsL_acts (wsL_repairs_r3) := goodIn_r _ [123, 493, 494, 495, 496, 497, 498, 499, 500, 501, 502, 503, 504, 505, 506, 507] (by decide +kernel) (by decide +kernel)
set_option maxRecDepth 20000 in
theorem ggL_acts_L_repairs_q3 : GoodIn wsL_acts (wsX10) := goodIn_r _ [545, 546, 547, 548, 549, 550, 551] (by decide +kernel) (by decide +kernel)
set_option maxRecDepth 20000 in
theorem ggL_acts_L_repairs_q4 : GoodIn wsL_acts (wsX30) := goodIn_r _ [552, 553] (by decide +kernel) (by decide +kernel)
set_option maxRecDepth 20000 in
theorem ggL_acts_L_repairs_q5 : GoodIn wsL_acts (wsX70) := goodIn_r _ [537, 538, 539, 540, 541, 542, 543] (by decide +kernel) (by decide +kernel)
set_option maxRecDepth 20000 in
theorem ggL_acts_L_repairs : GoodIn wsL_acts wsL_repairs := goodIn_ca (goodIn_ca (goodIn_ca (goodIn_ca (goodIn_ca (goodIn_ca (goodIn_ca ggL_acts_L_repairs_q0 (goodIn_app ggL_acts_L_repairs_q1 ggL_acts_L_repairs_q2)) ggL_acts_L_repairs_q3) ggL_acts_L_repairs_q4) ggL_acts_L_repairs_q5) (goodIn_sub (fun _ h => List.mem_cons_of_mem _ (List.mem_append_right _ h)) (by decide +kernel))) (goodIn_sub (fun _ h => List.mem_cons_of_mem _ (List.mem_append_left _ (List.mem_append_left _ (List.mem_append_right _ h)))) (by decide +kernel))) (goodIn_sub (fun _ h => List.mem_cons_of_mem _ (List.mem_append_left _ (List.mem_append_right _ h))) (by decide +kernel))
set_option maxRecDepth 20000 in
theorem gL_acts_L_repairs : GoodIn wsL_acts (va_wsS RL 217 yL_repairs wsL_repairs) := goodIn_app (goodIn_of _ (by decide +kernel)) ggL_acts_L_repairs
set_option maxRecDepth 20000 in
theorem ggL_acts_L_speaks_q0 : GoodIn wsL_acts (.code yL_speaks cL_speaks 8 (some .boolean) :: wsL_speaks_r1) := goodIn_r _ [510, 9, 1, 2, 3, 4, 5, 511, 512, 513, 50, 13, 14, 51, 15, 514, 515, 516, 19, 517, 146, 147, 148, 149, 60] (by decide +kernel) (by decide +kernel)
set_option maxRecDepth 20000 in
theorem ggL_acts_L_speaks_q1 : GoodIn wsL_acts (wsL_speaks_r2) := goodIn_r _ [61, 96, 26, 27, 28, 29, 30, 31, 32, 33, 34, 35, 36, 37, 38, 518, 519, 520, 110, 521, 154, 127, 128, 129] (by decide +kernel) (by decide +kernel)
set_option maxRecDepth 20000 in
theorem ggL_acts_L_speaks_q2 : GoodIn wsL_acts (wsL_speaks_r3) := goodIn_r _ [139, 140, 141, 142, 143, 144, 145, 150, 151, 152, 153, 155, 156, 157, 158, 159, 160, 161, 162, 522, 523, 524, 525, 526] (by decide +kernel) (by decide +kernel)
set_option maxRecDepth 20000 in
theorem ggL_acts_L_speaks_q3 : GoodIn wsL_acts (wsL_speaks_r4) := goodIn_r _ [527, 528, 529, 530, 531, 532, 533, 534, 535, 536] (by decide +kernel) (by decide +kernel)
set_option maxRecDepth 20000 in
theorem ggL_acts_L_speaks_q4 : GoodIn wsL_acts (wsX10) := goodIn_r _ [545, 546, 547, 548, 549, 550, 551] (by decide +kernel) (by decide +kernel)
set_option maxRecDepth 20000 in
theorem ggL_acts_L_speaks_q5 : GoodIn wsL_acts (wsX60) := goodIn_r _ [554, 555, 556, 557] (by decide +kernel) (by decide +kernel)
set_option maxRecDepth 20000 in
theorem ggL_acts_L_speaks_q6 : GoodIn wsL_acts (wsX70) := goodIn_r _ [537, 538, 539, 540, 541, 542, 543] (by decide +kernel) (by decide +kernel)
set_option maxRecDepth 20000 in
theorem ggL_acts_L_speaks : GoodIn wsL_acts wsL_speaks := goodIn_ca (goodIn_ca (goodIn_ca (goodIn_ca (goodIn_ca (goodIn_ca (goodIn_ca ggL_acts_L_speaks_q0 (goodIn_app ggL_acts_L_speaks_q1 (goodIn_app ggL_acts_L_speaks_q2 ggL_acts_L_speaks_q3))) ggL_acts_L_speaks_q4) ggL_acts_L_speaks_q5) ggL_acts_L_speaks_q6) (goodIn_sub (fun _ h => List.mem_cons_of_mem _ (List.mem_append_right _ h)) (by decide +kernel))) (goodIn_sub (fun _ h => List.mem_cons_of_mem _ (List.mem_append_left _ (List.mem_append_left _ (List.mem_append_right _ h)))) (by decide +kernel))) (goodIn_sub (fun _ h => List.mem_cons_of_mem _ (List.mem_append_left _ (List.mem_append_right _ h))) (by decide +kernel))
set_option maxRecDepth 20000 in
theorem gL_acts_L_speaks : GoodIn wsL_acts (va_wsS RL 221 yL_speaks wsL_speaks) := goodIn_app (goodIn_of _ (by decide +kernel)) ggL_acts_L_speaks
set_option maxRecDepth 20000 in
theorem ggL_acts_L_isBook_q0 : GoodIn wsL_acts (.code yL_isBook cL_isBook 13 (some .boolean) :: wsL_isBook_r1) := goodIn_r _ [165, 15, 51, 166, 167, 168, 3, 169, 50, 170, 171, 172, 19, 173, 146, 147, 148, 149, 60, 61, 96, 26, 27, 28, 174] (by decide +kernel) (by decide +kernel)
set_option maxRecDepth 20000 in
theorem ggL_acts_L_isBook_q1 : GoodIn wsL_acts (wsL_isBook_r2) := goodIn_r _ [175, 176, 115, 177, 137, 178, 179, 180, 181, 138, 182, 183, 184, 185, 186, 187, 188, 189, 134, 190, 191, 192, 13, 193] (by decide +kernel) (by decide +kernel)
set_option maxRecDepth 20000 in
theorem ggL_acts_L_isBook_q2 : GoodIn wsL_acts (wsL_isBook_r3) := goodIn_r _ [194, 195, 196, 29, 30, 31, 32, 33, 197, 198, 199, 200, 201, 135, 202, 203, 204, 205, 206, 207, 208, 209, 210, 211] (by decide +kernel) (by decide +kernel)
set_option maxRecDepth 20000 in
theorem ggL_acts_L_isBook_q3 : GoodIn wsL_acts (wsL_isBook_r4) := goodIn_r _ [212, 68, 69, 70, 213, 214, 215, 216, 217, 218, 219, 220, 221, 222, 223, 224, 225, 226, 227, 228, 229, 230, 231, 99] (by decide +kernel) (by decide +kernel)
set_option maxRecDepth 20000 in
theorem ggL_acts_L_isBook_q4 : GoodIn wsL_acts (wsL_isBook_r5) := goodIn_r _ [232, 117, 233, 234, 235, 236, 237, 238, 239, 118, 240, 241, 242, 243, 112, 244, 245, 246, 247, 248, 249, 250, 251, 252] (by decide +kernel) (by decide +kernel)
set_option maxRecDepth 20000 in
theorem ggL_acts_L_isBook_q5 : GoodIn wsL_acts (wsL_isBook_r6) := goodIn_r _ [253, 254, 255, 256, 257, 258, 259, 260, 261, 262, 263, 116, 264] (by decide +kernel) (by decide +kernel)
set_option maxRecDepth 20000 in
theorem ggL_acts_L_isBook_q6 : GoodIn wsL_acts (wsX10) := goodIn_r _ [545, 546, 547, 548, 549, 550, 551] (by decide +kernel) (by decide +kernel)
set_option maxRecDepth 20000 in
theorem ggL_acts_L_isBook_q7 : GoodIn wsL_acts (wsX70) := goodIn_r _ [537, 538, 539, 540, 541, 542, 543] (by decide +kernel) (by decide +kernel)
set_option maxRecDepth 20000 in
theorem ggL_acts_L_isBook_q8 : GoodIn wsL_acts (wsX40) := goodIn_r _ [558, 559, 560, 561, 562, 563, 564, 565, 566, 567] (by decide +kernel) (by decide +kernel)
set_option maxRecDepth 20000 in
theorem ggL_acts_L_isBook : GoodIn wsL_acts wsL_isBook := goodIn_ca (goodIn_ca (goodIn_ca (goodIn_ca (goodIn_ca (goodIn_ca ggL_acts_L_isBook_q0 (goodIn_app ggL_acts_L_isBook_q1 (goodIn_app ggL_acts_L_isBook_q2 (goodIn_app ggL_acts_L_isBook_q3 (goodIn_app ggL_acts_L_isBook_q4 ggL_acts_L_isBook_q5))))) ggL_acts_L_isBook_q6) ggL_acts_L_isBook_q7) ggL_acts_L_isBook_q8) (goodIn_sub (fun _ h => List.mem_cons_of_mem _ (List.mem_append_right _ h)) (by decide +kernel))) (goodIn_sub (fun _ h => List.mem_cons_of_mem _ (List.mem_append_left _ (List.mem_append_left _ (List.mem_append_right _ h)))) (by decide +kernel))
set_option maxRecDepth 20000 in
theorem gL_acts_L_isBook : GoodIn wsL_acts (va_wsS RL 192 yL_isBook wsL_isBook) := goodIn_app (goodIn_of _ (by decide +kernel)) ggL_acts_L_isBook
theorem dL_acts_0 : decode cL_acts 0 = .ok (.iload 6, 2) := by decide +kernel
theorem dL_acts_2 : decode cL_acts 2 = .ok (.bipush 20, 2) := by decide +kernel
theorem dL_acts_4 : decode cL_acts 4 = .ok (.invokestatic 125, 3) := by decide +kernel
theorem dL_acts_7 : decode cL_acts 7 = .ok (.istore 8, 2) := by decide +kernel
theorem dL_acts_9 : decode cL_acts 9 = .ok (.iload 8, 2) := by decide +kernel
theorem dL_acts_11 : decode cL_acts 11 = .ok (.iconst 2, 1) := by decide +kernel
theorem dL_acts_12 : decode cL_acts 12 = .ok (.if_icmp .lt 15, 3) := by decide +kernel
theorem dL_acts_15 : decode cL_acts 15 = .ok (.aload_n 1, 1) := by decide +kernel
theorem dL_acts_16 : decode cL_acts 16 = .ok (.iconst 1, 1) := by decide +kernel
theorem dL_acts_17 : decode cL_acts 17 = .ok (.iaload, 1) := by decide +kernel
theorem dL_acts_18 : decode cL_acts 18 = .ok (.ifCond .eq 9, 3) := by decide +kernel
theorem dL_acts_21 : decode cL_acts 21 = .ok (.aload_n 1, 1) := by decide +kernel
theorem dL_acts_22 : decode cL_acts 22 = .ok (.iconst 2, 1) := by decide +kernel
theorem dL_acts_23 : decode cL_acts 23 = .ok (.iaload, 1) := by decide +kernel
theorem dL_acts_24 : decode cL_acts 24 = .ok (.ifCond .ne 18, 3) := by decide +kernel
theorem dL_acts_27 : decode cL_acts 27 = .ok (.aload_n 0, 1) := by decide +kernel
theorem dL_acts_28 : decode cL_acts 28 = .ok (.aload_n 1, 1) := by decide +kernel
theorem dL_acts_29 : decode cL_acts 29 = .ok (.aload_n 2, 1) := by decide +kernel
theorem dL_acts_30 : decode cL_acts 30 = .ok (.aload 4, 2) := by decide +kernel
theorem dL_acts_32 : decode cL_acts 32 = .ok (.iload 6, 2) := by decide +kernel
theorem dL_acts_34 : decode cL_acts 34 = .ok (.iconst 5, 1) := by decide +kernel
theorem dL_acts_35 : decode cL_acts 35 = .ok (.ishr, 1) := by decide +kernel
theorem dL_acts_36 : decode cL_acts 36 = .ok (.iload 7, 2) := by decide +kernel
theorem dL_acts_38 : decode cL_acts 38 = .ok (.invokestatic 196, 3) := by decide +kernel
theorem dL_acts_41 : decode cL_acts 41 = .ok (.ireturn, 1) := by decide +kernel
theorem dL_acts_42 : decode cL_acts 42 = .ok (.iload 8, 2) := by decide +kernel
theorem dL_acts_44 : decode cL_acts 44 = .ok (.bipush 6, 2) := by decide +kernel
theorem dL_acts_46 : decode cL_acts 46 = .ok (.if_icmp .ge 15, 3) := by decide +kernel
theorem dL_acts_49 : decode cL_acts 49 = .ok (.aload_n 0, 1) := by decide +kernel
theorem dL_acts_50 : decode cL_acts 50 = .ok (.aload_n 1, 1) := by decide +kernel
theorem dL_acts_51 : decode cL_acts 51 = .ok (.iload 6, 2) := by decide +kernel
theorem dL_acts_53 : decode cL_acts 53 = .ok (.iconst 5, 1) := by decide +kernel
theorem dL_acts_54 : decode cL_acts 54 = .ok (.ishr, 1) := by decide +kernel
theorem dL_acts_55 : decode cL_acts 55 = .ok (.iload 7, 2) := by decide +kernel
theorem dL_acts_57 : decode cL_acts 57 = .ok (.invokestatic 200, 3) := by decide +kernel
theorem dL_acts_60 : decode cL_acts 60 = .ok (.ireturn, 1) := by decide +kernel
theorem dL_acts_61 : decode cL_acts 61 = .ok (.iload 8, 2) := by decide +kernel
theorem dL_acts_63 : decode cL_acts 63 = .ok (.bipush 6, 2) := by decide +kernel
theorem dL_acts_65 : decode cL_acts 65 = .ok (.if_icmp .ne 10, 3) := by decide +kernel
theorem dL_acts_68 : decode cL_acts 68 = .ok (.aload_n 0, 1) := by decide +kernel
theorem dL_acts_69 : decode cL_acts 69 = .ok (.iload 7, 2) := by decide +kernel
theorem dL_acts_71 : decode cL_acts 71 = .ok (.invokestatic 204, 3) := by decide +kernel
theorem dL_acts_74 : decode cL_acts 74 = .ok (.ireturn, 1) := by decide +kernel
theorem dL_acts_75 : decode cL_acts 75 = .ok (.iload 6, 2) := by decide +kernel
theorem dL_acts_77 : decode cL_acts 77 = .ok (.iconst 5, 1) := by decide +kernel
theorem dL_acts_78 : decode cL_acts 78 = .ok (.ishr, 1) := by decide +kernel
theorem dL_acts_79 : decode cL_acts 79 = .ok (.aload_n 1, 1) := by decide +kernel
theorem dL_acts_80 : decode cL_acts 80 = .ok (.iconst 1, 1) := by decide +kernel
theorem dL_acts_81 : decode cL_acts 81 = .ok (.iaload, 1) := by decide +kernel
theorem dL_acts_82 : decode cL_acts 82 = .ok (.invokestatic 125, 3) := by decide +kernel
theorem dL_acts_85 : decode cL_acts 85 = .ok (.istore 9, 2) := by decide +kernel
theorem dL_acts_87 : decode cL_acts 87 = .ok (.iload 8, 2) := by decide +kernel
theorem dL_acts_89 : decode cL_acts 89 = .ok (.bipush 15, 2) := by decide +kernel
theorem dL_acts_91 : decode cL_acts 91 = .ok (.if_icmp .ge 19, 3) := by decide +kernel
theorem dL_acts_94 : decode cL_acts 94 = .ok (.aload_n 0, 1) := by decide +kernel
theorem dL_acts_95 : decode cL_acts 95 = .ok (.aload_n 2, 1) := by decide +kernel
theorem dL_acts_96 : decode cL_acts 96 = .ok (.aload_n 3, 1) := by decide +kernel
theorem dL_acts_97 : decode cL_acts 97 = .ok (.iload 9, 2) := by decide +kernel
theorem dL_acts_99 : decode cL_acts 99 = .ok (.iload 6, 2) := by decide +kernel
theorem dL_acts_101 : decode cL_acts 101 = .ok (.bipush 8, 2) := by decide +kernel
theorem dL_acts_103 : decode cL_acts 103 = .ok (.ishr, 1) := by decide +kernel
theorem dL_acts_104 : decode cL_acts 104 = .ok (.iload 7, 2) := by decide +kernel
theorem dL_acts_106 : decode cL_acts 106 = .ok (.invokestatic 208, 3) := by decide +kernel
theorem dL_acts_109 : decode cL_acts 109 = .ok (.ireturn, 1) := by decide +kernel
theorem dL_acts_110 : decode cL_acts 110 = .ok (.iload 8, 2) := by decide +kernel
theorem dL_acts_112 : decode cL_acts 112 = .ok (.bipush 15, 2) := by decide +kernel
theorem dL_acts_114 : decode cL_acts 114 = .ok (.if_icmp .ne 122, 3) := by decide +kernel
theorem dL_acts_117 : decode cL_acts 117 = .ok (.aload_n 0, 1) := by decide +kernel
theorem dL_acts_118 : decode cL_acts 118 = .ok (.iload 9, 2) := by decide +kernel
theorem dL_acts_120 : decode cL_acts 120 = .ok (.iload 7, 2) := by decide +kernel
theorem dL_acts_122 : decode cL_acts 122 = .ok (.iconst 3, 1) := by decide +kernel
theorem dL_acts_123 : decode cL_acts 123 = .ok (.invokestatic 125, 3) := by decide +kernel
theorem dL_acts_126 : decode cL_acts 126 = .ok (.invokestatic 212, 3) := by decide +kernel
theorem dL_acts_129 : decode cL_acts 129 = .ok (.istore 10, 2) := by decide +kernel
theorem dL_acts_131 : decode cL_acts 131 = .ok (.aload_n 2, 1) := by decide +kernel
theorem dL_acts_132 : decode cL_acts 132 = .ok (.bipush 6, 2) := by decide +kernel
theorem dL_acts_134 : decode cL_acts 134 = .ok (.iload 9, 2) := by decide +kernel
theorem dL_acts_136 : decode cL_acts 136 = .ok (.imul, 1) := by decide +kernel
theorem dL_acts_137 : decode cL_acts 137 = .ok (.iconst 5, 1) := by decide +kernel
theorem dL_acts_138 : decode cL_acts 138 = .ok (.iadd, 1) := by decide +kernel
theorem dL_acts_139 : decode cL_acts 139 = .ok (.iload 7, 2) := by decide +kernel
theorem dL_acts_141 : decode cL_acts 141 = .ok (.iconst 3, 1) := by decide +kernel
theorem dL_acts_142 : decode cL_acts 142 = .ok (.invokestatic 125, 3) := by decide +kernel
theorem dL_acts_145 : decode cL_acts 145 = .ok (.iastore, 1) := by decide +kernel
theorem dL_acts_146 : decode cL_acts 146 = .ok (.iload 10, 2) := by decide +kernel
theorem dL_acts_148 : decode cL_acts 148 = .ok (.ifCond .lt 86, 3) := by decide +kernel
theorem dL_acts_151 : decode cL_acts 151 = .ok (.iload 10, 2) := by decide +kernel
theorem dL_acts_153 : decode cL_acts 153 = .ok (.iconst 3, 1) := by decide +kernel
theorem dL_acts_154 : decode cL_acts 154 = .ok (.if_icmp .ge 80, 3) := by decide +kernel
theorem dL_acts_157 : decode cL_acts 157 = .ok (.aload_n 0, 1) := by decide +kernel
theorem dL_acts_158 : decode cL_acts 158 = .ok (.iload 9, 2) := by decide +kernel
theorem dL_acts_160 : decode cL_acts 160 = .ok (.aload_n 2, 1) := by decide +kernel
theorem dL_acts_161 : decode cL_acts 161 = .ok (.bipush 6, 2) := by decide +kernel
theorem dL_acts_163 : decode cL_acts 163 = .ok (.iload 9, 2) := by decide +kernel
theorem dL_acts_165 : decode cL_acts 165 = .ok (.imul, 1) := by decide +kernel
theorem dL_acts_166 : decode cL_acts 166 = .ok (.iconst 5, 1) := by decide +kernel
theorem dL_acts_167 : decode cL_acts 167 = .ok (.iadd, 1) := by decide +kernel
theorem dL_acts_168 : decode cL_acts 168 = .ok (.iaload, 1) := by decide +kernel
theorem dL_acts_169 : decode cL_acts 169 = .ok (.invokestatic 212, 3) := by decide +kernel
theorem dL_acts_172 : decode cL_acts 172 = .ok (.aload_n 2, 1) := by decide +kernel
theorem dL_acts_173 : decode cL_acts 173 = .ok (.bipush 6, 2) := by decide +kernel
theorem dL_acts_175 : decode cL_acts 175 = .ok (.iload 9, 2) := by decide +kernel
theorem dL_acts_177 : decode cL_acts 177 = .ok (.imul, 1) := by decide +kernel
theorem dL_acts_178 : decode cL_acts 178 = .ok (.iconst 5, 1) := by decide +kernel
theorem dL_acts_179 : decode cL_acts 179 = .ok (.iadd, 1) := by decide +kernel
theorem dL_acts_180 : decode cL_acts 180 = .ok (.iaload, 1) := by decide +kernel
theorem dL_acts_181 : decode cL_acts 181 = .ok (.if_icmp .ne 53, 3) := by decide +kernel
theorem dL_acts_184 : decode cL_acts 184 = .ok (.aload_n 0, 1) := by decide +kernel
theorem dL_acts_185 : decode cL_acts 185 = .ok (.iload 9, 2) := by decide +kernel
theorem dL_acts_187 : decode cL_acts 187 = .ok (.iconst 1, 1) := by decide +kernel
theorem dL_acts_188 : decode cL_acts 188 = .ok (.invokestatic 164, 3) := by decide +kernel
theorem dL_acts_191 : decode cL_acts 191 = .ok (.aload_n 0, 1) := by decide +kernel
theorem dL_acts_192 : decode cL_acts 192 = .ok (.iload 9, 2) := by decide +kernel
theorem dL_acts_194 : decode cL_acts 194 = .ok (.invokestatic 151, 3) := by decide +kernel
theorem dL_acts_197 : decode cL_acts 197 = .ok (.aload_n 2, 1) := by decide +kernel
theorem dL_acts_198 : decode cL_acts 198 = .ok (.bipush 6, 2) := by decide +kernel
theorem dL_acts_200 : decode cL_acts 200 = .ok (.iload 9, 2) := by decide +kernel
theorem dL_acts_202 : decode cL_acts 202 = .ok (.imul, 1) := by decide +kernel
theorem dL_acts_203 : decode cL_acts 203 = .ok (.iconst 3, 1) := by decide +kernel
theorem dL_acts_204 : decode cL_acts 204 = .ok (.iadd, 1) := by decide +kernel
theorem dL_acts_205 : decode cL_acts 205 = .ok (.iaload, 1) := by decide +kernel
theorem dL_acts_206 : decode cL_acts 206 = .ok (.iload 7, 2) := by decide +kernel
theorem dL_acts_208 : decode cL_acts 208 = .ok (.iconst 3, 1) := by decide +kernel
theorem dL_acts_209 : decode cL_acts 209 = .ok (.invokestatic 125, 3) := by decide +kernel
theorem dL_acts_212 : decode cL_acts 212 = .ok (.ifCond .ne 7, 3) := by decide +kernel
theorem dL_acts_215 : decode cL_acts 215 = .ok (.iconst 4, 1) := by decide +kernel
theorem dL_acts_216 : decode cL_acts 216 = .ok (.goto 9, 3) := by decide +kernel
theorem dL_acts_219 : decode cL_acts 219 = .ok (.iload 7, 2) := by decide +kernel
theorem dL_acts_221 : decode cL_acts 221 = .ok (.iconst 3, 1) := by decide +kernel
theorem dL_acts_222 : decode cL_acts 222 = .ok (.invokestatic 125, 3) := by decide +kernel
theorem dL_acts_225 : decode cL_acts 225 = .ok (.imul, 1) := by decide +kernel
theorem dL_acts_226 : decode cL_acts 226 = .ok (.iadd, 1) := by decide +kernel
theorem dL_acts_227 : decode cL_acts 227 = .ok (.if_icmp .ne 7, 3) := by decide +kernel
theorem dL_acts_230 : decode cL_acts 230 = .ok (.iconst 1, 1) := by decide +kernel
theorem dL_acts_231 : decode cL_acts 231 = .ok (.goto 4, 3) := by decide +kernel
theorem dL_acts_234 : decode cL_acts 234 = .ok (.iconst 0, 1) := by decide +kernel
theorem dL_acts_235 : decode cL_acts 235 = .ok (.ireturn, 1) := by decide +kernel
theorem dL_acts_236 : decode cL_acts 236 = .ok (.iload 8, 2) := by decide +kernel
theorem dL_acts_238 : decode cL_acts 238 = .ok (.bipush 16, 2) := by decide +kernel
theorem dL_acts_240 : decode cL_acts 240 = .ok (.if_icmp .ne 24, 3) := by decide +kernel
theorem dL_acts_243 : decode cL_acts 243 = .ok (.aload_n 0, 1) := by decide +kernel
theorem dL_acts_244 : decode cL_acts 244 = .ok (.aload 4, 2) := by decide +kernel
theorem dL_acts_246 : decode cL_acts 246 = .ok (.iload 6, 2) := by decide +kernel
theorem dL_acts_248 : decode cL_acts 248 = .ok (.iconst 5, 1) := by decide +kernel
theorem dL_acts_249 : decode cL_acts 249 = .ok (.ishr, 1) := by decide +kernel
theorem dL_acts_250 : decode cL_acts 250 = .ok (.aload_n 1, 1) := by decide +kernel
theorem dL_acts_251 : decode cL_acts 251 = .ok (.iconst 2, 1) := by decide +kernel
theorem dL_acts_252 : decode cL_acts 252 = .ok (.iaload, 1) := by decide +kernel
theorem dL_acts_253 : decode cL_acts 253 = .ok (.invokestatic 125, 3) := by decide +kernel
theorem dL_acts_256 : decode cL_acts 256 = .ok (.iload 7, 2) := by decide +kernel
theorem dL_acts_258 : decode cL_acts 258 = .ok (.invokestatic 214, 3) := by decide +kernel
theorem dL_acts_261 : decode cL_acts 261 = .ok (.goto 49, 3) := by decide +kernel
theorem dL_acts_264 : decode cL_acts 264 = .ok (.iload 8, 2) := by decide +kernel
theorem dL_acts_266 : decode cL_acts 266 = .ok (.bipush 17, 2) := by decide +kernel
theorem dL_acts_268 : decode cL_acts 268 = .ok (.if_icmp .ne 17, 3) := by decide +kernel
theorem dL_acts_271 : decode cL_acts 271 = .ok (.aload_n 0, 1) := by decide +kernel
theorem dL_acts_272 : decode cL_acts 272 = .ok (.aload_n 2, 1) := by decide +kernel
theorem dL_acts_273 : decode cL_acts 273 = .ok (.aload 5, 2) := by decide +kernel
theorem dL_acts_275 : decode cL_acts 275 = .ok (.iload 9, 2) := by decide +kernel
theorem dL_acts_277 : decode cL_acts 277 = .ok (.iload 7, 2) := by decide +kernel
theorem dL_acts_279 : decode cL_acts 279 = .ok (.invokestatic 217, 3) := by decide +kernel
theorem dL_acts_282 : decode cL_acts 282 = .ok (.goto 28, 3) := by decide +kernel
theorem dL_acts_285 : decode cL_acts 285 = .ok (.iload 8, 2) := by decide +kernel
theorem dL_acts_287 : decode cL_acts 287 = .ok (.bipush 18, 2) := by decide +kernel
theorem dL_acts_289 : decode cL_acts 289 = .ok (.if_icmp .ne 14, 3) := by decide +kernel
theorem dL_acts_292 : decode cL_acts 292 = .ok (.aload_n 0, 1) := by decide +kernel
theorem dL_acts_293 : decode cL_acts 293 = .ok (.iload 9, 2) := by decide +kernel
theorem dL_acts_295 : decode cL_acts 295 = .ok (.iload 7, 2) := by decide +kernel
theorem dL_acts_297 : decode cL_acts 297 = .ok (.invokestatic 221, 3) := by decide +kernel
theorem dL_acts_300 : decode cL_acts 300 = .ok (.goto 10, 3) := by decide +kernel
theorem dL_acts_303 : decode cL_acts 303 = .ok (.aload_n 0, 1) := by decide +kernel
theorem dL_acts_304 : decode cL_acts 304 = .ok (.aload_n 2, 1) := by decide +kernel
theorem dL_acts_305 : decode cL_acts 305 = .ok (.iload 9, 2) := by decide +kernel
theorem dL_acts_307 : decode cL_acts 307 = .ok (.invokestatic 192, 3) := by decide +kernel
theorem dL_acts_310 : decode cL_acts 310 = .ok (.ireturn, 1) := by decide +kernel
