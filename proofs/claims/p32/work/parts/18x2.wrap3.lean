theorem dL_paints_397 : decode cL_paints 397 = .ok (.iload 9, 2) := by decide +kernel
theorem dL_paints_399 : decode cL_paints 399 = .ok (.invokestatic 139, 3) := by decide +kernel
theorem dL_paints_402 : decode cL_paints 402 = .ok (.iadd, 1) := by decide +kernel
theorem dL_paints_403 : decode cL_paints 403 = .ok (.istore 7, 2) := by decide +kernel
theorem dL_paints_405 : decode cL_paints 405 = .ok (.iinc 9 1, 3) := by decide +kernel
theorem dL_paints_408 : decode cL_paints 408 = .ok (.goto (-23), 3) := by decide +kernel
theorem dL_paints_411 : decode cL_paints 411 = .ok (.iconst 0, 1) := by decide +kernel
theorem dL_paints_412 : decode cL_paints 412 = .ok (.istore 9, 2) := by decide +kernel
theorem dL_paints_414 : decode cL_paints 414 = .ok (.iload 9, 2) := by decide +kernel
theorem dL_paints_416 : decode cL_paints 416 = .ok (.bipush 64, 2) := by decide +kernel
theorem dL_paints_418 : decode cL_paints 418 = .ok (.if_icmp .ge 83, 3) := by decide +kernel
theorem dL_paints_421 : decode cL_paints 421 = .ok (.iload 8, 2) := by decide +kernel
theorem dL_paints_423 : decode cL_paints 423 = .ok (.ifCond .eq 78, 3) := by decide +kernel
theorem dL_paints_426 : decode cL_paints 426 = .ok (.aload_n 0, 1) := by decide +kernel
theorem dL_paints_427 : decode cL_paints 427 = .ok (.iload 9, 2) := by decide +kernel
theorem dL_paints_429 : decode cL_paints 429 = .ok (.bipush 8, 2) := by decide +kernel
theorem dL_paints_431 : decode cL_paints 431 = .ok (.irem, 1) := by decide +kernel
theorem dL_paints_432 : decode cL_paints 432 = .ok (.iload 9, 2) := by decide +kernel
theorem dL_paints_434 : decode cL_paints 434 = .ok (.bipush 8, 2) := by decide +kernel
theorem dL_paints_436 : decode cL_paints 436 = .ok (.idiv, 1) := by decide +kernel
theorem dL_paints_437 : decode cL_paints 437 = .ok (.iconst 0, 1) := by decide +kernel
theorem dL_paints_438 : decode cL_paints 438 = .ok (.invokestatic 116, 3) := by decide +kernel
theorem dL_paints_441 : decode cL_paints 441 = .ok (.istore 10, 2) := by decide +kernel
theorem dL_paints_443 : decode cL_paints 443 = .ok (.iload 10, 2) := by decide +kernel
theorem dL_paints_445 : decode cL_paints 445 = .ok (.ifCond .lt 43, 3) := by decide +kernel
theorem dL_paints_448 : decode cL_paints 448 = .ok (.iload 10, 2) := by decide +kernel
theorem dL_paints_450 : decode cL_paints 450 = .ok (.aload_n 0, 1) := by decide +kernel
theorem dL_paints_451 : decode cL_paints 451 = .ok (.iload 6, 2) := by decide +kernel
theorem dL_paints_453 : decode cL_paints 453 = .ok (.iload 9, 2) := by decide +kernel
theorem dL_paints_455 : decode cL_paints 455 = .ok (.bipush 8, 2) := by decide +kernel
theorem dL_paints_457 : decode cL_paints 457 = .ok (.irem, 1) := by decide +kernel
theorem dL_paints_458 : decode cL_paints 458 = .ok (.iload 9, 2) := by decide +kernel
theorem dL_paints_460 : decode cL_paints 460 = .ok (.bipush 8, 2) := by decide +kernel
theorem dL_paints_462 : decode cL_paints 462 = .ok (.idiv, 1) := by decide +kernel
theorem dL_paints_463 : decode cL_paints 463 = .ok (.invokestatic 142, 3) := by decide +kernel
theorem dL_paints_466 : decode cL_paints 466 = .ok (.if_icmp .ne 26, 3) := by decide +kernel
theorem dL_paints_469 : decode cL_paints 469 = .ok (.aload_n 0, 1) := by decide +kernel
theorem dL_paints_470 : decode cL_paints 470 = .ok (.iload 9, 2) := by decide +kernel
theorem dL_paints_472 : decode cL_paints 472 = .ok (.bipush 8, 2) := by decide +kernel
theorem dL_paints_474 : decode cL_paints 474 = .ok (.irem, 1) := by decide +kernel
theorem dL_paints_475 : decode cL_paints 475 = .ok (.iload 9, 2) := by decide +kernel
theorem dL_paints_477 : decode cL_paints 477 = .ok (.bipush 8, 2) := by decide +kernel
theorem dL_paints_479 : decode cL_paints 479 = .ok (.idiv, 1) := by decide +kernel
theorem dL_paints_480 : decode cL_paints 480 = .ok (.iconst 1, 1) := by decide +kernel
theorem dL_paints_481 : decode cL_paints 481 = .ok (.invokestatic 116, 3) := by decide +kernel
theorem dL_paints_484 : decode cL_paints 484 = .ok (.iconst 1, 1) := by decide +kernel
theorem dL_paints_485 : decode cL_paints 485 = .ok (.if_icmp .ne 7, 3) := by decide +kernel
theorem dL_paints_488 : decode cL_paints 488 = .ok (.iconst 1, 1) := by decide +kernel
theorem dL_paints_489 : decode cL_paints 489 = .ok (.goto 4, 3) := by decide +kernel
theorem dL_paints_492 : decode cL_paints 492 = .ok (.iconst 0, 1) := by decide +kernel
theorem dL_paints_493 : decode cL_paints 493 = .ok (.istore 8, 2) := by decide +kernel
theorem dL_paints_495 : decode cL_paints 495 = .ok (.iinc 9 1, 3) := by decide +kernel
theorem dL_paints_498 : decode cL_paints 498 = .ok (.goto (-84), 3) := by decide +kernel
theorem dL_paints_501 : decode cL_paints 501 = .ok (.iload 8, 2) := by decide +kernel
theorem dL_paints_503 : decode cL_paints 503 = .ok (.ifCond .eq 14, 3) := by decide +kernel
theorem dL_paints_506 : decode cL_paints 506 = .ok (.iload 7, 2) := by decide +kernel
theorem dL_paints_508 : decode cL_paints 508 = .ok (.iload 4, 2) := by decide +kernel
theorem dL_paints_510 : decode cL_paints 510 = .ok (.if_icmp .ne 7, 3) := by decide +kernel
theorem dL_paints_513 : decode cL_paints 513 = .ok (.iconst 1, 1) := by decide +kernel
theorem dL_paints_514 : decode cL_paints 514 = .ok (.goto 4, 3) := by decide +kernel
theorem dL_paints_517 : decode cL_paints 517 = .ok (.iconst 0, 1) := by decide +kernel
theorem dL_paints_518 : decode cL_paints 518 = .ok (.ireturn, 1) := by decide +kernel
set_option maxRecDepth 20000 in
theorem ggL_arePages_L_low : GoodIn wsL_arePages wsL_low := goodIn_r _ [5, 6] (by decide +kernel) (by decide +kernel)
set_option maxRecDepth 20000 in
theorem gL_arePages_L_low : GoodIn wsL_arePages (va_wsS RL 125 yL_low wsL_low) := goodIn_app (goodIn_of _ (by decide +kernel)) ggL_arePages_L_low
set_option maxRecDepth 20000 in
theorem ggL_arePages_L_placeOf : GoodIn wsL_arePages wsL_placeOf := goodIn_ca (goodIn_r _ [9, 10, 1, 11, 12, 13, 14, 15, 16, 17, 18, 19, 20, 21, 22, 23, 24, 25, 26, 27, 28, 29, 30, 31, 32, 33, 34, 35] (by decide +kernel) (by decide +kernel)) (goodIn_sub (fun _ h => List.mem_cons_of_mem _ (List.mem_append_right _ h)) (by decide +kernel))
set_option maxRecDepth 20000 in
theorem gL_arePages_L_placeOf : GoodIn wsL_arePages (va_wsS RL 144 yL_placeOf wsL_placeOf) := goodIn_app (goodIn_of _ (by decide +kernel)) ggL_arePages_L_placeOf
set_option maxRecDepth 20000 in
theorem ggL_arePages_L_pageAt : GoodIn wsL_arePages wsL_pageAt := goodIn_ca (goodIn_r _ [38, 10, 1, 39, 40, 41, 14, 42, 16, 17, 18, 19, 20, 21, 22, 23, 24, 25, 26, 27, 28, 29, 33, 34, 35] (by decide +kernel) (by decide +kernel)) (goodIn_sub (fun _ h => List.mem_cons_of_mem _ (List.mem_append_right _ h)) (by decide +kernel))
set_option maxRecDepth 20000 in
theorem gL_arePages_L_pageAt : GoodIn wsL_arePages (va_wsS RL 146 yL_pageAt wsL_pageAt) := goodIn_app (goodIn_of _ (by decide +kernel)) ggL_arePages_L_pageAt
theorem dL_arePages_0 : decode cL_arePages 0 = .ok (.iconst 1, 1) := by decide +kernel
theorem dL_arePages_1 : decode cL_arePages 1 = .ok (.iload_n 1, 1) := by decide +kernel
theorem dL_arePages_2 : decode cL_arePages 2 = .ok (.iconst 4, 1) := by decide +kernel
theorem dL_arePages_3 : decode cL_arePages 3 = .ok (.invokestatic 125, 3) := by decide +kernel
theorem dL_arePages_6 : decode cL_arePages 6 = .ok (.iadd, 1) := by decide +kernel
theorem dL_arePages_7 : decode cL_arePages 7 = .ok (.istore_n 2, 1) := by decide +kernel
theorem dL_arePages_8 : decode cL_arePages 8 = .ok (.iconst 1, 1) := by decide +kernel
theorem dL_arePages_9 : decode cL_arePages 9 = .ok (.iload_n 1, 1) := by decide +kernel
theorem dL_arePages_10 : decode cL_arePages 10 = .ok (.iconst 2, 1) := by decide +kernel
theorem dL_arePages_11 : decode cL_arePages 11 = .ok (.ishr, 1) := by decide +kernel
theorem dL_arePages_12 : decode cL_arePages 12 = .ok (.iconst 2, 1) := by decide +kernel
theorem dL_arePages_13 : decode cL_arePages 13 = .ok (.iload_n 2, 1) := by decide +kernel
theorem dL_arePages_14 : decode cL_arePages 14 = .ok (.ishl, 1) := by decide +kernel
theorem dL_arePages_15 : decode cL_arePages 15 = .ok (.invokestatic 125, 3) := by decide +kernel
theorem dL_arePages_18 : decode cL_arePages 18 = .ok (.iadd, 1) := by decide +kernel
theorem dL_arePages_19 : decode cL_arePages 19 = .ok (.istore_n 3, 1) := by decide +kernel
theorem dL_arePages_20 : decode cL_arePages 20 = .ok (.aload_n 0, 1) := by decide +kernel
theorem dL_arePages_21 : decode cL_arePages 21 = .ok (.iload_n 2, 1) := by decide +kernel
theorem dL_arePages_22 : decode cL_arePages 22 = .ok (.iload_n 3, 1) := by decide +kernel
theorem dL_arePages_23 : decode cL_arePages 23 = .ok (.invokestatic 144, 3) := by decide +kernel
theorem dL_arePages_26 : decode cL_arePages 26 = .ok (.istore 4, 2) := by decide +kernel
theorem dL_arePages_28 : decode cL_arePages 28 = .ok (.aload_n 0, 1) := by decide +kernel
theorem dL_arePages_29 : decode cL_arePages 29 = .ok (.iload_n 2, 1) := by decide +kernel
theorem dL_arePages_30 : decode cL_arePages 30 = .ok (.iload_n 3, 1) := by decide +kernel
theorem dL_arePages_31 : decode cL_arePages 31 = .ok (.iconst 2, 1) := by decide +kernel
theorem dL_arePages_32 : decode cL_arePages 32 = .ok (.irem, 1) := by decide +kernel
theorem dL_arePages_33 : decode cL_arePages 33 = .ok (.iconst 1, 1) := by decide +kernel
theorem dL_arePages_34 : decode cL_arePages 34 = .ok (.if_icmp .ne 9, 3) := by decide +kernel
theorem dL_arePages_37 : decode cL_arePages 37 = .ok (.iload_n 3, 1) := by decide +kernel
theorem dL_arePages_38 : decode cL_arePages 38 = .ok (.iconst 1, 1) := by decide +kernel
theorem dL_arePages_39 : decode cL_arePages 39 = .ok (.iadd, 1) := by decide +kernel
theorem dL_arePages_40 : decode cL_arePages 40 = .ok (.goto 6, 3) := by decide +kernel
theorem dL_arePages_43 : decode cL_arePages 43 = .ok (.iload_n 3, 1) := by decide +kernel
theorem dL_arePages_44 : decode cL_arePages 44 = .ok (.iconst 1, 1) := by decide +kernel
theorem dL_arePages_45 : decode cL_arePages 45 = .ok (.isub, 1) := by decide +kernel
theorem dL_arePages_46 : decode cL_arePages 46 = .ok (.invokestatic 144, 3) := by decide +kernel
theorem dL_arePages_49 : decode cL_arePages 49 = .ok (.istore 5, 2) := by decide +kernel
theorem dL_arePages_51 : decode cL_arePages 51 = .ok (.iload 4, 2) := by decide +kernel
theorem dL_arePages_53 : decode cL_arePages 53 = .ok (.ifCond .lt 76, 3) := by decide +kernel
theorem dL_arePages_56 : decode cL_arePages 56 = .ok (.aload_n 0, 1) := by decide +kernel
theorem dL_arePages_57 : decode cL_arePages 57 = .ok (.iload_n 2, 1) := by decide +kernel
theorem dL_arePages_58 : decode cL_arePages 58 = .ok (.iload 4, 2) := by decide +kernel
theorem dL_arePages_60 : decode cL_arePages 60 = .ok (.bipush 99, 2) := by decide +kernel
theorem dL_arePages_62 : decode cL_arePages 62 = .ok (.if_icmp .le 7, 3) := by decide +kernel
theorem dL_arePages_65 : decode cL_arePages 65 = .ok (.iconst 1, 1) := by decide +kernel
theorem dL_arePages_66 : decode cL_arePages 66 = .ok (.goto 4, 3) := by decide +kernel
theorem dL_arePages_69 : decode cL_arePages 69 = .ok (.iconst 0, 1) := by decide +kernel
theorem dL_arePages_70 : decode cL_arePages 70 = .ok (.iload 4, 2) := by decide +kernel
theorem dL_arePages_72 : decode cL_arePages 72 = .ok (.bipush 10, 2) := by decide +kernel
theorem dL_arePages_74 : decode cL_arePages 74 = .ok (.irem, 1) := by decide +kernel
theorem dL_arePages_75 : decode cL_arePages 75 = .ok (.iload 4, 2) := by decide +kernel
theorem dL_arePages_77 : decode cL_arePages 77 = .ok (.bipush 10, 2) := by decide +kernel
theorem dL_arePages_79 : decode cL_arePages 79 = .ok (.idiv, 1) := by decide +kernel
theorem dL_arePages_80 : decode cL_arePages 80 = .ok (.bipush 10, 2) := by decide +kernel
theorem dL_arePages_82 : decode cL_arePages 82 = .ok (.irem, 1) := by decide +kernel
theorem dL_arePages_83 : decode cL_arePages 83 = .ok (.invokestatic 146, 3) := by decide +kernel
theorem dL_arePages_86 : decode cL_arePages 86 = .ok (.iload_n 3, 1) := by decide +kernel
theorem dL_arePages_87 : decode cL_arePages 87 = .ok (.if_icmp .ne 42, 3) := by decide +kernel
theorem dL_arePages_90 : decode cL_arePages 90 = .ok (.iload 5, 2) := by decide +kernel
theorem dL_arePages_92 : decode cL_arePages 92 = .ok (.bipush 100, 2) := by decide +kernel
theorem dL_arePages_94 : decode cL_arePages 94 = .ok (.irem, 1) := by decide +kernel
theorem dL_arePages_95 : decode cL_arePages 95 = .ok (.iload 4, 2) := by decide +kernel
theorem dL_arePages_97 : decode cL_arePages 97 = .ok (.bipush 100, 2) := by decide +kernel
theorem dL_arePages_99 : decode cL_arePages 99 = .ok (.irem, 1) := by decide +kernel
theorem dL_arePages_100 : decode cL_arePages 100 = .ok (.if_icmp .ne 29, 3) := by decide +kernel
theorem dL_arePages_103 : decode cL_arePages 103 = .ok (.iload 5, 2) := by decide +kernel
theorem dL_arePages_105 : decode cL_arePages 105 = .ok (.iload 4, 2) := by decide +kernel
theorem dL_arePages_107 : decode cL_arePages 107 = .ok (.if_icmp .eq 22, 3) := by decide +kernel
theorem dL_arePages_110 : decode cL_arePages 110 = .ok (.aload_n 0, 1) := by decide +kernel
theorem dL_arePages_111 : decode cL_arePages 111 = .ok (.iload_n 2, 1) := by decide +kernel
theorem dL_arePages_112 : decode cL_arePages 112 = .ok (.iconst 2, 1) := by decide +kernel
theorem dL_arePages_113 : decode cL_arePages 113 = .ok (.iload_n 2, 1) := by decide +kernel
theorem dL_arePages_114 : decode cL_arePages 114 = .ok (.ishl, 1) := by decide +kernel
theorem dL_arePages_115 : decode cL_arePages 115 = .ok (.iconst 1, 1) := by decide +kernel
theorem dL_arePages_116 : decode cL_arePages 116 = .ok (.iadd, 1) := by decide +kernel
theorem dL_arePages_117 : decode cL_arePages 117 = .ok (.invokestatic 144, 3) := by decide +kernel
theorem dL_arePages_120 : decode cL_arePages 120 = .ok (.ldc 21, 2) := by decide +kernel
theorem dL_arePages_122 : decode cL_arePages 122 = .ok (.if_icmp .ne 7, 3) := by decide +kernel
theorem dL_arePages_125 : decode cL_arePages 125 = .ok (.iconst 1, 1) := by decide +kernel
theorem dL_arePages_126 : decode cL_arePages 126 = .ok (.goto 4, 3) := by decide +kernel
theorem dL_arePages_129 : decode cL_arePages 129 = .ok (.iconst 0, 1) := by decide +kernel
theorem dL_arePages_130 : decode cL_arePages 130 = .ok (.ireturn, 1) := by decide +kernel
set_option maxRecDepth 20000 in
theorem ggL_sews_L_ofThread_q0 : GoodIn wsL_sews (.codeWith yL_ofThread cL_ofThread 4 (some .int) [(0, 6, 7, 16), (0, 6, 11, 19)] :: wsL_ofThread_r1) := goodIn_r _ [5, 6, 7, 8, 9, 10, 11, 12, 13, 14, 15, 16, 17, 18, 19, 20, 21, 22, 23, 24, 25, 26, 27, 28, 29] (by decide +kernel) (by decide +kernel)
set_option maxRecDepth 20000 in
theorem ggL_sews_L_ofThread_q1 : GoodIn wsL_sews (wsL_ofThread_r2) := goodIn_r _ [30, 31, 32, 33, 34, 35, 36, 37, 38, 39, 40, 41, 42, 43, 44, 45, 46, 47] (by decide +kernel) (by decide +kernel)
set_option maxRecDepth 20000 in
theorem ggL_sews_L_ofThread_q2 : GoodIn wsL_sews (wsX10) := goodIn_r _ [123, 124, 125, 126, 127, 128, 129] (by decide +kernel) (by decide +kernel)
set_option maxRecDepth 20000 in
theorem ggL_sews_L_ofThread_q3 : GoodIn wsL_sews (wsX40) := goodIn_r _ [130, 131, 132, 133, 134, 135, 136, 137, 138, 139] (by decide +kernel) (by decide +kernel)
set_option maxRecDepth 20000 in
theorem ggL_sews_L_ofThread_q4 : GoodIn wsL_sews (wsX70) := goodIn_r _ [140, 141, 142, 143, 144, 145, 146] (by decide +kernel) (by decide +kernel)
set_option maxRecDepth 20000 in
theorem ggL_sews_L_ofThread : GoodIn wsL_sews wsL_ofThread := goodIn_ca (goodIn_ca (goodIn_ca (goodIn_ca (goodIn_ca (goodIn_ca ggL_sews_L_ofThread_q0 ggL_sews_L_ofThread_q1) ggL_sews_L_ofThread_q2) ggL_sews_L_ofThread_q3) ggL_sews_L_ofThread_q4) (goodIn_sub (fun _ h => List.mem_cons_of_mem _ (List.mem_append_left _ (List.mem_append_left _ (List.mem_append_right _ h)))) (by decide +kernel))) (goodIn_sub (fun _ h => List.mem_cons_of_mem _ (List.mem_append_left _ (List.mem_append_right _ h))) (by decide +kernel))
set_option maxRecDepth 20000 in
theorem gL_sews_L_ofThread : GoodIn wsL_sews (va_wsS RL 149 yL_ofThread wsL_ofThread) := goodIn_app (goodIn_of _ (by decide +kernel)) ggL_sews_L_ofThread
set_option maxRecDepth 20000 in
theorem ggL_sews_L_swelling_q0 : GoodIn wsL_sews (.codeWith yL_swelling cL_swelling 3 (some .int) [(0, 5, 6, 16)] :: wsL_swelling_r1) := goodIn_r _ [50, 6, 8, 51, 52, 53, 13, 54, 15, 16, 17, 18, 19, 20, 21, 22, 23, 24, 55, 56, 57, 33, 58, 36, 59] (by decide +kernel) (by decide +kernel)
set_option maxRecDepth 20000 in
theorem ggL_sews_L_swelling_q1 : GoodIn wsL_sews (wsL_swelling_r2) := goodIn_r _ [60, 61, 62, 42, 63, 64, 65, 66, 43, 44, 45, 46, 47] (by decide +kernel) (by decide +kernel)
set_option maxRecDepth 20000 in
theorem ggL_sews_L_swelling_q2 : GoodIn wsL_sews (wsX10) := goodIn_r _ [123, 124, 125, 126, 127, 128, 129] (by decide +kernel) (by decide +kernel)
set_option maxRecDepth 20000 in
theorem ggL_sews_L_swelling_q3 : GoodIn wsL_sews (wsX70) := goodIn_r _ [140, 141, 142, 143, 144, 145, 146] (by decide +kernel) (by decide +kernel)
set_option maxRecDepth 20000 in
theorem ggL_sews_L_swelling_q4 : GoodIn wsL_sews (wsX40) := goodIn_r _ [130, 131, 132, 133, 134, 135, 136, 137, 138, 139] (by decide +kernel) (by decide +kernel)
set_option maxRecDepth 20000 in
theorem ggL_sews_L_swelling : GoodIn wsL_sews wsL_swelling := goodIn_ca (goodIn_ca (goodIn_ca (goodIn_ca (goodIn_ca ggL_sews_L_swelling_q0 ggL_sews_L_swelling_q1) ggL_sews_L_swelling_q2) ggL_sews_L_swelling_q3) ggL_sews_L_swelling_q4) (goodIn_sub (fun _ h => List.mem_cons_of_mem _ (List.mem_append_left _ (List.mem_append_left _ (List.mem_append_right _ h)))) (by decide +kernel))
set_option maxRecDepth 20000 in
theorem gL_sews_L_swelling : GoodIn wsL_sews (va_wsS RL 151 yL_swelling wsL_swelling) := goodIn_app (goodIn_of _ (by decide +kernel)) ggL_sews_L_swelling
set_option maxRecDepth 20000 in
theorem ggL_sews_L_low : GoodIn wsL_sews wsL_low := goodIn_r _ [69, 70] (by decide +kernel) (by decide +kernel)
set_option maxRecDepth 20000 in
theorem gL_sews_L_low : GoodIn wsL_sews (va_wsS RL 125 yL_low wsL_low) := goodIn_app (goodIn_of _ (by decide +kernel)) ggL_sews_L_low
set_option maxRecDepth 20000 in
theorem ggL_sews_L_unsew_q0 : GoodIn wsL_sews (.codeWith yL_unsew cL_unsew 4 (some .int) [(0, 6, 7, 16), (0, 6, 11, 19), (0, 6, 15, 30)] :: wsL_unsew_r1) := goodIn_r _ [73, 6, 7, 74, 8, 9, 1, 75, 76, 77, 13, 78, 15, 16, 17, 18, 19, 20, 21, 22, 23, 24, 25, 26, 27] (by decide +kernel) (by decide +kernel)
set_option maxRecDepth 20000 in
theorem ggL_sews_L_unsew_q1 : GoodIn wsL_sews (wsL_unsew_r2) := goodIn_r _ [28, 29, 79, 80, 81, 82, 83, 84, 85, 86, 33, 87, 88, 89, 90, 91, 92, 93, 94, 95, 96, 97, 98, 35] (by decide +kernel) (by decide +kernel)
set_option maxRecDepth 20000 in
theorem ggL_sews_L_unsew_q2 : GoodIn wsL_sews (wsL_unsew_r3) := goodIn_r _ [99, 100, 101, 102, 103, 47, 104, 105, 106, 107, 37] (by decide +kernel) (by decide +kernel)
set_option maxRecDepth 20000 in
theorem ggL_sews_L_unsew_q3 : GoodIn wsL_sews (wsX10) := goodIn_r _ [123, 124, 125, 126, 127, 128, 129] (by decide +kernel) (by decide +kernel)
set_option maxRecDepth 20000 in
theorem ggL_sews_L_unsew_q4 : GoodIn wsL_sews (wsX40) := goodIn_r _ [130, 131, 132, 133, 134, 135, 136, 137, 138, 139] (by decide +kernel) (by decide +kernel)
set_option maxRecDepth 20000 in
theorem ggL_sews_L_unsew_q5 : GoodIn wsL_sews (wsX70) := goodIn_r _ [140, 141, 142, 143, 144, 145, 146] (by decide +kernel) (by decide +kernel)
set_option maxRecDepth 20000 in
theorem ggL_sews_L_unsew : GoodIn wsL_sews wsL_unsew := goodIn_ca (goodIn_ca (goodIn_ca (goodIn_ca (goodIn_ca (goodIn_ca (goodIn_ca ggL_sews_L_unsew_q0 (goodIn_app ggL_sews_L_unsew_q1 ggL_sews_L_unsew_q2)) ggL_sews_L_unsew_q3) ggL_sews_L_unsew_q4) ggL_sews_L_unsew_q5) (goodIn_sub (fun _ h => List.mem_cons_of_mem _ (List.mem_append_left _ (List.mem_append_left _ (List.mem_append_right _ h)))) (by decide +kernel))) (goodIn_sub (fun _ h => List.mem_cons_of_mem _ (List.mem_append_left _ (List.mem_append_right _ h))) (by decide +kernel))) (goodIn_sub (fun _ h => List.mem_cons_of_mem _ (List.mem_append_right _ h)) (by decide +kernel))
set_option maxRecDepth 20000 in
theorem gL_sews_L_unsew : GoodIn wsL_sews (va_wsS RL 154 yL_unsew wsL_unsew) := goodIn_app (goodIn_of _ (by decide +kernel)) ggL_sews_L_unsew
set_option maxRecDepth 20000 in
theorem ggL_sews_L_sew_q0 : GoodIn wsL_sews (.codeWith yL_sew cL_sew 4 (some .int) [(0, 6, 7, 16), (0, 6, 11, 19), (0, 6, 15, 30)] :: wsL_sew_r1) := goodIn_r _ [110, 6, 7, 74, 8, 9, 1, 111, 112, 113, 13, 114, 15, 16, 17, 18, 19, 20, 21, 22, 23, 24, 25, 26, 27] (by decide +kernel) (by decide +kernel)
set_option maxRecDepth 20000 in
theorem ggL_sews_L_sew_q1 : GoodIn wsL_sews (wsL_sew_r2) := goodIn_r _ [28, 29, 115, 116, 117, 33, 118, 88, 97, 42, 35, 98, 36, 79, 80, 81, 82, 83, 119, 120, 121, 122, 89, 93] (by decide +kernel) (by decide +kernel)
set_option maxRecDepth 20000 in
theorem ggL_sews_L_sew_q2 : GoodIn wsL_sews (wsL_sew_r3) := goodIn_r _ [94, 95, 96, 99, 100, 101, 102, 103, 47, 104, 105, 106, 107, 37] (by decide +kernel) (by decide +kernel)
set_option maxRecDepth 20000 in
theorem ggL_sews_L_sew_q3 : GoodIn wsL_sews (wsX10) := goodIn_r _ [123, 124, 125, 126, 127, 128, 129] (by decide +kernel) (by decide +kernel)
set_option maxRecDepth 20000 in
theorem ggL_sews_L_sew_q4 : GoodIn wsL_sews (wsX40) := goodIn_r _ [130, 131, 132, 133, 134, 135, 136, 137, 138, 139] (by decide +kernel) (by decide +kernel)
set_option maxRecDepth 20000 in
theorem ggL_sews_L_sew_q5 : GoodIn wsL_sews (wsX70) := goodIn_r _ [140, 141, 142, 143, 144, 145, 146] (by decide +kernel) (by decide +kernel)
set_option maxRecDepth 20000 in
theorem ggL_sews_L_sew : GoodIn wsL_sews wsL_sew := goodIn_ca (goodIn_ca (goodIn_ca (goodIn_ca (goodIn_ca (goodIn_ca (goodIn_ca ggL_sews_L_sew_q0 (goodIn_app ggL_sews_L_sew_q1 ggL_sews_L_sew_q2)) ggL_sews_L_sew_q3) ggL_sews_L_sew_q4) ggL_sews_L_sew_q5) (goodIn_sub (fun _ h => List.mem_cons_of_mem _ (List.mem_append_left _ (List.mem_append_left _ (List.mem_append_right _ h)))) (by decide +kernel))) (goodIn_sub (fun _ h => List.mem_cons_of_mem _ (List.mem_append_left _ (List.mem_append_right _ h))) (by decide +kernel))) (goodIn_sub (fun _ h => List.mem_cons_of_mem _ (List.mem_append_right _ h)) (by decide +kernel))
set_option maxRecDepth 20000 in
theorem gL_sews_L_sew : GoodIn wsL_sews (va_wsS RL 156 yL_sew wsL_sew) := goodIn_app (goodIn_of _ (by decide +kernel)) ggL_sews_L_sew
theorem dL_sews_0 : decode cL_sews 0 = .ok (.aload_n 0, 1) := by decide +kernel
theorem dL_sews_1 : decode cL_sews 1 = .ok (.iload_n 3, 1) := by decide +kernel
theorem dL_sews_2 : decode cL_sews 2 = .ok (.iconst 0, 1) := by decide +kernel
theorem dL_sews_3 : decode cL_sews 3 = .ok (.invokestatic 149, 3) := by decide +kernel
theorem dL_sews_6 : decode cL_sews 6 = .ok (.istore 6, 2) := by decide +kernel
theorem dL_sews_8 : decode cL_sews 8 = .ok (.aload_n 0, 1) := by decide +kernel
theorem dL_sews_9 : decode cL_sews 9 = .ok (.iload_n 3, 1) := by decide +kernel
theorem dL_sews_10 : decode cL_sews 10 = .ok (.iconst 1, 1) := by decide +kernel
theorem dL_sews_11 : decode cL_sews 11 = .ok (.invokestatic 149, 3) := by decide +kernel
theorem dL_sews_14 : decode cL_sews 14 = .ok (.istore 7, 2) := by decide +kernel
theorem dL_sews_16 : decode cL_sews 16 = .ok (.aload_n 0, 1) := by decide +kernel
theorem dL_sews_17 : decode cL_sews 17 = .ok (.iload_n 3, 1) := by decide +kernel
theorem dL_sews_18 : decode cL_sews 18 = .ok (.iconst 2, 1) := by decide +kernel
theorem dL_sews_19 : decode cL_sews 19 = .ok (.invokestatic 149, 3) := by decide +kernel
theorem dL_sews_22 : decode cL_sews 22 = .ok (.istore 8, 2) := by decide +kernel
theorem dL_sews_24 : decode cL_sews 24 = .ok (.aload_n 0, 1) := by decide +kernel
theorem dL_sews_25 : decode cL_sews 25 = .ok (.iload_n 3, 1) := by decide +kernel
theorem dL_sews_26 : decode cL_sews 26 = .ok (.iconst 3, 1) := by decide +kernel
theorem dL_sews_27 : decode cL_sews 27 = .ok (.invokestatic 149, 3) := by decide +kernel
theorem dL_sews_30 : decode cL_sews 30 = .ok (.istore 9, 2) := by decide +kernel
theorem dL_sews_32 : decode cL_sews 32 = .ok (.aload_n 0, 1) := by decide +kernel
theorem dL_sews_33 : decode cL_sews 33 = .ok (.iload_n 3, 1) := by decide +kernel
theorem dL_sews_34 : decode cL_sews 34 = .ok (.invokestatic 151, 3) := by decide +kernel
theorem dL_sews_37 : decode cL_sews 37 = .ok (.istore 10, 2) := by decide +kernel
theorem dL_sews_39 : decode cL_sews 39 = .ok (.aload_n 0, 1) := by decide +kernel
theorem dL_sews_40 : decode cL_sews 40 = .ok (.iload_n 3, 1) := by decide +kernel
theorem dL_sews_41 : decode cL_sews 41 = .ok (.iconst 5, 1) := by decide +kernel
theorem dL_sews_42 : decode cL_sews 42 = .ok (.invokestatic 149, 3) := by decide +kernel
theorem dL_sews_45 : decode cL_sews 45 = .ok (.istore 11, 2) := by decide +kernel
theorem dL_sews_47 : decode cL_sews 47 = .ok (.iload 4, 2) := by decide +kernel
theorem dL_sews_49 : decode cL_sews 49 = .ok (.bipush 10, 2) := by decide +kernel
theorem dL_sews_51 : decode cL_sews 51 = .ok (.invokestatic 125, 3) := by decide +kernel
theorem dL_sews_54 : decode cL_sews 54 = .ok (.ifCond .ne 114, 3) := by decide +kernel
theorem dL_sews_57 : decode cL_sews 57 = .ok (.iconst 1, 1) := by decide +kernel
theorem dL_sews_58 : decode cL_sews 58 = .ok (.iload 5, 2) := by decide +kernel
theorem dL_sews_60 : decode cL_sews 60 = .ok (.bipush 12, 2) := by decide +kernel
theorem dL_sews_62 : decode cL_sews 62 = .ok (.invokestatic 125, 3) := by decide +kernel
theorem dL_sews_65 : decode cL_sews 65 = .ok (.iadd, 1) := by decide +kernel
theorem dL_sews_66 : decode cL_sews 66 = .ok (.istore 12, 2) := by decide +kernel
theorem dL_sews_68 : decode cL_sews 68 = .ok (.aload_n 0, 1) := by decide +kernel
theorem dL_sews_69 : decode cL_sews 69 = .ok (.iload_n 3, 1) := by decide +kernel
theorem dL_sews_70 : decode cL_sews 70 = .ok (.iload 12, 2) := by decide +kernel
theorem dL_sews_72 : decode cL_sews 72 = .ok (.invokestatic 154, 3) := by decide +kernel
theorem dL_sews_75 : decode cL_sews 75 = .ok (.istore 13, 2) := by decide +kernel
theorem dL_sews_77 : decode cL_sews 77 = .ok (.iload 12, 2) := by decide +kernel
theorem dL_sews_79 : decode cL_sews 79 = .ok (.aload_n 2, 1) := by decide +kernel
theorem dL_sews_80 : decode cL_sews 80 = .ok (.iload_n 3, 1) := by decide +kernel
theorem dL_sews_81 : decode cL_sews 81 = .ok (.iaload, 1) := by decide +kernel
theorem dL_sews_82 : decode cL_sews 82 = .ok (.if_icmp .gt 7, 3) := by decide +kernel
theorem dL_sews_85 : decode cL_sews 85 = .ok (.iconst 1, 1) := by decide +kernel
theorem dL_sews_86 : decode cL_sews 86 = .ok (.goto 4, 3) := by decide +kernel
theorem dL_sews_89 : decode cL_sews 89 = .ok (.iconst 0, 1) := by decide +kernel
theorem dL_sews_90 : decode cL_sews 90 = .ok (.istore 14, 2) := by decide +kernel
theorem dL_sews_92 : decode cL_sews 92 = .ok (.aload_n 2, 1) := by decide +kernel
theorem dL_sews_93 : decode cL_sews 93 = .ok (.iload_n 3, 1) := by decide +kernel
theorem dL_sews_94 : decode cL_sews 94 = .ok (.dup2, 1) := by decide +kernel
theorem dL_sews_95 : decode cL_sews 95 = .ok (.iaload, 1) := by decide +kernel
theorem dL_sews_96 : decode cL_sews 96 = .ok (.iload 14, 2) := by decide +kernel
theorem dL_sews_98 : decode cL_sews 98 = .ok (.ifCond .eq 8, 3) := by decide +kernel
theorem dL_sews_101 : decode cL_sews 101 = .ok (.iload 12, 2) := by decide +kernel
theorem dL_sews_103 : decode cL_sews 103 = .ok (.goto 4, 3) := by decide +kernel
theorem dL_sews_106 : decode cL_sews 106 = .ok (.iconst 0, 1) := by decide +kernel
theorem dL_sews_107 : decode cL_sews 107 = .ok (.isub, 1) := by decide +kernel
theorem dL_sews_108 : decode cL_sews 108 = .ok (.iastore, 1) := by decide +kernel
theorem dL_sews_109 : decode cL_sews 109 = .ok (.iload 14, 2) := by decide +kernel
theorem dL_sews_111 : decode cL_sews 111 = .ok (.ifCond .eq 44, 3) := by decide +kernel
theorem dL_sews_114 : decode cL_sews 114 = .ok (.iload 13, 2) := by decide +kernel
theorem dL_sews_116 : decode cL_sews 116 = .ok (.ifCond .lt 35, 3) := by decide +kernel
theorem dL_sews_119 : decode cL_sews 119 = .ok (.iload 13, 2) := by decide +kernel
theorem dL_sews_121 : decode cL_sews 121 = .ok (.iload 6, 2) := by decide +kernel
theorem dL_sews_123 : decode cL_sews 123 = .ok (.if_icmp .gt 28, 3) := by decide +kernel
theorem dL_sews_126 : decode cL_sews 126 = .ok (.aload_n 0, 1) := by decide +kernel
theorem dL_sews_127 : decode cL_sews 127 = .ok (.iload_n 3, 1) := by decide +kernel
theorem dL_sews_128 : decode cL_sews 128 = .ok (.invokestatic 151, 3) := by decide +kernel
theorem dL_sews_131 : decode cL_sews 131 = .ok (.iload 10, 2) := by decide +kernel
theorem dL_sews_133 : decode cL_sews 133 = .ok (.if_icmp .gt 18, 3) := by decide +kernel
theorem dL_sews_136 : decode cL_sews 136 = .ok (.iload 13, 2) := by decide +kernel
theorem dL_sews_138 : decode cL_sews 138 = .ok (.aload_n 0, 1) := by decide +kernel
theorem dL_sews_139 : decode cL_sews 139 = .ok (.iload_n 3, 1) := by decide +kernel
theorem dL_sews_140 : decode cL_sews 140 = .ok (.iconst 0, 1) := by decide +kernel
theorem dL_sews_141 : decode cL_sews 141 = .ok (.invokestatic 149, 3) := by decide +kernel
theorem dL_sews_144 : decode cL_sews 144 = .ok (.if_icmp .ne 7, 3) := by decide +kernel
theorem dL_sews_147 : decode cL_sews 147 = .ok (.iconst 1, 1) := by decide +kernel
theorem dL_sews_148 : decode cL_sews 148 = .ok (.goto 19, 3) := by decide +kernel
theorem dL_sews_151 : decode cL_sews 151 = .ok (.iconst 0, 1) := by decide +kernel
theorem dL_sews_152 : decode cL_sews 152 = .ok (.goto 15, 3) := by decide +kernel
theorem dL_sews_155 : decode cL_sews 155 = .ok (.iload 13, 2) := by decide +kernel
theorem dL_sews_157 : decode cL_sews 157 = .ok (.ldc 32, 2) := by decide +kernel
theorem dL_sews_159 : decode cL_sews 159 = .ok (.if_icmp .ne 7, 3) := by decide +kernel
theorem dL_sews_162 : decode cL_sews 162 = .ok (.iconst 1, 1) := by decide +kernel
theorem dL_sews_163 : decode cL_sews 163 = .ok (.goto 4, 3) := by decide +kernel
theorem dL_sews_166 : decode cL_sews 166 = .ok (.iconst 0, 1) := by decide +kernel
theorem dL_sews_167 : decode cL_sews 167 = .ok (.ireturn, 1) := by decide +kernel
theorem dL_sews_168 : decode cL_sews 168 = .ok (.iload 5, 2) := by decide +kernel
theorem dL_sews_170 : decode cL_sews 170 = .ok (.iconst 5, 1) := by decide +kernel
theorem dL_sews_171 : decode cL_sews 171 = .ok (.invokestatic 125, 3) := by decide +kernel
theorem dL_sews_174 : decode cL_sews 174 = .ok (.istore 12, 2) := by decide +kernel
theorem dL_sews_176 : decode cL_sews 176 = .ok (.aload_n 0, 1) := by decide +kernel
theorem dL_sews_177 : decode cL_sews 177 = .ok (.iload_n 3, 1) := by decide +kernel
theorem dL_sews_178 : decode cL_sews 178 = .ok (.iload 12, 2) := by decide +kernel
