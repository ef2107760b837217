set_option maxRecDepth 20000 in
theorem ggL_law_L_isBook_q6 : GoodIn wsL_law (wsX10) := goodIn_r _ [570, 571, 572, 573, 574, 575, 576] (by decide +kernel) (by decide +kernel)
set_option maxRecDepth 20000 in
theorem ggL_law_L_isBook_q7 : GoodIn wsL_law (wsX70) := goodIn_r _ [557, 558, 559, 560, 561, 562, 563] (by decide +kernel) (by decide +kernel)
set_option maxRecDepth 20000 in
theorem ggL_law_L_isBook_q8 : GoodIn wsL_law (wsX40) := goodIn_r _ [583, 584, 585, 586, 587, 588, 589, 590, 591, 592] (by decide +kernel) (by decide +kernel)
set_option maxRecDepth 20000 in
theorem ggL_law_L_isBook : GoodIn wsL_law wsL_isBook := goodIn_ca (goodIn_ca (goodIn_ca (goodIn_ca (goodIn_ca (goodIn_ca ggL_law_L_isBook_q0 (goodIn_app ggL_law_L_isBook_q1 (goodIn_app ggL_law_L_isBook_q2 (goodIn_app ggL_law_L_isBook_q3 (goodIn_app ggL_law_L_isBook_q4 ggL_law_L_isBook_q5))))) ggL_law_L_isBook_q6) ggL_law_L_isBook_q7) ggL_law_L_isBook_q8) (goodIn_sub (fun _ h => List.mem_append_left _ (List.mem_append_left _ (List.mem_append_right _ h))) (by decide +kernel))) (goodIn_sub (fun _ h => List.mem_append_left _ (List.mem_append_right _ h)) (by decide +kernel))
set_option maxRecDepth 20000 in
theorem gL_law_L_isBook : GoodIn wsL_law (va_wsS RL 192 yL_isBook wsL_isBook) := goodIn_app (goodIn_of _ (by decide +kernel)) ggL_law_L_isBook
