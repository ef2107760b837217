set_option maxRecDepth 20000 in
theorem ggL_law_X7_init : GoodIn wsL_law wsX7_init := goodIn_r _ [6, 7, 8, 9, 10, 11, 12, 13, 14, 15, 16, 17, 18, 19, 20, 21, 22, 23, 3, 24, 25, 26, 27, 28, 564, 565, 566, 567, 568, 557, 558, 559, 560, 561, 562, 563] (by decide +kernel) (by decide +kernel)
set_option maxRecDepth 20000 in
theorem gL_law_X7_init : GoodIn wsL_law (wsX7_init) := ggL_law_X7_init
set_option maxRecDepth 20000 in
theorem ggL_law_L_coloured_q0 : GoodIn wsL_law (.code yL_coloured cL_coloured 5 (some .int) :: wsL_coloured_r1) := goodIn_r _ [32, 33, 34, 31, 35, 36, 37, 38, 39, 40, 41, 42, 2, 43, 13, 44, 45, 46, 47, 48, 49, 50, 51, 52, 53] (by decide +kernel) (by decide +kernel)
set_option maxRecDepth 20000 in
theorem ggL_law_L_coloured_q1 : GoodIn wsL_law (wsL_coloured_r2) := goodIn_r _ [54, 55, 56, 57, 58, 59, 60, 61, 62, 63, 64, 65] (by decide +kernel) (by decide +kernel)
set_option maxRecDepth 20000 in
theorem ggL_law_L_coloured_q2 : GoodIn wsL_law (wsX70) := goodIn_r _ [557, 558, 559, 560, 561, 562, 563] (by decide +kernel) (by decide +kernel)
set_option maxRecDepth 20000 in
theorem ggL_law_L_coloured_q3 : GoodIn wsL_law (wsX00) := goodIn_r _ [564, 565, 566, 567, 568] (by decide +kernel) (by decide +kernel)
set_option maxRecDepth 20000 in
theorem ggL_law_L_coloured : GoodIn wsL_law wsL_coloured := goodIn_ca (goodIn_ca (goodIn_ca (goodIn_ca (goodIn_ca ggL_law_L_coloured_q0 ggL_law_L_coloured_q1) ggL_law_L_coloured_q2) ggL_law_L_coloured_q3) (goodIn_sub (fun _ h => List.mem_append_left _ (List.mem_append_left _ (List.mem_append_right _ h))) (by decide +kernel))) (goodIn_sub (fun _ h => List.mem_append_left _ (List.mem_append_right _ h)) (by decide +kernel))
set_option maxRecDepth 20000 in
theorem gL_law_L_coloured : GoodIn wsL_law (va_wsS RL 121 yL_coloured wsL_coloured) := goodIn_app (goodIn_of _ (by decide +kernel)) ggL_law_L_coloured
set_option maxRecDepth 20000 in
theorem ggL_law_L_at : GoodIn wsL_law wsL_at := goodIn_r _ [68, 69, 70] (by decide +kernel) (by decide +kernel)
set_option maxRecDepth 20000 in
theorem gL_law_L_at : GoodIn wsL_law (va_wsS RL 226 yL_at wsL_at) := goodIn_app (goodIn_of _ (by decide +kernel)) ggL_law_L_at
set_option maxRecDepth 20000 in
theorem ggL_law_L_begins_q0 : GoodIn wsL_law (.code yL_begins cL_begins 13 (some .boolean) :: wsL_begins_r1) := goodIn_r _ [73, 74, 75, 76, 31, 77, 78, 79, 80, 81, 37, 82, 39, 83, 84, 85, 2, 86, 87, 19, 18, 88, 89, 50, 51] (by decide +kernel) (by decide +kernel)
set_option maxRecDepth 20000 in
theorem ggL_law_L_begins_q1 : GoodIn wsL_law (wsL_begins_r2) := goodIn_r _ [52, 58, 59, 60, 61, 62, 90, 91, 92, 93, 94, 95, 96, 97, 98, 8, 9, 3, 99, 100, 101, 102, 36, 38] (by decide +kernel) (by decide +kernel)
set_option maxRecDepth 20000 in
theorem ggL_law_L_begins_q2 : GoodIn wsL_law (wsL_begins_r3) := goodIn_r _ [103, 104, 105, 106, 107, 108, 109, 110, 56, 57, 44, 45, 46, 47, 48, 49, 53, 54, 55, 63, 64, 65, 111, 112] (by decide +kernel) (by decide +kernel)
set_option maxRecDepth 20000 in
theorem ggL_law_L_begins_q3 : GoodIn wsL_law (wsL_begins_r4) := goodIn_r _ [113, 114, 115, 116, 117, 118, 119, 120, 121, 122, 123, 124, 125, 126, 127, 128, 129, 130, 131, 132, 17, 16, 133, 134] (by decide +kernel) (by decide +kernel)
set_option maxRecDepth 20000 in
theorem ggL_law_L_begins_q4 : GoodIn wsL_law (wsL_begins_r5) := goodIn_r _ [135, 136, 137, 138, 139, 140, 141, 142, 143, 144, 145, 146, 147, 148, 149, 150, 151, 152, 153, 154, 155, 156, 157, 158] (by decide +kernel) (by decide +kernel)
set_option maxRecDepth 20000 in
theorem ggL_law_L_begins_q5 : GoodIn wsL_law (wsL_begins_r6) := goodIn_r _ [159, 160, 161, 162, 163, 164, 165, 166, 167, 168, 169, 170, 171, 172, 173, 174, 175, 176, 177, 178, 179, 180, 181, 182] (by decide +kernel) (by decide +kernel)
set_option maxRecDepth 20000 in
theorem ggL_law_L_begins_q6_0 : GoodIn wsL_law ([.selects RX7 yX7_bookOf yX7_bookOf, .code yX7_bookOf cX7_bookOf 3 (some (.object "MarbleBench$Book")), .methodLink RX7 245 yX6_firstByEnds, .instanceMethod yX6_firstByEnds, .selects RX6 yX6_firstByEnds yX6_firstByEnds, .code yX6_firstByEnds cX6_firstByEnds 5 (some .int), .fieldLink RX6 21 "MarbleBench$Speakers" "number" "I", .methodLink RX6 29 yX6_weightIn, .instanceMethod yX6_weightIn, .selects RX6 yX6_weightIn yX6_weightIn, .code yX6_weightIn cX6_weightIn 4 (some .int), .methodLink RX7 248 yX6_lastByEnds, .instanceMethod yX6_lastByEnds, .selects RX6 yX6_lastByEnds yX6_lastByEnds, .code yX6_lastByEnds cX6_lastByEnds 5 (some .int), .methodLink RL 192 yL_isBook, .static yL_isBook] : List Cond) := goodIn_r _ [183, 184, 185, 186, 187, 188, 189, 190, 191, 192, 193, 194, 195, 196, 197, 198, 199] (by decide +kernel) (by decide +kernel)
set_option maxRecDepth 20000 in
theorem ggL_law_L_begins_q6_1 : GoodIn wsL_law ([.code yL_isBook cL_isBook 13 (some .boolean), .constant RL 166 (100000), .methodLink RL 151 yL_swelling, .static yL_swelling, .codeWith yL_swelling cL_swelling 3 (some .int) [(0, 5, 6, 16)], .methodLink RL 74 yX7_swelling, .instanceMethod yX7_swelling] : List Cond) := goodIn_r _ [200, 201, 202, 203, 204, 205, 206] (by decide +kernel) (by decide +kernel)
set_option maxRecDepth 20000 in
theorem ggL_law_L_begins_q6 : GoodIn wsL_law (wsL_begins_r7) := goodIn_app ggL_law_L_begins_q6_0 ggL_law_L_begins_q6_1
set_option maxRecDepth 20000 in
theorem ggL_law_L_begins_q7 : GoodIn wsL_law (wsL_begins_r8) := goodIn_r _ [207, 208, 209, 210, 211, 212, 213, 214, 215, 216, 217, 218, 219, 220, 221, 222, 223, 224, 225, 226, 227, 228, 229, 230] (by decide +kernel) (by decide +kernel)
set_option maxRecDepth 20000 in
theorem ggL_law_L_begins_q8 : GoodIn wsL_law (wsL_begins_r9) := goodIn_r _ [231, 232, 233, 234, 235, 236, 237, 238, 239, 240, 241, 242, 243, 244, 245, 246, 247, 248, 249, 250, 251, 252, 253, 254] (by decide +kernel) (by decide +kernel)
set_option maxRecDepth 20000 in
theorem ggL_law_L_begins_q9 : GoodIn wsL_law (wsL_begins_r10) := goodIn_r _ [255, 256, 257, 258, 259, 260, 261, 262, 263, 264, 265, 266, 267, 268, 269, 270, 271, 272, 273, 274, 275, 276, 277, 278] (by decide +kernel) (by decide +kernel)
set_option maxRecDepth 20000 in
theorem ggL_law_L_begins_q10 : GoodIn wsL_law (wsL_begins_r11) := goodIn_r _ [279, 280, 281, 282, 283, 284, 285, 286, 287, 288, 289, 290, 291, 292, 293, 294, 295, 296, 297, 298, 299] (by decide +kernel) (by decide +kernel)
set_option maxRecDepth 20000 in
theorem ggL_law_L_begins_q11 : GoodIn wsL_law (wsX70) := goodIn_r _ [557, 558, 559, 560, 561, 562, 563] (by decide +kernel) (by decide +kernel)
set_option maxRecDepth 20000 in
theorem ggL_law_L_begins_q12 : GoodIn wsL_law (wsX50) := goodIn_r _ [569] (by decide +kernel) (by decide +kernel)
set_option maxRecDepth 20000 in
theorem ggL_law_L_begins_q13 : GoodIn wsL_law (wsX10) := goodIn_r _ [570, 571, 572, 573, 574, 575, 576] (by decide +kernel) (by decide +kernel)
set_option maxRecDepth 20000 in
theorem ggL_law_L_begins_q14 : GoodIn wsL_law (wsX30) := goodIn_r _ [577, 578] (by decide +kernel) (by decide +kernel)
set_option maxRecDepth 20000 in
theorem ggL_law_L_begins_q15 : GoodIn wsL_law (wsX60) := goodIn_r _ [579, 580, 581, 582] (by decide +kernel) (by decide +kernel)
set_option maxRecDepth 20000 in
theorem ggL_law_L_begins_q16 : GoodIn wsL_law (wsX40) := goodIn_r _ [583, 584, 585, 586, 587, 588, 589, 590, 591, 592] (by decide +kernel) (by decide +kernel)
set_option maxRecDepth 20000 in
theorem ggL_law_L_begins : GoodIn wsL_law wsL_begins := goodIn_ca (goodIn_ca (goodIn_ca (goodIn_ca (goodIn_ca (goodIn_ca (goodIn_ca (goodIn_ca (goodIn_ca (goodIn_ca ggL_law_L_begins_q0 (goodIn_app ggL_law_L_begins_q1 (goodIn_app ggL_law_L_begins_q2 (goodIn_app ggL_law_L_begins_q3 (goodIn_app ggL_law_L_begins_q4 (goodIn_app ggL_law_L_begins_q5 (goodIn_app ggL_law_L_begins_q6 (goodIn_app ggL_law_L_begins_q7 (goodIn_app ggL_law_L_begins_q8 (goodIn_app ggL_law_L_begins_q9 ggL_law_L_begins_q10)))))))))) ggL_law_L_begins_q11) ggL_law_L_begins_q12) ggL_law_L_begins_q13) ggL_law_L_begins_q14) ggL_law_L_begins_q15) ggL_law_L_begins_q16) (goodIn_sub (fun _ h => List.mem_append_left _ (List.mem_append_right _ h)) (by decide +kernel))) (goodIn_sub (fun _ h => List.mem_append_right _ h) (by decide +kernel))) (goodIn_sub (fun _ h => List.mem_append_left _ (List.mem_append_left _ (List.mem_append_right _ h))) (by decide +kernel))
set_option maxRecDepth 20000 in
theorem gL_law_L_begins : GoodIn wsL_law (va_wsS RL 196 yL_begins wsL_begins) := goodIn_app (goodIn_of _ (by decide +kernel)) ggL_law_L_begins
set_option maxRecDepth 20000 in
theorem ggL_law_L_acts_q0_0 : GoodIn wsL_law ([.code yL_acts cL_acts 11 (some .boolean), .methodLink RL 125 yL_low, .static yL_low, .initialized RL, .code yL_low cL_low 2 (some .int), .constant RL 9 (2147483647), .methodLink RL 196 yL_begins, .static yL_begins] : List Cond) := goodIn_r _ [302, 75, 76, 31, 77, 78, 71, 72] (by decide +kernel) (by decide +kernel)
set_option maxRecDepth 20000 in
theorem ggL_law_L_acts_q0_1 : GoodIn wsL_law ([.code yL_begins cL_begins 13 (some .boolean), .constant RL 32 (-1000003), .methodLink RL 187 yL_skin, .static yL_skin, .codeWith yL_skin cL_skin 3 (some .int) [(0, 5, 6, 19), (0, 5, 10, 30)], .classLink RL 19 "java/lang/IllegalArgumentException", .classLink RL 30 "java/lang/IllegalStateException", .constant RL 21 (-1000002), .methodLink RL 87 yX7_skin, .instanceMethod yX7_skin, .selects RX7 yX7_skin yX7_skin, .initialized RX7, .code yX7_skin cX7_skin 3 (some .int), .fieldLink RX7 189 "MarbleBench" "skinCount" "I", .fieldLink RX7 30 "MarbleBench" "skins" "[LMarbleBench$Skin;", .classLink RX7 28 RX5, .instantiable RX5 1] : List Cond) := goodIn_r _ [73, 74, 79, 80, 81, 37, 82, 39, 83, 84, 85, 2, 86, 87, 19, 18, 88] (by decide +kernel) (by decide +kernel)
set_option maxRecDepth 20000 in
theorem ggL_law_L_acts_q0 : GoodIn wsL_law (.code yL_acts cL_acts 11 (some .boolean) :: wsL_acts_r1) := goodIn_app ggL_law_L_acts_q0_0 ggL_law_L_acts_q0_1
set_option maxRecDepth 20000 in
theorem ggL_law_L_acts_q1 : GoodIn wsL_law (wsL_acts_r2) := goodIn_r _ [89, 50, 51, 52, 58, 59, 60, 61, 62, 90, 91, 92, 93, 94, 95, 96, 97, 98, 8, 9, 3, 99, 100, 101] (by decide +kernel) (by decide +kernel)
set_option maxRecDepth 20000 in
theorem ggL_law_L_acts_q2 : GoodIn wsL_law (wsL_acts_r3) := goodIn_r _ [102, 36, 38, 103, 104, 105, 106, 107, 108, 109, 110, 56, 57, 44, 45, 46, 47, 48, 49, 53, 54, 55, 63, 64] (by decide +kernel) (by decide +kernel)
set_option maxRecDepth 20000 in
theorem ggL_law_L_acts_q3 : GoodIn wsL_law (wsL_acts_r4) := goodIn_r _ [65, 111, 112, 113, 114, 115, 116, 117, 118, 119, 120, 121, 122, 123, 124, 125, 126, 127, 128, 129, 130, 131, 132, 17] (by decide +kernel) (by decide +kernel)
set_option maxRecDepth 20000 in
theorem ggL_law_L_acts_q4 : GoodIn wsL_law (wsL_acts_r5) := goodIn_r _ [16, 133, 134, 135, 136, 137, 138, 139, 140, 141, 142, 143, 144, 145, 146, 147, 148, 149, 150, 151, 152, 153, 154, 155] (by decide +kernel) (by decide +kernel)
set_option maxRecDepth 20000 in
theorem ggL_law_L_acts_q5 : GoodIn wsL_law (wsL_acts_r6) := goodIn_r _ [156, 157, 158, 159, 160, 161, 162, 163, 164, 165, 166, 167, 168, 169, 170, 171, 172, 173, 174, 175, 176, 177, 178, 179] (by decide +kernel) (by decide +kernel)
set_option maxRecDepth 20000 in
theorem ggL_law_L_acts_q6_0 : GoodIn wsL_law ([.code yX7_year cX7_year 5 (some .int), .methodLink RX7 118 yX7_bookOf, .instanceMethod yX7_bookOf, .selects RX7 yX7_bookOf yX7_bookOf, .code yX7_bookOf cX7_bookOf 3 (some (.object "MarbleBench$Book")), .methodLink RX7 245 yX6_firstByEnds, .instanceMethod yX6_firstByEnds, .selects RX6 yX6_firstByEnds yX6_firstByEnds, .code yX6_firstByEnds cX6_firstByEnds 5 (some .int), .fieldLink RX6 21 "MarbleBench$Speakers" "number" "I", .methodLink RX6 29 yX6_weightIn, .instanceMethod yX6_weightIn, .selects RX6 yX6_weightIn yX6_weightIn, .code yX6_weightIn cX6_weightIn 4 (some .int), .methodLink RX7 248 yX6_lastByEnds, .instanceMethod yX6_lastByEnds, .selects RX6 yX6_lastByEnds yX6_lastByEnds, .code yX6_lastByEnds cX6_lastByEnds 5 (some .int), .methodLink RL 192 yL_isBook, .static yL_isBook] : List Cond) := goodIn_r _ [180, 181, 182, 183, 184, 185, 186, 187, 188, 189, 190, 191, 192, 193, 194, 195, 196, 197, 198, 199] (by decide +kernel) (by decide +kernel)
