set_option maxRecDepth 20000 in
theorem ggL_law_L_acts_q6_1 : GoodIn wsL_law ([.code yL_isBook cL_isBook 13 (some .boolean), .constant RL 166 (100000), .methodLink RL 151 yL_swelling, .static yL_swelling] : List Cond) := goodIn_r _ [200, 201, 202, 203] (by decide +kernel) (by decide +kernel)
set_option maxRecDepth 20000 in
theorem ggL_law_L_acts_q6 : GoodIn wsL_law (wsL_acts_r7) := goodIn_app ggL_law_L_acts_q6_0 ggL_law_L_acts_q6_1
set_option maxRecDepth 20000 in
theorem ggL_law_L_acts_q7 : GoodIn wsL_law (wsL_acts_r8) := goodIn_r _ [204, 205, 206, 207, 208, 209, 210, 211, 212, 213, 214, 215, 216, 217, 218, 219, 220, 221, 222, 223, 224, 225, 226, 227] (by decide +kernel) (by decide +kernel)
set_option maxRecDepth 20000 in
theorem ggL_law_L_acts_q8 : GoodIn wsL_law (wsL_acts_r9) := goodIn_r _ [228, 229, 230, 231, 232, 233, 234, 235, 236, 237, 238, 239, 240, 241, 242, 243, 244, 245, 246, 247, 248, 249, 250, 251] (by decide +kernel) (by decide +kernel)
set_option maxRecDepth 20000 in
theorem ggL_law_L_acts_q9 : GoodIn wsL_law (wsL_acts_r10) := goodIn_r _ [252, 253, 254, 255, 256, 257, 258, 259, 260, 261, 262, 263, 264, 265, 266, 267, 268, 269, 270, 271, 272, 273, 274, 275] (by decide +kernel) (by decide +kernel)
set_option maxRecDepth 20000 in
theorem ggL_law_L_acts_q10 : GoodIn wsL_law (wsL_acts_r11) := goodIn_r _ [276, 277, 278, 279, 280, 281, 282, 283, 284, 285, 286, 287, 288, 289, 290, 291, 292, 293, 294, 295, 296, 297, 298, 299] (by decide +kernel) (by decide +kernel)
set_option maxRecDepth 20000 in
theorem ggL_law_L_acts_q11_0 : GoodIn wsL_law ([.methodLink RL 200 yL_paints, .static yL_paints, .code yL_paints cL_paints 12 (some .boolean), .methodLink RL 121 yL_coloured, .static yL_coloured] : List Cond) := goodIn_r _ [303, 304, 305, 29, 30] (by decide +kernel) (by decide +kernel)
set_option maxRecDepth 20000 in
theorem ggL_law_L_acts_q11_1 : GoodIn wsL_law ([.code yL_coloured cL_coloured 5 (some .int), .methodLink RL 116 yL_cellAt, .static yL_cellAt, .codeWith yL_cellAt cL_cellAt 5 (some .int) [(0, 7, 8, 16), (0, 7, 13, 19)], .methodLink RL 33 yX7_cellAt, .instanceMethod yX7_cellAt, .selects RX7 yX7_cellAt yX7_cellAt, .code yX7_cellAt cX7_cellAt 5 (some .int), .fieldLink RX7 12 "MarbleBench" "bath" "LMarbleBench$Bath;", .methodLink RL 128 yL_drop, .static yL_drop, .codeWith yL_drop cL_drop 6 (some .int) [(0, 9, 10, 16), (0, 9, 15, 19)], .methodLink RL 10 yX7_drop, .instanceMethod yX7_drop, .selects RX7 yX7_drop yX7_drop, .code yX7_drop cX7_drop 5 (some .int), .methodLink RX7 49 yX0_spread, .instanceMethod yX0_spread, .selects RX0 yX0_spread yX0_spread] : List Cond) := goodIn_r _ [32, 33, 34, 35, 40, 41, 42, 43, 13, 306, 307, 308, 309, 310, 311, 312, 313, 314, 315] (by decide +kernel) (by decide +kernel)
set_option maxRecDepth 20000 in
theorem ggL_law_L_acts_q11 : GoodIn wsL_law (wsL_acts_r12) := goodIn_app ggL_law_L_acts_q11_0 ggL_law_L_acts_q11_1
set_option maxRecDepth 20000 in
theorem ggL_law_L_acts_q12 : GoodIn wsL_law (wsL_acts_r13) := goodIn_r _ [12, 316, 26, 24, 25, 317, 318, 319, 320, 321, 322, 323, 324, 325, 326, 327, 328, 329, 330, 331, 332, 333, 334, 27] (by decide +kernel) (by decide +kernel)
set_option maxRecDepth 20000 in
theorem ggL_law_L_acts_q13 : GoodIn wsL_law (wsL_acts_r14) := goodIn_r _ [28, 335, 336, 337, 338, 339, 340, 341, 342, 343, 344, 345, 346, 15, 347, 348, 349, 350, 351, 352, 353, 354, 355, 356] (by decide +kernel) (by decide +kernel)
set_option maxRecDepth 20000 in
theorem ggL_law_L_acts_q14 : GoodIn wsL_law (wsL_acts_r15) := goodIn_r _ [357, 358, 359, 360, 361, 362, 363, 364, 365, 366, 367, 368, 369, 370, 371, 372, 373, 374, 375, 376, 377, 378, 379, 380] (by decide +kernel) (by decide +kernel)
set_option maxRecDepth 20000 in
theorem ggL_law_L_acts_q15 : GoodIn wsL_law (wsL_acts_r16) := goodIn_r _ [381, 382, 383, 384, 385, 386, 387, 388, 389, 390, 391, 392, 393, 394, 395, 396, 397, 398, 399, 400, 401, 402, 403, 404] (by decide +kernel) (by decide +kernel)
set_option maxRecDepth 20000 in
theorem ggL_law_L_acts_q16_0 : GoodIn wsL_law ([.methodLink RX7 102 yX7_rowsOf, .static yX7_rowsOf, .code yX7_rowsOf cX7_rowsOf 1 (some .int), .methodLink RX7 109 yX7_unfoldedPlace, .static yX7_unfoldedPlace, .code yX7_unfoldedPlace cX7_unfoldedPlace 4 (some .int), .methodLink RX7 105 yX7_foldedPage, .static yX7_foldedPage, .code yX7_foldedPage cX7_foldedPage 10 (some .int), .methodLink RL 146 yL_pageAt, .static yL_pageAt, .codeWith yL_pageAt cL_pageAt 6 (some .int) [(0, 9, 10, 19)], .methodLink RL 44 yX7_pageAt, .instanceMethod yX7_pageAt, .selects RX7 yX7_pageAt yX7_pageAt, .code yX7_pageAt cX7_pageAt 5 (some .int), .methodLink RL 208 yL_sews, .static yL_sews] : List Cond) := goodIn_r _ [405, 406, 407, 408, 409, 410, 411, 412, 413, 414, 415, 416, 417, 418, 419, 420, 421, 422] (by decide +kernel) (by decide +kernel)
set_option maxRecDepth 20000 in
theorem ggL_law_L_acts_q16_1 : GoodIn wsL_law ([.code yL_sews cL_sews 16 (some .boolean), .methodLink RL 154 yL_unsew, .static yL_unsew, .codeWith yL_unsew cL_unsew 4 (some .int) [(0, 6, 7, 16), (0, 6, 11, 19), (0, 6, 15, 30)], .methodLink RL 58 yX7_unsew, .instanceMethod yX7_unsew] : List Cond) := goodIn_r _ [423, 424, 425, 426, 427, 428] (by decide +kernel) (by decide +kernel)
set_option maxRecDepth 20000 in
theorem ggL_law_L_acts_q16 : GoodIn wsL_law (wsL_acts_r17) := goodIn_app ggL_law_L_acts_q16_0 ggL_law_L_acts_q16_1
set_option maxRecDepth 20000 in
theorem ggL_law_L_acts_q17 : GoodIn wsL_law (wsL_acts_r18) := goodIn_r _ [429, 430, 431, 432, 433, 434, 435, 436, 437, 438, 439, 440, 441, 442, 443, 444, 445, 446, 447, 448, 449, 450, 451, 452] (by decide +kernel) (by decide +kernel)
set_option maxRecDepth 20000 in
theorem ggL_law_L_acts_q18 : GoodIn wsL_law (wsL_acts_r19) := goodIn_r _ [453, 454, 455, 456, 457, 458, 459, 460, 461, 462, 463, 464, 465, 466, 467, 468, 469, 470, 471, 472, 473, 474, 475, 476] (by decide +kernel) (by decide +kernel)
set_option maxRecDepth 20000 in
theorem ggL_law_L_acts_q19_0 : GoodIn wsL_law ([.static yL_pares, .code yL_pares cL_pares 13 (some .boolean), .methodLink RL 173 yL_pare, .static yL_pare, .codeWith yL_pare cL_pare 8 (some .int) [(0, 13, 14, 16), (0, 13, 19, 19), (0, 13, 24, 30)], .methodLink RL 90 yX7_pare, .instanceMethod yX7_pare, .selects RX7 yX7_pare yX7_pare, .code yX7_pare cX7_pare 9 (some .int), .methodLink RX7 198 yX5_thinnest, .instanceMethod yX5_thinnest, .selects RX5 yX5_thinnest yX5_thinnest, .code yX5_thinnest cX5_thinnest 8 (some .int), .methodLink RX5 19 Lib.Math.min.name, .methodLink RX7 201 yX5_thin, .instanceMethod yX5_thin, .selects RX5 yX5_thin yX5_thin, .code yX5_thin cX5_thin 8 none, .methodLink RL 217 yL_repairs, .static yL_repairs] : List Cond) := goodIn_r _ [477, 478, 479, 480, 481, 482, 483, 484, 485, 486, 487, 488, 489, 490, 491, 492, 493, 494, 495, 496] (by decide +kernel) (by decide +kernel)
set_option maxRecDepth 20000 in
theorem ggL_law_L_acts_q19_1 : GoodIn wsL_law ([.code yL_repairs cL_repairs 8 (some .boolean), .methodLink RL 176 yL_repair, .static yL_repair, .codeWith yL_repair cL_repair 4 (some .int) [(0, 6, 7, 16), (0, 6, 11, 19), (0, 6, 15, 30)]] : List Cond) := goodIn_r _ [497, 498, 499, 500] (by decide +kernel) (by decide +kernel)
set_option maxRecDepth 20000 in
theorem ggL_law_L_acts_q19 : GoodIn wsL_law (wsL_acts_r20) := goodIn_app ggL_law_L_acts_q19_0 ggL_law_L_acts_q19_1
set_option maxRecDepth 20000 in
theorem ggL_law_L_acts_q20 : GoodIn wsL_law (wsL_acts_r21) := goodIn_r _ [501, 502, 503, 504, 505, 506, 507, 508, 509, 510, 511, 512, 513, 514, 515, 516, 517, 518, 519, 520, 521, 522, 523, 524] (by decide +kernel) (by decide +kernel)
set_option maxRecDepth 20000 in
theorem ggL_law_L_acts_q21 : GoodIn wsL_law (wsL_acts_r22) := goodIn_r _ [525, 526, 527, 528, 529, 530, 531, 532, 533, 534, 535, 536, 537, 538, 539, 540, 541, 542, 543, 544, 545, 546, 547, 548] (by decide +kernel) (by decide +kernel)
set_option maxRecDepth 20000 in
theorem ggL_law_L_acts_q22 : GoodIn wsL_law (wsL_acts_r23) := goodIn_r _ [549, 550, 551, 552, 553, 554, 555, 556] (by decide +kernel) (by decide +kernel)
set_option maxRecDepth 20000 in
theorem ggL_law_L_acts_q23 : GoodIn wsL_law (wsX70) := goodIn_r _ [557, 558, 559, 560, 561, 562, 563] (by decide +kernel) (by decide +kernel)
set_option maxRecDepth 20000 in
theorem ggL_law_L_acts_q24 : GoodIn wsL_law (wsX50) := goodIn_r _ [569] (by decide +kernel) (by decide +kernel)
set_option maxRecDepth 20000 in
theorem ggL_law_L_acts_q25 : GoodIn wsL_law (wsX10) := goodIn_r _ [570, 571, 572, 573, 574, 575, 576] (by decide +kernel) (by decide +kernel)
set_option maxRecDepth 20000 in
theorem ggL_law_L_acts_q26 : GoodIn wsL_law (wsX30) := goodIn_r _ [577, 578] (by decide +kernel) (by decide +kernel)
set_option maxRecDepth 20000 in
theorem ggL_law_L_acts_q27 : GoodIn wsL_law (wsX60) := goodIn_r _ [579, 580, 581, 582] (by decide +kernel) (by decide +kernel)
set_option maxRecDepth 20000 in
theorem ggL_law_L_acts_q28 : GoodIn wsL_law (wsX40) := goodIn_r _ [583, 584, 585, 586, 587, 588, 589, 590, 591, 592] (by decide +kernel) (by decide +kernel)
set_option maxRecDepth 20000 in
theorem ggL_law_L_acts_q29 : GoodIn wsL_law (wsX00) := goodIn_r _ [564, 565, 566, 567, 568] (by decide +kernel) (by decide +kernel)
set_option maxRecDepth 20000 in
theorem ggL_law_L_acts_q30 : GoodIn wsL_law (wsX20) := goodIn_r _ [593] (by decide +kernel) (by decide +kernel)
set_option maxRecDepth 20000 in
theorem ggL_law_L_acts : GoodIn wsL_law wsL_acts := goodIn_ca (goodIn_ca (goodIn_ca (goodIn_ca (goodIn_ca (goodIn_ca (goodIn_ca (goodIn_ca (goodIn_ca (goodIn_ca (goodIn_ca (goodIn_ca ggL_law_L_acts_q0 (goodIn_app ggL_law_L_acts_q1 (goodIn_app ggL_law_L_acts_q2 (goodIn_app ggL_law_L_acts_q3 (goodIn_app ggL_law_L_acts_q4 (goodIn_app ggL_law_L_acts_q5 (goodIn_app ggL_law_L_acts_q6 (goodIn_app ggL_law_L_acts_q7 (goodIn_app ggL_law_L_acts_q8 (goodIn_app ggL_law_L_acts_q9 (goodIn_app ggL_law_L_acts_q10 (goodIn_app ggL_law_L_acts_q11 (goodIn_app ggL_law_L_acts_q12 (goodIn_app ggL_law_L_acts_q13 (goodIn_app ggL_law_L_acts_q14 (goodIn_app ggL_law_L_acts_q15 (goodIn_app ggL_law_L_acts_q16 (goodIn_app ggL_law_L_acts_q17 (goodIn_app ggL_law_L_acts_q18 (goodIn_app ggL_law_L_acts_q19 (goodIn_app ggL_law_L_acts_q20 (goodIn_app ggL_law_L_acts_q21 ggL_law_L_acts_q22)))))))))))))))))))))) ggL_law_L_acts_q23) ggL_law_L_acts_q24) ggL_law_L_acts_q25) ggL_law_L_acts_q26) ggL_law_L_acts_q27) ggL_law_L_acts_q28) ggL_law_L_acts_q29) ggL_law_L_acts_q30) (goodIn_sub (fun _ h => List.mem_append_left _ (List.mem_append_right _ h)) (by decide +kernel))) (goodIn_sub (fun _ h => List.mem_append_right _ h) (by decide +kernel))) (goodIn_sub (fun _ h => List.mem_append_left _ (List.mem_append_left _ (List.mem_append_right _ h))) (by decide +kernel))
set_option maxRecDepth 20000 in
theorem gL_law_L_acts : GoodIn wsL_law (va_wsS RL 230 yL_acts wsL_acts) := goodIn_app (goodIn_of _ (by decide +kernel)) ggL_law_L_acts
set_option maxRecDepth 20000 in
theorem ggL_law_L_isBook_q0 : GoodIn wsL_law (.code yL_isBook cL_isBook 13 (some .boolean) :: wsL_isBook_r1) := goodIn_r _ [200, 39, 38, 201, 202, 203, 31, 204, 36, 205, 206, 207, 2, 208, 181, 182, 183, 184, 56, 57, 17, 50, 51, 52, 209] (by decide +kernel) (by decide +kernel)
set_option maxRecDepth 20000 in
theorem ggL_law_L_isBook_q1 : GoodIn wsL_law (wsL_isBook_r2) := goodIn_r _ [210, 211, 150, 212, 172, 213, 214, 215, 216, 173, 217, 218, 219, 220, 221, 222, 223, 224, 169, 225, 226, 227, 37, 228] (by decide +kernel) (by decide +kernel)
set_option maxRecDepth 20000 in
theorem ggL_law_L_isBook_q2 : GoodIn wsL_law (wsL_isBook_r3) := goodIn_r _ [229, 230, 231, 58, 59, 60, 61, 62, 232, 233, 234, 235, 236, 170, 237, 238, 239, 240, 241, 242, 243, 244, 245, 246] (by decide +kernel) (by decide +kernel)
set_option maxRecDepth 20000 in
theorem ggL_law_L_isBook_q3 : GoodIn wsL_law (wsL_isBook_r4) := goodIn_r _ [247, 53, 54, 55, 248, 249, 250, 251, 252, 253, 254, 255, 256, 257, 258, 259, 260, 261, 262, 263, 264, 265, 266, 134] (by decide +kernel) (by decide +kernel)
set_option maxRecDepth 20000 in
theorem ggL_law_L_isBook_q4 : GoodIn wsL_law (wsL_isBook_r5) := goodIn_r _ [267, 152, 268, 269, 270, 271, 272, 273, 274, 153, 275, 276, 277, 278, 147, 279, 280, 281, 282, 283, 284, 285, 286, 287] (by decide +kernel) (by decide +kernel)
set_option maxRecDepth 20000 in
theorem ggL_law_L_isBook_q5 : GoodIn wsL_law (wsL_isBook_r6) := goodIn_r _ [288, 289, 290, 291, 292, 293, 294, 295, 296, 297, 298, 151, 299] (by decide +kernel) (by decide +kernel)
