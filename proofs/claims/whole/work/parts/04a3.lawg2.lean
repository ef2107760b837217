set_option maxRecDepth 20000 in
theorem gL_law_L_stitches : GoodIn wsL_law (va_wsS RL 166 yL_stitches wsL_stitches) := goodIn_app (goodIn_of _ (by decide +kernel)) ggL_law_L_stitches
set_option maxRecDepth 20000 in
theorem ggL_law_X8_stitches : GoodIn wsL_law wsX8_stitches := goodIn_r _ [472, 42, 49, 473, 474, 475, 5, 476, 40, 381, 382, 383, 384, 339, 105, 106, 107, 108, 109, 110, 111, 112, 389, 390, 391, 392, 50, 380, 393, 394, 395, 47, 48, 396, 397, 398, 399, 400, 401, 402, 403, 404, 405, 406, 407, 784, 785, 786, 787, 788, 789, 790, 791, 792, 793, 794, 795, 796, 797, 798, 799, 800, 801, 802, 803, 804, 805, 806, 807, 808, 809, 810, 811] (by decide +kernel) (by decide +kernel)
set_option maxRecDepth 20000 in
theorem gL_law_X8_stitches : GoodIn wsL_law (wsV RL 168 RX8 yX8_stitches wsX8_stitches) := goodIn_app (goodIn_of _ (by decide +kernel)) ggL_law_X8_stitches
set_option maxRecDepth 20000 in
theorem ggL_law_L_isHeld : GoodIn wsL_law wsL_isHeld := goodIn_ca (goodIn_r _ [479, 62, 480, 481, 482, 2, 483, 347, 348, 349, 350, 80, 81, 20, 74, 75, 76, 77, 78, 79, 484, 442, 443, 311, 444, 334, 445, 446, 447, 448, 330, 818, 819, 820, 821, 822, 823, 824, 831, 832, 833, 834, 835, 836, 837, 838, 839, 840, 777, 778, 779, 780, 781, 782, 783] (by decide +kernel) (by decide +kernel)) (goodIn_sub (fun _ h => List.mem_append_left _ (List.mem_append_left _ (List.mem_append_right _ h))) (by decide +kernel))
set_option maxRecDepth 20000 in
theorem gL_law_L_isHeld : GoodIn wsL_law (va_wsS RL 169 yL_isHeld wsL_isHeld) := goodIn_app (goodIn_of _ (by decide +kernel)) ggL_law_L_isHeld
set_option maxRecDepth 20000 in
theorem ggL_law_X8_isHeld : GoodIn wsL_law wsX8_isHeld := goodIn_r _ [488, 473, 474, 475, 5, 476, 40, 381, 382, 383, 384, 339, 105, 106, 107, 108, 109, 110, 111, 112, 389, 390, 391, 392, 49, 50, 380, 393, 394, 395, 47, 48, 396, 397, 398, 399, 400, 401, 402, 403, 404, 405, 406, 407, 457, 458, 459, 460, 42, 784, 785, 786, 787, 788, 789, 790, 791, 792, 793, 794, 795, 796, 797, 798, 799, 800, 801, 802, 803, 804, 805, 806, 807, 808, 809, 810, 811] (by decide +kernel) (by decide +kernel)
set_option maxRecDepth 20000 in
theorem gL_law_X8_isHeld : GoodIn wsL_law (wsV RL 171 RX8 yX8_isHeld wsX8_isHeld) := goodIn_app (goodIn_of _ (by decide +kernel)) ggL_law_X8_isHeld
set_option maxRecDepth 20000 in
theorem ggL_law_L_back : GoodIn wsL_law wsL_back := goodIn_ca (goodIn_ca (goodIn_r _ [491, 62, 63, 492, 493, 494, 2, 495, 347, 348, 349, 350, 80, 81, 20, 74, 75, 76, 82, 83, 84, 85, 86, 818, 819, 820, 821, 822, 823, 824, 777, 778, 779, 780, 781, 782, 783] (by decide +kernel) (by decide +kernel)) (goodIn_sub (fun _ h => List.mem_append_left _ (List.mem_append_left _ (List.mem_append_right _ h))) (by decide +kernel))) (goodIn_sub (fun _ h => List.mem_append_left _ (List.mem_append_right _ h)) (by decide +kernel))
set_option maxRecDepth 20000 in
theorem gL_law_L_back : GoodIn wsL_law (va_wsS RL 172 yL_back wsL_back) := goodIn_app (goodIn_of _ (by decide +kernel)) ggL_law_L_back
set_option maxRecDepth 20000 in
theorem ggL_law_X8_back : GoodIn wsL_law wsX8_back := goodIn_r _ [499, 46, 381, 382, 383, 5, 384, 339, 105, 106, 107, 108, 109, 110, 111, 112, 784, 785, 786, 787, 788, 789, 790, 791, 792, 793, 794, 795, 796, 797, 798, 799, 800, 801, 802, 803, 804, 805, 806, 807, 808, 809, 810, 811] (by decide +kernel) (by decide +kernel)
set_option maxRecDepth 20000 in
theorem gL_law_X8_back : GoodIn wsL_law (wsV RL 174 RX8 yX8_back wsX8_back) := goodIn_app (goodIn_of _ (by decide +kernel)) ggL_law_X8_back
set_option maxRecDepth 20000 in
theorem ggL_law_L_swelling : GoodIn wsL_law wsL_swelling := goodIn_ca (goodIn_r _ [502, 62, 503, 504, 505, 2, 506, 347, 348, 349, 350, 80, 81, 20, 74, 75, 76, 507, 508, 509, 311, 510, 333, 511, 512, 513, 514, 334, 515, 516, 517, 518, 445, 446, 447, 448, 330, 818, 819, 820, 821, 822, 823, 824, 777, 778, 779, 780, 781, 782, 783, 831, 832, 833, 834, 835, 836, 837, 838, 839, 840] (by decide +kernel) (by decide +kernel)) (goodIn_sub (fun _ h => List.mem_append_left _ (List.mem_append_left _ (List.mem_append_right _ h))) (by decide +kernel))
set_option maxRecDepth 20000 in
theorem gL_law_L_swelling : GoodIn wsL_law (va_wsS RL 175 yL_swelling wsL_swelling) := goodIn_app (goodIn_of _ (by decide +kernel)) ggL_law_L_swelling
set_option maxRecDepth 20000 in
theorem ggL_law_X8_swelling : GoodIn wsL_law wsX8_swelling := goodIn_r _ [522, 381, 382, 383, 5, 384, 339, 105, 106, 107, 108, 109, 110, 111, 112, 523, 524, 525, 526, 40, 49, 389, 390, 391, 392, 50, 380, 393, 394, 395, 47, 48, 396, 397, 398, 399, 400, 401, 402, 403, 404, 405, 406, 407, 784, 785, 786, 787, 788, 789, 790, 791, 792, 793, 794, 795, 796, 797, 798, 799, 800, 801, 802, 803, 804, 805, 806, 807, 808, 809, 810, 811] (by decide +kernel) (by decide +kernel)
set_option maxRecDepth 20000 in
theorem gL_law_X8_swelling : GoodIn wsL_law (wsV RL 178 RX8 yX8_swelling wsX8_swelling) := goodIn_app (goodIn_of _ (by decide +kernel)) ggL_law_X8_swelling
set_option maxRecDepth 20000 in
theorem ggL_law_L_strain : GoodIn wsL_law wsL_strain := goodIn_ca (goodIn_ca (goodIn_r _ [529, 62, 63, 530, 531, 532, 2, 533, 347, 348, 349, 350, 80, 81, 20, 74, 75, 76, 82, 83, 84, 85, 86, 534, 535, 536, 295, 537, 313, 538, 539, 517, 540, 314, 541, 542, 543, 544, 308, 507, 508, 509, 311, 510, 333, 511, 512, 513, 514, 334, 515, 516, 518, 445, 446, 447, 448, 330, 818, 819, 820, 821, 822, 823, 824, 777, 778, 779, 780, 781, 782, 783, 831, 832, 833, 834, 835, 836, 837, 838, 839, 840] (by decide +kernel) (by decide +kernel)) (goodIn_sub (fun _ h => List.mem_append_left _ (List.mem_append_left _ (List.mem_append_right _ h))) (by decide +kernel))) (goodIn_sub (fun _ h => List.mem_append_left _ (List.mem_append_right _ h)) (by decide +kernel))
set_option maxRecDepth 20000 in
theorem gL_law_L_strain : GoodIn wsL_law (va_wsS RL 179 yL_strain wsL_strain) := goodIn_app (goodIn_of _ (by decide +kernel)) ggL_law_L_strain
set_option maxRecDepth 20000 in
theorem ggL_law_X8_strain : GoodIn wsL_law wsX8_strain := goodIn_r _ [548, 381, 382, 383, 5, 384, 339, 105, 106, 107, 549, 550, 551, 552, 40, 41, 108, 109, 110, 111, 112, 553, 554, 555, 556, 43, 46, 523, 524, 525, 526, 49, 389, 390, 391, 392, 50, 380, 393, 394, 395, 47, 48, 396, 397, 398, 399, 400, 401, 402, 403, 404, 405, 406, 407, 784, 785, 786, 787, 788, 789, 790, 791, 792, 793, 794, 795, 796, 797, 798, 799, 800, 801, 802, 803, 804, 805, 806, 807, 808, 809, 810, 811] (by decide +kernel) (by decide +kernel)
set_option maxRecDepth 20000 in
theorem gL_law_X8_strain : GoodIn wsL_law (wsV RL 181 RX8 yX8_strain wsX8_strain) := goodIn_app (goodIn_of _ (by decide +kernel)) ggL_law_X8_strain
set_option maxRecDepth 20000 in
theorem ggL_law_L_worst : GoodIn wsL_law wsL_worst := goodIn_ca (goodIn_r _ [559, 62, 560, 561, 562, 2, 563, 347, 348, 349, 350, 80, 81, 20, 74, 75, 76, 564, 565, 566, 295, 567, 313, 568, 535, 536, 537, 538, 539, 517, 540, 314, 541, 542, 543, 544, 308, 777, 778, 779, 780, 781, 782, 783, 818, 819, 820, 821, 822, 823, 824] (by decide +kernel) (by decide +kernel)) (goodIn_sub (fun _ h => List.mem_append_left _ (List.mem_append_left _ (List.mem_append_right _ h))) (by decide +kernel))
set_option maxRecDepth 20000 in
theorem gL_law_L_worst : GoodIn wsL_law (va_wsS RL 182 yL_worst wsL_worst) := goodIn_app (goodIn_of _ (by decide +kernel)) ggL_law_L_worst
set_option maxRecDepth 20000 in
theorem ggL_law_X8_worst : GoodIn wsL_law wsX8_worst := goodIn_r _ [572, 381, 382, 383, 5, 384, 339, 105, 106, 107, 108, 109, 110, 111, 112, 549, 550, 551, 552, 40, 41, 553, 554, 555, 556, 43, 46, 784, 785, 786, 787, 788, 789, 790, 791, 792, 793, 794, 795, 796, 797, 798, 799, 800, 801, 802, 803, 804, 805, 806, 807, 808, 809, 810, 811] (by decide +kernel) (by decide +kernel)
set_option maxRecDepth 20000 in
theorem gL_law_X8_worst : GoodIn wsL_law (wsV RL 184 RX8 yX8_worst wsX8_worst) := goodIn_app (goodIn_of _ (by decide +kernel)) ggL_law_X8_worst
set_option maxRecDepth 20000 in
theorem ggL_law_L_opens : GoodIn wsL_law wsL_opens := goodIn_ca (goodIn_ca (goodIn_r _ [575, 62, 63, 576, 577, 578, 2, 579, 580, 347, 348, 349, 350, 80, 81, 20, 74, 75, 76, 82, 83, 84, 85, 86, 581, 582, 583, 295, 584, 312, 313, 585, 508, 509, 311, 510, 333, 511, 512, 513, 514, 334, 515, 516, 517, 518, 445, 446, 447, 448, 330, 568, 535, 536, 537, 538, 539, 540, 314, 541, 542, 543, 544, 308, 777, 778, 779, 780, 781, 782, 783, 818, 819, 820, 821, 822, 823, 824, 831, 832, 833, 834, 835, 836, 837, 838, 839, 840] (by decide +kernel) (by decide +kernel)) (goodIn_sub (fun _ h => List.mem_append_left _ (List.mem_append_left _ (List.mem_append_right _ h))) (by decide +kernel))) (goodIn_sub (fun _ h => List.mem_append_left _ (List.mem_append_right _ h)) (by decide +kernel))
set_option maxRecDepth 20000 in
theorem gL_law_L_opens : GoodIn wsL_law (va_wsS RL 185 yL_opens wsL_opens) := goodIn_app (goodIn_of _ (by decide +kernel)) ggL_law_L_opens
set_option maxRecDepth 20000 in
theorem ggL_law_X8_opens : GoodIn wsL_law wsX8_opens := goodIn_r _ [589, 590, 381, 382, 383, 5, 384, 339, 105, 106, 107, 108, 109, 110, 111, 112, 523, 524, 525, 526, 40, 49, 389, 390, 391, 392, 50, 380, 393, 394, 395, 47, 48, 396, 397, 398, 399, 400, 401, 402, 403, 404, 405, 406, 407, 549, 550, 551, 552, 41, 553, 554, 555, 556, 43, 46, 784, 785, 786, 787, 788, 789, 790, 791, 792, 793, 794, 795, 796, 797, 798, 799, 800, 801, 802, 803, 804, 805, 806, 807, 808, 809, 810, 811] (by decide +kernel) (by decide +kernel)
set_option maxRecDepth 20000 in
theorem gL_law_X8_opens : GoodIn wsL_law (wsV RL 187 RX8 yX8_opens wsX8_opens) := goodIn_app (goodIn_of _ (by decide +kernel)) ggL_law_X8_opens
set_option maxRecDepth 20000 in
theorem ggL_law_L_skin : GoodIn wsL_law wsL_skin := goodIn_ca (goodIn_ca (goodIn_r _ [593, 63, 151, 594, 595, 596, 2, 597, 598, 22, 21, 599, 600, 74, 75, 76, 82, 83, 84, 85, 86, 157, 158, 159, 160, 161, 601, 602, 603, 604, 11, 12, 27, 605, 777, 778, 779, 780, 781, 782, 783, 841] (by decide +kernel) (by decide +kernel)) (goodIn_sub (fun _ h => List.mem_append_left _ (List.mem_append_right _ h)) (by decide +kernel))) (goodIn_sub (fun _ h => List.mem_append_right _ h) (by decide +kernel))
set_option maxRecDepth 20000 in
theorem gL_law_L_skin : GoodIn wsL_law (va_wsS RL 188 yL_skin wsL_skin) := goodIn_app (goodIn_of _ (by decide +kernel)) ggL_law_L_skin
set_option maxRecDepth 20000 in
theorem ggL_law_X8_skin : GoodIn wsL_law wsX8_skin := goodIn_r _ [609, 610, 51, 105, 106, 5, 107, 108, 109, 110, 111, 112, 784, 785, 786, 787, 788, 789, 790, 791, 792, 793, 794, 795, 796, 797, 798, 799, 800, 801, 802, 803, 804, 805, 806, 807, 808, 809, 810, 811] (by decide +kernel) (by decide +kernel)
