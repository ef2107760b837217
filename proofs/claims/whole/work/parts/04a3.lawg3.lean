set_option maxRecDepth 20000 in
theorem gL_law_X8_skin : GoodIn wsL_law (wsV RL 190 RX8 yX8_skin wsX8_skin) := goodIn_app (goodIn_of _ (by decide +kernel)) ggL_law_X8_skin
set_option maxRecDepth 20000 in
theorem ggL_law_L_pare : GoodIn wsL_law wsL_pare := goodIn_ca (goodIn_ca (goodIn_ca (goodIn_r _ [613, 62, 63, 151, 614, 615, 616, 2, 617, 618, 619, 620, 621, 80, 81, 22, 74, 75, 76, 68, 69, 70, 71, 72, 73, 77, 78, 79, 82, 83, 84, 85, 86, 622, 623, 624, 600, 625, 605, 626, 539, 517, 540, 131, 132, 157, 158, 159, 160, 161, 627, 628, 629, 630, 777, 778, 779, 780, 781, 782, 783, 841] (by decide +kernel) (by decide +kernel)) (goodIn_sub (fun _ h => List.mem_append_left _ (List.mem_append_left _ (List.mem_append_right _ h))) (by decide +kernel))) (goodIn_sub (fun _ h => List.mem_append_left _ (List.mem_append_right _ h)) (by decide +kernel))) (goodIn_sub (fun _ h => List.mem_append_right _ h) (by decide +kernel))
set_option maxRecDepth 20000 in
theorem gL_law_L_pare : GoodIn wsL_law (va_wsS RL 191 yL_pare wsL_pare) := goodIn_app (goodIn_of _ (by decide +kernel)) ggL_law_L_pare
set_option maxRecDepth 20000 in
theorem ggL_law_X8_pare : GoodIn wsL_law wsX8_pare := goodIn_r _ [634, 51, 635, 636, 637, 5, 638, 610, 105, 106, 107, 102, 103, 104, 639, 640, 641, 642, 108, 109, 110, 111, 112, 784, 785, 786, 787, 788, 789, 790, 791, 792, 793, 794, 795, 796, 797, 798, 799, 800, 801, 802, 803, 804, 805, 806, 807, 808, 809, 810, 811] (by decide +kernel) (by decide +kernel)
set_option maxRecDepth 20000 in
theorem gL_law_X8_pare : GoodIn wsL_law (wsV RL 194 RX8 yX8_pare wsX8_pare) := goodIn_app (goodIn_of _ (by decide +kernel)) ggL_law_X8_pare
set_option maxRecDepth 20000 in
theorem ggL_law_L_thickAt : GoodIn wsL_law wsL_thickAt := goodIn_ca (goodIn_r _ [645, 62, 646, 647, 648, 2, 649, 618, 619, 620, 621, 80, 81, 22, 74, 75, 76, 68, 69, 70, 71, 72, 73, 77, 78, 79, 201, 131, 132, 841, 777, 778, 779, 780, 781, 782, 783] (by decide +kernel) (by decide +kernel)) (goodIn_sub (fun _ h => List.mem_append_left _ (List.mem_append_left _ (List.mem_append_right _ h))) (by decide +kernel))
set_option maxRecDepth 20000 in
theorem gL_law_L_thickAt : GoodIn wsL_law (va_wsS RL 195 yL_thickAt wsL_thickAt) := goodIn_app (goodIn_of _ (by decide +kernel)) ggL_law_L_thickAt
set_option maxRecDepth 20000 in
theorem ggL_law_X8_thickAt : GoodIn wsL_law wsX8_thickAt := goodIn_r _ [653, 51, 635, 636, 637, 5, 638, 610, 105, 106, 107, 102, 103, 104, 108, 109, 110, 111, 112, 784, 785, 786, 787, 788, 789, 790, 791, 792, 793, 794, 795, 796, 797, 798, 799, 800, 801, 802, 803, 804, 805, 806, 807, 808, 809, 810, 811] (by decide +kernel) (by decide +kernel)
set_option maxRecDepth 20000 in
theorem gL_law_X8_thickAt : GoodIn wsL_law (wsV RL 197 RX8 yX8_thickAt wsX8_thickAt) := goodIn_app (goodIn_of _ (by decide +kernel)) ggL_law_X8_thickAt
set_option maxRecDepth 20000 in
theorem ggL_law_L_tooThick : GoodIn wsL_law wsL_tooThick := goodIn_ca (goodIn_r _ [656, 62, 657, 658, 659, 2, 660, 618, 619, 620, 621, 80, 81, 22, 74, 75, 76, 661, 662, 663, 600, 664, 605, 131, 132, 665, 666, 667, 777, 778, 779, 780, 781, 782, 783, 841] (by decide +kernel) (by decide +kernel)) (goodIn_sub (fun _ h => List.mem_append_left _ (List.mem_append_left _ (List.mem_append_right _ h))) (by decide +kernel))
set_option maxRecDepth 20000 in
theorem gL_law_L_tooThick : GoodIn wsL_law (va_wsS RL 198 yL_tooThick wsL_tooThick) := goodIn_app (goodIn_of _ (by decide +kernel)) ggL_law_L_tooThick
set_option maxRecDepth 20000 in
theorem ggL_law_X8_tooThick : GoodIn wsL_law wsX8_tooThick := goodIn_r _ [671, 51, 635, 636, 637, 5, 638, 610, 105, 106, 107, 108, 109, 110, 111, 112, 784, 785, 786, 787, 788, 789, 790, 791, 792, 793, 794, 795, 796, 797, 798, 799, 800, 801, 802, 803, 804, 805, 806, 807, 808, 809, 810, 811] (by decide +kernel) (by decide +kernel)
set_option maxRecDepth 20000 in
theorem gL_law_X8_tooThick : GoodIn wsL_law (wsV RL 200 RX8 yX8_tooThick wsX8_tooThick) := goodIn_app (goodIn_of _ (by decide +kernel)) ggL_law_X8_tooThick
set_option maxRecDepth 20000 in
theorem ggL_law_L_repair : GoodIn wsL_law wsL_repair := goodIn_ca (goodIn_ca (goodIn_ca (goodIn_r _ [674, 62, 63, 151, 675, 676, 677, 2, 678, 347, 348, 349, 350, 80, 81, 20, 74, 75, 76, 82, 83, 84, 85, 86, 679, 680, 681, 157, 158, 159, 160, 161, 682, 683, 684, 302, 685, 686, 319, 818, 819, 820, 821, 822, 823, 824, 825, 826, 777, 778, 779, 780, 781, 782, 783] (by decide +kernel) (by decide +kernel)) (goodIn_sub (fun _ h => List.mem_append_left _ (List.mem_append_left _ (List.mem_append_right _ h))) (by decide +kernel))) (goodIn_sub (fun _ h => List.mem_append_left _ (List.mem_append_right _ h)) (by decide +kernel))) (goodIn_sub (fun _ h => List.mem_append_right _ h) (by decide +kernel))
set_option maxRecDepth 20000 in
theorem gL_law_L_repair : GoodIn wsL_law (va_wsS RL 201 yL_repair wsL_repair) := goodIn_app (goodIn_of _ (by decide +kernel)) ggL_law_L_repair
set_option maxRecDepth 20000 in
theorem ggL_law_X8_repair : GoodIn wsL_law wsX8_repair := goodIn_r _ [690, 45, 52, 53, 381, 382, 383, 5, 384, 339, 105, 106, 107, 108, 109, 110, 111, 112, 784, 785, 786, 787, 788, 789, 790, 791, 792, 793, 794, 795, 796, 797, 798, 799, 800, 801, 802, 803, 804, 805, 806, 807, 808, 809, 810, 811] (by decide +kernel) (by decide +kernel)
set_option maxRecDepth 20000 in
theorem gL_law_X8_repair : GoodIn wsL_law (wsV RL 203 RX8 yX8_repair wsX8_repair) := goodIn_app (goodIn_of _ (by decide +kernel)) ggL_law_X8_repair
set_option maxRecDepth 20000 in
theorem ggL_law_L_undo : GoodIn wsL_law wsL_undo := goodIn_ca (goodIn_ca (goodIn_r _ [693, 62, 151, 694, 695, 696, 2, 697, 347, 348, 349, 350, 80, 81, 20, 74, 75, 76, 698, 699, 700, 302, 701, 686, 319, 679, 680, 681, 157, 158, 159, 160, 161, 702, 703, 704, 705, 818, 819, 820, 821, 822, 823, 824, 777, 778, 779, 780, 781, 782, 783, 825, 826] (by decide +kernel) (by decide +kernel)) (goodIn_sub (fun _ h => List.mem_append_left _ (List.mem_append_left _ (List.mem_append_right _ h))) (by decide +kernel))) (goodIn_sub (fun _ h => List.mem_append_right _ h) (by decide +kernel))
set_option maxRecDepth 20000 in
theorem gL_law_L_undo : GoodIn wsL_law (va_wsS RL 204 yL_undo wsL_undo) := goodIn_app (goodIn_of _ (by decide +kernel)) ggL_law_L_undo
set_option maxRecDepth 20000 in
theorem ggL_law_X8_undo : GoodIn wsL_law wsX8_undo := goodIn_r _ [709, 52, 53, 381, 382, 383, 5, 384, 339, 105, 106, 107, 108, 109, 110, 111, 112, 784, 785, 786, 787, 788, 789, 790, 791, 792, 793, 794, 795, 796, 797, 798, 799, 800, 801, 802, 803, 804, 805, 806, 807, 808, 809, 810, 811] (by decide +kernel) (by decide +kernel)
set_option maxRecDepth 20000 in
theorem gL_law_X8_undo : GoodIn wsL_law (wsV RL 206 RX8 yX8_undo wsX8_undo) := goodIn_app (goodIn_of _ (by decide +kernel)) ggL_law_X8_undo
set_option maxRecDepth 20000 in
theorem ggL_law_L_speak : GoodIn wsL_law wsL_speak := goodIn_ca (goodIn_ca (goodIn_ca (goodIn_r _ [712, 62, 63, 151, 713, 714, 715, 2, 716, 347, 348, 349, 350, 80, 81, 20, 74, 75, 76, 82, 83, 84, 85, 86, 157, 158, 159, 160, 161, 717, 718, 719, 306, 720, 721, 323, 324, 325, 818, 819, 820, 821, 822, 823, 824, 827, 828, 829, 830, 777, 778, 779, 780, 781, 782, 783] (by decide +kernel) (by decide +kernel)) (goodIn_sub (fun _ h => List.mem_append_left _ (List.mem_append_left _ (List.mem_append_right _ h))) (by decide +kernel))) (goodIn_sub (fun _ h => List.mem_append_left _ (List.mem_append_right _ h)) (by decide +kernel))) (goodIn_sub (fun _ h => List.mem_append_right _ h) (by decide +kernel))
set_option maxRecDepth 20000 in
theorem gL_law_L_speak : GoodIn wsL_law (va_wsS RL 207 yL_speak wsL_speak) := goodIn_app (goodIn_of _ (by decide +kernel)) ggL_law_L_speak
set_option maxRecDepth 20000 in
theorem ggL_law_X8_speak : GoodIn wsL_law wsX8_speak := goodIn_r _ [725, 54, 55, 56, 57, 381, 382, 383, 5, 384, 339, 105, 106, 107, 108, 109, 110, 111, 112, 784, 785, 786, 787, 788, 789, 790, 791, 792, 793, 794, 795, 796, 797, 798, 799, 800, 801, 802, 803, 804, 805, 806, 807, 808, 809, 810, 811] (by decide +kernel) (by decide +kernel)
set_option maxRecDepth 20000 in
theorem gL_law_X8_speak : GoodIn wsL_law (wsV RL 209 RX8 yX8_speak wsX8_speak) := goodIn_app (goodIn_of _ (by decide +kernel)) ggL_law_X8_speak
set_option maxRecDepth 20000 in
theorem ggL_law_L_year : GoodIn wsL_law wsL_year := goodIn_ca (goodIn_r _ [728, 62, 729, 730, 731, 2, 732, 347, 348, 349, 350, 80, 81, 20, 74, 75, 76, 733, 734, 735, 306, 736, 721, 323, 737, 738, 739, 740, 324, 325, 741, 742, 743, 744, 818, 819, 820, 821, 822, 823, 824, 777, 778, 779, 780, 781, 782, 783, 827, 828, 829, 830] (by decide +kernel) (by decide +kernel)) (goodIn_sub (fun _ h => List.mem_append_left _ (List.mem_append_left _ (List.mem_append_right _ h))) (by decide +kernel))
set_option maxRecDepth 20000 in
theorem gL_law_L_year : GoodIn wsL_law (va_wsS RL 210 yL_year wsL_year) := goodIn_app (goodIn_of _ (by decide +kernel)) ggL_law_L_year
set_option maxRecDepth 20000 in
theorem ggL_law_X8_year : GoodIn wsL_law wsX8_year := goodIn_r _ [748, 381, 382, 383, 5, 384, 339, 105, 106, 107, 108, 109, 110, 111, 112, 749, 750, 751, 752, 753, 754, 755, 756, 54, 55, 56, 57, 784, 785, 786, 787, 788, 789, 790, 791, 792, 793, 794, 795, 796, 797, 798, 799, 800, 801, 802, 803, 804, 805, 806, 807, 808, 809, 810, 811] (by decide +kernel) (by decide +kernel)
set_option maxRecDepth 20000 in
theorem gL_law_X8_year : GoodIn wsL_law (wsV RL 213 RX8 yX8_year wsX8_year) := goodIn_app (goodIn_of _ (by decide +kernel)) ggL_law_X8_year
set_option maxRecDepth 20000 in
theorem ggL_law_L_yearAnew : GoodIn wsL_law wsL_yearAnew := goodIn_ca (goodIn_r _ [759, 62, 760, 761, 762, 2, 763, 347, 348, 349, 350, 80, 81, 20, 74, 75, 76, 764, 765, 766, 306, 767, 737, 738, 739, 740, 721, 323, 324, 325, 768, 769, 770, 771, 818, 819, 820, 821, 822, 823, 824, 777, 778, 779, 780, 781, 782, 783, 827, 828, 829, 830] (by decide +kernel) (by decide +kernel)) (goodIn_sub (fun _ h => List.mem_append_left _ (List.mem_append_left _ (List.mem_append_right _ h))) (by decide +kernel))
