set_option maxRecDepth 20000 in
theorem gL_law_X8_printAt : GoodIn wsL_law (wsV RL 141 RX8 yX8_printAt wsX8_printAt) := goodIn_app (goodIn_of _ (by decide +kernel)) ggL_law_X8_printAt
set_option maxRecDepth 20000 in
theorem ggL_law_L_count : GoodIn wsL_law wsL_count := goodIn_ca (goodIn_ca (goodIn_r _ [227, 62, 63, 228, 229, 230, 2, 231, 213, 214, 215, 216, 80, 81, 18, 74, 75, 76, 82, 83, 84, 85, 86, 232, 233, 234, 168, 235, 172, 777, 778, 779, 780, 781, 782, 783, 817] (by decide +kernel) (by decide +kernel)) (goodIn_sub (fun _ h => List.mem_append_left _ (List.mem_append_left _ (List.mem_append_right _ h))) (by decide +kernel))) (goodIn_sub (fun _ h => List.mem_append_left _ (List.mem_append_right _ h)) (by decide +kernel))
set_option maxRecDepth 20000 in
theorem gL_law_L_count : GoodIn wsL_law (va_wsS RL 142 yL_count wsL_count) := goodIn_app (goodIn_of _ (by decide +kernel)) ggL_law_L_count
set_option maxRecDepth 20000 in
theorem ggL_law_X8_count : GoodIn wsL_law wsX8_count := goodIn_r _ [239, 39, 221, 222, 223, 5, 224, 181, 105, 106, 107, 108, 109, 110, 111, 112, 784, 785, 786, 787, 788, 789, 790, 791, 792, 793, 794, 795, 796, 797, 798, 799, 800, 801, 802, 803, 804, 805, 806, 807, 808, 809, 810, 811] (by decide +kernel) (by decide +kernel)
set_option maxRecDepth 20000 in
theorem gL_law_X8_count : GoodIn wsL_law (wsV RL 145 RX8 yX8_count wsX8_count) := goodIn_app (goodIn_of _ (by decide +kernel)) ggL_law_X8_count
set_option maxRecDepth 20000 in
theorem ggL_law_L_pageAt : GoodIn wsL_law wsL_pageAt := goodIn_ca (goodIn_r _ [242, 63, 243, 244, 245, 2, 246, 74, 75, 76, 82, 83, 84, 85, 86, 247, 248, 249, 250, 251, 252, 253, 254, 255] (by decide +kernel) (by decide +kernel)) (goodIn_sub (fun _ h => List.mem_append_left _ (List.mem_append_right _ h)) (by decide +kernel))
set_option maxRecDepth 20000 in
theorem gL_law_L_pageAt : GoodIn wsL_law (va_wsS RL 146 yL_pageAt wsL_pageAt) := goodIn_app (goodIn_of _ (by decide +kernel)) ggL_law_L_pageAt
set_option maxRecDepth 20000 in
theorem ggL_law_X8_pageAt : GoodIn wsL_law wsX8_pageAt := goodIn_r _ [259, 105, 106, 5, 107, 260, 261, 262, 263, 264, 265, 108, 109, 110, 111, 112, 266, 267, 268, 269, 270, 271, 784, 785, 786, 787, 788, 789, 790, 791, 792, 793, 794, 795, 796, 797, 798, 799, 800, 801, 802, 803, 804, 805, 806, 807, 808, 809, 810, 811] (by decide +kernel) (by decide +kernel)
set_option maxRecDepth 20000 in
theorem gL_law_X8_pageAt : GoodIn wsL_law (wsV RL 149 RX8 yX8_pageAt wsX8_pageAt) := goodIn_app (goodIn_of _ (by decide +kernel)) ggL_law_X8_pageAt
set_option maxRecDepth 20000 in
theorem ggL_law_L_placeOf : GoodIn wsL_law wsL_placeOf := goodIn_ca (goodIn_r _ [274, 63, 275, 276, 277, 2, 278, 74, 75, 76, 82, 83, 84, 85, 86, 247, 248, 249, 250, 251, 252, 279, 280, 281, 253, 254, 255] (by decide +kernel) (by decide +kernel)) (goodIn_sub (fun _ h => List.mem_append_left _ (List.mem_append_right _ h)) (by decide +kernel))
set_option maxRecDepth 20000 in
theorem gL_law_L_placeOf : GoodIn wsL_law (va_wsS RL 150 yL_placeOf wsL_placeOf) := goodIn_app (goodIn_of _ (by decide +kernel)) ggL_law_L_placeOf
set_option maxRecDepth 20000 in
theorem ggL_law_X8_placeOf : GoodIn wsL_law wsX8_placeOf := goodIn_r _ [285, 105, 106, 5, 107, 260, 261, 262, 263, 264, 265, 108, 109, 110, 111, 112, 266, 267, 268, 269, 270, 271, 784, 785, 786, 787, 788, 789, 790, 791, 792, 793, 794, 795, 796, 797, 798, 799, 800, 801, 802, 803, 804, 805, 806, 807, 808, 809, 810, 811] (by decide +kernel) (by decide +kernel)
set_option maxRecDepth 20000 in
theorem gL_law_X8_placeOf : GoodIn wsL_law (wsV RL 152 RX8 yX8_placeOf wsX8_placeOf) := goodIn_app (goodIn_of _ (by decide +kernel)) ggL_law_X8_placeOf
set_option maxRecDepth 20000 in
theorem ggL_law_L_book : GoodIn wsL_law wsL_book := goodIn_ca (goodIn_ca (goodIn_r _ [288, 63, 151, 289, 290, 291, 2, 292, 293, 20, 19, 294, 295, 74, 75, 76, 82, 83, 84, 85, 86, 157, 158, 159, 160, 161, 296, 297, 298, 299, 11, 12, 300, 301, 302, 303, 304, 305, 306, 307, 308, 309, 310, 311, 312, 313, 314, 315, 316, 317, 318, 27, 319, 320, 321, 322, 323, 324, 325, 326, 327, 328, 329, 330, 331, 332, 333, 334, 777, 778, 779, 780, 781, 782, 783, 818, 819, 820, 821, 822, 823, 824, 825, 826, 827, 828, 829, 830, 831, 832, 833, 834, 835, 836, 837, 838, 839, 840] (by decide +kernel) (by decide +kernel)) (goodIn_sub (fun _ h => List.mem_append_left _ (List.mem_append_right _ h)) (by decide +kernel))) (goodIn_sub (fun _ h => List.mem_append_right _ h) (by decide +kernel))
set_option maxRecDepth 20000 in
theorem gL_law_L_book : GoodIn wsL_law (va_wsS RL 153 yL_book wsL_book) := goodIn_app (goodIn_of _ (by decide +kernel)) ggL_law_L_book
set_option maxRecDepth 20000 in
theorem ggL_law_X8_book : GoodIn wsL_law wsX8_book := goodIn_r _ [338, 339, 40, 41, 42, 43, 45, 105, 106, 5, 107, 108, 109, 110, 111, 112, 784, 785, 786, 787, 788, 789, 790, 791, 792, 793, 794, 795, 796, 797, 798, 799, 800, 801, 802, 803, 804, 805, 806, 807, 808, 809, 810, 811] (by decide +kernel) (by decide +kernel)
set_option maxRecDepth 20000 in
theorem gL_law_X8_book : GoodIn wsL_law (wsV RL 156 RX8 yX8_book wsX8_book) := goodIn_app (goodIn_of _ (by decide +kernel)) ggL_law_X8_book
set_option maxRecDepth 20000 in
theorem ggL_law_L_sew : GoodIn wsL_law wsL_sew := goodIn_ca (goodIn_ca (goodIn_ca (goodIn_r _ [342, 62, 63, 151, 343, 344, 345, 2, 346, 347, 348, 349, 350, 80, 81, 20, 74, 75, 76, 82, 83, 84, 85, 86, 351, 352, 353, 311, 354, 355, 356, 334, 357, 358, 333, 157, 158, 159, 160, 161, 359, 360, 361, 362, 332, 363, 364, 365, 366, 367, 368, 369, 370, 371, 330, 372, 373, 374, 375, 331, 818, 819, 820, 821, 822, 823, 824, 831, 832, 833, 834, 835, 836, 837, 838, 839, 840, 777, 778, 779, 780, 781, 782, 783] (by decide +kernel) (by decide +kernel)) (goodIn_sub (fun _ h => List.mem_append_left _ (List.mem_append_left _ (List.mem_append_right _ h))) (by decide +kernel))) (goodIn_sub (fun _ h => List.mem_append_left _ (List.mem_append_right _ h)) (by decide +kernel))) (goodIn_sub (fun _ h => List.mem_append_right _ h) (by decide +kernel))
set_option maxRecDepth 20000 in
theorem gL_law_L_sew : GoodIn wsL_law (va_wsS RL 157 yL_sew wsL_sew) := goodIn_app (goodIn_of _ (by decide +kernel)) ggL_law_L_sew
set_option maxRecDepth 20000 in
theorem ggL_law_X8_sew : GoodIn wsL_law wsX8_sew := goodIn_r _ [379, 48, 47, 380, 381, 382, 383, 5, 384, 339, 105, 106, 107, 385, 386, 387, 388, 389, 390, 391, 392, 49, 50, 393, 394, 395, 396, 397, 398, 399, 400, 401, 402, 403, 404, 405, 406, 407, 408, 409, 410, 411, 42, 40, 108, 109, 110, 111, 112, 784, 785, 786, 787, 788, 789, 790, 791, 792, 793, 794, 795, 796, 797, 798, 799, 800, 801, 802, 803, 804, 805, 806, 807, 808, 809, 810, 811] (by decide +kernel) (by decide +kernel)
set_option maxRecDepth 20000 in
theorem gL_law_X8_sew : GoodIn wsL_law (wsV RL 159 RX8 yX8_sew wsX8_sew) := goodIn_app (goodIn_of _ (by decide +kernel)) ggL_law_X8_sew
set_option maxRecDepth 20000 in
theorem ggL_law_L_unsew : GoodIn wsL_law wsL_unsew := goodIn_ca (goodIn_ca (goodIn_ca (goodIn_r _ [414, 62, 63, 151, 415, 416, 417, 2, 418, 347, 348, 349, 350, 80, 81, 20, 74, 75, 76, 82, 83, 84, 85, 86, 157, 158, 159, 160, 161, 419, 420, 421, 311, 422, 355, 332, 423, 424, 425, 363, 364, 365, 366, 356, 358, 357, 367, 368, 369, 370, 371, 330, 372, 373, 374, 375, 331, 818, 819, 820, 821, 822, 823, 824, 831, 832, 833, 834, 835, 836, 837, 838, 839, 840, 777, 778, 779, 780, 781, 782, 783] (by decide +kernel) (by decide +kernel)) (goodIn_sub (fun _ h => List.mem_append_left _ (List.mem_append_left _ (List.mem_append_right _ h))) (by decide +kernel))) (goodIn_sub (fun _ h => List.mem_append_left _ (List.mem_append_right _ h)) (by decide +kernel))) (goodIn_sub (fun _ h => List.mem_append_right _ h) (by decide +kernel))
set_option maxRecDepth 20000 in
theorem gL_law_L_unsew : GoodIn wsL_law (va_wsS RL 160 yL_unsew wsL_unsew) := goodIn_app (goodIn_of _ (by decide +kernel)) ggL_law_L_unsew
set_option maxRecDepth 20000 in
theorem ggL_law_X8_unsew : GoodIn wsL_law wsX8_unsew := goodIn_r _ [429, 47, 380, 381, 382, 383, 5, 384, 339, 105, 106, 107, 108, 109, 110, 111, 112, 389, 390, 391, 392, 49, 50, 393, 394, 395, 48, 396, 397, 398, 399, 400, 401, 402, 403, 404, 405, 406, 407, 784, 785, 786, 787, 788, 789, 790, 791, 792, 793, 794, 795, 796, 797, 798, 799, 800, 801, 802, 803, 804, 805, 806, 807, 808, 809, 810, 811] (by decide +kernel) (by decide +kernel)
set_option maxRecDepth 20000 in
theorem gL_law_X8_unsew : GoodIn wsL_law (wsV RL 162 RX8 yX8_unsew wsX8_unsew) := goodIn_app (goodIn_of _ (by decide +kernel)) ggL_law_X8_unsew
set_option maxRecDepth 20000 in
theorem ggL_law_L_ofThread : GoodIn wsL_law wsL_ofThread := goodIn_ca (goodIn_ca (goodIn_r _ [432, 62, 63, 433, 434, 435, 2, 436, 347, 348, 349, 350, 80, 81, 20, 74, 75, 76, 82, 83, 84, 85, 86, 437, 438, 439, 311, 440, 357, 333, 331, 441, 442, 443, 444, 334, 445, 446, 447, 448, 330, 818, 819, 820, 821, 822, 823, 824, 831, 832, 833, 834, 835, 836, 837, 838, 839, 840, 777, 778, 779, 780, 781, 782, 783] (by decide +kernel) (by decide +kernel)) (goodIn_sub (fun _ h => List.mem_append_left _ (List.mem_append_left _ (List.mem_append_right _ h))) (by decide +kernel))) (goodIn_sub (fun _ h => List.mem_append_left _ (List.mem_append_right _ h)) (by decide +kernel))
set_option maxRecDepth 20000 in
theorem gL_law_L_ofThread : GoodIn wsL_law (va_wsS RL 163 yL_ofThread wsL_ofThread) := goodIn_app (goodIn_of _ (by decide +kernel)) ggL_law_L_ofThread
set_option maxRecDepth 20000 in
theorem ggL_law_X8_ofThread : GoodIn wsL_law wsX8_ofThread := goodIn_r _ [452, 380, 393, 394, 395, 47, 381, 382, 383, 5, 384, 339, 105, 106, 107, 108, 109, 110, 111, 112, 389, 390, 391, 392, 49, 50, 48, 396, 397, 398, 399, 400, 401, 402, 403, 404, 405, 406, 407, 453, 454, 455, 456, 40, 457, 458, 459, 460, 42, 784, 785, 786, 787, 788, 789, 790, 791, 792, 793, 794, 795, 796, 797, 798, 799, 800, 801, 802, 803, 804, 805, 806, 807, 808, 809, 810, 811] (by decide +kernel) (by decide +kernel)
set_option maxRecDepth 20000 in
theorem gL_law_X8_ofThread : GoodIn wsL_law (wsV RL 165 RX8 yX8_ofThread wsX8_ofThread) := goodIn_app (goodIn_of _ (by decide +kernel)) ggL_law_X8_ofThread
set_option maxRecDepth 20000 in
theorem ggL_law_L_stitches : GoodIn wsL_law wsL_stitches := goodIn_ca (goodIn_r _ [463, 62, 464, 465, 466, 2, 467, 347, 348, 349, 350, 80, 81, 20, 74, 75, 76, 77, 78, 79, 468, 446, 447, 311, 448, 330, 818, 819, 820, 821, 822, 823, 824, 831, 832, 833, 834, 835, 836, 837, 838, 839, 840, 777, 778, 779, 780, 781, 782, 783] (by decide +kernel) (by decide +kernel)) (goodIn_sub (fun _ h => List.mem_append_left _ (List.mem_append_left _ (List.mem_append_right _ h))) (by decide +kernel))
