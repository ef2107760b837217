set_option maxRecDepth 20000 in
theorem gL_law_L_yearAnew : GoodIn wsL_law (va_wsS RL 214 yL_yearAnew wsL_yearAnew) := goodIn_app (goodIn_of _ (by decide +kernel)) ggL_law_L_yearAnew
set_option maxRecDepth 20000 in
theorem ggL_law_X8_yearAnew : GoodIn wsL_law wsX8_yearAnew := goodIn_r _ [775, 776, 746, 747, 5, 748, 381, 382, 383, 384, 339, 105, 106, 107, 108, 109, 110, 111, 112, 749, 750, 751, 752, 753, 754, 755, 756, 54, 55, 56, 57, 784, 785, 786, 787, 788, 789, 790, 791, 792, 793, 794, 795, 796, 797, 798, 799, 800, 801, 802, 803, 804, 805, 806, 807, 808, 809, 810, 811] (by decide +kernel) (by decide +kernel)
set_option maxRecDepth 20000 in
theorem gL_law_X8_yearAnew : GoodIn wsL_law (wsV RL 216 RX8 yX8_yearAnew wsX8_yearAnew) := goodIn_app (goodIn_of _ (by decide +kernel)) ggL_law_X8_yearAnew

