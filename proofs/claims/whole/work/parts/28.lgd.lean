set_option maxRecDepth 20000 in
theorem ggL_law_X8_weight : GoodIn wsL_law wsX8_weight := goodIn_r _ [282, 106, 145, 146, 147, 5, 148, 105, 149, 150, 151, 247, 248, 249, 283, 284, 285, 286, 185, 57, 58, 54, 56, 55, 49, 287, 876, 877, 878, 879, 880, 881, 882, 883, 884, 885, 886, 887, 888, 889, 890, 891, 892, 893, 894, 895, 896, 897, 898, 899, 900, 901, 902, 903, 904, 905, 906, 907, 908, 909, 910, 911, 912] (by decide +kernel) (by decide +kernel)
set_option maxRecDepth 20000 in
theorem gL_law_X8_weight : GoodIn wsL_law (wsV RL 158 RX8 yX8_weight wsX8_weight) := goodIn_app (goodIn_of _ (by decide +kernel)) ggL_law_X8_weight
set_option maxRecDepth 20000 in
theorem ggL_law_L_weightAnew : GoodIn wsL_law wsL_weightAnew := goodIn_ca (goodIn_ca (goodIn_r _ [290, 114, 115, 291, 292, 293, 2, 294, 123, 124, 125, 126, 127, 128, 89, 14, 234, 235, 236, 129, 130, 131, 132, 133, 295, 296, 297, 298, 163, 18, 261, 160, 262, 299, 300, 301, 165, 302, 179, 177, 274, 275, 276, 91, 277, 96, 278, 862, 863, 864, 865, 866, 867, 868, 869, 870, 871, 872, 873, 874, 875, 931, 932, 933, 927, 928, 929, 930, 922, 923, 924, 925, 926] (by decide +kernel) (by decide +kernel)) (goodIn_sub (fun _ h => List.mem_append_left _ (List.mem_append_right _ h)) (by decide +kernel))) (goodIn_sub (fun _ h => List.mem_append_right _ h) (by decide +kernel))
set_option maxRecDepth 20000 in
theorem gL_law_L_weightAnew : GoodIn wsL_law (va_wsS RL 159 yL_weightAnew wsL_weightAnew) := goodIn_app (goodIn_of _ (by decide +kernel)) ggL_law_L_weightAnew
set_option maxRecDepth 20000 in
theorem ggL_law_X8_weightAnew : GoodIn wsL_law wsX8_weightAnew := goodIn_r _ [306, 106, 145, 146, 147, 5, 148, 105, 149, 150, 151, 247, 248, 249, 283, 284, 285, 286, 185, 57, 58, 54, 56, 55, 49, 287, 876, 877, 878, 879, 880, 881, 882, 883, 884, 885, 886, 887, 888, 889, 890, 891, 892, 893, 894, 895, 896, 897, 898, 899, 900, 901, 902, 903, 904, 905, 906, 907, 908, 909, 910, 911, 912] (by decide +kernel) (by decide +kernel)
set_option maxRecDepth 20000 in
theorem gL_law_X8_weightAnew : GoodIn wsL_law (wsV RL 161 RX8 yX8_weightAnew wsX8_weightAnew) := goodIn_app (goodIn_of _ (by decide +kernel)) ggL_law_X8_weightAnew
set_option maxRecDepth 20000 in
theorem ggL_law_L_rule : GoodIn wsL_law wsL_rule := goodIn_ca (goodIn_ca (goodIn_r _ [309, 115, 82, 310, 311, 312, 2, 313, 314, 315, 28, 316, 317, 318, 129, 130, 131, 132, 133, 234, 235, 236, 237, 238, 239, 240, 87, 88, 24, 241, 319, 320, 321, 27, 322, 36, 37, 862, 863, 864, 865, 866, 867, 868, 869, 870, 871, 872, 873, 874, 875, 915, 916, 917, 918, 919, 920, 921, 913, 914] (by decide +kernel) (by decide +kernel)) (goodIn_sub (fun _ h => List.mem_append_right _ h) (by decide +kernel))) (goodIn_sub (fun _ h => List.mem_append_left _ (List.mem_append_left _ (List.mem_append_right _ h))) (by decide +kernel))
set_option maxRecDepth 20000 in
theorem gL_law_L_rule : GoodIn wsL_law (va_wsS RL 162 yL_rule wsL_rule) := goodIn_app (goodIn_of _ (by decide +kernel)) ggL_law_L_rule
set_option maxRecDepth 20000 in
theorem ggL_law_X8_rule : GoodIn wsL_law wsX8_rule := goodIn_r _ [326, 327, 328, 246, 106, 59, 60, 329, 330, 5, 331, 149, 150, 151, 247, 248, 249, 876, 877, 878, 879, 880, 881, 882, 883, 884, 885, 886, 887, 888, 889, 890, 891, 892, 893, 894, 895, 896, 897, 898, 899, 900, 901, 902, 903, 904, 905, 906, 907, 908, 909, 910, 911, 912] (by decide +kernel) (by decide +kernel)
set_option maxRecDepth 20000 in
theorem gL_law_X8_rule : GoodIn wsL_law (wsV RL 165 RX8 yX8_rule wsX8_rule) := goodIn_app (goodIn_of _ (by decide +kernel)) ggL_law_X8_rule
set_option maxRecDepth 20000 in
theorem ggL_law_L_pool : GoodIn wsL_law wsL_pool := goodIn_ca (goodIn_ca (goodIn_r _ [334, 115, 82, 335, 336, 337, 2, 338, 315, 339, 24, 234, 235, 236, 129, 130, 131, 132, 133, 237, 238, 239, 240, 87, 88, 241, 340, 341, 342, 30, 343, 344, 345, 346, 347, 862, 863, 864, 865, 866, 867, 868, 869, 870, 871, 872, 873, 874, 875, 915, 916, 917, 918, 919, 920, 921] (by decide +kernel) (by decide +kernel)) (goodIn_sub (fun _ h => List.mem_append_right _ h) (by decide +kernel))) (goodIn_sub (fun _ h => List.mem_append_left _ (List.mem_append_left _ (List.mem_append_right _ h))) (by decide +kernel))
set_option maxRecDepth 20000 in
theorem gL_law_L_pool : GoodIn wsL_law (va_wsS RL 166 yL_pool wsL_pool) := goodIn_app (goodIn_of _ (by decide +kernel)) ggL_law_L_pool
