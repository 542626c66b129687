set_option maxRecDepth 20000 in
theorem ggL_law_X8_estimate : GoodIn wsL_law wsX8_estimate := goodIn_r _ [448, 70, 106, 67, 449, 450, 451, 5, 452, 406, 149, 150, 151, 407, 408, 409, 352, 876, 877, 878, 879, 880, 881, 882, 883, 884, 885, 886, 887, 888, 889, 890, 891, 892, 893, 894, 895, 896, 897, 898, 899, 900, 901, 902, 903, 904, 905, 906, 907, 908, 909, 910, 911, 912] (by decide +kernel) (by decide +kernel)
set_option maxRecDepth 20000 in
theorem gL_law_X8_estimate : GoodIn wsL_law (wsV RL 178 RX8 yX8_estimate wsX8_estimate) := goodIn_app (goodIn_of _ (by decide +kernel)) ggL_law_X8_estimate
set_option maxRecDepth 20000 in
theorem ggL_law_L_settle : GoodIn wsL_law wsL_settle := goodIn_ca (goodIn_ca (goodIn_r _ [455, 114, 82, 456, 457, 458, 2, 459, 444, 436, 437, 438, 439, 440, 127, 128, 373, 20, 441, 442, 443, 87, 88, 937, 938, 939, 940, 941, 942, 943, 944, 862, 863, 864, 865, 866, 867, 868, 869, 870, 871, 872, 873, 874, 875] (by decide +kernel) (by decide +kernel)) (goodIn_sub (fun _ h => List.mem_append_left _ (List.mem_append_right _ h)) (by decide +kernel))) (goodIn_sub (fun _ h => List.mem_append_left _ (List.mem_append_left _ (List.mem_append_right _ h))) (by decide +kernel))
set_option maxRecDepth 20000 in
theorem gL_law_L_settle : GoodIn wsL_law (va_wsS RL 179 yL_settle wsL_settle) := goodIn_app (goodIn_of _ (by decide +kernel)) ggL_law_L_settle
set_option maxRecDepth 20000 in
theorem ggL_law_X8_settle : GoodIn wsL_law wsX8_settle := goodIn_r _ [463, 70, 106, 67, 449, 450, 451, 5, 452, 406, 149, 150, 151, 876, 877, 878, 879, 880, 881, 882, 883, 884, 885, 886, 887, 888, 889, 890, 891, 892, 893, 894, 895, 896, 897, 898, 899, 900, 901, 902, 903, 904, 905, 906, 907, 908, 909, 910, 911, 912] (by decide +kernel) (by decide +kernel)
set_option maxRecDepth 20000 in
theorem gL_law_X8_settle : GoodIn wsL_law (wsV RL 182 RX8 yX8_settle wsX8_settle) := goodIn_app (goodIn_of _ (by decide +kernel)) ggL_law_X8_settle
set_option maxRecDepth 20000 in
theorem ggL_law_L_broken : GoodIn wsL_law wsL_broken := goodIn_ca (goodIn_ca (goodIn_r _ [466, 114, 82, 467, 468, 469, 2, 470, 87, 88, 471, 437, 438, 439, 440, 127, 128, 373, 20, 441, 442, 443, 444, 937, 938, 939, 940, 941, 942, 943, 944, 862, 863, 864, 865, 866, 867, 868, 869, 870, 871, 872, 873, 874, 875] (by decide +kernel) (by decide +kernel)) (goodIn_sub (fun _ h => List.mem_append_left _ (List.mem_append_left _ (List.mem_append_right _ h))) (by decide +kernel))) (goodIn_sub (fun _ h => List.mem_append_left _ (List.mem_append_right _ h)) (by decide +kernel))
set_option maxRecDepth 20000 in
theorem gL_law_L_broken : GoodIn wsL_law (va_wsS RL 183 yL_broken wsL_broken) := goodIn_app (goodIn_of _ (by decide +kernel)) ggL_law_L_broken
set_option maxRecDepth 20000 in
theorem ggL_law_X8_broken : GoodIn wsL_law wsX8_broken := goodIn_r _ [475, 70, 71, 106, 449, 450, 451, 5, 452, 406, 149, 150, 151, 876, 877, 878, 879, 880, 881, 882, 883, 884, 885, 886, 887, 888, 889, 890, 891, 892, 893, 894, 895, 896, 897, 898, 899, 900, 901, 902, 903, 904, 905, 906, 907, 908, 909, 910, 911, 912] (by decide +kernel) (by decide +kernel)
set_option maxRecDepth 20000 in
theorem gL_law_X8_broken : GoodIn wsL_law (wsV RL 185 RX8 yX8_broken wsX8_broken) := goodIn_app (goodIn_of _ (by decide +kernel)) ggL_law_X8_broken
set_option maxRecDepth 20000 in
theorem ggL_law_L_ofClaim : GoodIn wsL_law wsL_ofClaim := goodIn_ca (goodIn_ca (goodIn_r _ [478, 114, 115, 479, 480, 481, 2, 482, 436, 483, 484, 444, 485, 437, 438, 439, 440, 127, 128, 373, 20, 129, 130, 131, 132, 133, 486, 487, 488, 489, 360, 24, 241, 490, 491, 160, 170, 171, 172, 492, 493, 494, 91, 495, 99, 496, 497, 498, 499, 163, 18, 261, 299, 300, 301, 165, 302, 179, 177, 500, 501, 502, 391, 503, 504, 399, 397, 505, 506, 272, 269, 273, 937, 938, 939, 940, 941, 942, 943, 944, 934, 935, 936, 862, 863, 864, 865, 866, 867, 868, 869, 870, 871, 872, 873, 874, 875, 915, 916, 917, 918, 919, 920, 921, 927, 928, 929, 930, 922, 923, 924, 925, 926, 931, 932, 933] (by decide +kernel) (by decide +kernel)) (goodIn_sub (fun _ h => List.mem_append_left _ (List.mem_append_right _ h)) (by decide +kernel))) (goodIn_sub (fun _ h => List.mem_append_right _ h) (by decide +kernel))
set_option maxRecDepth 20000 in
theorem gL_law_L_ofClaim : GoodIn wsL_law (va_wsS RL 186 yL_ofClaim wsL_ofClaim) := goodIn_app (goodIn_of _ (by decide +kernel)) ggL_law_L_ofClaim
