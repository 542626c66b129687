set_option maxRecDepth 20000 in
theorem ggL_law_X8_isClosed : GoodIn wsL_law wsX8_isClosed := goodIn_r _ [805, 106, 246, 247, 248, 5, 249, 149, 150, 151, 876, 877, 878, 879, 880, 881, 882, 883, 884, 885, 886, 887, 888, 889, 890, 891, 892, 893, 894, 895, 896, 897, 898, 899, 900, 901, 902, 903, 904, 905, 906, 907, 908, 909, 910, 911, 912] (by decide +kernel) (by decide +kernel)
set_option maxRecDepth 20000 in
theorem gL_law_X8_isClosed : GoodIn wsL_law (wsV RL 224 RX8 yX8_isClosed wsX8_isClosed) := goodIn_app (goodIn_of _ (by decide +kernel)) ggL_law_X8_isClosed
set_option maxRecDepth 20000 in
theorem ggL_law_X7_reserve : GoodIn wsL_law wsX7_reserve := goodIn_r _ [809, 737, 862, 863, 864, 865, 866, 867, 868, 869, 870, 871, 872, 873, 874, 875] (by decide +kernel) (by decide +kernel)
set_option maxRecDepth 20000 in
theorem gL_law_X7_reserve : GoodIn wsL_law (wsV RL 225 RX7 yX7_reserve wsX7_reserve) := goodIn_app (goodIn_of _ (by decide +kernel)) ggL_law_X7_reserve
set_option maxRecDepth 20000 in
theorem ggL_law_X8_reserve : GoodIn wsL_law wsX8_reserve := goodIn_r _ [813, 106, 758, 876, 877, 878, 879, 880, 881, 882, 883, 884, 885, 886, 887, 888, 889, 890, 891, 892, 893, 894, 895, 896, 897, 898, 899, 900, 901, 902, 903, 904, 905, 906, 907, 908, 909, 910, 911, 912] (by decide +kernel) (by decide +kernel)
set_option maxRecDepth 20000 in
theorem gL_law_X8_reserve : GoodIn wsL_law (wsV RL 229 RX8 yX8_reserve wsX8_reserve) := goodIn_app (goodIn_of _ (by decide +kernel)) ggL_law_X8_reserve
set_option maxRecDepth 20000 in
theorem ggL_law_L_letter : GoodIn wsL_law wsL_letter := goodIn_ca (goodIn_ca (goodIn_ca (goodIn_r _ [816, 114, 115, 82, 817, 818, 819, 2, 820, 87, 88, 339, 485, 436, 437, 438, 439, 440, 127, 128, 373, 20, 129, 130, 131, 132, 133, 441, 442, 443, 444, 937, 938, 939, 940, 941, 942, 943, 944, 862, 863, 864, 865, 866, 867, 868, 869, 870, 871, 872, 873, 874, 875] (by decide +kernel) (by decide +kernel)) (goodIn_sub (fun _ h => List.mem_append_left _ (List.mem_append_left _ (List.mem_append_right _ h))) (by decide +kernel))) (goodIn_sub (fun _ h => List.mem_append_left _ (List.mem_append_right _ h)) (by decide +kernel))) (goodIn_sub (fun _ h => List.mem_append_right _ h) (by decide +kernel))
set_option maxRecDepth 20000 in
theorem gL_law_L_letter : GoodIn wsL_law (va_wsS RL 230 yL_letter wsL_letter) := goodIn_app (goodIn_of _ (by decide +kernel)) ggL_law_L_letter
set_option maxRecDepth 20000 in
theorem ggL_law_X8_letter : GoodIn wsL_law wsX8_letter := goodIn_r _ [824, 352, 70, 73, 67, 106, 449, 450, 451, 5, 452, 406, 149, 150, 151, 876, 877, 878, 879, 880, 881, 882, 883, 884, 885, 886, 887, 888, 889, 890, 891, 892, 893, 894, 895, 896, 897, 898, 899, 900, 901, 902, 903, 904, 905, 906, 907, 908, 909, 910, 911, 912] (by decide +kernel) (by decide +kernel)
set_option maxRecDepth 20000 in
theorem gL_law_X8_letter : GoodIn wsL_law (wsV RL 232 RX8 yX8_letter wsX8_letter) := goodIn_app (goodIn_of _ (by decide +kernel)) ggL_law_X8_letter
set_option maxRecDepth 20000 in
theorem ggL_law_L_arrest : GoodIn wsL_law wsL_arrest := goodIn_ca (goodIn_ca (goodIn_r _ [827, 114, 82, 828, 829, 830, 2, 831, 87, 88, 160, 491, 832, 166, 167, 168, 169, 127, 128, 120, 16, 437, 438, 439, 440, 373, 20, 833, 834, 835, 391, 836, 837, 838, 399, 839, 840, 841, 842, 927, 928, 929, 930, 937, 938, 939, 940, 941, 942, 943, 944, 862, 863, 864, 865, 866, 867, 868, 869, 870, 871, 872, 873, 874, 875] (by decide +kernel) (by decide +kernel)) (goodIn_sub (fun _ h => List.mem_append_left _ (List.mem_append_left _ (List.mem_append_right _ h))) (by decide +kernel))) (goodIn_sub (fun _ h => List.mem_append_left _ (List.mem_append_right _ h)) (by decide +kernel))
set_option maxRecDepth 20000 in
theorem gL_law_L_arrest : GoodIn wsL_law (va_wsS RL 233 yL_arrest wsL_arrest) := goodIn_app (goodIn_of _ (by decide +kernel)) ggL_law_L_arrest
