set_option maxRecDepth 20000 in
theorem ggL_law_X8_arrest : GoodIn wsL_law wsX8_arrest := goodIn_r _ [846, 54, 64, 70, 73, 67, 106, 77, 186, 187, 188, 5, 189, 144, 149, 150, 151, 449, 450, 451, 452, 406, 847, 848, 849, 850, 876, 877, 878, 879, 880, 881, 882, 883, 884, 885, 886, 887, 888, 889, 890, 891, 892, 893, 894, 895, 896, 897, 898, 899, 900, 901, 902, 903, 904, 905, 906, 907, 908, 909, 910, 911, 912] (by decide +kernel) (by decide +kernel)
set_option maxRecDepth 20000 in
theorem gL_law_X8_arrest : GoodIn wsL_law (wsV RL 235 RX8 yX8_arrest wsX8_arrest) := goodIn_app (goodIn_of _ (by decide +kernel)) ggL_law_X8_arrest
set_option maxRecDepth 20000 in
theorem ggL_law_L_isArrested : GoodIn wsL_law wsL_isArrested := goodIn_ca (goodIn_r _ [853, 114, 854, 855, 856, 2, 857, 166, 167, 168, 169, 127, 128, 120, 16, 839, 840, 841, 842, 373, 832, 20, 833, 834, 835, 391, 836, 837, 838, 399, 862, 863, 864, 865, 866, 867, 868, 869, 870, 871, 872, 873, 874, 875, 927, 928, 929, 930, 937, 938, 939, 940, 941, 942, 943, 944] (by decide +kernel) (by decide +kernel)) (goodIn_sub (fun _ h => List.mem_append_left _ (List.mem_append_right _ h)) (by decide +kernel))
set_option maxRecDepth 20000 in
theorem gL_law_L_isArrested : GoodIn wsL_law (va_wsS RL 236 yL_isArrested wsL_isArrested) := goodIn_app (goodIn_of _ (by decide +kernel)) ggL_law_L_isArrested
set_option maxRecDepth 20000 in
theorem ggL_law_X8_isArrested : GoodIn wsL_law wsX8_isArrested := goodIn_r _ [861, 106, 186, 187, 188, 5, 189, 144, 149, 150, 151, 847, 848, 849, 850, 406, 77, 70, 73, 67, 876, 877, 878, 879, 880, 881, 882, 883, 884, 885, 886, 887, 888, 889, 890, 891, 892, 893, 894, 895, 896, 897, 898, 899, 900, 901, 902, 903, 904, 905, 906, 907, 908, 909, 910, 911, 912] (by decide +kernel) (by decide +kernel)
set_option maxRecDepth 20000 in
theorem gL_law_X8_isArrested : GoodIn wsL_law (wsV RL 238 RX8 yX8_isArrested wsX8_isArrested) := goodIn_app (goodIn_of _ (by decide +kernel)) ggL_law_X8_isArrested
