set_option maxRecDepth 20000 in
theorem in_law0_r19 : GoodIn lw_tbl wsL_law0_r19 := goodIn_p _ [596, 600, 604, 1069, 1073] (by decide +kernel) (by decide +kernel)
set_option maxRecDepth 20000 in
theorem in_law0_r20 : GoodIn lw_tbl wsL_law0_r20 := goodIn_p _ [612, 1077, 619, 1081] (by decide +kernel) (by decide +kernel)
set_option maxRecDepth 20000 in
theorem in_law0_r21 : GoodIn lw_tbl wsL_law0_r21 := goodIn_p _ [627, 631, 635, 639, 643] (by decide +kernel) (by decide +kernel)
set_option maxRecDepth 20000 in
theorem in_law0_r22 : GoodIn lw_tbl wsL_law0_r22 := goodIn_p _ [1085, 1089, 1093, 651] (by decide +kernel) (by decide +kernel)
set_option maxRecDepth 20000 in
theorem in_law0_r23 : GoodIn lw_tbl wsL_law0_r23 := goodIn_p _ [655, 659, 663, 667, 671, 674] (by decide +kernel) (by decide +kernel)
set_option maxRecDepth 20000 in
theorem in_law0_r24 : GoodIn lw_tbl wsL_law0_r24 := goodIn_p _ [677, 682, 686, 1097, 1101] (by decide +kernel) (by decide +kernel)
