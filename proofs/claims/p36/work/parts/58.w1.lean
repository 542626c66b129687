set_option maxRecDepth 20000 in
theorem in_law0_r1 : GoodIn lw_tbl wsL_law0_r1 := goodIn_p _ [48, 51] (by decide +kernel) (by decide +kernel)
set_option maxRecDepth 20000 in
theorem in_law0_r2 : GoodIn lw_tbl wsL_law0_r2 := goodIn_p _ [68, 72] (by decide +kernel) (by decide +kernel)
set_option maxRecDepth 20000 in
theorem in_law0_r3 : GoodIn lw_tbl wsL_law0_r3 := goodIn_p _ [84, 154, 226] (by decide +kernel) (by decide +kernel)
set_option maxRecDepth 20000 in
theorem in_law0_r4 : GoodIn lw_tbl wsL_law0_r4 := goodIn_p _ [608, 613, 254, 258, 277] (by decide +kernel) (by decide +kernel)
set_option maxRecDepth 20000 in
theorem in_law0_r5 : GoodIn lw_tbl wsL_law0_r5 := goodIn_p _ [298, 674, 678] (by decide +kernel) (by decide +kernel)
