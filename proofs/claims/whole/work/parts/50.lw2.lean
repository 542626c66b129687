set_option maxRecDepth 20000 in
theorem in_law0_r7 : GoodIn lw_tbl wsL_law0_r7 := goodIn_p _ [989, 992, 364] (by decide +kernel) (by decide +kernel)
set_option maxRecDepth 20000 in
theorem in_law0_r8 : GoodIn lw_tbl wsL_law0_r8 := goodIn_p _ [368, 373, 379, 996, 1000] (by decide +kernel) (by decide +kernel)
set_option maxRecDepth 20000 in
theorem in_law0_r9 : GoodIn lw_tbl wsL_law0_r9 := goodIn_p _ [1004, 400, 1008, 408] (by decide +kernel) (by decide +kernel)
set_option maxRecDepth 20000 in
theorem in_law0_r10 : GoodIn lw_tbl wsL_law0_r10 := goodIn_p _ [1012, 179, 1016, 416, 419] (by decide +kernel) (by decide +kernel)
set_option maxRecDepth 20000 in
theorem in_law0_r11 : GoodIn lw_tbl wsL_law0_r11 := goodIn_p _ [423, 1020, 1023, 432, 436] (by decide +kernel) (by decide +kernel)
set_option maxRecDepth 20000 in
theorem in_law0_r12 : GoodIn lw_tbl wsL_law0_r12 := goodIn_p _ [440, 443, 446, 450, 1027, 1031] (by decide +kernel) (by decide +kernel)
