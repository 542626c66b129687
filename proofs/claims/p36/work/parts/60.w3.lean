set_option maxRecDepth 20000 in
theorem in_law0_r11 : GoodIn lw_tbl wsL_law0_r11 := goodIn_p _ [428, 432, 489] (by decide +kernel) (by decide +kernel)
set_option maxRecDepth 20000 in
theorem in_law0_r12 : GoodIn lw_tbl wsL_law0_r12 := goodIn_p _ [471, 493, 497, 501, 505] (by decide +kernel) (by decide +kernel)
set_option maxRecDepth 20000 in
theorem in_law0_r13 : GoodIn lw_tbl wsL_law0_r13 := goodIn_p _ [509, 484, 475, 467, 480] (by decide +kernel) (by decide +kernel)
set_option maxRecDepth 20000 in
theorem in_law0_r14 : GoodIn lw_tbl wsL_law0_r14 := goodIn_p _ [359, 326, 368, 372, 377] (by decide +kernel) (by decide +kernel)
set_option maxRecDepth 20000 in
theorem in_law0_r15 : GoodIn lw_tbl wsL_law0_r15 := goodIn_p _ [564, 569, 323, 631, 617, 574] (by decide +kernel) (by decide +kernel)
