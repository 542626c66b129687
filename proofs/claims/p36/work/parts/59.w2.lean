set_option maxRecDepth 20000 in
theorem in_law0_r6 : GoodIn lw_tbl wsL_law0_r6 := goodIn_p _ [659, 340, 344, 347] (by decide +kernel) (by decide +kernel)
set_option maxRecDepth 20000 in
theorem in_law0_r7 : GoodIn lw_tbl wsL_law0_r7 := goodIn_p _ [350, 354, 683, 587, 583] (by decide +kernel) (by decide +kernel)
set_option maxRecDepth 20000 in
theorem in_law0_r8 : GoodIn lw_tbl wsL_law0_r8 := goodIn_p _ [688, 579, 692, 696, 385] (by decide +kernel) (by decide +kernel)
set_option maxRecDepth 20000 in
theorem in_law0_r9 : GoodIn lw_tbl wsL_law0_r9 := goodIn_p _ [398, 703, 721, 381, 390] (by decide +kernel) (by decide +kernel)
set_option maxRecDepth 20000 in
theorem in_law0_r10 : GoodIn lw_tbl wsL_law0_r10 := goodIn_p _ [362, 394, 330, 402, 407, 411] (by decide +kernel) (by decide +kernel)
