set_option maxRecDepth 20000 in
theorem in_law0_r13 : GoodIn lw_tbl wsL_law0_r13 := goodIn_p _ [458, 462, 466, 1036] (by decide +kernel) (by decide +kernel)
set_option maxRecDepth 20000 in
theorem in_law0_r14 : GoodIn lw_tbl wsL_law0_r14 := goodIn_p _ [473, 476, 482, 1040, 1043] (by decide +kernel) (by decide +kernel)
set_option maxRecDepth 20000 in
theorem in_law0_r15 : GoodIn lw_tbl wsL_law0_r15 := goodIn_p _ [489, 494, 1049, 501] (by decide +kernel) (by decide +kernel)
set_option maxRecDepth 20000 in
theorem in_law0_r16 : GoodIn lw_tbl wsL_law0_r16 := goodIn_p _ [505, 509, 514, 519, 523] (by decide +kernel) (by decide +kernel)
set_option maxRecDepth 20000 in
theorem in_law0_r17 : GoodIn lw_tbl wsL_law0_r17 := goodIn_p _ [540, 544, 1054] (by decide +kernel) (by decide +kernel)
set_option maxRecDepth 20000 in
theorem in_law0_r18 : GoodIn lw_tbl wsL_law0_r18 := goodIn_p _ [1057, 1061, 584, 588, 1065] (by decide +kernel) (by decide +kernel)
