set_option maxRecDepth 20000 in
theorem in_law0_r1 : GoodIn lw_tbl wsL_law0_r1 := goodIn_p _ [73, 76] (by decide +kernel) (by decide +kernel)
set_option maxRecDepth 20000 in
theorem in_law0_r2 : GoodIn lw_tbl wsL_law0_r2 := goodIn_p _ [93, 97, 109, 860] (by decide +kernel) (by decide +kernel)
set_option maxRecDepth 20000 in
theorem in_law0_r3 : GoodIn lw_tbl wsL_law0_r3 := goodIn_p _ [] (by decide +kernel) (by decide +kernel)
set_option maxRecDepth 20000 in
theorem in_law0_r4 : GoodIn lw_tbl wsL_law0_r4 := goodIn_p _ [191, 263] (by decide +kernel) (by decide +kernel)
set_option maxRecDepth 20000 in
theorem in_law0_r5 : GoodIn lw_tbl wsL_law0_r5 := goodIn_p _ [981, 977, 296] (by decide +kernel) (by decide +kernel)
set_option maxRecDepth 20000 in
theorem in_law0_r6 : GoodIn lw_tbl wsL_law0_r6 := goodIn_p _ [300, 319, 340, 985] (by decide +kernel) (by decide +kernel)
