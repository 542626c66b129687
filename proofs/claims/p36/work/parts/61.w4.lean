set_option maxRecDepth 20000 in
theorem in_law0_r16 : GoodIn lw_tbl wsL_law0_r16 := goodIn_p _ [628, 624, 621, 640, 644] (by decide +kernel) (by decide +kernel)
set_option maxRecDepth 20000 in
theorem in_law0_r17 : GoodIn lw_tbl wsL_law0_r17 := goodIn_p _ [560, 545, 518, 522, 526, 530] (by decide +kernel) (by decide +kernel)
set_option maxRecDepth 20000 in
theorem in_law0_r18 : GoodIn lw_tbl wsL_law0_r18 := goodIn_p _ [534, 537, 540, 549, 651, 655] (by decide +kernel) (by decide +kernel)
set_option maxRecDepth 20000 in
theorem in_law0_r19 : GoodIn lw_tbl wsL_law0_r19 := goodIn_p _ [662, 666, 318, 593, 336] (by decide +kernel) (by decide +kernel)
set_option maxRecDepth 20000 in
theorem in_law0_r20 : GoodIn lw_tbl wsL_law0_r20 := goodIn_p _ [597, 514, 556, 601, 605] (by decide +kernel) (by decide +kernel)
