set_option maxRecDepth 20000 in
theorem in_law0_r25 : GoodIn lw_tbl wsL_law0_r25 := goodIn_p _ [1105, 1109, 1113, 1118, 696] (by decide +kernel) (by decide +kernel)
set_option maxRecDepth 20000 in
theorem in_law0_r26 : GoodIn lw_tbl wsL_law0_r26 := goodIn_p _ [700, 1123, 1127, 707, 1131] (by decide +kernel) (by decide +kernel)
set_option maxRecDepth 20000 in
theorem in_law0_r27 : GoodIn lw_tbl wsL_law0_r27 := goodIn_p _ [1135, 715, 1139, 723] (by decide +kernel) (by decide +kernel)
set_option maxRecDepth 20000 in
theorem in_law0_r28 : GoodIn lw_tbl wsL_law0_r28 := goodIn_p _ [727, 732, 736, 740, 745, 1143] (by decide +kernel) (by decide +kernel)
set_option maxRecDepth 20000 in
theorem in_law0_r29 : GoodIn lw_tbl wsL_law0_r29 := goodIn_p _ [1147, 1151, 1155, 753] (by decide +kernel) (by decide +kernel)
set_option maxRecDepth 20000 in
theorem in_law0_r30 : GoodIn lw_tbl wsL_law0_r30 := goodIn_p _ [758, 1160, 1165, 765, 1169] (by decide +kernel) (by decide +kernel)
