set_option maxRecDepth 20000 in
theorem in_law0_r31 : GoodIn lw_tbl wsL_law0_r31 := goodIn_p _ [773, 777, 784, 788, 791] (by decide +kernel) (by decide +kernel)
set_option maxRecDepth 20000 in
theorem in_law0_r32 : GoodIn lw_tbl wsL_law0_r32 := goodIn_p _ [795, 1173, 1177, 1181, 1184] (by decide +kernel) (by decide +kernel)
set_option maxRecDepth 20000 in
theorem in_law0_r33 : GoodIn lw_tbl wsL_law0_r33 := goodIn_p _ [802, 1188, 809, 1192, 816] (by decide +kernel) (by decide +kernel)
set_option maxRecDepth 20000 in
theorem in_law0_r34 : GoodIn lw_tbl wsL_law0_r34 := goodIn_p _ [1196, 823, 1200, 183, 1204] (by decide +kernel) (by decide +kernel)
set_option maxRecDepth 20000 in
theorem in_law0_r35 : GoodIn lw_tbl wsL_law0_r35 := goodIn_p _ [830, 1208, 838, 843] (by decide +kernel) (by decide +kernel)
set_option maxRecDepth 20000 in
theorem in_law0_r36 : GoodIn lw_tbl wsL_law0_r36 := goodIn_p _ [848, 1212, 1216, 855, 1220] (by decide +kernel) (by decide +kernel)
