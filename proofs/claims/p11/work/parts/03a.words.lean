set_option maxRecDepth 20000 in
theorem i_wsL_law0_r1 : GoodIn lw_tbl wsL_law0_r1 := goodIn_p _ [48, 51] (by decide +kernel) (by decide +kernel)
set_option maxRecDepth 20000 in
theorem i_wsL_law0_r2 : GoodIn lw_tbl wsL_law0_r2 := goodIn_p _ [56, 70, 85] (by decide +kernel) (by decide +kernel)
set_option maxRecDepth 20000 in
theorem i_wsL_law0_r3 : GoodIn lw_tbl wsL_law0_r3 := goodIn_p _ [91, 571] (by decide +kernel) (by decide +kernel)
set_option maxRecDepth 20000 in
theorem i_wsL_law0_r4 : GoodIn lw_tbl wsL_law0_r4 := goodIn_p _ [336, 407] (by decide +kernel) (by decide +kernel)
set_option maxRecDepth 20000 in
theorem i_wsL_law0_r5 : GoodIn lw_tbl wsL_law0_r5 := goodIn_p _ [161, 411, 186, 190, 416, 646] (by decide +kernel) (by decide +kernel)
set_option maxRecDepth 20000 in
theorem i_wsL_law0_r6 : GoodIn lw_tbl wsL_law0_r6 := goodIn_p _ [649, 653, 657] (by decide +kernel) (by decide +kernel)
set_option maxRecDepth 20000 in
theorem i_wsL_law0_r7 : GoodIn lw_tbl wsL_law0_r7 := goodIn_p _ [424, 205, 194, 447, 202] (by decide +kernel) (by decide +kernel)
set_option maxRecDepth 20000 in
theorem i_wsL_law0_r8 : GoodIn lw_tbl wsL_law0_r8 := goodIn_p _ [157, 661, 153, 665, 455] (by decide +kernel) (by decide +kernel)
