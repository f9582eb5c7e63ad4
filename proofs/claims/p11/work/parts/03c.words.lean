set_option maxRecDepth 20000 in
theorem i_wsL_law0_r17 : GoodIn lw_tbl wsL_law0_r17 := goodIn_p _ [276, 280, 285, 290, 294] (by decide +kernel) (by decide +kernel)
set_option maxRecDepth 20000 in
theorem i_wsL_law0_r18 : GoodIn lw_tbl wsL_law0_r18 := goodIn_p _ [298, 302, 307, 311, 717, 721] (by decide +kernel) (by decide +kernel)
set_option maxRecDepth 20000 in
theorem i_wsL_law0_r19 : GoodIn lw_tbl wsL_law0_r19 := goodIn_p _ [725, 729, 733, 737, 741] (by decide +kernel) (by decide +kernel)
set_option maxRecDepth 20000 in
theorem i_wsL_law0_r20 : GoodIn lw_tbl wsL_law0_r20 := goodIn_p _ [745, 315, 749, 320, 324, 753] (by decide +kernel) (by decide +kernel)
set_option maxRecDepth 20000 in
theorem i_wsL_law0_r21 : GoodIn lw_tbl wsL_law0_r21 := goodIn_p _ [529, 533, 537, 541, 545, 757] (by decide +kernel) (by decide +kernel)
set_option maxRecDepth 20000 in
theorem i_wsL_law0_r22 : GoodIn lw_tbl wsL_law0_r22 := goodIn_p _ [553, 558, 562, 566, 761] (by decide +kernel) (by decide +kernel)
set_option maxRecDepth 20000 in
theorem i_wsL_law0_r23 : GoodIn lw_tbl wsL_law0_r23 := goodIn_p _ [328, 765] (by decide +kernel) (by decide +kernel)
set_option maxRecDepth 20000 in
theorem i_wsX50 : GoodIn lw_tbl wsX50 := goodIn_p _ [] (by decide +kernel) (by decide +kernel)
