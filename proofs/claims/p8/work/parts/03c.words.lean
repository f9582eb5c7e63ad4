set_option maxRecDepth 20000 in
theorem i_wsL_law0_r17 : GoodIn lw_tbl wsL_law0_r17 := goodIn_p _ [272, 276, 280, 285, 290] (by decide +kernel) (by decide +kernel)
set_option maxRecDepth 20000 in
theorem i_wsL_law0_r18 : GoodIn lw_tbl wsL_law0_r18 := goodIn_p _ [294, 298, 302, 307, 311, 721] (by decide +kernel) (by decide +kernel)
set_option maxRecDepth 20000 in
theorem i_wsL_law0_r19 : GoodIn lw_tbl wsL_law0_r19 := goodIn_p _ [725, 729, 733, 737, 741] (by decide +kernel) (by decide +kernel)
set_option maxRecDepth 20000 in
theorem i_wsL_law0_r20 : GoodIn lw_tbl wsL_law0_r20 := goodIn_p _ [745, 749, 315, 753, 320, 324] (by decide +kernel) (by decide +kernel)
set_option maxRecDepth 20000 in
theorem i_wsL_law0_r21 : GoodIn lw_tbl wsL_law0_r21 := goodIn_p _ [757, 529, 533, 537, 541, 545] (by decide +kernel) (by decide +kernel)
set_option maxRecDepth 20000 in
theorem i_wsL_law0_r22 : GoodIn lw_tbl wsL_law0_r22 := goodIn_p _ [761, 553, 558, 562, 566] (by decide +kernel) (by decide +kernel)
set_option maxRecDepth 20000 in
theorem i_wsL_law0_r23 : GoodIn lw_tbl wsL_law0_r23 := goodIn_p _ [765, 328, 769] (by decide +kernel) (by decide +kernel)
set_option maxRecDepth 20000 in
theorem i_wsX50 : GoodIn lw_tbl wsX50 := goodIn_p _ [] (by decide +kernel) (by decide +kernel)
