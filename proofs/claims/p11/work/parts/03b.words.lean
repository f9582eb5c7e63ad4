set_option maxRecDepth 20000 in
theorem i_wsL_law0_r9 : GoodIn lw_tbl wsL_law0_r9 := goodIn_p _ [458, 215, 218, 224, 669, 673] (by decide +kernel) (by decide +kernel)
set_option maxRecDepth 20000 in
theorem i_wsL_law0_r10 : GoodIn lw_tbl wsL_law0_r10 := goodIn_p _ [676, 680, 165, 169, 174, 178] (by decide +kernel) (by decide +kernel)
set_option maxRecDepth 20000 in
theorem i_wsL_law0_r11 : GoodIn lw_tbl wsL_law0_r11 := goodIn_p _ [182, 198, 208, 212, 230] (by decide +kernel) (by decide +kernel)
set_option maxRecDepth 20000 in
theorem i_wsL_law0_r12 : GoodIn lw_tbl wsL_law0_r12 := goodIn_p _ [236, 685, 689, 693, 697] (by decide +kernel) (by decide +kernel)
set_option maxRecDepth 20000 in
theorem i_wsL_law0_r13 : GoodIn lw_tbl wsL_law0_r13 := goodIn_p _ [467, 701, 476, 480] (by decide +kernel) (by decide +kernel)
set_option maxRecDepth 20000 in
theorem i_wsL_law0_r14 : GoodIn lw_tbl wsL_law0_r14 := goodIn_p _ [501, 705, 509, 709] (by decide +kernel) (by decide +kernel)
set_option maxRecDepth 20000 in
theorem i_wsL_law0_r15 : GoodIn lw_tbl wsL_law0_r15 := goodIn_p _ [517, 522, 713, 240, 244, 248] (by decide +kernel) (by decide +kernel)
set_option maxRecDepth 20000 in
theorem i_wsL_law0_r16 : GoodIn lw_tbl wsL_law0_r16 := goodIn_p _ [253, 257, 261, 267, 272] (by decide +kernel) (by decide +kernel)
