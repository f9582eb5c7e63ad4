set_option maxRecDepth 20000 in
theorem i_wsX60 : GoodIn lw_tbl wsX60 := goodIn_p _ [] (by decide +kernel) (by decide +kernel)
set_option maxRecDepth 20000 in
theorem i_wsX30 : GoodIn lw_tbl wsX30 := goodIn_p _ [] (by decide +kernel) (by decide +kernel)
set_option maxRecDepth 20000 in
theorem i_wsX00 : GoodIn lw_tbl wsX00 := goodIn_p _ [] (by decide +kernel) (by decide +kernel)
set_option maxRecDepth 20000 in
theorem i_wsX20 : GoodIn lw_tbl wsX20 := goodIn_p _ [] (by decide +kernel) (by decide +kernel)
set_option maxRecDepth 20000 in
theorem i_wsX10 : GoodIn lw_tbl wsX10 := goodIn_p _ [] (by decide +kernel) (by decide +kernel)
