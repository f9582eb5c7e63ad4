set_option maxRecDepth 20000 in
theorem ggX5_told_X1_whichAt : GoodIn wsX5_told wsX1_whichAt := goodIn_r _ [14, 15, 16, 17, 18, 13, 19, 20, 39, 40, 41, 42] (by decide +kernel) (by decide +kernel)
set_option maxRecDepth 20000 in
theorem gX5_told_X1_whichAt : GoodIn wsX5_told (wsV RX5 152 RX1 yX1_whichAt wsX1_whichAt) := goodIn_app (goodIn_of _ (by decide +kernel)) ggX5_told_X1_whichAt
set_option maxRecDepth 20000 in
theorem ggX5_told_X1_bytesAt : GoodIn wsX5_told wsX1_bytesAt := goodIn_r _ [24, 25, 16, 17, 18, 13, 19, 20, 39, 40, 41, 42] (by decide +kernel) (by decide +kernel)
set_option maxRecDepth 20000 in
theorem gX5_told_X1_bytesAt : GoodIn wsX5_told (wsV RX5 155 RX1 yX1_bytesAt wsX1_bytesAt) := goodIn_app (goodIn_of _ (by decide +kernel)) ggX5_told_X1_bytesAt
theorem dX5_told_0 : decode cX5_told 0 = .ok (.iload_n 2, 1) := by decide +kernel
theorem dX5_told_1 : decode cX5_told 1 = .ok (.ifCond .eq 18, 3) := by decide +kernel
theorem dX5_told_4 : decode cX5_told 4 = .ok (.iload_n 2, 1) := by decide +kernel
theorem dX5_told_5 : decode cX5_told 5 = .ok (.iconst 1, 1) := by decide +kernel
theorem dX5_told_6 : decode cX5_told 6 = .ok (.if_icmp .eq 13, 3) := by decide +kernel
theorem dX5_told_9 : decode cX5_told 9 = .ok (.new 34, 3) := by decide +kernel
theorem dX5_told_12 : decode cX5_told 12 = .ok (.dup, 1) := by decide +kernel
theorem dX5_told_13 : decode cX5_told 13 = .ok (.ldc 150, 2) := by decide +kernel
theorem dX5_told_15 : decode cX5_told 15 = .ok (.invokespecial 38, 3) := by decide +kernel
theorem dX5_told_18 : decode cX5_told 18 = .ok (.athrow, 1) := by decide +kernel
theorem dX5_told_19 : decode cX5_told 19 = .ok (.iload_n 2, 1) := by decide +kernel
theorem dX5_told_20 : decode cX5_told 20 = .ok (.ifCond .ne 17, 3) := by decide +kernel
theorem dX5_told_23 : decode cX5_told 23 = .ok (.aload_n 0, 1) := by decide +kernel
theorem dX5_told_24 : decode cX5_told 24 = .ok (.getfield 30, 3) := by decide +kernel
theorem dX5_told_27 : decode cX5_told 27 = .ok (.invokevirtual 138, 3) := by decide +kernel
theorem dX5_told_30 : decode cX5_told 30 = .ok (.iload_n 1, 1) := by decide +kernel
theorem dX5_told_31 : decode cX5_told 31 = .ok (.invokevirtual 152, 3) := by decide +kernel
theorem dX5_told_34 : decode cX5_told 34 = .ok (.goto 14, 3) := by decide +kernel
theorem dX5_told_37 : decode cX5_told 37 = .ok (.aload_n 0, 1) := by decide +kernel
theorem dX5_told_38 : decode cX5_told 38 = .ok (.getfield 30, 3) := by decide +kernel
theorem dX5_told_41 : decode cX5_told 41 = .ok (.invokevirtual 138, 3) := by decide +kernel
theorem dX5_told_44 : decode cX5_told 44 = .ok (.iload_n 1, 1) := by decide +kernel
theorem dX5_told_45 : decode cX5_told 45 = .ok (.invokevirtual 155, 3) := by decide +kernel
theorem dX5_told_48 : decode cX5_told 48 = .ok (.ireturn, 1) := by decide +kernel
set_option maxRecDepth 20000 in
theorem ggX5_log_X0_bytes : GoodIn wsX5_log wsX0_bytes := goodIn_r _ [6, 7, 18, 19] (by decide +kernel) (by decide +kernel)
set_option maxRecDepth 20000 in
theorem gX5_log_X0_bytes : GoodIn wsX5_log (wsV RX5 93 RX0 yX0_bytes wsX0_bytes) := goodIn_app (goodIn_of _ (by decide +kernel)) ggX5_log_X0_bytes
set_option maxRecDepth 20000 in
theorem ggX5_log_X3_at : GoodIn wsX5_log wsX3_at := goodIn_r _ [12, 13, 14, 20, 21] (by decide +kernel) (by decide +kernel)
set_option maxRecDepth 20000 in
theorem gX5_log_X3_at : GoodIn wsX5_log (wsV RX5 111 RX3 yX3_at wsX3_at) := goodIn_app (goodIn_of _ (by decide +kernel)) ggX5_log_X3_at
theorem dX5_log_0 : decode cX5_log 0 = .ok (.aload_n 0, 1) := by decide +kernel
theorem dX5_log_1 : decode cX5_log 1 = .ok (.getfield 21, 3) := by decide +kernel
theorem dX5_log_4 : decode cX5_log 4 = .ok (.invokevirtual 93, 3) := by decide +kernel
theorem dX5_log_7 : decode cX5_log 7 = .ok (.iload_n 1, 1) := by decide +kernel
theorem dX5_log_8 : decode cX5_log 8 = .ok (.invokevirtual 111, 3) := by decide +kernel
theorem dX5_log_11 : decode cX5_log 11 = .ok (.ireturn, 1) := by decide +kernel
theorem dX5_isByte_0 : decode cX5_isByte 0 = .ok (.iload_n 0, 1) := by decide +kernel
theorem dX5_isByte_1 : decode cX5_isByte 1 = .ok (.ifCond .lt 14, 3) := by decide +kernel
theorem dX5_isByte_4 : decode cX5_isByte 4 = .ok (.iload_n 0, 1) := by decide +kernel
theorem dX5_isByte_5 : decode cX5_isByte 5 = .ok (.sipush 255, 3) := by decide +kernel
theorem dX5_isByte_8 : decode cX5_isByte 8 = .ok (.if_icmp .gt 7, 3) := by decide +kernel
theorem dX5_isByte_11 : decode cX5_isByte 11 = .ok (.iconst 1, 1) := by decide +kernel
theorem dX5_isByte_12 : decode cX5_isByte 12 = .ok (.goto 4, 3) := by decide +kernel
theorem dX5_isByte_15 : decode cX5_isByte 15 = .ok (.iconst 0, 1) := by decide +kernel
theorem dX5_isByte_16 : decode cX5_isByte 16 = .ok (.ireturn, 1) := by decide +kernel
