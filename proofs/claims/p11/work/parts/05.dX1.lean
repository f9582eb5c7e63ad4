theorem dX1_init_0 : decode cX1_init 0 = .ok (.aload_n 0, 1) := by decide +kernel
theorem dX1_init_1 : decode cX1_init 1 = .ok (.invokespecial 3, 3) := by decide +kernel
theorem dX1_init_4 : decode cX1_init 4 = .ok (.aload_n 0, 1) := by decide +kernel
theorem dX1_init_5 : decode cX1_init 5 = .ok (.bipush 100, 2) := by decide +kernel
theorem dX1_init_7 : decode cX1_init 7 = .ok (.newarray .int, 2) := by decide +kernel
theorem dX1_init_9 : decode cX1_init 9 = .ok (.putfield 9, 3) := by decide +kernel
theorem dX1_init_12 : decode cX1_init 12 = .ok (.aload_n 0, 1) := by decide +kernel
theorem dX1_init_13 : decode cX1_init 13 = .ok (.bipush 100, 2) := by decide +kernel
theorem dX1_init_15 : decode cX1_init 15 = .ok (.newarray .int, 2) := by decide +kernel
theorem dX1_init_17 : decode cX1_init 17 = .ok (.putfield 15, 3) := by decide +kernel
theorem dX1_init_20 : decode cX1_init 20 = .ok (.aload_n 0, 1) := by decide +kernel
theorem dX1_init_21 : decode cX1_init 21 = .ok (.iconst 0, 1) := by decide +kernel
theorem dX1_init_22 : decode cX1_init 22 = .ok (.putfield 18, 3) := by decide +kernel
theorem dX1_init_25 : decode cX1_init 25 = .ok (.aload_n 0, 1) := by decide +kernel
theorem dX1_init_26 : decode cX1_init 26 = .ok (.iconst 0, 1) := by decide +kernel
theorem dX1_init_27 : decode cX1_init 27 = .ok (.putfield 22, 3) := by decide +kernel
theorem dX1_init_30 : decode cX1_init 30 = .ok (.return_, 1) := by decide +kernel
theorem dX1_forget_0 : decode cX1_forget 0 = .ok (.aload_n 0, 1) := by decide +kernel
theorem dX1_forget_1 : decode cX1_forget 1 = .ok (.iconst 0, 1) := by decide +kernel
theorem dX1_forget_2 : decode cX1_forget 2 = .ok (.putfield 18, 3) := by decide +kernel
theorem dX1_forget_5 : decode cX1_forget 5 = .ok (.aload_n 0, 1) := by decide +kernel
theorem dX1_forget_6 : decode cX1_forget 6 = .ok (.iconst 0, 1) := by decide +kernel
theorem dX1_forget_7 : decode cX1_forget 7 = .ok (.putfield 22, 3) := by decide +kernel
theorem dX1_forget_10 : decode cX1_forget 10 = .ok (.return_, 1) := by decide +kernel
theorem dX1_tell_0 : decode cX1_tell 0 = .ok (.aload_n 0, 1) := by decide +kernel
theorem dX1_tell_1 : decode cX1_tell 1 = .ok (.getfield 18, 3) := by decide +kernel
theorem dX1_tell_4 : decode cX1_tell 4 = .ok (.bipush 100, 2) := by decide +kernel
theorem dX1_tell_6 : decode cX1_tell 6 = .ok (.if_icmp .ge 23, 3) := by decide +kernel
theorem dX1_tell_9 : decode cX1_tell 9 = .ok (.aload_n 0, 1) := by decide +kernel
theorem dX1_tell_10 : decode cX1_tell 10 = .ok (.getfield 9, 3) := by decide +kernel
theorem dX1_tell_13 : decode cX1_tell 13 = .ok (.aload_n 0, 1) := by decide +kernel
theorem dX1_tell_14 : decode cX1_tell 14 = .ok (.getfield 18, 3) := by decide +kernel
theorem dX1_tell_17 : decode cX1_tell 17 = .ok (.iload_n 1, 1) := by decide +kernel
theorem dX1_tell_18 : decode cX1_tell 18 = .ok (.iastore, 1) := by decide +kernel
theorem dX1_tell_19 : decode cX1_tell 19 = .ok (.aload_n 0, 1) := by decide +kernel
theorem dX1_tell_20 : decode cX1_tell 20 = .ok (.getfield 15, 3) := by decide +kernel
theorem dX1_tell_23 : decode cX1_tell 23 = .ok (.aload_n 0, 1) := by decide +kernel
theorem dX1_tell_24 : decode cX1_tell 24 = .ok (.getfield 18, 3) := by decide +kernel
theorem dX1_tell_27 : decode cX1_tell 27 = .ok (.iload_n 2, 1) := by decide +kernel
theorem dX1_tell_28 : decode cX1_tell 28 = .ok (.iastore, 1) := by decide +kernel
theorem dX1_tell_29 : decode cX1_tell 29 = .ok (.aload_n 0, 1) := by decide +kernel
theorem dX1_tell_30 : decode cX1_tell 30 = .ok (.dup, 1) := by decide +kernel
theorem dX1_tell_31 : decode cX1_tell 31 = .ok (.getfield 18, 3) := by decide +kernel
theorem dX1_tell_34 : decode cX1_tell 34 = .ok (.iconst 1, 1) := by decide +kernel
theorem dX1_tell_35 : decode cX1_tell 35 = .ok (.iadd, 1) := by decide +kernel
theorem dX1_tell_36 : decode cX1_tell 36 = .ok (.putfield 18, 3) := by decide +kernel
theorem dX1_tell_39 : decode cX1_tell 39 = .ok (.aload_n 0, 1) := by decide +kernel
theorem dX1_tell_40 : decode cX1_tell 40 = .ok (.dup, 1) := by decide +kernel
theorem dX1_tell_41 : decode cX1_tell 41 = .ok (.getfield 22, 3) := by decide +kernel
theorem dX1_tell_44 : decode cX1_tell 44 = .ok (.iload_n 2, 1) := by decide +kernel
theorem dX1_tell_45 : decode cX1_tell 45 = .ok (.iadd, 1) := by decide +kernel
theorem dX1_tell_46 : decode cX1_tell 46 = .ok (.putfield 22, 3) := by decide +kernel
theorem dX1_tell_49 : decode cX1_tell 49 = .ok (.return_, 1) := by decide +kernel
theorem dX1_many_0 : decode cX1_many 0 = .ok (.aload_n 0, 1) := by decide +kernel
theorem dX1_many_1 : decode cX1_many 1 = .ok (.getfield 18, 3) := by decide +kernel
theorem dX1_many_4 : decode cX1_many 4 = .ok (.ireturn, 1) := by decide +kernel
theorem dX1_allBytes_0 : decode cX1_allBytes 0 = .ok (.aload_n 0, 1) := by decide +kernel
theorem dX1_allBytes_1 : decode cX1_allBytes 1 = .ok (.getfield 22, 3) := by decide +kernel
theorem dX1_allBytes_4 : decode cX1_allBytes 4 = .ok (.ireturn, 1) := by decide +kernel
set_option maxRecDepth 20000 in
theorem ggX1_whichAt_X1_isKept : GoodIn wsX1_whichAt wsX1_isKept := goodIn_r _ [6, 7, 8, 9, 10, 11] (by decide +kernel) (by decide +kernel)
set_option maxRecDepth 20000 in
theorem gX1_whichAt_X1_isKept : GoodIn wsX1_whichAt (wsV RX1 25 RX1 yX1_isKept wsX1_isKept) := goodIn_app (goodIn_of _ (by decide +kernel)) ggX1_whichAt_X1_isKept
theorem dX1_whichAt_0 : decode cX1_whichAt 0 = .ok (.aload_n 0, 1) := by decide +kernel
theorem dX1_whichAt_1 : decode cX1_whichAt 1 = .ok (.iload_n 1, 1) := by decide +kernel
theorem dX1_whichAt_2 : decode cX1_whichAt 2 = .ok (.invokevirtual 25, 3) := by decide +kernel
theorem dX1_whichAt_5 : decode cX1_whichAt 5 = .ok (.ifCond .eq 12, 3) := by decide +kernel
theorem dX1_whichAt_8 : decode cX1_whichAt 8 = .ok (.aload_n 0, 1) := by decide +kernel
theorem dX1_whichAt_9 : decode cX1_whichAt 9 = .ok (.getfield 9, 3) := by decide +kernel
theorem dX1_whichAt_12 : decode cX1_whichAt 12 = .ok (.iload_n 1, 1) := by decide +kernel
theorem dX1_whichAt_13 : decode cX1_whichAt 13 = .ok (.iaload, 1) := by decide +kernel
theorem dX1_whichAt_14 : decode cX1_whichAt 14 = .ok (.goto 4, 3) := by decide +kernel
theorem dX1_whichAt_17 : decode cX1_whichAt 17 = .ok (.iconst (-1), 1) := by decide +kernel
theorem dX1_whichAt_18 : decode cX1_whichAt 18 = .ok (.ireturn, 1) := by decide +kernel
set_option maxRecDepth 20000 in
theorem ggX1_bytesAt_X1_isKept : GoodIn wsX1_bytesAt wsX1_isKept := goodIn_r _ [6, 7, 8, 9, 10, 11] (by decide +kernel) (by decide +kernel)
set_option maxRecDepth 20000 in
theorem gX1_bytesAt_X1_isKept : GoodIn wsX1_bytesAt (wsV RX1 25 RX1 yX1_isKept wsX1_isKept) := goodIn_app (goodIn_of _ (by decide +kernel)) ggX1_bytesAt_X1_isKept
theorem dX1_bytesAt_0 : decode cX1_bytesAt 0 = .ok (.aload_n 0, 1) := by decide +kernel
theorem dX1_bytesAt_1 : decode cX1_bytesAt 1 = .ok (.iload_n 1, 1) := by decide +kernel
theorem dX1_bytesAt_2 : decode cX1_bytesAt 2 = .ok (.invokevirtual 25, 3) := by decide +kernel
theorem dX1_bytesAt_5 : decode cX1_bytesAt 5 = .ok (.ifCond .eq 12, 3) := by decide +kernel
theorem dX1_bytesAt_8 : decode cX1_bytesAt 8 = .ok (.aload_n 0, 1) := by decide +kernel
theorem dX1_bytesAt_9 : decode cX1_bytesAt 9 = .ok (.getfield 15, 3) := by decide +kernel
theorem dX1_bytesAt_12 : decode cX1_bytesAt 12 = .ok (.iload_n 1, 1) := by decide +kernel
theorem dX1_bytesAt_13 : decode cX1_bytesAt 13 = .ok (.iaload, 1) := by decide +kernel
theorem dX1_bytesAt_14 : decode cX1_bytesAt 14 = .ok (.goto 4, 3) := by decide +kernel
theorem dX1_bytesAt_17 : decode cX1_bytesAt 17 = .ok (.iconst (-1), 1) := by decide +kernel
theorem dX1_bytesAt_18 : decode cX1_bytesAt 18 = .ok (.ireturn, 1) := by decide +kernel
theorem dX1_isKept_0 : decode cX1_isKept 0 = .ok (.iload_n 1, 1) := by decide +kernel
theorem dX1_isKept_1 : decode cX1_isKept 1 = .ok (.ifCond .lt 21, 3) := by decide +kernel
theorem dX1_isKept_4 : decode cX1_isKept 4 = .ok (.iload_n 1, 1) := by decide +kernel
theorem dX1_isKept_5 : decode cX1_isKept 5 = .ok (.aload_n 0, 1) := by decide +kernel
theorem dX1_isKept_6 : decode cX1_isKept 6 = .ok (.getfield 18, 3) := by decide +kernel
theorem dX1_isKept_9 : decode cX1_isKept 9 = .ok (.if_icmp .ge 13, 3) := by decide +kernel
theorem dX1_isKept_12 : decode cX1_isKept 12 = .ok (.iload_n 1, 1) := by decide +kernel
theorem dX1_isKept_13 : decode cX1_isKept 13 = .ok (.bipush 100, 2) := by decide +kernel
theorem dX1_isKept_15 : decode cX1_isKept 15 = .ok (.if_icmp .ge 7, 3) := by decide +kernel
theorem dX1_isKept_18 : decode cX1_isKept 18 = .ok (.iconst 1, 1) := by decide +kernel
theorem dX1_isKept_19 : decode cX1_isKept 19 = .ok (.goto 4, 3) := by decide +kernel
theorem dX1_isKept_22 : decode cX1_isKept 22 = .ok (.iconst 0, 1) := by decide +kernel
theorem dX1_isKept_23 : decode cX1_isKept 23 = .ok (.ireturn, 1) := by decide +kernel
