theorem dX6_fragment_384 : decode cX6_fragment 384 = .ok (.if_icmp .ge 8, 3) := by decide +kernel
theorem dX6_fragment_387 : decode cX6_fragment 387 = .ok (.bipush (-2), 2) := by decide +kernel
theorem dX6_fragment_389 : decode cX6_fragment 389 = .ok (.goto 4, 3) := by decide +kernel
theorem dX6_fragment_392 : decode cX6_fragment 392 = .ok (.iload_n 3, 1) := by decide +kernel
theorem dX6_fragment_393 : decode cX6_fragment 393 = .ok (.ireturn, 1) := by decide +kernel
theorem dX6_take_0 : decode cX6_take 0 = .ok (.iconst 0, 1) := by decide +kernel
theorem dX6_take_1 : decode cX6_take 1 = .ok (.istore_n 1, 1) := by decide +kernel
theorem dX6_take_2 : decode cX6_take 2 = .ok (.iload_n 1, 1) := by decide +kernel
theorem dX6_take_3 : decode cX6_take 3 = .ok (.aload_n 0, 1) := by decide +kernel
theorem dX6_take_4 : decode cX6_take 4 = .ok (.getfield 112, 3) := by decide +kernel
theorem dX6_take_7 : decode cX6_take 7 = .ok (.if_icmp .ge 42, 3) := by decide +kernel
theorem dX6_take_10 : decode cX6_take 10 = .ok (.aload_n 0, 1) := by decide +kernel
theorem dX6_take_11 : decode cX6_take 11 = .ok (.getfield 20, 3) := by decide +kernel
theorem dX6_take_14 : decode cX6_take 14 = .ok (.aload_n 0, 1) := by decide +kernel
theorem dX6_take_15 : decode cX6_take 15 = .ok (.getfield 54, 3) := by decide +kernel
theorem dX6_take_18 : decode cX6_take 18 = .ok (.aload_n 0, 1) := by decide +kernel
theorem dX6_take_19 : decode cX6_take 19 = .ok (.getfield 13, 3) := by decide +kernel
theorem dX6_take_22 : decode cX6_take 22 = .ok (.aload_n 0, 1) := by decide +kernel
theorem dX6_take_23 : decode cX6_take 23 = .ok (.getfield 109, 3) := by decide +kernel
theorem dX6_take_26 : decode cX6_take 26 = .ok (.bipush 7, 2) := by decide +kernel
theorem dX6_take_28 : decode cX6_take 28 = .ok (.iadd, 1) := by decide +kernel
theorem dX6_take_29 : decode cX6_take 29 = .ok (.iload_n 1, 1) := by decide +kernel
theorem dX6_take_30 : decode cX6_take 30 = .ok (.iadd, 1) := by decide +kernel
theorem dX6_take_31 : decode cX6_take 31 = .ok (.iaload, 1) := by decide +kernel
theorem dX6_take_32 : decode cX6_take 32 = .ok (.iastore, 1) := by decide +kernel
theorem dX6_take_33 : decode cX6_take 33 = .ok (.aload_n 0, 1) := by decide +kernel
theorem dX6_take_34 : decode cX6_take 34 = .ok (.dup, 1) := by decide +kernel
theorem dX6_take_35 : decode cX6_take 35 = .ok (.getfield 54, 3) := by decide +kernel
theorem dX6_take_38 : decode cX6_take 38 = .ok (.iconst 1, 1) := by decide +kernel
theorem dX6_take_39 : decode cX6_take 39 = .ok (.iadd, 1) := by decide +kernel
theorem dX6_take_40 : decode cX6_take 40 = .ok (.putfield 54, 3) := by decide +kernel
theorem dX6_take_43 : decode cX6_take 43 = .ok (.iinc 1 1, 3) := by decide +kernel
theorem dX6_take_46 : decode cX6_take 46 = .ok (.goto (-44), 3) := by decide +kernel
theorem dX6_take_49 : decode cX6_take 49 = .ok (.return_, 1) := by decide +kernel
theorem dX6_drop_0 : decode cX6_drop 0 = .ok (.aload_n 0, 1) := by decide +kernel
theorem dX6_drop_1 : decode cX6_drop 1 = .ok (.iconst 0, 1) := by decide +kernel
theorem dX6_drop_2 : decode cX6_drop 2 = .ok (.putfield 51, 3) := by decide +kernel
theorem dX6_drop_5 : decode cX6_drop 5 = .ok (.aload_n 0, 1) := by decide +kernel
theorem dX6_drop_6 : decode cX6_drop 6 = .ok (.iconst 0, 1) := by decide +kernel
theorem dX6_drop_7 : decode cX6_drop 7 = .ok (.putfield 54, 3) := by decide +kernel
theorem dX6_drop_10 : decode cX6_drop 10 = .ok (.return_, 1) := by decide +kernel
set_option maxRecDepth 20000 in
theorem ggX6_start_X6_tell : GoodIn wsX6_start wsX6_tell := goodIn_r _ [9, 10, 11, 12, 13, 25, 26, 27, 28, 29, 30, 31, 32, 33, 34, 35, 36, 37, 38, 39, 40, 41, 42, 43, 44, 45, 46, 47] (by decide +kernel) (by decide +kernel)
set_option maxRecDepth 20000 in
theorem gX6_start_X6_tell : GoodIn wsX6_start (wsV RX6 115 RX6 yX6_tell wsX6_tell) := goodIn_app (goodIn_of _ (by decide +kernel)) ggX6_start_X6_tell
set_option maxRecDepth 20000 in
theorem ggX6_start_X6_drop : GoodIn wsX6_start wsX6_drop := goodIn_r _ [17, 1, 2, 25, 26, 27, 28, 29, 30, 31, 32, 33, 34, 35, 36, 37, 38, 39, 40, 41, 42, 43, 44, 45, 46, 47] (by decide +kernel) (by decide +kernel)
set_option maxRecDepth 20000 in
theorem gX6_start_X6_drop : GoodIn wsX6_start (wsV RX6 119 RX6 yX6_drop wsX6_drop) := goodIn_app (goodIn_of _ (by decide +kernel)) ggX6_start_X6_drop
set_option maxRecDepth 20000 in
theorem ggX6_start_X6_take : GoodIn wsX6_start wsX6_take := goodIn_r _ [21, 22, 23, 2, 24, 3, 25, 26, 27, 28, 29, 30, 31, 32, 33, 34, 35, 36, 37, 38, 39, 40, 41, 42, 43, 44, 45, 46, 47] (by decide +kernel) (by decide +kernel)
set_option maxRecDepth 20000 in
theorem gX6_start_X6_take : GoodIn wsX6_start (wsV RX6 125 RX6 yX6_take wsX6_take) := goodIn_app (goodIn_of _ (by decide +kernel)) ggX6_start_X6_take
theorem dX6_start_0 : decode cX6_start 0 = .ok (.aload_n 0, 1) := by decide +kernel
theorem dX6_start_1 : decode cX6_start 1 = .ok (.getfield 51, 3) := by decide +kernel
theorem dX6_start_4 : decode cX6_start 4 = .ok (.ifCond .eq 19, 3) := by decide +kernel
theorem dX6_start_7 : decode cX6_start 7 = .ok (.aload_n 0, 1) := by decide +kernel
theorem dX6_start_8 : decode cX6_start 8 = .ok (.getfield 54, 3) := by decide +kernel
theorem dX6_start_11 : decode cX6_start 11 = .ok (.ifCond .le 12, 3) := by decide +kernel
theorem dX6_start_14 : decode cX6_start 14 = .ok (.aload_n 0, 1) := by decide +kernel
theorem dX6_start_15 : decode cX6_start 15 = .ok (.iconst 4, 1) := by decide +kernel
theorem dX6_start_16 : decode cX6_start 16 = .ok (.aload_n 0, 1) := by decide +kernel
theorem dX6_start_17 : decode cX6_start 17 = .ok (.getfield 54, 3) := by decide +kernel
theorem dX6_start_20 : decode cX6_start 20 = .ok (.invokevirtual 115, 3) := by decide +kernel
theorem dX6_start_23 : decode cX6_start 23 = .ok (.aload_n 0, 1) := by decide +kernel
theorem dX6_start_24 : decode cX6_start 24 = .ok (.invokevirtual 119, 3) := by decide +kernel
theorem dX6_start_27 : decode cX6_start 27 = .ok (.aload_n 0, 1) := by decide +kernel
theorem dX6_start_28 : decode cX6_start 28 = .ok (.iconst 1, 1) := by decide +kernel
theorem dX6_start_29 : decode cX6_start 29 = .ok (.putfield 51, 3) := by decide +kernel
theorem dX6_start_32 : decode cX6_start 32 = .ok (.aload_n 0, 1) := by decide +kernel
theorem dX6_start_33 : decode cX6_start 33 = .ok (.aload_n 0, 1) := by decide +kernel
theorem dX6_start_34 : decode cX6_start 34 = .ok (.getfield 109, 3) := by decide +kernel
theorem dX6_start_37 : decode cX6_start 37 = .ok (.putfield 122, 3) := by decide +kernel
theorem dX6_start_40 : decode cX6_start 40 = .ok (.aload_n 0, 1) := by decide +kernel
theorem dX6_start_41 : decode cX6_start 41 = .ok (.invokevirtual 125, 3) := by decide +kernel
theorem dX6_start_44 : decode cX6_start 44 = .ok (.return_, 1) := by decide +kernel
set_option maxRecDepth 20000 in
theorem ggX6_finish_X6_drop : GoodIn wsX6_finish wsX6_drop := goodIn_r _ [11, 12, 1, 13, 14, 15, 16, 17, 18, 19, 20, 21, 22, 23, 24, 25, 26, 27, 28, 29, 30, 31, 32, 33, 34, 35] (by decide +kernel) (by decide +kernel)
set_option maxRecDepth 20000 in
theorem gX6_finish_X6_drop : GoodIn wsX6_finish (wsV RX6 119 RX6 yX6_drop wsX6_drop) := goodIn_app (goodIn_of _ (by decide +kernel)) ggX6_finish_X6_drop
theorem dX6_finish_0 : decode cX6_finish 0 = .ok (.aload_n 0, 1) := by decide +kernel
theorem dX6_finish_1 : decode cX6_finish 1 = .ok (.aload_n 0, 1) := by decide +kernel
theorem dX6_finish_2 : decode cX6_finish 2 = .ok (.getfield 54, 3) := by decide +kernel
theorem dX6_finish_5 : decode cX6_finish 5 = .ok (.putfield 23, 3) := by decide +kernel
theorem dX6_finish_8 : decode cX6_finish 8 = .ok (.aload_n 0, 1) := by decide +kernel
theorem dX6_finish_9 : decode cX6_finish 9 = .ok (.aload_n 0, 1) := by decide +kernel
theorem dX6_finish_10 : decode cX6_finish 10 = .ok (.getfield 122, 3) := by decide +kernel
theorem dX6_finish_13 : decode cX6_finish 13 = .ok (.putfield 26, 3) := by decide +kernel
theorem dX6_finish_16 : decode cX6_finish 16 = .ok (.iconst 0, 1) := by decide +kernel
theorem dX6_finish_17 : decode cX6_finish 17 = .ok (.istore_n 1, 1) := by decide +kernel
theorem dX6_finish_18 : decode cX6_finish 18 = .ok (.iload_n 1, 1) := by decide +kernel
theorem dX6_finish_19 : decode cX6_finish 19 = .ok (.aload_n 0, 1) := by decide +kernel
theorem dX6_finish_20 : decode cX6_finish 20 = .ok (.getfield 54, 3) := by decide +kernel
theorem dX6_finish_23 : decode cX6_finish 23 = .ok (.if_icmp .ge 21, 3) := by decide +kernel
theorem dX6_finish_26 : decode cX6_finish 26 = .ok (.aload_n 0, 1) := by decide +kernel
theorem dX6_finish_27 : decode cX6_finish 27 = .ok (.getfield 29, 3) := by decide +kernel
theorem dX6_finish_30 : decode cX6_finish 30 = .ok (.iload_n 1, 1) := by decide +kernel
theorem dX6_finish_31 : decode cX6_finish 31 = .ok (.aload_n 0, 1) := by decide +kernel
theorem dX6_finish_32 : decode cX6_finish 32 = .ok (.getfield 20, 3) := by decide +kernel
theorem dX6_finish_35 : decode cX6_finish 35 = .ok (.iload_n 1, 1) := by decide +kernel
theorem dX6_finish_36 : decode cX6_finish 36 = .ok (.iaload, 1) := by decide +kernel
theorem dX6_finish_37 : decode cX6_finish 37 = .ok (.iastore, 1) := by decide +kernel
theorem dX6_finish_38 : decode cX6_finish 38 = .ok (.iinc 1 1, 3) := by decide +kernel
theorem dX6_finish_41 : decode cX6_finish 41 = .ok (.goto (-23), 3) := by decide +kernel
theorem dX6_finish_44 : decode cX6_finish 44 = .ok (.aload_n 0, 1) := by decide +kernel
theorem dX6_finish_45 : decode cX6_finish 45 = .ok (.invokevirtual 119, 3) := by decide +kernel
theorem dX6_finish_48 : decode cX6_finish 48 = .ok (.return_, 1) := by decide +kernel
set_option maxRecDepth 20000 in
theorem ggX6_passOn_X6_drop : GoodIn wsX6_passOn wsX6_drop := goodIn_r _ [9, 1, 2, 37, 38, 39, 40, 41, 42, 43, 44, 45, 46, 47, 48, 49, 50, 51, 52, 53, 54, 55, 56, 57, 58, 59] (by decide +kernel) (by decide +kernel)
set_option maxRecDepth 20000 in
theorem gX6_passOn_X6_drop : GoodIn wsX6_passOn (wsV RX6 119 RX6 yX6_drop wsX6_drop) := goodIn_app (goodIn_of _ (by decide +kernel)) ggX6_passOn_X6_drop
set_option maxRecDepth 20000 in
theorem ggX6_passOn_X6_tell : GoodIn wsX6_passOn wsX6_tell := goodIn_r _ [13, 14, 15, 16, 17, 37, 38, 39, 40, 41, 42, 43, 44, 45, 46, 47, 48, 49, 50, 51, 52, 53, 54, 55, 56, 57, 58, 59] (by decide +kernel) (by decide +kernel)
set_option maxRecDepth 20000 in
theorem gX6_passOn_X6_tell : GoodIn wsX6_passOn (wsV RX6 115 RX6 yX6_tell wsX6_tell) := goodIn_app (goodIn_of _ (by decide +kernel)) ggX6_passOn_X6_tell
set_option maxRecDepth 20000 in
theorem ggX6_passOn_X6_start : GoodIn wsX6_passOn wsX6_start := goodIn_r _ [21, 1, 2, 22, 23, 10, 11, 12, 8, 13, 14, 15, 16, 17, 5, 6, 7, 9, 24, 25, 26, 27, 4, 28, 29, 37, 38, 39, 40, 41, 42, 43, 44, 45, 46, 47, 48, 49, 50, 51, 52, 53, 54, 55, 56, 57, 58, 59] (by decide +kernel) (by decide +kernel)
set_option maxRecDepth 20000 in
theorem gX6_passOn_X6_start : GoodIn wsX6_passOn (wsV RX6 128 RX6 yX6_start wsX6_start) := goodIn_app (goodIn_of _ (by decide +kernel)) ggX6_passOn_X6_start
set_option maxRecDepth 20000 in
theorem ggX6_passOn_X6_finish : GoodIn wsX6_passOn wsX6_finish := goodIn_r _ [33, 2, 34, 23, 35, 36, 28, 5, 6, 7, 8, 9, 1, 37, 38, 39, 40, 41, 42, 43, 44, 45, 46, 47, 48, 49, 50, 51, 52, 53, 54, 55, 56, 57, 58, 59] (by decide +kernel) (by decide +kernel)
set_option maxRecDepth 20000 in
theorem gX6_passOn_X6_finish : GoodIn wsX6_passOn (wsV RX6 131 RX6 yX6_finish wsX6_finish) := goodIn_app (goodIn_of _ (by decide +kernel)) ggX6_passOn_X6_finish
set_option maxRecDepth 20000 in
theorem ggX6_passOn_X6_take : GoodIn wsX6_passOn wsX6_take := goodIn_r _ [27, 4, 28, 2, 29, 22, 37, 38, 39, 40, 41, 42, 43, 44, 45, 46, 47, 48, 49, 50, 51, 52, 53, 54, 55, 56, 57, 58, 59] (by decide +kernel) (by decide +kernel)
set_option maxRecDepth 20000 in
theorem gX6_passOn_X6_take : GoodIn wsX6_passOn (wsV RX6 125 RX6 yX6_take wsX6_take) := goodIn_app (goodIn_of _ (by decide +kernel)) ggX6_passOn_X6_take
theorem dX6_passOn_0 : decode cX6_passOn 0 = .ok (.iload_n 1, 1) := by decide +kernel
theorem dX6_passOn_1 : decode cX6_passOn 1 = .ok (.iconst (-1), 1) := by decide +kernel
theorem dX6_passOn_2 : decode cX6_passOn 2 = .ok (.if_icmp .ne 9, 3) := by decide +kernel
theorem dX6_passOn_5 : decode cX6_passOn 5 = .ok (.aload_n 0, 1) := by decide +kernel
theorem dX6_passOn_6 : decode cX6_passOn 6 = .ok (.invokevirtual 119, 3) := by decide +kernel
theorem dX6_passOn_9 : decode cX6_passOn 9 = .ok (.iconst 1, 1) := by decide +kernel
theorem dX6_passOn_10 : decode cX6_passOn 10 = .ok (.ireturn, 1) := by decide +kernel
theorem dX6_passOn_11 : decode cX6_passOn 11 = .ok (.iload_n 1, 1) := by decide +kernel
theorem dX6_passOn_12 : decode cX6_passOn 12 = .ok (.bipush (-2), 2) := by decide +kernel
theorem dX6_passOn_14 : decode cX6_passOn 14 = .ok (.if_icmp .ne 25, 3) := by decide +kernel
theorem dX6_passOn_17 : decode cX6_passOn 17 = .ok (.aload_n 0, 1) := by decide +kernel
theorem dX6_passOn_18 : decode cX6_passOn 18 = .ok (.getfield 51, 3) := by decide +kernel
theorem dX6_passOn_21 : decode cX6_passOn 21 = .ok (.ifCond .eq 12, 3) := by decide +kernel
theorem dX6_passOn_24 : decode cX6_passOn 24 = .ok (.aload_n 0, 1) := by decide +kernel
theorem dX6_passOn_25 : decode cX6_passOn 25 = .ok (.iconst 3, 1) := by decide +kernel
theorem dX6_passOn_26 : decode cX6_passOn 26 = .ok (.aload_n 0, 1) := by decide +kernel
theorem dX6_passOn_27 : decode cX6_passOn 27 = .ok (.getfield 54, 3) := by decide +kernel
theorem dX6_passOn_30 : decode cX6_passOn 30 = .ok (.invokevirtual 115, 3) := by decide +kernel
theorem dX6_passOn_33 : decode cX6_passOn 33 = .ok (.aload_n 0, 1) := by decide +kernel
theorem dX6_passOn_34 : decode cX6_passOn 34 = .ok (.invokevirtual 119, 3) := by decide +kernel
theorem dX6_passOn_37 : decode cX6_passOn 37 = .ok (.iconst 0, 1) := by decide +kernel
theorem dX6_passOn_38 : decode cX6_passOn 38 = .ok (.ireturn, 1) := by decide +kernel
theorem dX6_passOn_39 : decode cX6_passOn 39 = .ok (.aload_n 0, 1) := by decide +kernel
theorem dX6_passOn_40 : decode cX6_passOn 40 = .ok (.getfield 47, 3) := by decide +kernel
theorem dX6_passOn_43 : decode cX6_passOn 43 = .ok (.ifCond .eq 29, 3) := by decide +kernel
theorem dX6_passOn_46 : decode cX6_passOn 46 = .ok (.aload_n 0, 1) := by decide +kernel
theorem dX6_passOn_47 : decode cX6_passOn 47 = .ok (.iload_n 1, 1) := by decide +kernel
theorem dX6_passOn_48 : decode cX6_passOn 48 = .ok (.iconst 3, 1) := by decide +kernel
theorem dX6_passOn_49 : decode cX6_passOn 49 = .ok (.if_icmp .ne 7, 3) := by decide +kernel
theorem dX6_passOn_52 : decode cX6_passOn 52 = .ok (.iconst 1, 1) := by decide +kernel
theorem dX6_passOn_53 : decode cX6_passOn 53 = .ok (.goto 4, 3) := by decide +kernel
theorem dX6_passOn_56 : decode cX6_passOn 56 = .ok (.iconst 0, 1) := by decide +kernel
theorem dX6_passOn_57 : decode cX6_passOn 57 = .ok (.putfield 47, 3) := by decide +kernel
theorem dX6_passOn_60 : decode cX6_passOn 60 = .ok (.iload_n 1, 1) := by decide +kernel
theorem dX6_passOn_61 : decode cX6_passOn 61 = .ok (.iconst 3, 1) := by decide +kernel
theorem dX6_passOn_62 : decode cX6_passOn 62 = .ok (.if_icmp .eq 8, 3) := by decide +kernel
theorem dX6_passOn_65 : decode cX6_passOn 65 = .ok (.iload_n 1, 1) := by decide +kernel
theorem dX6_passOn_66 : decode cX6_passOn 66 = .ok (.iconst 4, 1) := by decide +kernel
theorem dX6_passOn_67 : decode cX6_passOn 67 = .ok (.if_icmp .ne 5, 3) := by decide +kernel
theorem dX6_passOn_70 : decode cX6_passOn 70 = .ok (.iconst 0, 1) := by decide +kernel
theorem dX6_passOn_71 : decode cX6_passOn 71 = .ok (.ireturn, 1) := by decide +kernel
theorem dX6_passOn_72 : decode cX6_passOn 72 = .ok (.iload_n 1, 1) := by decide +kernel
theorem dX6_passOn_73 : decode cX6_passOn 73 = .ok (.iconst 1, 1) := by decide +kernel
theorem dX6_passOn_74 : decode cX6_passOn 74 = .ok (.if_icmp .eq 8, 3) := by decide +kernel
theorem dX6_passOn_77 : decode cX6_passOn 77 = .ok (.iload_n 1, 1) := by decide +kernel
theorem dX6_passOn_78 : decode cX6_passOn 78 = .ok (.iconst 2, 1) := by decide +kernel
theorem dX6_passOn_79 : decode cX6_passOn 79 = .ok (.if_icmp .ne 27, 3) := by decide +kernel
theorem dX6_passOn_82 : decode cX6_passOn 82 = .ok (.aload_n 0, 1) := by decide +kernel
theorem dX6_passOn_83 : decode cX6_passOn 83 = .ok (.invokevirtual 128, 3) := by decide +kernel
theorem dX6_passOn_86 : decode cX6_passOn 86 = .ok (.iload_n 1, 1) := by decide +kernel
theorem dX6_passOn_87 : decode cX6_passOn 87 = .ok (.iconst 1, 1) := by decide +kernel
theorem dX6_passOn_88 : decode cX6_passOn 88 = .ok (.if_icmp .ne 7, 3) := by decide +kernel
theorem dX6_passOn_91 : decode cX6_passOn 91 = .ok (.aload_n 0, 1) := by decide +kernel
theorem dX6_passOn_92 : decode cX6_passOn 92 = .ok (.invokevirtual 131, 3) := by decide +kernel
theorem dX6_passOn_95 : decode cX6_passOn 95 = .ok (.iload_n 1, 1) := by decide +kernel
theorem dX6_passOn_96 : decode cX6_passOn 96 = .ok (.iconst 1, 1) := by decide +kernel
theorem dX6_passOn_97 : decode cX6_passOn 97 = .ok (.if_icmp .ne 7, 3) := by decide +kernel
theorem dX6_passOn_100 : decode cX6_passOn 100 = .ok (.iconst 1, 1) := by decide +kernel
theorem dX6_passOn_101 : decode cX6_passOn 101 = .ok (.goto 4, 3) := by decide +kernel
theorem dX6_passOn_104 : decode cX6_passOn 104 = .ok (.iconst 0, 1) := by decide +kernel
theorem dX6_passOn_105 : decode cX6_passOn 105 = .ok (.ireturn, 1) := by decide +kernel
theorem dX6_passOn_106 : decode cX6_passOn 106 = .ok (.iload_n 1, 1) := by decide +kernel
theorem dX6_passOn_107 : decode cX6_passOn 107 = .ok (.iconst 3, 1) := by decide +kernel
theorem dX6_passOn_108 : decode cX6_passOn 108 = .ok (.if_icmp .eq 8, 3) := by decide +kernel
theorem dX6_passOn_111 : decode cX6_passOn 111 = .ok (.iload_n 1, 1) := by decide +kernel
theorem dX6_passOn_112 : decode cX6_passOn 112 = .ok (.iconst 4, 1) := by decide +kernel
theorem dX6_passOn_113 : decode cX6_passOn 113 = .ok (.if_icmp .ne 45, 3) := by decide +kernel
theorem dX6_passOn_116 : decode cX6_passOn 116 = .ok (.aload_n 0, 1) := by decide +kernel
theorem dX6_passOn_117 : decode cX6_passOn 117 = .ok (.getfield 51, 3) := by decide +kernel
theorem dX6_passOn_120 : decode cX6_passOn 120 = .ok (.ifCond .ne 14, 3) := by decide +kernel
theorem dX6_passOn_123 : decode cX6_passOn 123 = .ok (.aload_n 0, 1) := by decide +kernel
theorem dX6_passOn_124 : decode cX6_passOn 124 = .ok (.iconst 5, 1) := by decide +kernel
theorem dX6_passOn_125 : decode cX6_passOn 125 = .ok (.aload_n 0, 1) := by decide +kernel
theorem dX6_passOn_126 : decode cX6_passOn 126 = .ok (.getfield 112, 3) := by decide +kernel
theorem dX6_passOn_129 : decode cX6_passOn 129 = .ok (.invokevirtual 115, 3) := by decide +kernel
theorem dX6_passOn_132 : decode cX6_passOn 132 = .ok (.iconst 0, 1) := by decide +kernel
theorem dX6_passOn_133 : decode cX6_passOn 133 = .ok (.ireturn, 1) := by decide +kernel
theorem dX6_passOn_134 : decode cX6_passOn 134 = .ok (.aload_n 0, 1) := by decide +kernel
theorem dX6_passOn_135 : decode cX6_passOn 135 = .ok (.invokevirtual 125, 3) := by decide +kernel
theorem dX6_passOn_138 : decode cX6_passOn 138 = .ok (.iload_n 1, 1) := by decide +kernel
theorem dX6_passOn_139 : decode cX6_passOn 139 = .ok (.iconst 4, 1) := by decide +kernel
theorem dX6_passOn_140 : decode cX6_passOn 140 = .ok (.if_icmp .ne 7, 3) := by decide +kernel
theorem dX6_passOn_143 : decode cX6_passOn 143 = .ok (.aload_n 0, 1) := by decide +kernel
theorem dX6_passOn_144 : decode cX6_passOn 144 = .ok (.invokevirtual 131, 3) := by decide +kernel
theorem dX6_passOn_147 : decode cX6_passOn 147 = .ok (.iload_n 1, 1) := by decide +kernel
theorem dX6_passOn_148 : decode cX6_passOn 148 = .ok (.iconst 4, 1) := by decide +kernel
theorem dX6_passOn_149 : decode cX6_passOn 149 = .ok (.if_icmp .ne 7, 3) := by decide +kernel
theorem dX6_passOn_152 : decode cX6_passOn 152 = .ok (.iconst 1, 1) := by decide +kernel
theorem dX6_passOn_153 : decode cX6_passOn 153 = .ok (.goto 4, 3) := by decide +kernel
theorem dX6_passOn_156 : decode cX6_passOn 156 = .ok (.iconst 0, 1) := by decide +kernel
theorem dX6_passOn_157 : decode cX6_passOn 157 = .ok (.ireturn, 1) := by decide +kernel
theorem dX6_passOn_158 : decode cX6_passOn 158 = .ok (.aload_n 0, 1) := by decide +kernel
theorem dX6_passOn_159 : decode cX6_passOn 159 = .ok (.bipush 6, 2) := by decide +kernel
theorem dX6_passOn_161 : decode cX6_passOn 161 = .ok (.aload_n 0, 1) := by decide +kernel
theorem dX6_passOn_162 : decode cX6_passOn 162 = .ok (.getfield 112, 3) := by decide +kernel
theorem dX6_passOn_165 : decode cX6_passOn 165 = .ok (.aload_n 0, 1) := by decide +kernel
theorem dX6_passOn_166 : decode cX6_passOn 166 = .ok (.getfield 54, 3) := by decide +kernel
theorem dX6_passOn_169 : decode cX6_passOn 169 = .ok (.iadd, 1) := by decide +kernel
theorem dX6_passOn_170 : decode cX6_passOn 170 = .ok (.invokevirtual 115, 3) := by decide +kernel
theorem dX6_passOn_173 : decode cX6_passOn 173 = .ok (.aload_n 0, 1) := by decide +kernel
theorem dX6_passOn_174 : decode cX6_passOn 174 = .ok (.invokevirtual 119, 3) := by decide +kernel
theorem dX6_passOn_177 : decode cX6_passOn 177 = .ok (.iconst 0, 1) := by decide +kernel
theorem dX6_passOn_178 : decode cX6_passOn 178 = .ok (.ireturn, 1) := by decide +kernel
set_option maxRecDepth 20000 in
theorem ggX6_read_X6_fragment : GoodIn wsX6_read wsX6_fragment := goodIn_r _ [8, 9, 10, 11, 12, 13, 14, 15, 16, 17, 18, 7, 19, 20, 21, 22, 23, 24, 25, 26, 27, 28, 29, 30, 31, 58, 59, 60, 61, 62, 63, 64, 65, 66, 67, 68, 69, 70, 71, 72, 73, 74, 75, 76, 77, 78, 79, 80] (by decide +kernel) (by decide +kernel)
set_option maxRecDepth 20000 in
theorem gX6_read_X6_fragment : GoodIn wsX6_read (wsV RX6 134 RX6 yX6_fragment wsX6_fragment) := goodIn_app (goodIn_of _ (by decide +kernel)) ggX6_read_X6_fragment
set_option maxRecDepth 20000 in
theorem ggX6_read_X6_passOn : GoodIn wsX6_read wsX6_passOn := goodIn_r _ [35, 36, 37, 38, 14, 39, 40, 41, 7, 42, 16, 17, 18, 19, 20, 21, 22, 23, 43, 44, 45, 46, 12, 47, 48, 49, 50, 51, 52, 13, 53, 54, 55, 56, 2, 3, 57, 58, 59, 60, 61, 62, 63, 64, 65, 66, 67, 68, 69, 70, 71, 72, 73, 74, 75, 76, 77, 78, 79, 80] (by decide +kernel) (by decide +kernel)
set_option maxRecDepth 20000 in
theorem gX6_read_X6_passOn : GoodIn wsX6_read (wsV RX6 137 RX6 yX6_passOn wsX6_passOn) := goodIn_app (goodIn_of _ (by decide +kernel)) ggX6_read_X6_passOn
theorem dX6_read_0 : decode cX6_read 0 = .ok (.aload_n 0, 1) := by decide +kernel
theorem dX6_read_1 : decode cX6_read 1 = .ok (.iconst 0, 1) := by decide +kernel
theorem dX6_read_2 : decode cX6_read 2 = .ok (.putfield 38, 3) := by decide +kernel
theorem dX6_read_5 : decode cX6_read 5 = .ok (.aload_n 0, 1) := by decide +kernel
theorem dX6_read_6 : decode cX6_read 6 = .ok (.iconst (-1), 1) := by decide +kernel
theorem dX6_read_7 : decode cX6_read 7 = .ok (.putfield 23, 3) := by decide +kernel
theorem dX6_read_10 : decode cX6_read 10 = .ok (.aload_n 0, 1) := by decide +kernel
theorem dX6_read_11 : decode cX6_read 11 = .ok (.iconst (-1), 1) := by decide +kernel
theorem dX6_read_12 : decode cX6_read 12 = .ok (.putfield 26, 3) := by decide +kernel
theorem dX6_read_15 : decode cX6_read 15 = .ok (.iconst 1, 1) := by decide +kernel
theorem dX6_read_16 : decode cX6_read 16 = .ok (.istore_n 1, 1) := by decide +kernel
theorem dX6_read_17 : decode cX6_read 17 = .ok (.iload_n 1, 1) := by decide +kernel
theorem dX6_read_18 : decode cX6_read 18 = .ok (.ifCond .eq 23, 3) := by decide +kernel
theorem dX6_read_21 : decode cX6_read 21 = .ok (.aload_n 0, 1) := by decide +kernel
theorem dX6_read_22 : decode cX6_read 22 = .ok (.aload_n 0, 1) := by decide +kernel
theorem dX6_read_23 : decode cX6_read 23 = .ok (.invokevirtual 134, 3) := by decide +kernel
theorem dX6_read_26 : decode cX6_read 26 = .ok (.invokevirtual 137, 3) := by decide +kernel
theorem dX6_read_29 : decode cX6_read 29 = .ok (.ifCond .ne 7, 3) := by decide +kernel
theorem dX6_read_32 : decode cX6_read 32 = .ok (.iconst 1, 1) := by decide +kernel
theorem dX6_read_33 : decode cX6_read 33 = .ok (.goto 4, 3) := by decide +kernel
theorem dX6_read_36 : decode cX6_read 36 = .ok (.iconst 0, 1) := by decide +kernel
theorem dX6_read_37 : decode cX6_read 37 = .ok (.istore_n 1, 1) := by decide +kernel
theorem dX6_read_38 : decode cX6_read 38 = .ok (.goto (-21), 3) := by decide +kernel
theorem dX6_read_41 : decode cX6_read 41 = .ok (.aload_n 0, 1) := by decide +kernel
theorem dX6_read_42 : decode cX6_read 42 = .ok (.getfield 23, 3) := by decide +kernel
theorem dX6_read_45 : decode cX6_read 45 = .ok (.ireturn, 1) := by decide +kernel
set_option maxRecDepth 20000 in
theorem ggX6_octet_X6_isIn : GoodIn wsX6_octet wsX6_isIn := goodIn_r _ [7] (by decide +kernel) (by decide +kernel)
set_option maxRecDepth 20000 in
theorem gX6_octet_X6_isIn : GoodIn wsX6_octet (va_wsS RX6 63 yX6_isIn wsX6_isIn) := goodIn_app (goodIn_of _ (by decide +kernel)) ggX6_octet_X6_isIn
theorem dX6_octet_0 : decode cX6_octet 0 = .ok (.aload_n 0, 1) := by decide +kernel
theorem dX6_octet_1 : decode cX6_octet 1 = .ok (.iconst 0, 1) := by decide +kernel
theorem dX6_octet_2 : decode cX6_octet 2 = .ok (.putfield 38, 3) := by decide +kernel
theorem dX6_octet_5 : decode cX6_octet 5 = .ok (.iload_n 1, 1) := by decide +kernel
theorem dX6_octet_6 : decode cX6_octet 6 = .ok (.iconst 0, 1) := by decide +kernel
theorem dX6_octet_7 : decode cX6_octet 7 = .ok (.aload_n 0, 1) := by decide +kernel
theorem dX6_octet_8 : decode cX6_octet 8 = .ok (.getfield 23, 3) := by decide +kernel
theorem dX6_octet_11 : decode cX6_octet 11 = .ok (.iconst 1, 1) := by decide +kernel
theorem dX6_octet_12 : decode cX6_octet 12 = .ok (.isub, 1) := by decide +kernel
theorem dX6_octet_13 : decode cX6_octet 13 = .ok (.invokestatic 63, 3) := by decide +kernel
theorem dX6_octet_16 : decode cX6_octet 16 = .ok (.ifCond .eq 12, 3) := by decide +kernel
theorem dX6_octet_19 : decode cX6_octet 19 = .ok (.aload_n 0, 1) := by decide +kernel
theorem dX6_octet_20 : decode cX6_octet 20 = .ok (.getfield 29, 3) := by decide +kernel
theorem dX6_octet_23 : decode cX6_octet 23 = .ok (.iload_n 1, 1) := by decide +kernel
theorem dX6_octet_24 : decode cX6_octet 24 = .ok (.iaload, 1) := by decide +kernel
theorem dX6_octet_25 : decode cX6_octet 25 = .ok (.goto 4, 3) := by decide +kernel
theorem dX6_octet_28 : decode cX6_octet 28 = .ok (.iconst (-1), 1) := by decide +kernel
theorem dX6_octet_29 : decode cX6_octet 29 = .ok (.ireturn, 1) := by decide +kernel
theorem dX6_first_0 : decode cX6_first 0 = .ok (.aload_n 0, 1) := by decide +kernel
theorem dX6_first_1 : decode cX6_first 1 = .ok (.iconst 0, 1) := by decide +kernel
theorem dX6_first_2 : decode cX6_first 2 = .ok (.putfield 38, 3) := by decide +kernel
theorem dX6_first_5 : decode cX6_first 5 = .ok (.aload_n 0, 1) := by decide +kernel
theorem dX6_first_6 : decode cX6_first 6 = .ok (.getfield 26, 3) := by decide +kernel
theorem dX6_first_9 : decode cX6_first 9 = .ok (.ireturn, 1) := by decide +kernel
set_option maxRecDepth 20000 in
theorem ggX6_count_X6_isIn : GoodIn wsX6_count wsX6_isIn := goodIn_r _ [10] (by decide +kernel) (by decide +kernel)
set_option maxRecDepth 20000 in
theorem gX6_count_X6_isIn : GoodIn wsX6_count (va_wsS RX6 63 yX6_isIn wsX6_isIn) := goodIn_app (goodIn_of _ (by decide +kernel)) ggX6_count_X6_isIn
set_option maxRecDepth 20000 in
theorem ggX6_count_X6_refused : GoodIn wsX6_count wsX6_refused := goodIn_r _ [14, 15, 16, 17, 18, 19, 20, 21, 22, 23, 24, 25, 26, 27, 28, 29, 30, 31, 32, 33, 34, 35, 36, 37, 38] (by decide +kernel) (by decide +kernel)
set_option maxRecDepth 20000 in
theorem gX6_count_X6_refused : GoodIn wsX6_count (wsV RX6 67 RX6 yX6_refused wsX6_refused) := goodIn_app (goodIn_of _ (by decide +kernel)) ggX6_count_X6_refused
theorem dX6_count_0 : decode cX6_count 0 = .ok (.aload_n 0, 1) := by decide +kernel
theorem dX6_count_1 : decode cX6_count 1 = .ok (.iload_n 1, 1) := by decide +kernel
theorem dX6_count_2 : decode cX6_count 2 = .ok (.iconst 0, 1) := by decide +kernel
theorem dX6_count_3 : decode cX6_count 3 = .ok (.iconst 5, 1) := by decide +kernel
theorem dX6_count_4 : decode cX6_count 4 = .ok (.invokestatic 63, 3) := by decide +kernel
theorem dX6_count_7 : decode cX6_count 7 = .ok (.ifCond .eq 7, 3) := by decide +kernel
theorem dX6_count_10 : decode cX6_count 10 = .ok (.iconst 0, 1) := by decide +kernel
theorem dX6_count_11 : decode cX6_count 11 = .ok (.goto 4, 3) := by decide +kernel
theorem dX6_count_14 : decode cX6_count 14 = .ok (.iconst 1, 1) := by decide +kernel
theorem dX6_count_15 : decode cX6_count 15 = .ok (.invokevirtual 67, 3) := by decide +kernel
theorem dX6_count_18 : decode cX6_count 18 = .ok (.ifCond .eq 5, 3) := by decide +kernel
theorem dX6_count_21 : decode cX6_count 21 = .ok (.iconst 0, 1) := by decide +kernel
theorem dX6_count_22 : decode cX6_count 22 = .ok (.ireturn, 1) := by decide +kernel
theorem dX6_count_23 : decode cX6_count 23 = .ok (.iload_n 1, 1) := by decide +kernel
theorem dX6_count_24 : decode cX6_count 24 = .ok (.tableswitch 69 0 4 #[36, 41, 46, 59, 64], 36) := by decide +kernel
theorem dX6_count_60 : decode cX6_count 60 = .ok (.aload_n 0, 1) := by decide +kernel
theorem dX6_count_61 : decode cX6_count 61 = .ok (.getfield 71, 3) := by decide +kernel
theorem dX6_count_64 : decode cX6_count 64 = .ok (.ireturn, 1) := by decide +kernel
theorem dX6_count_65 : decode cX6_count 65 = .ok (.aload_n 0, 1) := by decide +kernel
theorem dX6_count_66 : decode cX6_count 66 = .ok (.getfield 44, 3) := by decide +kernel
theorem dX6_count_69 : decode cX6_count 69 = .ok (.ireturn, 1) := by decide +kernel
theorem dX6_count_70 : decode cX6_count 70 = .ok (.aload_n 0, 1) := by decide +kernel
theorem dX6_count_71 : decode cX6_count 71 = .ok (.getfield 47, 3) := by decide +kernel
theorem dX6_count_74 : decode cX6_count 74 = .ok (.ifCond .eq 7, 3) := by decide +kernel
theorem dX6_count_77 : decode cX6_count 77 = .ok (.iconst 1, 1) := by decide +kernel
theorem dX6_count_78 : decode cX6_count 78 = .ok (.goto 4, 3) := by decide +kernel
theorem dX6_count_81 : decode cX6_count 81 = .ok (.iconst 0, 1) := by decide +kernel
theorem dX6_count_82 : decode cX6_count 82 = .ok (.ireturn, 1) := by decide +kernel
theorem dX6_count_83 : decode cX6_count 83 = .ok (.aload_n 0, 1) := by decide +kernel
theorem dX6_count_84 : decode cX6_count 84 = .ok (.getfield 57, 3) := by decide +kernel
theorem dX6_count_87 : decode cX6_count 87 = .ok (.ireturn, 1) := by decide +kernel
theorem dX6_count_88 : decode cX6_count 88 = .ok (.aload_n 0, 1) := by decide +kernel
theorem dX6_count_89 : decode cX6_count 89 = .ok (.getfield 60, 3) := by decide +kernel
theorem dX6_count_92 : decode cX6_count 92 = .ok (.ireturn, 1) := by decide +kernel
theorem dX6_count_93 : decode cX6_count 93 = .ok (.aload_n 0, 1) := by decide +kernel
theorem dX6_count_94 : decode cX6_count 94 = .ok (.getfield 78, 3) := by decide +kernel
theorem dX6_count_97 : decode cX6_count 97 = .ok (.ireturn, 1) := by decide +kernel
set_option maxRecDepth 20000 in
theorem ggX6_told_X6_isIn : GoodIn wsX6_told wsX6_isIn := goodIn_r _ [7] (by decide +kernel) (by decide +kernel)
set_option maxRecDepth 20000 in
theorem gX6_told_X6_isIn : GoodIn wsX6_told (va_wsS RX6 63 yX6_isIn wsX6_isIn) := goodIn_app (goodIn_of _ (by decide +kernel)) ggX6_told_X6_isIn
set_option maxRecDepth 20000 in
theorem ggX6_told_X6_refused : GoodIn wsX6_told wsX6_refused := goodIn_r _ [11, 12, 13, 14, 15, 16, 17, 18, 19, 20, 21, 22, 23, 24, 25, 26, 27, 28, 29, 30, 31, 32, 33, 34, 35] (by decide +kernel) (by decide +kernel)
set_option maxRecDepth 20000 in
theorem gX6_told_X6_refused : GoodIn wsX6_told (wsV RX6 67 RX6 yX6_refused wsX6_refused) := goodIn_app (goodIn_of _ (by decide +kernel)) ggX6_told_X6_refused
theorem dX6_told_0 : decode cX6_told 0 = .ok (.aload_n 0, 1) := by decide +kernel
theorem dX6_told_1 : decode cX6_told 1 = .ok (.iload_n 2, 1) := by decide +kernel
theorem dX6_told_2 : decode cX6_told 2 = .ok (.iconst 0, 1) := by decide +kernel
theorem dX6_told_3 : decode cX6_told 3 = .ok (.iconst 1, 1) := by decide +kernel
theorem dX6_told_4 : decode cX6_told 4 = .ok (.invokestatic 63, 3) := by decide +kernel
theorem dX6_told_7 : decode cX6_told 7 = .ok (.ifCond .eq 7, 3) := by decide +kernel
theorem dX6_told_10 : decode cX6_told 10 = .ok (.iconst 0, 1) := by decide +kernel
theorem dX6_told_11 : decode cX6_told 11 = .ok (.goto 4, 3) := by decide +kernel
theorem dX6_told_14 : decode cX6_told 14 = .ok (.iconst 1, 1) := by decide +kernel
theorem dX6_told_15 : decode cX6_told 15 = .ok (.invokevirtual 67, 3) := by decide +kernel
theorem dX6_told_18 : decode cX6_told 18 = .ok (.ifCond .eq 5, 3) := by decide +kernel
theorem dX6_told_21 : decode cX6_told 21 = .ok (.iconst 0, 1) := by decide +kernel
theorem dX6_told_22 : decode cX6_told 22 = .ok (.ireturn, 1) := by decide +kernel
theorem dX6_told_23 : decode cX6_told 23 = .ok (.iload_n 1, 1) := by decide +kernel
theorem dX6_told_24 : decode cX6_told 24 = .ok (.iconst 0, 1) := by decide +kernel
theorem dX6_told_25 : decode cX6_told 25 = .ok (.aload_n 0, 1) := by decide +kernel
theorem dX6_told_26 : decode cX6_told 26 = .ok (.getfield 57, 3) := by decide +kernel
theorem dX6_told_29 : decode cX6_told 29 = .ok (.bipush 100, 2) := by decide +kernel
theorem dX6_told_31 : decode cX6_told 31 = .ok (.if_icmp .ge 10, 3) := by decide +kernel
theorem dX6_told_34 : decode cX6_told 34 = .ok (.aload_n 0, 1) := by decide +kernel
theorem dX6_told_35 : decode cX6_told 35 = .ok (.getfield 57, 3) := by decide +kernel
theorem dX6_told_38 : decode cX6_told 38 = .ok (.goto 5, 3) := by decide +kernel
theorem dX6_told_41 : decode cX6_told 41 = .ok (.bipush 100, 2) := by decide +kernel
theorem dX6_told_43 : decode cX6_told 43 = .ok (.iconst 1, 1) := by decide +kernel
theorem dX6_told_44 : decode cX6_told 44 = .ok (.isub, 1) := by decide +kernel
theorem dX6_told_45 : decode cX6_told 45 = .ok (.invokestatic 63, 3) := by decide +kernel
theorem dX6_told_48 : decode cX6_told 48 = .ok (.ifCond .ne 5, 3) := by decide +kernel
theorem dX6_told_51 : decode cX6_told 51 = .ok (.iconst (-1), 1) := by decide +kernel
theorem dX6_told_52 : decode cX6_told 52 = .ok (.ireturn, 1) := by decide +kernel
theorem dX6_told_53 : decode cX6_told 53 = .ok (.iload_n 2, 1) := by decide +kernel
theorem dX6_told_54 : decode cX6_told 54 = .ok (.ifCond .ne 12, 3) := by decide +kernel
theorem dX6_told_57 : decode cX6_told 57 = .ok (.aload_n 0, 1) := by decide +kernel
theorem dX6_told_58 : decode cX6_told 58 = .ok (.getfield 32, 3) := by decide +kernel
theorem dX6_told_61 : decode cX6_told 61 = .ok (.iload_n 1, 1) := by decide +kernel
theorem dX6_told_62 : decode cX6_told 62 = .ok (.iaload, 1) := by decide +kernel
theorem dX6_told_63 : decode cX6_told 63 = .ok (.goto 9, 3) := by decide +kernel
theorem dX6_told_66 : decode cX6_told 66 = .ok (.aload_n 0, 1) := by decide +kernel
theorem dX6_told_67 : decode cX6_told 67 = .ok (.getfield 35, 3) := by decide +kernel
theorem dX6_told_70 : decode cX6_told 70 = .ok (.iload_n 1, 1) := by decide +kernel
theorem dX6_told_71 : decode cX6_told 71 = .ok (.iaload, 1) := by decide +kernel
theorem dX6_told_72 : decode cX6_told 72 = .ok (.ireturn, 1) := by decide +kernel
set_option maxRecDepth 20000 in
theorem ggX6_log_X6_isIn : GoodIn wsX6_log wsX6_isIn := goodIn_r _ [7] (by decide +kernel) (by decide +kernel)
set_option maxRecDepth 20000 in
theorem gX6_log_X6_isIn : GoodIn wsX6_log (va_wsS RX6 63 yX6_isIn wsX6_isIn) := goodIn_app (goodIn_of _ (by decide +kernel)) ggX6_log_X6_isIn
theorem dX6_log_0 : decode cX6_log 0 = .ok (.aload_n 0, 1) := by decide +kernel
theorem dX6_log_1 : decode cX6_log 1 = .ok (.iconst 0, 1) := by decide +kernel
theorem dX6_log_2 : decode cX6_log 2 = .ok (.putfield 38, 3) := by decide +kernel
theorem dX6_log_5 : decode cX6_log 5 = .ok (.iload_n 1, 1) := by decide +kernel
theorem dX6_log_6 : decode cX6_log 6 = .ok (.iconst 0, 1) := by decide +kernel
theorem dX6_log_7 : decode cX6_log 7 = .ok (.aload_n 0, 1) := by decide +kernel
theorem dX6_log_8 : decode cX6_log 8 = .ok (.getfield 71, 3) := by decide +kernel
theorem dX6_log_11 : decode cX6_log 11 = .ok (.iconst 1, 1) := by decide +kernel
theorem dX6_log_12 : decode cX6_log 12 = .ok (.isub, 1) := by decide +kernel
theorem dX6_log_13 : decode cX6_log 13 = .ok (.invokestatic 63, 3) := by decide +kernel
theorem dX6_log_16 : decode cX6_log 16 = .ok (.ifCond .eq 12, 3) := by decide +kernel
theorem dX6_log_19 : decode cX6_log 19 = .ok (.aload_n 0, 1) := by decide +kernel
theorem dX6_log_20 : decode cX6_log 20 = .ok (.getfield 13, 3) := by decide +kernel
theorem dX6_log_23 : decode cX6_log 23 = .ok (.iload_n 1, 1) := by decide +kernel
theorem dX6_log_24 : decode cX6_log 24 = .ok (.iaload, 1) := by decide +kernel
theorem dX6_log_25 : decode cX6_log 25 = .ok (.goto 4, 3) := by decide +kernel
theorem dX6_log_28 : decode cX6_log 28 = .ok (.iconst (-1), 1) := by decide +kernel
theorem dX6_log_29 : decode cX6_log 29 = .ok (.ireturn, 1) := by decide +kernel
