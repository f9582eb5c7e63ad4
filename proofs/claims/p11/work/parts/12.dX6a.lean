theorem dX6_init_0 : decode cX6_init 0 = .ok (.aload_n 0, 1) := by decide +kernel
theorem dX6_init_1 : decode cX6_init 1 = .ok (.invokespecial 1, 3) := by decide +kernel
theorem dX6_init_4 : decode cX6_init 4 = .ok (.aload_n 0, 1) := by decide +kernel
theorem dX6_init_5 : decode cX6_init 5 = .ok (.bipush 64, 2) := by decide +kernel
theorem dX6_init_7 : decode cX6_init 7 = .ok (.putfield 7, 3) := by decide +kernel
theorem dX6_init_10 : decode cX6_init 10 = .ok (.aload_n 0, 1) := by decide +kernel
theorem dX6_init_11 : decode cX6_init 11 = .ok (.sipush 4096, 3) := by decide +kernel
theorem dX6_init_14 : decode cX6_init 14 = .ok (.newarray .int, 2) := by decide +kernel
theorem dX6_init_16 : decode cX6_init 16 = .ok (.putfield 13, 3) := by decide +kernel
theorem dX6_init_19 : decode cX6_init 19 = .ok (.aload_n 0, 1) := by decide +kernel
theorem dX6_init_20 : decode cX6_init 20 = .ok (.sipush 400, 3) := by decide +kernel
theorem dX6_init_23 : decode cX6_init 23 = .ok (.newarray .int, 2) := by decide +kernel
theorem dX6_init_25 : decode cX6_init 25 = .ok (.putfield 17, 3) := by decide +kernel
theorem dX6_init_28 : decode cX6_init 28 = .ok (.aload_n 0, 1) := by decide +kernel
theorem dX6_init_29 : decode cX6_init 29 = .ok (.sipush 4096, 3) := by decide +kernel
theorem dX6_init_32 : decode cX6_init 32 = .ok (.newarray .int, 2) := by decide +kernel
theorem dX6_init_34 : decode cX6_init 34 = .ok (.putfield 20, 3) := by decide +kernel
theorem dX6_init_37 : decode cX6_init 37 = .ok (.aload_n 0, 1) := by decide +kernel
theorem dX6_init_38 : decode cX6_init 38 = .ok (.iconst (-1), 1) := by decide +kernel
theorem dX6_init_39 : decode cX6_init 39 = .ok (.putfield 23, 3) := by decide +kernel
theorem dX6_init_42 : decode cX6_init 42 = .ok (.aload_n 0, 1) := by decide +kernel
theorem dX6_init_43 : decode cX6_init 43 = .ok (.iconst (-1), 1) := by decide +kernel
theorem dX6_init_44 : decode cX6_init 44 = .ok (.putfield 26, 3) := by decide +kernel
theorem dX6_init_47 : decode cX6_init 47 = .ok (.aload_n 0, 1) := by decide +kernel
theorem dX6_init_48 : decode cX6_init 48 = .ok (.sipush 4096, 3) := by decide +kernel
theorem dX6_init_51 : decode cX6_init 51 = .ok (.newarray .int, 2) := by decide +kernel
theorem dX6_init_53 : decode cX6_init 53 = .ok (.putfield 29, 3) := by decide +kernel
theorem dX6_init_56 : decode cX6_init 56 = .ok (.aload_n 0, 1) := by decide +kernel
theorem dX6_init_57 : decode cX6_init 57 = .ok (.bipush 100, 2) := by decide +kernel
theorem dX6_init_59 : decode cX6_init 59 = .ok (.newarray .int, 2) := by decide +kernel
theorem dX6_init_61 : decode cX6_init 61 = .ok (.putfield 32, 3) := by decide +kernel
theorem dX6_init_64 : decode cX6_init 64 = .ok (.aload_n 0, 1) := by decide +kernel
theorem dX6_init_65 : decode cX6_init 65 = .ok (.bipush 100, 2) := by decide +kernel
theorem dX6_init_67 : decode cX6_init 67 = .ok (.newarray .int, 2) := by decide +kernel
theorem dX6_init_69 : decode cX6_init 69 = .ok (.putfield 35, 3) := by decide +kernel
theorem dX6_init_72 : decode cX6_init 72 = .ok (.return_, 1) := by decide +kernel
theorem dX6_refused_0 : decode cX6_refused 0 = .ok (.aload_n 0, 1) := by decide +kernel
theorem dX6_refused_1 : decode cX6_refused 1 = .ok (.iload_n 1, 1) := by decide +kernel
theorem dX6_refused_2 : decode cX6_refused 2 = .ok (.putfield 38, 3) := by decide +kernel
theorem dX6_refused_5 : decode cX6_refused 5 = .ok (.iload_n 1, 1) := by decide +kernel
theorem dX6_refused_6 : decode cX6_refused 6 = .ok (.ifCond .le 7, 3) := by decide +kernel
theorem dX6_refused_9 : decode cX6_refused 9 = .ok (.iconst 1, 1) := by decide +kernel
theorem dX6_refused_10 : decode cX6_refused 10 = .ok (.goto 4, 3) := by decide +kernel
theorem dX6_refused_13 : decode cX6_refused 13 = .ok (.iconst 0, 1) := by decide +kernel
theorem dX6_refused_14 : decode cX6_refused 14 = .ok (.ireturn, 1) := by decide +kernel
theorem dX6_isIn_0 : decode cX6_isIn 0 = .ok (.iload_n 0, 1) := by decide +kernel
theorem dX6_isIn_1 : decode cX6_isIn 1 = .ok (.iload_n 1, 1) := by decide +kernel
theorem dX6_isIn_2 : decode cX6_isIn 2 = .ok (.if_icmp .lt 12, 3) := by decide +kernel
theorem dX6_isIn_5 : decode cX6_isIn 5 = .ok (.iload_n 0, 1) := by decide +kernel
theorem dX6_isIn_6 : decode cX6_isIn 6 = .ok (.iload_n 2, 1) := by decide +kernel
theorem dX6_isIn_7 : decode cX6_isIn 7 = .ok (.if_icmp .gt 7, 3) := by decide +kernel
theorem dX6_isIn_10 : decode cX6_isIn 10 = .ok (.iconst 1, 1) := by decide +kernel
theorem dX6_isIn_11 : decode cX6_isIn 11 = .ok (.goto 4, 3) := by decide +kernel
theorem dX6_isIn_14 : decode cX6_isIn 14 = .ok (.iconst 0, 1) := by decide +kernel
theorem dX6_isIn_15 : decode cX6_isIn 15 = .ok (.ireturn, 1) := by decide +kernel
theorem dX6_beginAt_0 : decode cX6_beginAt 0 = .ok (.aload_n 0, 1) := by decide +kernel
theorem dX6_beginAt_1 : decode cX6_beginAt 1 = .ok (.iload_n 1, 1) := by decide +kernel
theorem dX6_beginAt_2 : decode cX6_beginAt 2 = .ok (.putfield 41, 3) := by decide +kernel
theorem dX6_beginAt_5 : decode cX6_beginAt 5 = .ok (.aload_n 0, 1) := by decide +kernel
theorem dX6_beginAt_6 : decode cX6_beginAt 6 = .ok (.aload_n 0, 1) := by decide +kernel
theorem dX6_beginAt_7 : decode cX6_beginAt 7 = .ok (.getfield 7, 3) := by decide +kernel
theorem dX6_beginAt_10 : decode cX6_beginAt 10 = .ok (.iload_n 1, 1) := by decide +kernel
theorem dX6_beginAt_11 : decode cX6_beginAt 11 = .ok (.aload_n 0, 1) := by decide +kernel
theorem dX6_beginAt_12 : decode cX6_beginAt 12 = .ok (.getfield 7, 3) := by decide +kernel
theorem dX6_beginAt_15 : decode cX6_beginAt 15 = .ok (.irem, 1) := by decide +kernel
theorem dX6_beginAt_16 : decode cX6_beginAt 16 = .ok (.isub, 1) := by decide +kernel
theorem dX6_beginAt_17 : decode cX6_beginAt 17 = .ok (.bipush 7, 2) := by decide +kernel
theorem dX6_beginAt_19 : decode cX6_beginAt 19 = .ok (.if_icmp .ge 19, 3) := by decide +kernel
theorem dX6_beginAt_22 : decode cX6_beginAt 22 = .ok (.iload_n 1, 1) := by decide +kernel
theorem dX6_beginAt_23 : decode cX6_beginAt 23 = .ok (.aload_n 0, 1) := by decide +kernel
theorem dX6_beginAt_24 : decode cX6_beginAt 24 = .ok (.getfield 7, 3) := by decide +kernel
theorem dX6_beginAt_27 : decode cX6_beginAt 27 = .ok (.idiv, 1) := by decide +kernel
theorem dX6_beginAt_28 : decode cX6_beginAt 28 = .ok (.iconst 1, 1) := by decide +kernel
theorem dX6_beginAt_29 : decode cX6_beginAt 29 = .ok (.iadd, 1) := by decide +kernel
theorem dX6_beginAt_30 : decode cX6_beginAt 30 = .ok (.aload_n 0, 1) := by decide +kernel
theorem dX6_beginAt_31 : decode cX6_beginAt 31 = .ok (.getfield 7, 3) := by decide +kernel
theorem dX6_beginAt_34 : decode cX6_beginAt 34 = .ok (.imul, 1) := by decide +kernel
theorem dX6_beginAt_35 : decode cX6_beginAt 35 = .ok (.goto 14, 3) := by decide +kernel
theorem dX6_beginAt_38 : decode cX6_beginAt 38 = .ok (.iload_n 1, 1) := by decide +kernel
theorem dX6_beginAt_39 : decode cX6_beginAt 39 = .ok (.aload_n 0, 1) := by decide +kernel
theorem dX6_beginAt_40 : decode cX6_beginAt 40 = .ok (.getfield 7, 3) := by decide +kernel
theorem dX6_beginAt_43 : decode cX6_beginAt 43 = .ok (.idiv, 1) := by decide +kernel
theorem dX6_beginAt_44 : decode cX6_beginAt 44 = .ok (.aload_n 0, 1) := by decide +kernel
theorem dX6_beginAt_45 : decode cX6_beginAt 45 = .ok (.getfield 7, 3) := by decide +kernel
theorem dX6_beginAt_48 : decode cX6_beginAt 48 = .ok (.imul, 1) := by decide +kernel
theorem dX6_beginAt_49 : decode cX6_beginAt 49 = .ok (.putfield 44, 3) := by decide +kernel
theorem dX6_beginAt_52 : decode cX6_beginAt 52 = .ok (.aload_n 0, 1) := by decide +kernel
theorem dX6_beginAt_53 : decode cX6_beginAt 53 = .ok (.iload_n 1, 1) := by decide +kernel
theorem dX6_beginAt_54 : decode cX6_beginAt 54 = .ok (.ifCond .le 7, 3) := by decide +kernel
theorem dX6_beginAt_57 : decode cX6_beginAt 57 = .ok (.iconst 1, 1) := by decide +kernel
theorem dX6_beginAt_58 : decode cX6_beginAt 58 = .ok (.goto 4, 3) := by decide +kernel
theorem dX6_beginAt_61 : decode cX6_beginAt 61 = .ok (.iconst 0, 1) := by decide +kernel
theorem dX6_beginAt_62 : decode cX6_beginAt 62 = .ok (.putfield 47, 3) := by decide +kernel
theorem dX6_beginAt_65 : decode cX6_beginAt 65 = .ok (.aload_n 0, 1) := by decide +kernel
theorem dX6_beginAt_66 : decode cX6_beginAt 66 = .ok (.iconst 0, 1) := by decide +kernel
theorem dX6_beginAt_67 : decode cX6_beginAt 67 = .ok (.putfield 51, 3) := by decide +kernel
theorem dX6_beginAt_70 : decode cX6_beginAt 70 = .ok (.aload_n 0, 1) := by decide +kernel
theorem dX6_beginAt_71 : decode cX6_beginAt 71 = .ok (.iconst 0, 1) := by decide +kernel
theorem dX6_beginAt_72 : decode cX6_beginAt 72 = .ok (.putfield 54, 3) := by decide +kernel
theorem dX6_beginAt_75 : decode cX6_beginAt 75 = .ok (.aload_n 0, 1) := by decide +kernel
theorem dX6_beginAt_76 : decode cX6_beginAt 76 = .ok (.iconst 0, 1) := by decide +kernel
theorem dX6_beginAt_77 : decode cX6_beginAt 77 = .ok (.putfield 57, 3) := by decide +kernel
theorem dX6_beginAt_80 : decode cX6_beginAt 80 = .ok (.aload_n 0, 1) := by decide +kernel
theorem dX6_beginAt_81 : decode cX6_beginAt 81 = .ok (.iconst 0, 1) := by decide +kernel
theorem dX6_beginAt_82 : decode cX6_beginAt 82 = .ok (.putfield 60, 3) := by decide +kernel
theorem dX6_beginAt_85 : decode cX6_beginAt 85 = .ok (.aload_n 0, 1) := by decide +kernel
theorem dX6_beginAt_86 : decode cX6_beginAt 86 = .ok (.iconst (-1), 1) := by decide +kernel
theorem dX6_beginAt_87 : decode cX6_beginAt 87 = .ok (.putfield 23, 3) := by decide +kernel
theorem dX6_beginAt_90 : decode cX6_beginAt 90 = .ok (.aload_n 0, 1) := by decide +kernel
theorem dX6_beginAt_91 : decode cX6_beginAt 91 = .ok (.iconst (-1), 1) := by decide +kernel
theorem dX6_beginAt_92 : decode cX6_beginAt 92 = .ok (.putfield 26, 3) := by decide +kernel
theorem dX6_beginAt_95 : decode cX6_beginAt 95 = .ok (.return_, 1) := by decide +kernel
set_option maxRecDepth 20000 in
theorem ggX6_clear_X6_isIn : GoodIn wsX6_clear wsX6_isIn := goodIn_r _ [6] (by decide +kernel) (by decide +kernel)
set_option maxRecDepth 20000 in
theorem gX6_clear_X6_isIn : GoodIn wsX6_clear (va_wsS RX6 63 yX6_isIn wsX6_isIn) := goodIn_app (goodIn_of _ (by decide +kernel)) ggX6_clear_X6_isIn
set_option maxRecDepth 20000 in
theorem ggX6_clear_X6_refused : GoodIn wsX6_clear wsX6_refused := goodIn_r _ [10, 11, 25, 26, 27, 28, 29, 30, 31, 32, 33, 34, 35, 36, 37, 38, 39, 40, 41, 42, 43, 44, 45, 46, 47] (by decide +kernel) (by decide +kernel)
set_option maxRecDepth 20000 in
theorem gX6_clear_X6_refused : GoodIn wsX6_clear (wsV RX6 67 RX6 yX6_refused wsX6_refused) := goodIn_app (goodIn_of _ (by decide +kernel)) ggX6_clear_X6_refused
set_option maxRecDepth 20000 in
theorem ggX6_clear_X6_beginAt : GoodIn wsX6_clear wsX6_beginAt := goodIn_r _ [15, 16, 1, 17, 18, 19, 20, 21, 22, 23, 24, 25, 26, 27, 28, 29, 30, 31, 32, 33, 34, 35, 36, 37, 38, 39, 40, 41, 42, 43, 44, 45, 46, 47] (by decide +kernel) (by decide +kernel)
set_option maxRecDepth 20000 in
theorem gX6_clear_X6_beginAt : GoodIn wsX6_clear (wsV RX6 74 RX6 yX6_beginAt wsX6_beginAt) := goodIn_app (goodIn_of _ (by decide +kernel)) ggX6_clear_X6_beginAt
theorem dX6_clear_0 : decode cX6_clear 0 = .ok (.aload_n 0, 1) := by decide +kernel
theorem dX6_clear_1 : decode cX6_clear 1 = .ok (.iload_n 1, 1) := by decide +kernel
theorem dX6_clear_2 : decode cX6_clear 2 = .ok (.bipush 16, 2) := by decide +kernel
theorem dX6_clear_4 : decode cX6_clear 4 = .ok (.sipush 512, 3) := by decide +kernel
theorem dX6_clear_7 : decode cX6_clear 7 = .ok (.invokestatic 63, 3) := by decide +kernel
theorem dX6_clear_10 : decode cX6_clear 10 = .ok (.ifCond .eq 7, 3) := by decide +kernel
theorem dX6_clear_13 : decode cX6_clear 13 = .ok (.iconst 0, 1) := by decide +kernel
theorem dX6_clear_14 : decode cX6_clear 14 = .ok (.goto 4, 3) := by decide +kernel
theorem dX6_clear_17 : decode cX6_clear 17 = .ok (.iconst 1, 1) := by decide +kernel
theorem dX6_clear_18 : decode cX6_clear 18 = .ok (.invokevirtual 67, 3) := by decide +kernel
theorem dX6_clear_21 : decode cX6_clear 21 = .ok (.ifCond .eq 4, 3) := by decide +kernel
theorem dX6_clear_24 : decode cX6_clear 24 = .ok (.return_, 1) := by decide +kernel
theorem dX6_clear_25 : decode cX6_clear 25 = .ok (.aload_n 0, 1) := by decide +kernel
theorem dX6_clear_26 : decode cX6_clear 26 = .ok (.iload_n 1, 1) := by decide +kernel
theorem dX6_clear_27 : decode cX6_clear 27 = .ok (.putfield 7, 3) := by decide +kernel
theorem dX6_clear_30 : decode cX6_clear 30 = .ok (.aload_n 0, 1) := by decide +kernel
theorem dX6_clear_31 : decode cX6_clear 31 = .ok (.iconst 0, 1) := by decide +kernel
theorem dX6_clear_32 : decode cX6_clear 32 = .ok (.putfield 71, 3) := by decide +kernel
theorem dX6_clear_35 : decode cX6_clear 35 = .ok (.aload_n 0, 1) := by decide +kernel
theorem dX6_clear_36 : decode cX6_clear 36 = .ok (.iconst 0, 1) := by decide +kernel
theorem dX6_clear_37 : decode cX6_clear 37 = .ok (.invokevirtual 74, 3) := by decide +kernel
theorem dX6_clear_40 : decode cX6_clear 40 = .ok (.return_, 1) := by decide +kernel
set_option maxRecDepth 20000 in
theorem ggX6_feed_X6_isIn : GoodIn wsX6_feed wsX6_isIn := goodIn_r _ [6] (by decide +kernel) (by decide +kernel)
set_option maxRecDepth 20000 in
theorem gX6_feed_X6_isIn : GoodIn wsX6_feed (va_wsS RX6 63 yX6_isIn wsX6_isIn) := goodIn_app (goodIn_of _ (by decide +kernel)) ggX6_feed_X6_isIn
set_option maxRecDepth 20000 in
theorem ggX6_feed_X6_refused : GoodIn wsX6_feed wsX6_refused := goodIn_r _ [10, 11, 12, 13, 14, 15, 16, 17, 18, 19, 20, 21, 22, 23, 24, 25, 26, 27, 28, 29, 30, 31, 32, 33, 34] (by decide +kernel) (by decide +kernel)
set_option maxRecDepth 20000 in
theorem gX6_feed_X6_refused : GoodIn wsX6_feed (wsV RX6 67 RX6 yX6_refused wsX6_refused) := goodIn_app (goodIn_of _ (by decide +kernel)) ggX6_feed_X6_refused
theorem dX6_feed_0 : decode cX6_feed 0 = .ok (.aload_n 0, 1) := by decide +kernel
theorem dX6_feed_1 : decode cX6_feed 1 = .ok (.iload_n 1, 1) := by decide +kernel
theorem dX6_feed_2 : decode cX6_feed 2 = .ok (.iconst 0, 1) := by decide +kernel
theorem dX6_feed_3 : decode cX6_feed 3 = .ok (.bipush 16, 2) := by decide +kernel
theorem dX6_feed_5 : decode cX6_feed 5 = .ok (.invokestatic 63, 3) := by decide +kernel
theorem dX6_feed_8 : decode cX6_feed 8 = .ok (.ifCond .ne 7, 3) := by decide +kernel
theorem dX6_feed_11 : decode cX6_feed 11 = .ok (.iconst 1, 1) := by decide +kernel
theorem dX6_feed_12 : decode cX6_feed 12 = .ok (.goto 20, 3) := by decide +kernel
theorem dX6_feed_15 : decode cX6_feed 15 = .ok (.aload_n 0, 1) := by decide +kernel
theorem dX6_feed_16 : decode cX6_feed 16 = .ok (.getfield 78, 3) := by decide +kernel
theorem dX6_feed_19 : decode cX6_feed 19 = .ok (.iload_n 1, 1) := by decide +kernel
theorem dX6_feed_20 : decode cX6_feed 20 = .ok (.iadd, 1) := by decide +kernel
theorem dX6_feed_21 : decode cX6_feed 21 = .ok (.sipush 400, 3) := by decide +kernel
theorem dX6_feed_24 : decode cX6_feed 24 = .ok (.if_icmp .le 7, 3) := by decide +kernel
theorem dX6_feed_27 : decode cX6_feed 27 = .ok (.iconst 2, 1) := by decide +kernel
theorem dX6_feed_28 : decode cX6_feed 28 = .ok (.goto 4, 3) := by decide +kernel
theorem dX6_feed_31 : decode cX6_feed 31 = .ok (.iconst 0, 1) := by decide +kernel
theorem dX6_feed_32 : decode cX6_feed 32 = .ok (.invokevirtual 67, 3) := by decide +kernel
theorem dX6_feed_35 : decode cX6_feed 35 = .ok (.ifCond .eq 5, 3) := by decide +kernel
theorem dX6_feed_38 : decode cX6_feed 38 = .ok (.iconst 0, 1) := by decide +kernel
theorem dX6_feed_39 : decode cX6_feed 39 = .ok (.ireturn, 1) := by decide +kernel
theorem dX6_feed_40 : decode cX6_feed 40 = .ok (.iconst 0, 1) := by decide +kernel
theorem dX6_feed_41 : decode cX6_feed 41 = .ok (.istore 6, 2) := by decide +kernel
theorem dX6_feed_43 : decode cX6_feed 43 = .ok (.iload 6, 2) := by decide +kernel
theorem dX6_feed_45 : decode cX6_feed 45 = .ok (.iload_n 1, 1) := by decide +kernel
theorem dX6_feed_46 : decode cX6_feed 46 = .ok (.if_icmp .ge 82, 3) := by decide +kernel
theorem dX6_feed_49 : decode cX6_feed 49 = .ok (.iload 6, 2) := by decide +kernel
theorem dX6_feed_51 : decode cX6_feed 51 = .ok (.iconst 4, 1) := by decide +kernel
theorem dX6_feed_52 : decode cX6_feed 52 = .ok (.if_icmp .ge 7, 3) := by decide +kernel
theorem dX6_feed_55 : decode cX6_feed 55 = .ok (.iload_n 2, 1) := by decide +kernel
theorem dX6_feed_56 : decode cX6_feed 56 = .ok (.goto 28, 3) := by decide +kernel
theorem dX6_feed_59 : decode cX6_feed 59 = .ok (.iload 6, 2) := by decide +kernel
theorem dX6_feed_61 : decode cX6_feed 61 = .ok (.bipush 8, 2) := by decide +kernel
theorem dX6_feed_63 : decode cX6_feed 63 = .ok (.if_icmp .ge 7, 3) := by decide +kernel
theorem dX6_feed_66 : decode cX6_feed 66 = .ok (.iload_n 3, 1) := by decide +kernel
theorem dX6_feed_67 : decode cX6_feed 67 = .ok (.goto 17, 3) := by decide +kernel
theorem dX6_feed_70 : decode cX6_feed 70 = .ok (.iload 6, 2) := by decide +kernel
theorem dX6_feed_72 : decode cX6_feed 72 = .ok (.bipush 12, 2) := by decide +kernel
theorem dX6_feed_74 : decode cX6_feed 74 = .ok (.if_icmp .ge 8, 3) := by decide +kernel
theorem dX6_feed_77 : decode cX6_feed 77 = .ok (.iload 4, 2) := by decide +kernel
theorem dX6_feed_79 : decode cX6_feed 79 = .ok (.goto 5, 3) := by decide +kernel
theorem dX6_feed_82 : decode cX6_feed 82 = .ok (.iload 5, 2) := by decide +kernel
theorem dX6_feed_84 : decode cX6_feed 84 = .ok (.istore 7, 2) := by decide +kernel
theorem dX6_feed_86 : decode cX6_feed 86 = .ok (.aload_n 0, 1) := by decide +kernel
theorem dX6_feed_87 : decode cX6_feed 87 = .ok (.getfield 17, 3) := by decide +kernel
theorem dX6_feed_90 : decode cX6_feed 90 = .ok (.aload_n 0, 1) := by decide +kernel
theorem dX6_feed_91 : decode cX6_feed 91 = .ok (.getfield 78, 3) := by decide +kernel
theorem dX6_feed_94 : decode cX6_feed 94 = .ok (.iload 7, 2) := by decide +kernel
theorem dX6_feed_96 : decode cX6_feed 96 = .ok (.bipush 24, 2) := by decide +kernel
theorem dX6_feed_98 : decode cX6_feed 98 = .ok (.bipush 8, 2) := by decide +kernel
theorem dX6_feed_100 : decode cX6_feed 100 = .ok (.iload 6, 2) := by decide +kernel
theorem dX6_feed_102 : decode cX6_feed 102 = .ok (.iconst 4, 1) := by decide +kernel
theorem dX6_feed_103 : decode cX6_feed 103 = .ok (.irem, 1) := by decide +kernel
theorem dX6_feed_104 : decode cX6_feed 104 = .ok (.imul, 1) := by decide +kernel
theorem dX6_feed_105 : decode cX6_feed 105 = .ok (.isub, 1) := by decide +kernel
theorem dX6_feed_106 : decode cX6_feed 106 = .ok (.ishr, 1) := by decide +kernel
theorem dX6_feed_107 : decode cX6_feed 107 = .ok (.sipush 255, 3) := by decide +kernel
theorem dX6_feed_110 : decode cX6_feed 110 = .ok (.iand, 1) := by decide +kernel
theorem dX6_feed_111 : decode cX6_feed 111 = .ok (.iastore, 1) := by decide +kernel
theorem dX6_feed_112 : decode cX6_feed 112 = .ok (.aload_n 0, 1) := by decide +kernel
theorem dX6_feed_113 : decode cX6_feed 113 = .ok (.dup, 1) := by decide +kernel
theorem dX6_feed_114 : decode cX6_feed 114 = .ok (.getfield 78, 3) := by decide +kernel
theorem dX6_feed_117 : decode cX6_feed 117 = .ok (.iconst 1, 1) := by decide +kernel
theorem dX6_feed_118 : decode cX6_feed 118 = .ok (.iadd, 1) := by decide +kernel
theorem dX6_feed_119 : decode cX6_feed 119 = .ok (.putfield 78, 3) := by decide +kernel
theorem dX6_feed_122 : decode cX6_feed 122 = .ok (.iinc 6 1, 3) := by decide +kernel
theorem dX6_feed_125 : decode cX6_feed 125 = .ok (.goto (-82), 3) := by decide +kernel
theorem dX6_feed_128 : decode cX6_feed 128 = .ok (.aload_n 0, 1) := by decide +kernel
theorem dX6_feed_129 : decode cX6_feed 129 = .ok (.getfield 78, 3) := by decide +kernel
theorem dX6_feed_132 : decode cX6_feed 132 = .ok (.ireturn, 1) := by decide +kernel
theorem dX6_erase_0 : decode cX6_erase 0 = .ok (.aload_n 0, 1) := by decide +kernel
theorem dX6_erase_1 : decode cX6_erase 1 = .ok (.iconst 0, 1) := by decide +kernel
theorem dX6_erase_2 : decode cX6_erase 2 = .ok (.putfield 38, 3) := by decide +kernel
theorem dX6_erase_5 : decode cX6_erase 5 = .ok (.aload_n 0, 1) := by decide +kernel
theorem dX6_erase_6 : decode cX6_erase 6 = .ok (.getfield 78, 3) := by decide +kernel
theorem dX6_erase_9 : decode cX6_erase 9 = .ok (.istore_n 1, 1) := by decide +kernel
theorem dX6_erase_10 : decode cX6_erase 10 = .ok (.aload_n 0, 1) := by decide +kernel
theorem dX6_erase_11 : decode cX6_erase 11 = .ok (.iconst 0, 1) := by decide +kernel
theorem dX6_erase_12 : decode cX6_erase 12 = .ok (.putfield 78, 3) := by decide +kernel
theorem dX6_erase_15 : decode cX6_erase 15 = .ok (.iload_n 1, 1) := by decide +kernel
theorem dX6_erase_16 : decode cX6_erase 16 = .ok (.ireturn, 1) := by decide +kernel
theorem dX6_more_0 : decode cX6_more 0 = .ok (.iload_n 0, 1) := by decide +kernel
theorem dX6_more_1 : decode cX6_more 1 = .ok (.iload_n 1, 1) := by decide +kernel
theorem dX6_more_2 : decode cX6_more 2 = .ok (.ixor, 1) := by decide +kernel
theorem dX6_more_3 : decode cX6_more 3 = .ok (.istore_n 2, 1) := by decide +kernel
theorem dX6_more_4 : decode cX6_more 4 = .ok (.iconst 0, 1) := by decide +kernel
theorem dX6_more_5 : decode cX6_more 5 = .ok (.istore_n 3, 1) := by decide +kernel
theorem dX6_more_6 : decode cX6_more 6 = .ok (.iload_n 3, 1) := by decide +kernel
theorem dX6_more_7 : decode cX6_more 7 = .ok (.bipush 8, 2) := by decide +kernel
theorem dX6_more_9 : decode cX6_more 9 = .ok (.if_icmp .ge 28, 3) := by decide +kernel
theorem dX6_more_12 : decode cX6_more 12 = .ok (.iload_n 2, 1) := by decide +kernel
theorem dX6_more_13 : decode cX6_more 13 = .ok (.iconst 1, 1) := by decide +kernel
theorem dX6_more_14 : decode cX6_more 14 = .ok (.iand, 1) := by decide +kernel
theorem dX6_more_15 : decode cX6_more 15 = .ok (.ifCond .eq 12, 3) := by decide +kernel
theorem dX6_more_18 : decode cX6_more 18 = .ok (.iload_n 2, 1) := by decide +kernel
theorem dX6_more_19 : decode cX6_more 19 = .ok (.iconst 1, 1) := by decide +kernel
theorem dX6_more_20 : decode cX6_more 20 = .ok (.iushr, 1) := by decide +kernel
theorem dX6_more_21 : decode cX6_more 21 = .ok (.ldc 81, 2) := by decide +kernel
theorem dX6_more_23 : decode cX6_more 23 = .ok (.ixor, 1) := by decide +kernel
theorem dX6_more_24 : decode cX6_more 24 = .ok (.goto 6, 3) := by decide +kernel
theorem dX6_more_27 : decode cX6_more 27 = .ok (.iload_n 2, 1) := by decide +kernel
theorem dX6_more_28 : decode cX6_more 28 = .ok (.iconst 1, 1) := by decide +kernel
theorem dX6_more_29 : decode cX6_more 29 = .ok (.iushr, 1) := by decide +kernel
theorem dX6_more_30 : decode cX6_more 30 = .ok (.istore_n 2, 1) := by decide +kernel
theorem dX6_more_31 : decode cX6_more 31 = .ok (.iinc 3 1, 3) := by decide +kernel
theorem dX6_more_34 : decode cX6_more 34 = .ok (.goto (-28), 3) := by decide +kernel
theorem dX6_more_37 : decode cX6_more 37 = .ok (.iload_n 2, 1) := by decide +kernel
theorem dX6_more_38 : decode cX6_more 38 = .ok (.ireturn, 1) := by decide +kernel
theorem dX6_masked_0 : decode cX6_masked 0 = .ok (.iload_n 0, 1) := by decide +kernel
theorem dX6_masked_1 : decode cX6_masked 1 = .ok (.iconst (-1), 1) := by decide +kernel
theorem dX6_masked_2 : decode cX6_masked 2 = .ok (.ixor, 1) := by decide +kernel
theorem dX6_masked_3 : decode cX6_masked 3 = .ok (.istore_n 1, 1) := by decide +kernel
theorem dX6_masked_4 : decode cX6_masked 4 = .ok (.iload_n 1, 1) := by decide +kernel
theorem dX6_masked_5 : decode cX6_masked 5 = .ok (.bipush 15, 2) := by decide +kernel
theorem dX6_masked_7 : decode cX6_masked 7 = .ok (.iushr, 1) := by decide +kernel
theorem dX6_masked_8 : decode cX6_masked 8 = .ok (.iload_n 1, 1) := by decide +kernel
theorem dX6_masked_9 : decode cX6_masked 9 = .ok (.bipush 17, 2) := by decide +kernel
theorem dX6_masked_11 : decode cX6_masked 11 = .ok (.ishl, 1) := by decide +kernel
theorem dX6_masked_12 : decode cX6_masked 12 = .ok (.ior, 1) := by decide +kernel
theorem dX6_masked_13 : decode cX6_masked 13 = .ok (.ldc 82, 2) := by decide +kernel
theorem dX6_masked_15 : decode cX6_masked 15 = .ok (.iadd, 1) := by decide +kernel
theorem dX6_masked_16 : decode cX6_masked 16 = .ok (.ireturn, 1) := by decide +kernel
set_option maxRecDepth 20000 in
theorem ggX6_checkOf_X6_more : GoodIn wsX6_checkOf wsX6_more := goodIn_r _ [5, 6] (by decide +kernel) (by decide +kernel)
set_option maxRecDepth 20000 in
theorem gX6_checkOf_X6_more : GoodIn wsX6_checkOf (va_wsS RX6 83 yX6_more wsX6_more) := goodIn_app (goodIn_of _ (by decide +kernel)) ggX6_checkOf_X6_more
set_option maxRecDepth 20000 in
theorem ggX6_checkOf_X6_masked : GoodIn wsX6_checkOf wsX6_masked := goodIn_r _ [9, 10] (by decide +kernel) (by decide +kernel)
set_option maxRecDepth 20000 in
theorem gX6_checkOf_X6_masked : GoodIn wsX6_checkOf (va_wsS RX6 87 yX6_masked wsX6_masked) := goodIn_app (goodIn_of _ (by decide +kernel)) ggX6_checkOf_X6_masked
theorem dX6_checkOf_0 : decode cX6_checkOf 0 = .ok (.iconst (-1), 1) := by decide +kernel
theorem dX6_checkOf_1 : decode cX6_checkOf 1 = .ok (.iload_n 1, 1) := by decide +kernel
theorem dX6_checkOf_2 : decode cX6_checkOf 2 = .ok (.invokestatic 83, 3) := by decide +kernel
theorem dX6_checkOf_5 : decode cX6_checkOf 5 = .ok (.istore 4, 2) := by decide +kernel
theorem dX6_checkOf_7 : decode cX6_checkOf 7 = .ok (.iconst 0, 1) := by decide +kernel
theorem dX6_checkOf_8 : decode cX6_checkOf 8 = .ok (.istore 5, 2) := by decide +kernel
theorem dX6_checkOf_10 : decode cX6_checkOf 10 = .ok (.iload 5, 2) := by decide +kernel
theorem dX6_checkOf_12 : decode cX6_checkOf 12 = .ok (.iload_n 3, 1) := by decide +kernel
theorem dX6_checkOf_13 : decode cX6_checkOf 13 = .ok (.if_icmp .ge 25, 3) := by decide +kernel
theorem dX6_checkOf_16 : decode cX6_checkOf 16 = .ok (.iload 4, 2) := by decide +kernel
theorem dX6_checkOf_18 : decode cX6_checkOf 18 = .ok (.aload_n 0, 1) := by decide +kernel
theorem dX6_checkOf_19 : decode cX6_checkOf 19 = .ok (.getfield 17, 3) := by decide +kernel
theorem dX6_checkOf_22 : decode cX6_checkOf 22 = .ok (.iload_n 2, 1) := by decide +kernel
theorem dX6_checkOf_23 : decode cX6_checkOf 23 = .ok (.iload 5, 2) := by decide +kernel
theorem dX6_checkOf_25 : decode cX6_checkOf 25 = .ok (.iadd, 1) := by decide +kernel
theorem dX6_checkOf_26 : decode cX6_checkOf 26 = .ok (.iaload, 1) := by decide +kernel
theorem dX6_checkOf_27 : decode cX6_checkOf 27 = .ok (.invokestatic 83, 3) := by decide +kernel
theorem dX6_checkOf_30 : decode cX6_checkOf 30 = .ok (.istore 4, 2) := by decide +kernel
theorem dX6_checkOf_32 : decode cX6_checkOf 32 = .ok (.iinc 5 1, 3) := by decide +kernel
theorem dX6_checkOf_35 : decode cX6_checkOf 35 = .ok (.goto (-25), 3) := by decide +kernel
theorem dX6_checkOf_38 : decode cX6_checkOf 38 = .ok (.iload 4, 2) := by decide +kernel
theorem dX6_checkOf_40 : decode cX6_checkOf 40 = .ok (.invokestatic 87, 3) := by decide +kernel
theorem dX6_checkOf_43 : decode cX6_checkOf 43 = .ok (.ireturn, 1) := by decide +kernel
set_option maxRecDepth 20000 in
theorem ggX6_check_X6_isIn : GoodIn wsX6_check wsX6_isIn := goodIn_r _ [5] (by decide +kernel) (by decide +kernel)
set_option maxRecDepth 20000 in
theorem gX6_check_X6_isIn : GoodIn wsX6_check (va_wsS RX6 63 yX6_isIn wsX6_isIn) := goodIn_app (goodIn_of _ (by decide +kernel)) ggX6_check_X6_isIn
set_option maxRecDepth 20000 in
theorem ggX6_check_X6_refused : GoodIn wsX6_check wsX6_refused := goodIn_r _ [9, 10, 24, 25, 26, 27, 28, 29, 30, 31, 32, 33, 34, 35, 36, 37, 38, 39, 40, 41, 42, 43, 44, 45, 46] (by decide +kernel) (by decide +kernel)
set_option maxRecDepth 20000 in
theorem gX6_check_X6_refused : GoodIn wsX6_check (wsV RX6 67 RX6 yX6_refused wsX6_refused) := goodIn_app (goodIn_of _ (by decide +kernel)) ggX6_check_X6_refused
set_option maxRecDepth 20000 in
theorem ggX6_check_X6_checkOf : GoodIn wsX6_check wsX6_checkOf := goodIn_r _ [14, 15, 16, 17, 4, 18, 19, 20, 21, 22, 23, 24, 25, 26, 27, 28, 29, 30, 31, 32, 33, 34, 35, 36, 37, 38, 39, 40, 41, 42, 43, 44, 45, 46] (by decide +kernel) (by decide +kernel)
set_option maxRecDepth 20000 in
theorem gX6_check_X6_checkOf : GoodIn wsX6_check (wsV RX6 91 RX6 yX6_checkOf wsX6_checkOf) := goodIn_app (goodIn_of _ (by decide +kernel)) ggX6_check_X6_checkOf
theorem dX6_check_0 : decode cX6_check 0 = .ok (.aload_n 0, 1) := by decide +kernel
theorem dX6_check_1 : decode cX6_check 1 = .ok (.iload_n 1, 1) := by decide +kernel
theorem dX6_check_2 : decode cX6_check 2 = .ok (.iconst 0, 1) := by decide +kernel
theorem dX6_check_3 : decode cX6_check 3 = .ok (.sipush 255, 3) := by decide +kernel
theorem dX6_check_6 : decode cX6_check 6 = .ok (.invokestatic 63, 3) := by decide +kernel
theorem dX6_check_9 : decode cX6_check 9 = .ok (.ifCond .eq 7, 3) := by decide +kernel
theorem dX6_check_12 : decode cX6_check 12 = .ok (.iconst 0, 1) := by decide +kernel
theorem dX6_check_13 : decode cX6_check 13 = .ok (.goto 4, 3) := by decide +kernel
theorem dX6_check_16 : decode cX6_check 16 = .ok (.iconst 1, 1) := by decide +kernel
theorem dX6_check_17 : decode cX6_check 17 = .ok (.invokevirtual 67, 3) := by decide +kernel
theorem dX6_check_20 : decode cX6_check 20 = .ok (.ifCond .eq 5, 3) := by decide +kernel
theorem dX6_check_23 : decode cX6_check 23 = .ok (.iconst 0, 1) := by decide +kernel
theorem dX6_check_24 : decode cX6_check 24 = .ok (.ireturn, 1) := by decide +kernel
theorem dX6_check_25 : decode cX6_check 25 = .ok (.aload_n 0, 1) := by decide +kernel
theorem dX6_check_26 : decode cX6_check 26 = .ok (.iload_n 1, 1) := by decide +kernel
theorem dX6_check_27 : decode cX6_check 27 = .ok (.iconst 0, 1) := by decide +kernel
theorem dX6_check_28 : decode cX6_check 28 = .ok (.aload_n 0, 1) := by decide +kernel
theorem dX6_check_29 : decode cX6_check 29 = .ok (.getfield 78, 3) := by decide +kernel
theorem dX6_check_32 : decode cX6_check 32 = .ok (.invokevirtual 91, 3) := by decide +kernel
theorem dX6_check_35 : decode cX6_check 35 = .ok (.ireturn, 1) := by decide +kernel
theorem dX6_put_0 : decode cX6_put 0 = .ok (.aload_n 0, 1) := by decide +kernel
theorem dX6_put_1 : decode cX6_put 1 = .ok (.getfield 13, 3) := by decide +kernel
theorem dX6_put_4 : decode cX6_put 4 = .ok (.aload_n 0, 1) := by decide +kernel
theorem dX6_put_5 : decode cX6_put 5 = .ok (.getfield 71, 3) := by decide +kernel
theorem dX6_put_8 : decode cX6_put 8 = .ok (.iload_n 1, 1) := by decide +kernel
theorem dX6_put_9 : decode cX6_put 9 = .ok (.sipush 255, 3) := by decide +kernel
theorem dX6_put_12 : decode cX6_put 12 = .ok (.iand, 1) := by decide +kernel
theorem dX6_put_13 : decode cX6_put 13 = .ok (.iastore, 1) := by decide +kernel
theorem dX6_put_14 : decode cX6_put 14 = .ok (.aload_n 0, 1) := by decide +kernel
theorem dX6_put_15 : decode cX6_put 15 = .ok (.dup, 1) := by decide +kernel
theorem dX6_put_16 : decode cX6_put 16 = .ok (.getfield 71, 3) := by decide +kernel
theorem dX6_put_19 : decode cX6_put 19 = .ok (.iconst 1, 1) := by decide +kernel
theorem dX6_put_20 : decode cX6_put 20 = .ok (.iadd, 1) := by decide +kernel
theorem dX6_put_21 : decode cX6_put 21 = .ok (.putfield 71, 3) := by decide +kernel
theorem dX6_put_24 : decode cX6_put 24 = .ok (.return_, 1) := by decide +kernel
set_option maxRecDepth 20000 in
theorem ggX6_putFragment_X6_checkOf : GoodIn wsX6_putFragment wsX6_checkOf := goodIn_r _ [6, 1, 7, 8, 5, 9, 10, 11, 12, 13, 14, 21, 22, 23, 24, 25, 26, 27, 28, 29, 30, 31, 32, 33, 34, 35, 36, 37, 38, 39, 40, 41, 42, 43] (by decide +kernel) (by decide +kernel)
set_option maxRecDepth 20000 in
theorem gX6_putFragment_X6_checkOf : GoodIn wsX6_putFragment (wsV RX6 91 RX6 yX6_checkOf wsX6_checkOf) := goodIn_app (goodIn_of _ (by decide +kernel)) ggX6_putFragment_X6_checkOf
set_option maxRecDepth 20000 in
theorem ggX6_putFragment_X6_put : GoodIn wsX6_putFragment wsX6_put := goodIn_r _ [18, 19, 20, 21, 22, 23, 24, 25, 26, 27, 28, 29, 30, 31, 32, 33, 34, 35, 36, 37, 38, 39, 40, 41, 42, 43] (by decide +kernel) (by decide +kernel)
set_option maxRecDepth 20000 in
theorem gX6_putFragment_X6_put : GoodIn wsX6_putFragment (wsV RX6 95 RX6 yX6_put wsX6_put) := goodIn_app (goodIn_of _ (by decide +kernel)) ggX6_putFragment_X6_put
theorem dX6_putFragment_0 : decode cX6_putFragment 0 = .ok (.aload_n 0, 1) := by decide +kernel
theorem dX6_putFragment_1 : decode cX6_putFragment 1 = .ok (.iload_n 1, 1) := by decide +kernel
theorem dX6_putFragment_2 : decode cX6_putFragment 2 = .ok (.iload_n 2, 1) := by decide +kernel
theorem dX6_putFragment_3 : decode cX6_putFragment 3 = .ok (.iload_n 3, 1) := by decide +kernel
theorem dX6_putFragment_4 : decode cX6_putFragment 4 = .ok (.invokevirtual 91, 3) := by decide +kernel
theorem dX6_putFragment_7 : decode cX6_putFragment 7 = .ok (.istore 4, 2) := by decide +kernel
theorem dX6_putFragment_9 : decode cX6_putFragment 9 = .ok (.iconst 0, 1) := by decide +kernel
theorem dX6_putFragment_10 : decode cX6_putFragment 10 = .ok (.istore 5, 2) := by decide +kernel
theorem dX6_putFragment_12 : decode cX6_putFragment 12 = .ok (.iload 5, 2) := by decide +kernel
theorem dX6_putFragment_14 : decode cX6_putFragment 14 = .ok (.iconst 4, 1) := by decide +kernel
theorem dX6_putFragment_15 : decode cX6_putFragment 15 = .ok (.if_icmp .ge 21, 3) := by decide +kernel
theorem dX6_putFragment_18 : decode cX6_putFragment 18 = .ok (.aload_n 0, 1) := by decide +kernel
theorem dX6_putFragment_19 : decode cX6_putFragment 19 = .ok (.iload 4, 2) := by decide +kernel
theorem dX6_putFragment_21 : decode cX6_putFragment 21 = .ok (.bipush 8, 2) := by decide +kernel
theorem dX6_putFragment_23 : decode cX6_putFragment 23 = .ok (.iload 5, 2) := by decide +kernel
theorem dX6_putFragment_25 : decode cX6_putFragment 25 = .ok (.imul, 1) := by decide +kernel
theorem dX6_putFragment_26 : decode cX6_putFragment 26 = .ok (.ishr, 1) := by decide +kernel
theorem dX6_putFragment_27 : decode cX6_putFragment 27 = .ok (.invokevirtual 95, 3) := by decide +kernel
theorem dX6_putFragment_30 : decode cX6_putFragment 30 = .ok (.iinc 5 1, 3) := by decide +kernel
theorem dX6_putFragment_33 : decode cX6_putFragment 33 = .ok (.goto (-21), 3) := by decide +kernel
theorem dX6_putFragment_36 : decode cX6_putFragment 36 = .ok (.aload_n 0, 1) := by decide +kernel
theorem dX6_putFragment_37 : decode cX6_putFragment 37 = .ok (.iload_n 3, 1) := by decide +kernel
theorem dX6_putFragment_38 : decode cX6_putFragment 38 = .ok (.invokevirtual 95, 3) := by decide +kernel
theorem dX6_putFragment_41 : decode cX6_putFragment 41 = .ok (.aload_n 0, 1) := by decide +kernel
theorem dX6_putFragment_42 : decode cX6_putFragment 42 = .ok (.iload_n 3, 1) := by decide +kernel
theorem dX6_putFragment_43 : decode cX6_putFragment 43 = .ok (.bipush 8, 2) := by decide +kernel
theorem dX6_putFragment_45 : decode cX6_putFragment 45 = .ok (.ishr, 1) := by decide +kernel
theorem dX6_putFragment_46 : decode cX6_putFragment 46 = .ok (.invokevirtual 95, 3) := by decide +kernel
theorem dX6_putFragment_49 : decode cX6_putFragment 49 = .ok (.aload_n 0, 1) := by decide +kernel
theorem dX6_putFragment_50 : decode cX6_putFragment 50 = .ok (.iload_n 1, 1) := by decide +kernel
theorem dX6_putFragment_51 : decode cX6_putFragment 51 = .ok (.invokevirtual 95, 3) := by decide +kernel
theorem dX6_putFragment_54 : decode cX6_putFragment 54 = .ok (.iconst 0, 1) := by decide +kernel
theorem dX6_putFragment_55 : decode cX6_putFragment 55 = .ok (.istore 5, 2) := by decide +kernel
theorem dX6_putFragment_57 : decode cX6_putFragment 57 = .ok (.iload 5, 2) := by decide +kernel
theorem dX6_putFragment_59 : decode cX6_putFragment 59 = .ok (.iload_n 3, 1) := by decide +kernel
theorem dX6_putFragment_60 : decode cX6_putFragment 60 = .ok (.if_icmp .ge 22, 3) := by decide +kernel
theorem dX6_putFragment_63 : decode cX6_putFragment 63 = .ok (.aload_n 0, 1) := by decide +kernel
theorem dX6_putFragment_64 : decode cX6_putFragment 64 = .ok (.aload_n 0, 1) := by decide +kernel
theorem dX6_putFragment_65 : decode cX6_putFragment 65 = .ok (.getfield 17, 3) := by decide +kernel
theorem dX6_putFragment_68 : decode cX6_putFragment 68 = .ok (.iload_n 2, 1) := by decide +kernel
theorem dX6_putFragment_69 : decode cX6_putFragment 69 = .ok (.iload 5, 2) := by decide +kernel
theorem dX6_putFragment_71 : decode cX6_putFragment 71 = .ok (.iadd, 1) := by decide +kernel
theorem dX6_putFragment_72 : decode cX6_putFragment 72 = .ok (.iaload, 1) := by decide +kernel
theorem dX6_putFragment_73 : decode cX6_putFragment 73 = .ok (.invokevirtual 95, 3) := by decide +kernel
theorem dX6_putFragment_76 : decode cX6_putFragment 76 = .ok (.iinc 5 1, 3) := by decide +kernel
theorem dX6_putFragment_79 : decode cX6_putFragment 79 = .ok (.goto (-22), 3) := by decide +kernel
theorem dX6_putFragment_82 : decode cX6_putFragment 82 = .ok (.return_, 1) := by decide +kernel
theorem dX6_appendedSize_0 : decode cX6_appendedSize 0 = .ok (.aload_n 0, 1) := by decide +kernel
theorem dX6_appendedSize_1 : decode cX6_appendedSize 1 = .ok (.getfield 71, 3) := by decide +kernel
theorem dX6_appendedSize_4 : decode cX6_appendedSize 4 = .ok (.istore_n 1, 1) := by decide +kernel
theorem dX6_appendedSize_5 : decode cX6_appendedSize 5 = .ok (.aload_n 0, 1) := by decide +kernel
theorem dX6_appendedSize_6 : decode cX6_appendedSize 6 = .ok (.getfield 78, 3) := by decide +kernel
theorem dX6_appendedSize_9 : decode cX6_appendedSize 9 = .ok (.istore_n 2, 1) := by decide +kernel
theorem dX6_appendedSize_10 : decode cX6_appendedSize 10 = .ok (.iconst 1, 1) := by decide +kernel
theorem dX6_appendedSize_11 : decode cX6_appendedSize 11 = .ok (.istore_n 3, 1) := by decide +kernel
theorem dX6_appendedSize_12 : decode cX6_appendedSize 12 = .ok (.iload_n 3, 1) := by decide +kernel
theorem dX6_appendedSize_13 : decode cX6_appendedSize 13 = .ok (.ifCond .eq 80, 3) := by decide +kernel
theorem dX6_appendedSize_16 : decode cX6_appendedSize 16 = .ok (.aload_n 0, 1) := by decide +kernel
theorem dX6_appendedSize_17 : decode cX6_appendedSize 17 = .ok (.getfield 7, 3) := by decide +kernel
theorem dX6_appendedSize_20 : decode cX6_appendedSize 20 = .ok (.iload_n 1, 1) := by decide +kernel
theorem dX6_appendedSize_21 : decode cX6_appendedSize 21 = .ok (.aload_n 0, 1) := by decide +kernel
theorem dX6_appendedSize_22 : decode cX6_appendedSize 22 = .ok (.getfield 7, 3) := by decide +kernel
theorem dX6_appendedSize_25 : decode cX6_appendedSize 25 = .ok (.irem, 1) := by decide +kernel
theorem dX6_appendedSize_26 : decode cX6_appendedSize 26 = .ok (.isub, 1) := by decide +kernel
theorem dX6_appendedSize_27 : decode cX6_appendedSize 27 = .ok (.istore 4, 2) := by decide +kernel
theorem dX6_appendedSize_29 : decode cX6_appendedSize 29 = .ok (.iload 4, 2) := by decide +kernel
theorem dX6_appendedSize_31 : decode cX6_appendedSize 31 = .ok (.bipush 7, 2) := by decide +kernel
theorem dX6_appendedSize_33 : decode cX6_appendedSize 33 = .ok (.if_icmp .ge 14, 3) := by decide +kernel
theorem dX6_appendedSize_36 : decode cX6_appendedSize 36 = .ok (.iload_n 1, 1) := by decide +kernel
theorem dX6_appendedSize_37 : decode cX6_appendedSize 37 = .ok (.iload 4, 2) := by decide +kernel
theorem dX6_appendedSize_39 : decode cX6_appendedSize 39 = .ok (.iadd, 1) := by decide +kernel
theorem dX6_appendedSize_40 : decode cX6_appendedSize 40 = .ok (.istore_n 1, 1) := by decide +kernel
theorem dX6_appendedSize_41 : decode cX6_appendedSize 41 = .ok (.aload_n 0, 1) := by decide +kernel
theorem dX6_appendedSize_42 : decode cX6_appendedSize 42 = .ok (.getfield 7, 3) := by decide +kernel
theorem dX6_appendedSize_45 : decode cX6_appendedSize 45 = .ok (.istore 4, 2) := by decide +kernel
theorem dX6_appendedSize_47 : decode cX6_appendedSize 47 = .ok (.iload_n 2, 1) := by decide +kernel
theorem dX6_appendedSize_48 : decode cX6_appendedSize 48 = .ok (.iload 4, 2) := by decide +kernel
theorem dX6_appendedSize_50 : decode cX6_appendedSize 50 = .ok (.bipush 7, 2) := by decide +kernel
theorem dX6_appendedSize_52 : decode cX6_appendedSize 52 = .ok (.isub, 1) := by decide +kernel
theorem dX6_appendedSize_53 : decode cX6_appendedSize 53 = .ok (.if_icmp .ge 7, 3) := by decide +kernel
theorem dX6_appendedSize_56 : decode cX6_appendedSize 56 = .ok (.iload_n 2, 1) := by decide +kernel
theorem dX6_appendedSize_57 : decode cX6_appendedSize 57 = .ok (.goto 8, 3) := by decide +kernel
theorem dX6_appendedSize_60 : decode cX6_appendedSize 60 = .ok (.iload 4, 2) := by decide +kernel
theorem dX6_appendedSize_62 : decode cX6_appendedSize 62 = .ok (.bipush 7, 2) := by decide +kernel
theorem dX6_appendedSize_64 : decode cX6_appendedSize 64 = .ok (.isub, 1) := by decide +kernel
theorem dX6_appendedSize_65 : decode cX6_appendedSize 65 = .ok (.istore 5, 2) := by decide +kernel
theorem dX6_appendedSize_67 : decode cX6_appendedSize 67 = .ok (.iload_n 1, 1) := by decide +kernel
theorem dX6_appendedSize_68 : decode cX6_appendedSize 68 = .ok (.bipush 7, 2) := by decide +kernel
theorem dX6_appendedSize_70 : decode cX6_appendedSize 70 = .ok (.iadd, 1) := by decide +kernel
theorem dX6_appendedSize_71 : decode cX6_appendedSize 71 = .ok (.iload 5, 2) := by decide +kernel
theorem dX6_appendedSize_73 : decode cX6_appendedSize 73 = .ok (.iadd, 1) := by decide +kernel
theorem dX6_appendedSize_74 : decode cX6_appendedSize 74 = .ok (.istore_n 1, 1) := by decide +kernel
theorem dX6_appendedSize_75 : decode cX6_appendedSize 75 = .ok (.iload_n 2, 1) := by decide +kernel
theorem dX6_appendedSize_76 : decode cX6_appendedSize 76 = .ok (.iload 5, 2) := by decide +kernel
theorem dX6_appendedSize_78 : decode cX6_appendedSize 78 = .ok (.isub, 1) := by decide +kernel
theorem dX6_appendedSize_79 : decode cX6_appendedSize 79 = .ok (.istore_n 2, 1) := by decide +kernel
theorem dX6_appendedSize_80 : decode cX6_appendedSize 80 = .ok (.iload_n 2, 1) := by decide +kernel
theorem dX6_appendedSize_81 : decode cX6_appendedSize 81 = .ok (.ifCond .le 7, 3) := by decide +kernel
theorem dX6_appendedSize_84 : decode cX6_appendedSize 84 = .ok (.iconst 1, 1) := by decide +kernel
theorem dX6_appendedSize_85 : decode cX6_appendedSize 85 = .ok (.goto 4, 3) := by decide +kernel
theorem dX6_appendedSize_88 : decode cX6_appendedSize 88 = .ok (.iconst 0, 1) := by decide +kernel
theorem dX6_appendedSize_89 : decode cX6_appendedSize 89 = .ok (.istore_n 3, 1) := by decide +kernel
theorem dX6_appendedSize_90 : decode cX6_appendedSize 90 = .ok (.goto (-78), 3) := by decide +kernel
theorem dX6_appendedSize_93 : decode cX6_appendedSize 93 = .ok (.iload_n 1, 1) := by decide +kernel
theorem dX6_appendedSize_94 : decode cX6_appendedSize 94 = .ok (.ireturn, 1) := by decide +kernel
set_option maxRecDepth 20000 in
theorem ggX6_append_X6_appendedSize : GoodIn wsX6_append wsX6_appendedSize := goodIn_r _ [10, 3, 4, 2, 33, 34, 35, 36, 37, 38, 39, 40, 41, 42, 43, 44, 45, 46, 47, 48, 49, 50, 51, 52, 53, 54, 55] (by decide +kernel) (by decide +kernel)
set_option maxRecDepth 20000 in
theorem gX6_append_X6_appendedSize : GoodIn wsX6_append (wsV RX6 98 RX6 yX6_appendedSize wsX6_appendedSize) := goodIn_app (goodIn_of _ (by decide +kernel)) ggX6_append_X6_appendedSize
set_option maxRecDepth 20000 in
theorem ggX6_append_X6_put : GoodIn wsX6_append wsX6_put := goodIn_r _ [14, 15, 3, 33, 34, 35, 36, 37, 38, 39, 40, 41, 42, 43, 44, 45, 46, 47, 48, 49, 50, 51, 52, 53, 54, 55] (by decide +kernel) (by decide +kernel)
set_option maxRecDepth 20000 in
theorem gX6_append_X6_put : GoodIn wsX6_append (wsV RX6 95 RX6 yX6_put wsX6_put) := goodIn_app (goodIn_of _ (by decide +kernel)) ggX6_append_X6_put
set_option maxRecDepth 20000 in
theorem ggX6_append_X6_putFragment : GoodIn wsX6_append wsX6_putFragment := goodIn_r _ [19, 20, 21, 22, 23, 9, 24, 25, 26, 27, 28, 29, 30, 31, 32, 11, 12, 13, 14, 15, 3, 33, 34, 35, 36, 37, 38, 39, 40, 41, 42, 43, 44, 45, 46, 47, 48, 49, 50, 51, 52, 53, 54, 55] (by decide +kernel) (by decide +kernel)
set_option maxRecDepth 20000 in
theorem gX6_append_X6_putFragment : GoodIn wsX6_append (wsV RX6 105 RX6 yX6_putFragment wsX6_putFragment) := goodIn_app (goodIn_of _ (by decide +kernel)) ggX6_append_X6_putFragment
theorem dX6_append_0 : decode cX6_append 0 = .ok (.aload_n 0, 1) := by decide +kernel
theorem dX6_append_1 : decode cX6_append 1 = .ok (.iconst 0, 1) := by decide +kernel
theorem dX6_append_2 : decode cX6_append 2 = .ok (.putfield 38, 3) := by decide +kernel
theorem dX6_append_5 : decode cX6_append 5 = .ok (.aload_n 0, 1) := by decide +kernel
theorem dX6_append_6 : decode cX6_append 6 = .ok (.invokevirtual 98, 3) := by decide +kernel
theorem dX6_append_9 : decode cX6_append 9 = .ok (.sipush 4096, 3) := by decide +kernel
theorem dX6_append_12 : decode cX6_append 12 = .ok (.if_icmp .le 6, 3) := by decide +kernel
theorem dX6_append_15 : decode cX6_append 15 = .ok (.bipush (-2), 2) := by decide +kernel
theorem dX6_append_17 : decode cX6_append 17 = .ok (.ireturn, 1) := by decide +kernel
theorem dX6_append_18 : decode cX6_append 18 = .ok (.iconst 0, 1) := by decide +kernel
theorem dX6_append_19 : decode cX6_append 19 = .ok (.istore_n 1, 1) := by decide +kernel
theorem dX6_append_20 : decode cX6_append 20 = .ok (.iconst 1, 1) := by decide +kernel
theorem dX6_append_21 : decode cX6_append 21 = .ok (.istore_n 2, 1) := by decide +kernel
theorem dX6_append_22 : decode cX6_append 22 = .ok (.iload_n 2, 1) := by decide +kernel
theorem dX6_append_23 : decode cX6_append 23 = .ok (.ifCond .eq 156, 3) := by decide +kernel
theorem dX6_append_26 : decode cX6_append 26 = .ok (.aload_n 0, 1) := by decide +kernel
theorem dX6_append_27 : decode cX6_append 27 = .ok (.getfield 7, 3) := by decide +kernel
theorem dX6_append_30 : decode cX6_append 30 = .ok (.aload_n 0, 1) := by decide +kernel
theorem dX6_append_31 : decode cX6_append 31 = .ok (.getfield 71, 3) := by decide +kernel
theorem dX6_append_34 : decode cX6_append 34 = .ok (.aload_n 0, 1) := by decide +kernel
theorem dX6_append_35 : decode cX6_append 35 = .ok (.getfield 7, 3) := by decide +kernel
