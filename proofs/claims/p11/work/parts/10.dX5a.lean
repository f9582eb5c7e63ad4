set_option maxRecDepth 20000 in
theorem ggX5_init_X3_init : GoodIn wsX5_init wsX3_init := goodIn_r _ [18, 19, 2, 3, 20, 21, 22, 57, 58] (by decide +kernel) (by decide +kernel)
set_option maxRecDepth 20000 in
theorem gX5_init_X3_init : GoodIn wsX5_init (wsX3_init) := ggX5_init_X3_init
set_option maxRecDepth 20000 in
theorem ggX5_init_X0_init : GoodIn wsX5_init wsX0_init := goodIn_r _ [24, 25, 2, 3, 26, 5, 6, 27, 28, 29, 17, 18, 19, 20, 21, 22, 57, 58, 62, 63] (by decide +kernel) (by decide +kernel)
set_option maxRecDepth 20000 in
theorem gX5_init_X0_init_n20 : GoodIn wsX5_init (wsX0_init) := ggX5_init_X0_init
set_option maxRecDepth 20000 in
theorem ggX5_init_X2_init : GoodIn wsX5_init wsX2_init := goodIn_r _ [32, 33, 2, 3, 34, 35, 36, 37, 38, 5, 6, 39, 40, 41, 42, 43, 44, 45, 46, 47, 48, 49, 50, 51, 52, 53, 54, 55, 56, 17, 18, 19, 20, 21, 22, 74, 75, 76, 77, 64, 65, 66, 67, 68, 69, 70, 71, 72, 73, 57, 58] (by decide +kernel) (by decide +kernel)
set_option maxRecDepth 20000 in
theorem gX5_init_X2_init : GoodIn wsX5_init (wsX2_init) := ggX5_init_X2_init
theorem dX5_init_0 : decode cX5_init 0 = .ok (.aload_n 0, 1) := by decide +kernel
theorem dX5_init_1 : decode cX5_init 1 = .ok (.invokespecial 1, 3) := by decide +kernel
theorem dX5_init_4 : decode cX5_init 4 = .ok (.aload_n 0, 1) := by decide +kernel
theorem dX5_init_5 : decode cX5_init 5 = .ok (.new 7, 3) := by decide +kernel
theorem dX5_init_8 : decode cX5_init 8 = .ok (.dup, 1) := by decide +kernel
theorem dX5_init_9 : decode cX5_init 9 = .ok (.sipush 400, 3) := by decide +kernel
theorem dX5_init_12 : decode cX5_init 12 = .ok (.invokespecial 11, 3) := by decide +kernel
theorem dX5_init_15 : decode cX5_init 15 = .ok (.putfield 14, 3) := by decide +kernel
theorem dX5_init_18 : decode cX5_init 18 = .ok (.aload_n 0, 1) := by decide +kernel
theorem dX5_init_19 : decode cX5_init 19 = .ok (.new 18, 3) := by decide +kernel
theorem dX5_init_22 : decode cX5_init 22 = .ok (.dup, 1) := by decide +kernel
theorem dX5_init_23 : decode cX5_init 23 = .ok (.invokespecial 20, 3) := by decide +kernel
theorem dX5_init_26 : decode cX5_init 26 = .ok (.putfield 21, 3) := by decide +kernel
theorem dX5_init_29 : decode cX5_init 29 = .ok (.aload_n 0, 1) := by decide +kernel
theorem dX5_init_30 : decode cX5_init 30 = .ok (.new 25, 3) := by decide +kernel
theorem dX5_init_33 : decode cX5_init 33 = .ok (.dup, 1) := by decide +kernel
theorem dX5_init_34 : decode cX5_init 34 = .ok (.aload_n 0, 1) := by decide +kernel
theorem dX5_init_35 : decode cX5_init 35 = .ok (.getfield 21, 3) := by decide +kernel
theorem dX5_init_38 : decode cX5_init 38 = .ok (.invokespecial 27, 3) := by decide +kernel
theorem dX5_init_41 : decode cX5_init 41 = .ok (.putfield 30, 3) := by decide +kernel
theorem dX5_init_44 : decode cX5_init 44 = .ok (.return_, 1) := by decide +kernel
set_option maxRecDepth 20000 in
theorem ggX5_clear_X0_startAnew : GoodIn wsX5_clear wsX0_startAnew := goodIn_r _ [9, 10, 11, 12, 13, 14, 15, 16, 17, 47, 48, 49, 50] (by decide +kernel) (by decide +kernel)
set_option maxRecDepth 20000 in
theorem gX5_clear_X0_startAnew : GoodIn wsX5_clear (wsV RX5 41 RX0 yX0_startAnew wsX0_startAnew) := goodIn_app (goodIn_of _ (by decide +kernel)) ggX5_clear_X0_startAnew
set_option maxRecDepth 20000 in
theorem ggX5_clear_X2_beginAt : GoodIn wsX5_clear wsX2_beginAt := goodIn_r _ [22, 23, 24, 25, 26, 27, 28, 29, 30, 8, 31, 11, 32, 33, 34, 35, 36, 37, 38, 39, 40, 41, 42, 43, 51, 52, 53, 54, 55, 56, 57, 58, 59, 60, 47, 48, 61, 62, 63, 64] (by decide +kernel) (by decide +kernel)
set_option maxRecDepth 20000 in
theorem gX5_clear_X2_beginAt : GoodIn wsX5_clear (wsV RX5 44 RX2 yX2_beginAt wsX2_beginAt) := goodIn_app (goodIn_of _ (by decide +kernel)) ggX5_clear_X2_beginAt
theorem dX5_clear_0 : decode cX5_clear 0 = .ok (.iload_n 1, 1) := by decide +kernel
theorem dX5_clear_1 : decode cX5_clear 1 = .ok (.bipush 16, 2) := by decide +kernel
theorem dX5_clear_3 : decode cX5_clear 3 = .ok (.if_icmp .lt 10, 3) := by decide +kernel
theorem dX5_clear_6 : decode cX5_clear 6 = .ok (.iload_n 1, 1) := by decide +kernel
theorem dX5_clear_7 : decode cX5_clear 7 = .ok (.sipush 512, 3) := by decide +kernel
theorem dX5_clear_10 : decode cX5_clear 10 = .ok (.if_icmp .le 13, 3) := by decide +kernel
theorem dX5_clear_13 : decode cX5_clear 13 = .ok (.new 34, 3) := by decide +kernel
theorem dX5_clear_16 : decode cX5_clear 16 = .ok (.dup, 1) := by decide +kernel
theorem dX5_clear_17 : decode cX5_clear 17 = .ok (.ldc 36, 2) := by decide +kernel
theorem dX5_clear_19 : decode cX5_clear 19 = .ok (.invokespecial 38, 3) := by decide +kernel
theorem dX5_clear_22 : decode cX5_clear 22 = .ok (.athrow, 1) := by decide +kernel
theorem dX5_clear_23 : decode cX5_clear 23 = .ok (.aload_n 0, 1) := by decide +kernel
theorem dX5_clear_24 : decode cX5_clear 24 = .ok (.getfield 21, 3) := by decide +kernel
theorem dX5_clear_27 : decode cX5_clear 27 = .ok (.iload_n 1, 1) := by decide +kernel
theorem dX5_clear_28 : decode cX5_clear 28 = .ok (.invokevirtual 41, 3) := by decide +kernel
theorem dX5_clear_31 : decode cX5_clear 31 = .ok (.aload_n 0, 1) := by decide +kernel
theorem dX5_clear_32 : decode cX5_clear 32 = .ok (.getfield 30, 3) := by decide +kernel
theorem dX5_clear_35 : decode cX5_clear 35 = .ok (.iconst 0, 1) := by decide +kernel
theorem dX5_clear_36 : decode cX5_clear 36 = .ok (.invokevirtual 44, 3) := by decide +kernel
theorem dX5_clear_39 : decode cX5_clear 39 = .ok (.return_, 1) := by decide +kernel
set_option maxRecDepth 20000 in
theorem ggX5_feed_X3_hasRoomFor : GoodIn wsX5_feed wsX3_hasRoomFor := goodIn_r _ [14, 15, 16, 33, 34] (by decide +kernel) (by decide +kernel)
set_option maxRecDepth 20000 in
theorem gX5_feed_X3_hasRoomFor : GoodIn wsX5_feed (wsV RX5 49 RX3 yX3_hasRoomFor wsX3_hasRoomFor) := goodIn_app (goodIn_of _ (by decide +kernel)) ggX5_feed_X3_hasRoomFor
set_option maxRecDepth 20000 in
theorem ggX5_feed_X5_feedFrom : GoodIn wsX5_feed wsX5_feedFrom := goodIn_r _ [21, 5, 22, 23, 24, 13, 25, 16, 15, 30, 31, 32, 33, 34] (by decide +kernel) (by decide +kernel)
set_option maxRecDepth 20000 in
theorem gX5_feed_X5_feedFrom : GoodIn wsX5_feed (wsV RX5 64 RX5 yX5_feedFrom wsX5_feedFrom) := goodIn_app (goodIn_of _ (by decide +kernel)) ggX5_feed_X5_feedFrom
set_option maxRecDepth 20000 in
theorem ggX5_feed_X3_many : GoodIn wsX5_feed wsX3_many := goodIn_r _ [29, 16, 33, 34] (by decide +kernel) (by decide +kernel)
set_option maxRecDepth 20000 in
theorem gX5_feed_X3_many : GoodIn wsX5_feed (wsV RX5 68 RX3 yX3_many wsX3_many) := goodIn_app (goodIn_of _ (by decide +kernel)) ggX5_feed_X3_many
theorem dX5_feed_0 : decode cX5_feed 0 = .ok (.iload_n 1, 1) := by decide +kernel
theorem dX5_feed_1 : decode cX5_feed 1 = .ok (.ifCond .lt 9, 3) := by decide +kernel
theorem dX5_feed_4 : decode cX5_feed 4 = .ok (.iload_n 1, 1) := by decide +kernel
theorem dX5_feed_5 : decode cX5_feed 5 = .ok (.bipush 16, 2) := by decide +kernel
theorem dX5_feed_7 : decode cX5_feed 7 = .ok (.if_icmp .le 13, 3) := by decide +kernel
theorem dX5_feed_10 : decode cX5_feed 10 = .ok (.new 34, 3) := by decide +kernel
theorem dX5_feed_13 : decode cX5_feed 13 = .ok (.dup, 1) := by decide +kernel
theorem dX5_feed_14 : decode cX5_feed 14 = .ok (.ldc 47, 2) := by decide +kernel
theorem dX5_feed_16 : decode cX5_feed 16 = .ok (.invokespecial 38, 3) := by decide +kernel
theorem dX5_feed_19 : decode cX5_feed 19 = .ok (.athrow, 1) := by decide +kernel
theorem dX5_feed_20 : decode cX5_feed 20 = .ok (.aload_n 0, 1) := by decide +kernel
theorem dX5_feed_21 : decode cX5_feed 21 = .ok (.getfield 14, 3) := by decide +kernel
theorem dX5_feed_24 : decode cX5_feed 24 = .ok (.iload_n 1, 1) := by decide +kernel
theorem dX5_feed_25 : decode cX5_feed 25 = .ok (.invokevirtual 49, 3) := by decide +kernel
theorem dX5_feed_28 : decode cX5_feed 28 = .ok (.ifCond .ne 13, 3) := by decide +kernel
theorem dX5_feed_31 : decode cX5_feed 31 = .ok (.new 53, 3) := by decide +kernel
theorem dX5_feed_34 : decode cX5_feed 34 = .ok (.dup, 1) := by decide +kernel
theorem dX5_feed_35 : decode cX5_feed 35 = .ok (.ldc 55, 2) := by decide +kernel
theorem dX5_feed_37 : decode cX5_feed 37 = .ok (.invokespecial 57, 3) := by decide +kernel
theorem dX5_feed_40 : decode cX5_feed 40 = .ok (.athrow, 1) := by decide +kernel
theorem dX5_feed_41 : decode cX5_feed 41 = .ok (.aload_n 0, 1) := by decide +kernel
theorem dX5_feed_42 : decode cX5_feed 42 = .ok (.iload_n 2, 1) := by decide +kernel
theorem dX5_feed_43 : decode cX5_feed 43 = .ok (.iload_n 1, 1) := by decide +kernel
theorem dX5_feed_44 : decode cX5_feed 44 = .ok (.iconst 4, 1) := by decide +kernel
theorem dX5_feed_45 : decode cX5_feed 45 = .ok (.invokestatic 58, 3) := by decide +kernel
theorem dX5_feed_48 : decode cX5_feed 48 = .ok (.invokevirtual 64, 3) := by decide +kernel
theorem dX5_feed_51 : decode cX5_feed 51 = .ok (.aload_n 0, 1) := by decide +kernel
theorem dX5_feed_52 : decode cX5_feed 52 = .ok (.iload_n 3, 1) := by decide +kernel
theorem dX5_feed_53 : decode cX5_feed 53 = .ok (.iload_n 1, 1) := by decide +kernel
theorem dX5_feed_54 : decode cX5_feed 54 = .ok (.iconst 4, 1) := by decide +kernel
theorem dX5_feed_55 : decode cX5_feed 55 = .ok (.isub, 1) := by decide +kernel
theorem dX5_feed_56 : decode cX5_feed 56 = .ok (.iconst 4, 1) := by decide +kernel
theorem dX5_feed_57 : decode cX5_feed 57 = .ok (.invokestatic 58, 3) := by decide +kernel
theorem dX5_feed_60 : decode cX5_feed 60 = .ok (.invokevirtual 64, 3) := by decide +kernel
theorem dX5_feed_63 : decode cX5_feed 63 = .ok (.aload_n 0, 1) := by decide +kernel
theorem dX5_feed_64 : decode cX5_feed 64 = .ok (.iload 4, 2) := by decide +kernel
theorem dX5_feed_66 : decode cX5_feed 66 = .ok (.iload_n 1, 1) := by decide +kernel
theorem dX5_feed_67 : decode cX5_feed 67 = .ok (.bipush 8, 2) := by decide +kernel
theorem dX5_feed_69 : decode cX5_feed 69 = .ok (.isub, 1) := by decide +kernel
theorem dX5_feed_70 : decode cX5_feed 70 = .ok (.iconst 4, 1) := by decide +kernel
theorem dX5_feed_71 : decode cX5_feed 71 = .ok (.invokestatic 58, 3) := by decide +kernel
theorem dX5_feed_74 : decode cX5_feed 74 = .ok (.invokevirtual 64, 3) := by decide +kernel
theorem dX5_feed_77 : decode cX5_feed 77 = .ok (.aload_n 0, 1) := by decide +kernel
theorem dX5_feed_78 : decode cX5_feed 78 = .ok (.iload 5, 2) := by decide +kernel
theorem dX5_feed_80 : decode cX5_feed 80 = .ok (.iload_n 1, 1) := by decide +kernel
theorem dX5_feed_81 : decode cX5_feed 81 = .ok (.bipush 12, 2) := by decide +kernel
theorem dX5_feed_83 : decode cX5_feed 83 = .ok (.isub, 1) := by decide +kernel
theorem dX5_feed_84 : decode cX5_feed 84 = .ok (.iconst 4, 1) := by decide +kernel
theorem dX5_feed_85 : decode cX5_feed 85 = .ok (.invokestatic 58, 3) := by decide +kernel
theorem dX5_feed_88 : decode cX5_feed 88 = .ok (.invokevirtual 64, 3) := by decide +kernel
theorem dX5_feed_91 : decode cX5_feed 91 = .ok (.aload_n 0, 1) := by decide +kernel
theorem dX5_feed_92 : decode cX5_feed 92 = .ok (.getfield 14, 3) := by decide +kernel
theorem dX5_feed_95 : decode cX5_feed 95 = .ok (.invokevirtual 68, 3) := by decide +kernel
theorem dX5_feed_98 : decode cX5_feed 98 = .ok (.ireturn, 1) := by decide +kernel
set_option maxRecDepth 20000 in
theorem ggX5_feedFrom_X3_add : GoodIn wsX5_feedFrom wsX3_add := goodIn_r _ [6, 7, 8, 12, 13] (by decide +kernel) (by decide +kernel)
set_option maxRecDepth 20000 in
theorem gX5_feedFrom_X3_add : GoodIn wsX5_feedFrom (wsV RX5 72 RX3 yX3_add wsX3_add) := goodIn_app (goodIn_of _ (by decide +kernel)) ggX5_feedFrom_X3_add
theorem dX5_feedFrom_0 : decode cX5_feedFrom 0 = .ok (.iconst 0, 1) := by decide +kernel
theorem dX5_feedFrom_1 : decode cX5_feedFrom 1 = .ok (.istore_n 3, 1) := by decide +kernel
theorem dX5_feedFrom_2 : decode cX5_feedFrom 2 = .ok (.iload_n 3, 1) := by decide +kernel
theorem dX5_feedFrom_3 : decode cX5_feedFrom 3 = .ok (.iload_n 2, 1) := by decide +kernel
theorem dX5_feedFrom_4 : decode cX5_feedFrom 4 = .ok (.if_icmp .ge 25, 3) := by decide +kernel
theorem dX5_feedFrom_7 : decode cX5_feedFrom 7 = .ok (.aload_n 0, 1) := by decide +kernel
theorem dX5_feedFrom_8 : decode cX5_feedFrom 8 = .ok (.getfield 14, 3) := by decide +kernel
theorem dX5_feedFrom_11 : decode cX5_feedFrom 11 = .ok (.iload_n 1, 1) := by decide +kernel
theorem dX5_feedFrom_12 : decode cX5_feedFrom 12 = .ok (.bipush 24, 2) := by decide +kernel
theorem dX5_feedFrom_14 : decode cX5_feedFrom 14 = .ok (.bipush 8, 2) := by decide +kernel
theorem dX5_feedFrom_16 : decode cX5_feedFrom 16 = .ok (.iload_n 3, 1) := by decide +kernel
theorem dX5_feedFrom_17 : decode cX5_feedFrom 17 = .ok (.imul, 1) := by decide +kernel
theorem dX5_feedFrom_18 : decode cX5_feedFrom 18 = .ok (.isub, 1) := by decide +kernel
theorem dX5_feedFrom_19 : decode cX5_feedFrom 19 = .ok (.iushr, 1) := by decide +kernel
theorem dX5_feedFrom_20 : decode cX5_feedFrom 20 = .ok (.invokevirtual 72, 3) := by decide +kernel
theorem dX5_feedFrom_23 : decode cX5_feedFrom 23 = .ok (.iinc 3 1, 3) := by decide +kernel
theorem dX5_feedFrom_26 : decode cX5_feedFrom 26 = .ok (.goto (-24), 3) := by decide +kernel
theorem dX5_feedFrom_29 : decode cX5_feedFrom 29 = .ok (.return_, 1) := by decide +kernel
set_option maxRecDepth 20000 in
theorem ggX5_erase_X3_many : GoodIn wsX5_erase wsX3_many := goodIn_r _ [6, 7, 15, 16] (by decide +kernel) (by decide +kernel)
set_option maxRecDepth 20000 in
theorem gX5_erase_X3_many : GoodIn wsX5_erase (wsV RX5 68 RX3 yX3_many wsX3_many) := goodIn_app (goodIn_of _ (by decide +kernel)) ggX5_erase_X3_many
set_option maxRecDepth 20000 in
theorem ggX5_erase_X3_shorten : GoodIn wsX5_erase wsX3_shorten := goodIn_r _ [11, 7, 15, 16] (by decide +kernel) (by decide +kernel)
set_option maxRecDepth 20000 in
theorem gX5_erase_X3_shorten : GoodIn wsX5_erase (wsV RX5 75 RX3 yX3_shorten wsX3_shorten) := goodIn_app (goodIn_of _ (by decide +kernel)) ggX5_erase_X3_shorten
theorem dX5_erase_0 : decode cX5_erase 0 = .ok (.aload_n 0, 1) := by decide +kernel
theorem dX5_erase_1 : decode cX5_erase 1 = .ok (.getfield 14, 3) := by decide +kernel
theorem dX5_erase_4 : decode cX5_erase 4 = .ok (.invokevirtual 68, 3) := by decide +kernel
theorem dX5_erase_7 : decode cX5_erase 7 = .ok (.istore_n 1, 1) := by decide +kernel
theorem dX5_erase_8 : decode cX5_erase 8 = .ok (.aload_n 0, 1) := by decide +kernel
theorem dX5_erase_9 : decode cX5_erase 9 = .ok (.getfield 14, 3) := by decide +kernel
theorem dX5_erase_12 : decode cX5_erase 12 = .ok (.iconst 0, 1) := by decide +kernel
theorem dX5_erase_13 : decode cX5_erase 13 = .ok (.invokevirtual 75, 3) := by decide +kernel
theorem dX5_erase_16 : decode cX5_erase 16 = .ok (.iload_n 1, 1) := by decide +kernel
theorem dX5_erase_17 : decode cX5_erase 17 = .ok (.ireturn, 1) := by decide +kernel
set_option maxRecDepth 20000 in
theorem ggX5_check_X5_isByte : GoodIn wsX5_check wsX5_isByte := goodIn_r _ [7] (by decide +kernel) (by decide +kernel)
set_option maxRecDepth 20000 in
theorem gX5_check_X5_isByte : GoodIn wsX5_check (va_wsS RX5 78 yX5_isByte wsX5_isByte) := goodIn_app (goodIn_of _ (by decide +kernel)) ggX5_check_X5_isByte
set_option maxRecDepth 20000 in
theorem ggX5_check_X3_many : GoodIn wsX5_check wsX3_many := goodIn_r _ [12, 13, 31, 32] (by decide +kernel) (by decide +kernel)
set_option maxRecDepth 20000 in
theorem gX5_check_X3_many : GoodIn wsX5_check (wsV RX5 68 RX3 yX3_many wsX3_many) := goodIn_app (goodIn_of _ (by decide +kernel)) ggX5_check_X3_many
set_option maxRecDepth 20000 in
theorem ggX5_check_X4_of : GoodIn wsX5_check wsX4_of := goodIn_r _ [17, 18, 19, 20, 16, 21, 22, 23, 24, 25, 11, 26, 13, 27, 31, 32] (by decide +kernel) (by decide +kernel)
set_option maxRecDepth 20000 in
theorem gX5_check_X4_of : GoodIn wsX5_check (va_wsS RX5 83 yX4_of wsX4_of) := goodIn_app (goodIn_of _ (by decide +kernel)) ggX5_check_X4_of
theorem dX5_check_0 : decode cX5_check 0 = .ok (.iload_n 1, 1) := by decide +kernel
theorem dX5_check_1 : decode cX5_check 1 = .ok (.invokestatic 78, 3) := by decide +kernel
theorem dX5_check_4 : decode cX5_check 4 = .ok (.ifCond .ne 13, 3) := by decide +kernel
theorem dX5_check_7 : decode cX5_check 7 = .ok (.new 34, 3) := by decide +kernel
theorem dX5_check_10 : decode cX5_check 10 = .ok (.dup, 1) := by decide +kernel
theorem dX5_check_11 : decode cX5_check 11 = .ok (.ldc 81, 2) := by decide +kernel
theorem dX5_check_13 : decode cX5_check 13 = .ok (.invokespecial 38, 3) := by decide +kernel
theorem dX5_check_16 : decode cX5_check 16 = .ok (.athrow, 1) := by decide +kernel
theorem dX5_check_17 : decode cX5_check 17 = .ok (.iload_n 1, 1) := by decide +kernel
theorem dX5_check_18 : decode cX5_check 18 = .ok (.aload_n 0, 1) := by decide +kernel
theorem dX5_check_19 : decode cX5_check 19 = .ok (.getfield 14, 3) := by decide +kernel
theorem dX5_check_22 : decode cX5_check 22 = .ok (.iconst 0, 1) := by decide +kernel
theorem dX5_check_23 : decode cX5_check 23 = .ok (.aload_n 0, 1) := by decide +kernel
theorem dX5_check_24 : decode cX5_check 24 = .ok (.getfield 14, 3) := by decide +kernel
theorem dX5_check_27 : decode cX5_check 27 = .ok (.invokevirtual 68, 3) := by decide +kernel
theorem dX5_check_30 : decode cX5_check 30 = .ok (.invokestatic 83, 3) := by decide +kernel
theorem dX5_check_33 : decode cX5_check 33 = .ok (.ireturn, 1) := by decide +kernel
set_option maxRecDepth 20000 in
theorem ggX5_append_X0_addRecord : GoodIn wsX5_append wsX0_addRecord := goodIn_r _ [7, 8, 9, 10, 11, 12, 13, 14, 15, 16, 17, 6, 18, 19, 20, 21, 22, 23, 24, 25, 26, 27, 28, 29, 30, 31, 32, 33, 34, 35, 36, 37, 38, 39, 40, 41, 42, 43, 44, 45, 46, 47, 48, 49, 50, 51, 52, 53, 54, 55, 56, 57, 58, 59, 60, 61, 62, 63, 64, 65, 66, 67, 68, 69, 70, 71, 72, 73, 74, 75, 76, 77, 78, 79, 80, 81, 82, 91, 92, 93, 94] (by decide +kernel) (by decide +kernel)
set_option maxRecDepth 20000 in
theorem gX5_append_X0_addRecord : GoodIn wsX5_append (wsV RX5 89 RX0 yX0_addRecord wsX0_addRecord) := goodIn_app (goodIn_of _ (by decide +kernel)) ggX5_append_X0_addRecord
set_option maxRecDepth 20000 in
theorem ggX5_append_X0_bytes : GoodIn wsX5_append wsX0_bytes := goodIn_r _ [86, 8, 91, 92] (by decide +kernel) (by decide +kernel)
set_option maxRecDepth 20000 in
theorem gX5_append_X0_bytes : GoodIn wsX5_append (wsV RX5 93 RX0 yX0_bytes wsX0_bytes) := goodIn_app (goodIn_of _ (by decide +kernel)) ggX5_append_X0_bytes
set_option maxRecDepth 20000 in
theorem ggX5_append_X3_many : GoodIn wsX5_append wsX3_many := goodIn_r _ [13, 14, 93, 94] (by decide +kernel) (by decide +kernel)
set_option maxRecDepth 20000 in
theorem gX5_append_X3_many : GoodIn wsX5_append (wsV RX5 68 RX3 yX3_many wsX3_many) := goodIn_app (goodIn_of _ (by decide +kernel)) ggX5_append_X3_many
theorem dX5_append_0 : decode cX5_append 0 = .ok (.aload_n 0, 1) := by decide +kernel
theorem dX5_append_1 : decode cX5_append 1 = .ok (.getfield 21, 3) := by decide +kernel
theorem dX5_append_4 : decode cX5_append 4 = .ok (.aload_n 0, 1) := by decide +kernel
theorem dX5_append_5 : decode cX5_append 5 = .ok (.getfield 14, 3) := by decide +kernel
theorem dX5_append_8 : decode cX5_append 8 = .ok (.invokevirtual 89, 3) := by decide +kernel
theorem dX5_append_11 : decode cX5_append 11 = .ok (.ifCond .eq 16, 3) := by decide +kernel
theorem dX5_append_14 : decode cX5_append 14 = .ok (.aload_n 0, 1) := by decide +kernel
theorem dX5_append_15 : decode cX5_append 15 = .ok (.getfield 21, 3) := by decide +kernel
theorem dX5_append_18 : decode cX5_append 18 = .ok (.invokevirtual 93, 3) := by decide +kernel
theorem dX5_append_21 : decode cX5_append 21 = .ok (.invokevirtual 68, 3) := by decide +kernel
theorem dX5_append_24 : decode cX5_append 24 = .ok (.goto 5, 3) := by decide +kernel
theorem dX5_append_27 : decode cX5_append 27 = .ok (.bipush (-2), 2) := by decide +kernel
theorem dX5_append_29 : decode cX5_append 29 = .ok (.ireturn, 1) := by decide +kernel
set_option maxRecDepth 20000 in
theorem ggX5_raw_X5_isByte : GoodIn wsX5_raw wsX5_isByte := goodIn_r _ [8] (by decide +kernel) (by decide +kernel)
set_option maxRecDepth 20000 in
theorem gX5_raw_X5_isByte : GoodIn wsX5_raw (va_wsS RX5 78 yX5_isByte wsX5_isByte) := goodIn_app (goodIn_of _ (by decide +kernel)) ggX5_raw_X5_isByte
set_option maxRecDepth 20000 in
theorem ggX5_raw_X3_many : GoodIn wsX5_raw wsX3_many := goodIn_r _ [13, 14, 60, 61] (by decide +kernel) (by decide +kernel)
set_option maxRecDepth 20000 in
theorem gX5_raw_X3_many : GoodIn wsX5_raw (wsV RX5 68 RX3 yX3_many wsX3_many) := goodIn_app (goodIn_of _ (by decide +kernel)) ggX5_raw_X3_many
set_option maxRecDepth 20000 in
theorem ggX5_raw_X0_addFragment : GoodIn wsX5_raw wsX0_addFragment := goodIn_r _ [19, 20, 21, 22, 23, 12, 24, 25, 14, 26, 27, 28, 29, 30, 31, 32, 33, 34, 35, 36, 37, 38, 39, 40, 41, 42, 43, 44, 45, 46, 47, 48, 49, 50, 51, 52, 62, 63, 60, 61] (by decide +kernel) (by decide +kernel)
set_option maxRecDepth 20000 in
theorem gX5_raw_X0_addFragment : GoodIn wsX5_raw (wsV RX5 97 RX0 yX0_addFragment wsX0_addFragment) := goodIn_app (goodIn_of _ (by decide +kernel)) ggX5_raw_X0_addFragment
set_option maxRecDepth 20000 in
theorem ggX5_raw_X0_bytes : GoodIn wsX5_raw wsX0_bytes := goodIn_r _ [56, 20, 62, 63] (by decide +kernel) (by decide +kernel)
set_option maxRecDepth 20000 in
theorem gX5_raw_X0_bytes : GoodIn wsX5_raw (wsV RX5 93 RX0 yX0_bytes wsX0_bytes) := goodIn_app (goodIn_of _ (by decide +kernel)) ggX5_raw_X0_bytes
theorem dX5_raw_0 : decode cX5_raw 0 = .ok (.iload_n 1, 1) := by decide +kernel
theorem dX5_raw_1 : decode cX5_raw 1 = .ok (.invokestatic 78, 3) := by decide +kernel
theorem dX5_raw_4 : decode cX5_raw 4 = .ok (.ifCond .ne 13, 3) := by decide +kernel
theorem dX5_raw_7 : decode cX5_raw 7 = .ok (.new 34, 3) := by decide +kernel
theorem dX5_raw_10 : decode cX5_raw 10 = .ok (.dup, 1) := by decide +kernel
theorem dX5_raw_11 : decode cX5_raw 11 = .ok (.ldc 81, 2) := by decide +kernel
theorem dX5_raw_13 : decode cX5_raw 13 = .ok (.invokespecial 38, 3) := by decide +kernel
theorem dX5_raw_16 : decode cX5_raw 16 = .ok (.athrow, 1) := by decide +kernel
theorem dX5_raw_17 : decode cX5_raw 17 = .ok (.aload_n 0, 1) := by decide +kernel
theorem dX5_raw_18 : decode cX5_raw 18 = .ok (.getfield 21, 3) := by decide +kernel
theorem dX5_raw_21 : decode cX5_raw 21 = .ok (.iload_n 1, 1) := by decide +kernel
theorem dX5_raw_22 : decode cX5_raw 22 = .ok (.aload_n 0, 1) := by decide +kernel
theorem dX5_raw_23 : decode cX5_raw 23 = .ok (.getfield 14, 3) := by decide +kernel
theorem dX5_raw_26 : decode cX5_raw 26 = .ok (.iconst 0, 1) := by decide +kernel
theorem dX5_raw_27 : decode cX5_raw 27 = .ok (.aload_n 0, 1) := by decide +kernel
theorem dX5_raw_28 : decode cX5_raw 28 = .ok (.getfield 14, 3) := by decide +kernel
theorem dX5_raw_31 : decode cX5_raw 31 = .ok (.invokevirtual 68, 3) := by decide +kernel
theorem dX5_raw_34 : decode cX5_raw 34 = .ok (.invokevirtual 97, 3) := by decide +kernel
theorem dX5_raw_37 : decode cX5_raw 37 = .ok (.ifCond .eq 16, 3) := by decide +kernel
theorem dX5_raw_40 : decode cX5_raw 40 = .ok (.aload_n 0, 1) := by decide +kernel
theorem dX5_raw_41 : decode cX5_raw 41 = .ok (.getfield 21, 3) := by decide +kernel
theorem dX5_raw_44 : decode cX5_raw 44 = .ok (.invokevirtual 93, 3) := by decide +kernel
theorem dX5_raw_47 : decode cX5_raw 47 = .ok (.invokevirtual 68, 3) := by decide +kernel
theorem dX5_raw_50 : decode cX5_raw 50 = .ok (.goto 5, 3) := by decide +kernel
theorem dX5_raw_53 : decode cX5_raw 53 = .ok (.bipush (-2), 2) := by decide +kernel
theorem dX5_raw_55 : decode cX5_raw 55 = .ok (.ireturn, 1) := by decide +kernel
set_option maxRecDepth 20000 in
theorem ggX5_put_X0_bytes : GoodIn wsX5_put wsX0_bytes := goodIn_r _ [10, 11, 35, 36] (by decide +kernel) (by decide +kernel)
set_option maxRecDepth 20000 in
theorem gX5_put_X0_bytes : GoodIn wsX5_put (wsV RX5 93 RX0 yX0_bytes wsX0_bytes) := goodIn_app (goodIn_of _ (by decide +kernel)) ggX5_put_X0_bytes
set_option maxRecDepth 20000 in
theorem ggX5_put_X3_has : GoodIn wsX5_put wsX3_has := goodIn_r _ [16, 17, 37, 38] (by decide +kernel) (by decide +kernel)
set_option maxRecDepth 20000 in
theorem gX5_put_X3_has : GoodIn wsX5_put (wsV RX5 101 RX3 yX3_has wsX3_has) := goodIn_app (goodIn_of _ (by decide +kernel)) ggX5_put_X3_has
set_option maxRecDepth 20000 in
theorem ggX5_put_X5_isByte : GoodIn wsX5_put wsX5_isByte := goodIn_r _ [21] (by decide +kernel) (by decide +kernel)
set_option maxRecDepth 20000 in
theorem gX5_put_X5_isByte : GoodIn wsX5_put (va_wsS RX5 78 yX5_isByte wsX5_isByte) := goodIn_app (goodIn_of _ (by decide +kernel)) ggX5_put_X5_isByte
set_option maxRecDepth 20000 in
theorem ggX5_put_X3_at : GoodIn wsX5_put wsX3_at := goodIn_r _ [25, 17, 26, 37, 38] (by decide +kernel) (by decide +kernel)
set_option maxRecDepth 20000 in
theorem gX5_put_X3_at : GoodIn wsX5_put (wsV RX5 111 RX3 yX3_at wsX3_at) := goodIn_app (goodIn_of _ (by decide +kernel)) ggX5_put_X3_at
set_option maxRecDepth 20000 in
theorem ggX5_put_X3_replace : GoodIn wsX5_put wsX3_replace := goodIn_r _ [30, 26, 31, 13, 14, 15, 16, 17, 37, 38] (by decide +kernel) (by decide +kernel)
set_option maxRecDepth 20000 in
theorem gX5_put_X3_replace : GoodIn wsX5_put (wsV RX5 115 RX3 yX3_replace wsX3_replace) := goodIn_app (goodIn_of _ (by decide +kernel)) ggX5_put_X3_replace
theorem dX5_put_0 : decode cX5_put 0 = .ok (.aload_n 0, 1) := by decide +kernel
theorem dX5_put_1 : decode cX5_put 1 = .ok (.getfield 21, 3) := by decide +kernel
theorem dX5_put_4 : decode cX5_put 4 = .ok (.invokevirtual 93, 3) := by decide +kernel
theorem dX5_put_7 : decode cX5_put 7 = .ok (.iload_n 1, 1) := by decide +kernel
theorem dX5_put_8 : decode cX5_put 8 = .ok (.invokevirtual 101, 3) := by decide +kernel
theorem dX5_put_11 : decode cX5_put 11 = .ok (.ifCond .ne 13, 3) := by decide +kernel
theorem dX5_put_14 : decode cX5_put 14 = .ok (.new 104, 3) := by decide +kernel
theorem dX5_put_17 : decode cX5_put 17 = .ok (.dup, 1) := by decide +kernel
theorem dX5_put_18 : decode cX5_put 18 = .ok (.ldc 106, 2) := by decide +kernel
theorem dX5_put_20 : decode cX5_put 20 = .ok (.invokespecial 108, 3) := by decide +kernel
theorem dX5_put_23 : decode cX5_put 23 = .ok (.athrow, 1) := by decide +kernel
theorem dX5_put_24 : decode cX5_put 24 = .ok (.iload_n 2, 1) := by decide +kernel
theorem dX5_put_25 : decode cX5_put 25 = .ok (.invokestatic 78, 3) := by decide +kernel
theorem dX5_put_28 : decode cX5_put 28 = .ok (.ifCond .ne 13, 3) := by decide +kernel
theorem dX5_put_31 : decode cX5_put 31 = .ok (.new 34, 3) := by decide +kernel
theorem dX5_put_34 : decode cX5_put 34 = .ok (.dup, 1) := by decide +kernel
theorem dX5_put_35 : decode cX5_put 35 = .ok (.ldc 109, 2) := by decide +kernel
theorem dX5_put_37 : decode cX5_put 37 = .ok (.invokespecial 38, 3) := by decide +kernel
theorem dX5_put_40 : decode cX5_put 40 = .ok (.athrow, 1) := by decide +kernel
theorem dX5_put_41 : decode cX5_put 41 = .ok (.aload_n 0, 1) := by decide +kernel
theorem dX5_put_42 : decode cX5_put 42 = .ok (.getfield 21, 3) := by decide +kernel
theorem dX5_put_45 : decode cX5_put 45 = .ok (.invokevirtual 93, 3) := by decide +kernel
theorem dX5_put_48 : decode cX5_put 48 = .ok (.iload_n 1, 1) := by decide +kernel
theorem dX5_put_49 : decode cX5_put 49 = .ok (.invokevirtual 111, 3) := by decide +kernel
theorem dX5_put_52 : decode cX5_put 52 = .ok (.istore_n 3, 1) := by decide +kernel
theorem dX5_put_53 : decode cX5_put 53 = .ok (.aload_n 0, 1) := by decide +kernel
theorem dX5_put_54 : decode cX5_put 54 = .ok (.getfield 21, 3) := by decide +kernel
theorem dX5_put_57 : decode cX5_put 57 = .ok (.invokevirtual 93, 3) := by decide +kernel
theorem dX5_put_60 : decode cX5_put 60 = .ok (.iload_n 1, 1) := by decide +kernel
theorem dX5_put_61 : decode cX5_put 61 = .ok (.iload_n 2, 1) := by decide +kernel
theorem dX5_put_62 : decode cX5_put 62 = .ok (.invokevirtual 115, 3) := by decide +kernel
theorem dX5_put_65 : decode cX5_put 65 = .ok (.iload_n 3, 1) := by decide +kernel
theorem dX5_put_66 : decode cX5_put 66 = .ok (.ireturn, 1) := by decide +kernel
set_option maxRecDepth 20000 in
theorem ggX5_cut_X0_bytes : GoodIn wsX5_cut wsX0_bytes := goodIn_r _ [9, 10, 51, 52] (by decide +kernel) (by decide +kernel)
set_option maxRecDepth 20000 in
theorem gX5_cut_X0_bytes : GoodIn wsX5_cut (wsV RX5 93 RX0 yX0_bytes wsX0_bytes) := goodIn_app (goodIn_of _ (by decide +kernel)) ggX5_cut_X0_bytes
set_option maxRecDepth 20000 in
theorem ggX5_cut_X3_many : GoodIn wsX5_cut wsX3_many := goodIn_r _ [15, 16, 53, 54] (by decide +kernel) (by decide +kernel)
set_option maxRecDepth 20000 in
theorem gX5_cut_X3_many : GoodIn wsX5_cut (wsV RX5 68 RX3 yX3_many wsX3_many) := goodIn_app (goodIn_of _ (by decide +kernel)) ggX5_cut_X3_many
set_option maxRecDepth 20000 in
theorem ggX5_cut_X3_shorten : GoodIn wsX5_cut wsX3_shorten := goodIn_r _ [20, 16, 53, 54] (by decide +kernel) (by decide +kernel)
set_option maxRecDepth 20000 in
theorem gX5_cut_X3_shorten : GoodIn wsX5_cut (wsV RX5 75 RX3 yX3_shorten wsX3_shorten) := goodIn_app (goodIn_of _ (by decide +kernel)) ggX5_cut_X3_shorten
set_option maxRecDepth 20000 in
theorem ggX5_cut_X2_beginAt : GoodIn wsX5_cut wsX2_beginAt := goodIn_r _ [25, 26, 27, 28, 29, 30, 31, 32, 33, 8, 34, 35, 36, 37, 38, 39, 40, 41, 42, 43, 44, 45, 46, 47, 55, 56, 57, 58, 59, 60, 61, 62, 63, 64, 51, 52, 65, 66, 67, 68] (by decide +kernel) (by decide +kernel)
set_option maxRecDepth 20000 in
theorem gX5_cut_X2_beginAt : GoodIn wsX5_cut (wsV RX5 44 RX2 yX2_beginAt wsX2_beginAt) := goodIn_app (goodIn_of _ (by decide +kernel)) ggX5_cut_X2_beginAt
theorem dX5_cut_0 : decode cX5_cut 0 = .ok (.aload_n 0, 1) := by decide +kernel
theorem dX5_cut_1 : decode cX5_cut 1 = .ok (.getfield 21, 3) := by decide +kernel
theorem dX5_cut_4 : decode cX5_cut 4 = .ok (.invokevirtual 93, 3) := by decide +kernel
theorem dX5_cut_7 : decode cX5_cut 7 = .ok (.invokevirtual 68, 3) := by decide +kernel
theorem dX5_cut_10 : decode cX5_cut 10 = .ok (.istore_n 2, 1) := by decide +kernel
theorem dX5_cut_11 : decode cX5_cut 11 = .ok (.iload_n 1, 1) := by decide +kernel
theorem dX5_cut_12 : decode cX5_cut 12 = .ok (.ifCond .lt 8, 3) := by decide +kernel
theorem dX5_cut_15 : decode cX5_cut 15 = .ok (.iload_n 1, 1) := by decide +kernel
theorem dX5_cut_16 : decode cX5_cut 16 = .ok (.iload_n 2, 1) := by decide +kernel
theorem dX5_cut_17 : decode cX5_cut 17 = .ok (.if_icmp .le 13, 3) := by decide +kernel
theorem dX5_cut_20 : decode cX5_cut 20 = .ok (.new 34, 3) := by decide +kernel
theorem dX5_cut_23 : decode cX5_cut 23 = .ok (.dup, 1) := by decide +kernel
theorem dX5_cut_24 : decode cX5_cut 24 = .ok (.ldc 118, 2) := by decide +kernel
theorem dX5_cut_26 : decode cX5_cut 26 = .ok (.invokespecial 38, 3) := by decide +kernel
theorem dX5_cut_29 : decode cX5_cut 29 = .ok (.athrow, 1) := by decide +kernel
theorem dX5_cut_30 : decode cX5_cut 30 = .ok (.aload_n 0, 1) := by decide +kernel
theorem dX5_cut_31 : decode cX5_cut 31 = .ok (.getfield 21, 3) := by decide +kernel
theorem dX5_cut_34 : decode cX5_cut 34 = .ok (.invokevirtual 93, 3) := by decide +kernel
theorem dX5_cut_37 : decode cX5_cut 37 = .ok (.iload_n 1, 1) := by decide +kernel
theorem dX5_cut_38 : decode cX5_cut 38 = .ok (.invokevirtual 75, 3) := by decide +kernel
theorem dX5_cut_41 : decode cX5_cut 41 = .ok (.aload_n 0, 1) := by decide +kernel
theorem dX5_cut_42 : decode cX5_cut 42 = .ok (.getfield 30, 3) := by decide +kernel
theorem dX5_cut_45 : decode cX5_cut 45 = .ok (.iconst 0, 1) := by decide +kernel
theorem dX5_cut_46 : decode cX5_cut 46 = .ok (.invokevirtual 44, 3) := by decide +kernel
theorem dX5_cut_49 : decode cX5_cut 49 = .ok (.iload_n 2, 1) := by decide +kernel
theorem dX5_cut_50 : decode cX5_cut 50 = .ok (.iload_n 1, 1) := by decide +kernel
theorem dX5_cut_51 : decode cX5_cut 51 = .ok (.isub, 1) := by decide +kernel
theorem dX5_cut_52 : decode cX5_cut 52 = .ok (.ireturn, 1) := by decide +kernel
set_option maxRecDepth 20000 in
theorem ggX5_begin_X2_beginAt : GoodIn wsX5_begin wsX2_beginAt := goodIn_r _ [8, 9, 10, 11, 12, 13, 14, 15, 16, 17, 18, 19, 20, 21, 22, 23, 24, 25, 26, 27, 28, 29, 30, 31, 39, 40, 41, 42, 43, 44, 45, 46, 47, 48, 49, 50, 51, 52, 53, 54] (by decide +kernel) (by decide +kernel)
set_option maxRecDepth 20000 in
theorem gX5_begin_X2_beginAt : GoodIn wsX5_begin (wsV RX5 44 RX2 yX2_beginAt wsX2_beginAt) := goodIn_app (goodIn_of _ (by decide +kernel)) ggX5_begin_X2_beginAt
set_option maxRecDepth 20000 in
theorem ggX5_begin_X2_place : GoodIn wsX5_begin wsX2_place := goodIn_r _ [35, 10, 39, 40, 41, 42, 43, 44, 45, 46, 47, 48] (by decide +kernel) (by decide +kernel)
set_option maxRecDepth 20000 in
theorem gX5_begin_X2_place : GoodIn wsX5_begin (wsV RX5 122 RX2 yX2_place wsX2_place) := goodIn_app (goodIn_of _ (by decide +kernel)) ggX5_begin_X2_place
theorem dX5_begin_0 : decode cX5_begin 0 = .ok (.iload_n 1, 1) := by decide +kernel
theorem dX5_begin_1 : decode cX5_begin 1 = .ok (.ifCond .lt 10, 3) := by decide +kernel
theorem dX5_begin_4 : decode cX5_begin 4 = .ok (.iload_n 1, 1) := by decide +kernel
theorem dX5_begin_5 : decode cX5_begin 5 = .ok (.sipush 4096, 3) := by decide +kernel
theorem dX5_begin_8 : decode cX5_begin 8 = .ok (.if_icmp .le 13, 3) := by decide +kernel
theorem dX5_begin_11 : decode cX5_begin 11 = .ok (.new 34, 3) := by decide +kernel
theorem dX5_begin_14 : decode cX5_begin 14 = .ok (.dup, 1) := by decide +kernel
theorem dX5_begin_15 : decode cX5_begin 15 = .ok (.ldc 120, 2) := by decide +kernel
theorem dX5_begin_17 : decode cX5_begin 17 = .ok (.invokespecial 38, 3) := by decide +kernel
theorem dX5_begin_20 : decode cX5_begin 20 = .ok (.athrow, 1) := by decide +kernel
theorem dX5_begin_21 : decode cX5_begin 21 = .ok (.aload_n 0, 1) := by decide +kernel
theorem dX5_begin_22 : decode cX5_begin 22 = .ok (.getfield 30, 3) := by decide +kernel
theorem dX5_begin_25 : decode cX5_begin 25 = .ok (.iload_n 1, 1) := by decide +kernel
theorem dX5_begin_26 : decode cX5_begin 26 = .ok (.invokevirtual 44, 3) := by decide +kernel
theorem dX5_begin_29 : decode cX5_begin 29 = .ok (.aload_n 0, 1) := by decide +kernel
theorem dX5_begin_30 : decode cX5_begin 30 = .ok (.getfield 30, 3) := by decide +kernel
theorem dX5_begin_33 : decode cX5_begin 33 = .ok (.invokevirtual 122, 3) := by decide +kernel
theorem dX5_begin_36 : decode cX5_begin 36 = .ok (.ireturn, 1) := by decide +kernel
set_option maxRecDepth 20000 in
theorem ggX5_read_X2_findRecord : GoodIn wsX5_read wsX2_findRecord := goodIn_r _ [6, 7, 8, 9, 5, 10, 11, 12, 13, 14, 15, 16, 17, 18, 19, 20, 21, 22, 23, 24, 25, 26, 27, 28, 29, 30, 31, 32, 33, 34, 35, 36, 37, 38, 39, 40, 41, 42, 43, 44, 45, 46, 47, 48, 49, 50, 51, 52, 53, 54, 55, 56, 57, 58, 59, 60, 61, 62, 63, 64, 65, 66, 67, 68, 69, 70, 71, 72, 73, 74, 75, 76, 77, 78, 79, 80, 81, 82, 83, 84, 85, 86, 87, 88, 89, 90, 91, 92, 93, 94, 95, 96, 97, 98, 99, 100, 101, 102, 103, 104, 105, 106, 107, 108, 109, 110, 111, 112, 113, 114, 115, 116, 117, 118, 119, 120, 121, 122, 123, 124, 125, 126, 127, 128, 129, 130, 131, 132, 141, 142, 143, 144, 145, 146, 147, 148, 149, 150, 151, 152, 153, 154, 155, 156, 157, 158] (by decide +kernel) (by decide +kernel)
set_option maxRecDepth 20000 in
theorem gX5_read_X2_findRecord : GoodIn wsX5_read (wsV RX5 125 RX2 yX2_findRecord wsX2_findRecord) := goodIn_app (goodIn_of _ (by decide +kernel)) ggX5_read_X2_findRecord
set_option maxRecDepth 20000 in
theorem ggX5_read_X2_record : GoodIn wsX5_read wsX2_record := goodIn_r _ [136, 11, 141, 142, 143, 144, 145, 146, 147, 148, 149, 150] (by decide +kernel) (by decide +kernel)
set_option maxRecDepth 20000 in
theorem gX5_read_X2_record : GoodIn wsX5_read (wsV RX5 129 RX2 yX2_record wsX2_record) := goodIn_app (goodIn_of _ (by decide +kernel)) ggX5_read_X2_record
set_option maxRecDepth 20000 in
theorem ggX5_read_X3_many : GoodIn wsX5_read wsX3_many := goodIn_r _ [51, 19, 151, 152] (by decide +kernel) (by decide +kernel)
set_option maxRecDepth 20000 in
theorem gX5_read_X3_many : GoodIn wsX5_read (wsV RX5 68 RX3 yX3_many wsX3_many) := goodIn_app (goodIn_of _ (by decide +kernel)) ggX5_read_X3_many
theorem dX5_read_0 : decode cX5_read 0 = .ok (.aload_n 0, 1) := by decide +kernel
theorem dX5_read_1 : decode cX5_read 1 = .ok (.getfield 30, 3) := by decide +kernel
theorem dX5_read_4 : decode cX5_read 4 = .ok (.invokevirtual 125, 3) := by decide +kernel
theorem dX5_read_7 : decode cX5_read 7 = .ok (.ifCond .eq 16, 3) := by decide +kernel
theorem dX5_read_10 : decode cX5_read 10 = .ok (.aload_n 0, 1) := by decide +kernel
theorem dX5_read_11 : decode cX5_read 11 = .ok (.getfield 30, 3) := by decide +kernel
theorem dX5_read_14 : decode cX5_read 14 = .ok (.invokevirtual 129, 3) := by decide +kernel
theorem dX5_read_17 : decode cX5_read 17 = .ok (.invokevirtual 68, 3) := by decide +kernel
theorem dX5_read_20 : decode cX5_read 20 = .ok (.goto 4, 3) := by decide +kernel
theorem dX5_read_23 : decode cX5_read 23 = .ok (.iconst (-1), 1) := by decide +kernel
theorem dX5_read_24 : decode cX5_read 24 = .ok (.ireturn, 1) := by decide +kernel
set_option maxRecDepth 20000 in
theorem ggX5_octet_X2_record : GoodIn wsX5_octet wsX2_record := goodIn_r _ [6, 7, 18, 19, 20, 21, 22, 23, 24, 25, 26, 27] (by decide +kernel) (by decide +kernel)
set_option maxRecDepth 20000 in
theorem gX5_octet_X2_record : GoodIn wsX5_octet (wsV RX5 129 RX2 yX2_record wsX2_record) := goodIn_app (goodIn_of _ (by decide +kernel)) ggX5_octet_X2_record
set_option maxRecDepth 20000 in
theorem ggX5_octet_X3_at : GoodIn wsX5_octet wsX3_at := goodIn_r _ [12, 13, 14, 28, 29] (by decide +kernel) (by decide +kernel)
set_option maxRecDepth 20000 in
theorem gX5_octet_X3_at : GoodIn wsX5_octet (wsV RX5 111 RX3 yX3_at wsX3_at) := goodIn_app (goodIn_of _ (by decide +kernel)) ggX5_octet_X3_at
theorem dX5_octet_0 : decode cX5_octet 0 = .ok (.aload_n 0, 1) := by decide +kernel
theorem dX5_octet_1 : decode cX5_octet 1 = .ok (.getfield 30, 3) := by decide +kernel
theorem dX5_octet_4 : decode cX5_octet 4 = .ok (.invokevirtual 129, 3) := by decide +kernel
theorem dX5_octet_7 : decode cX5_octet 7 = .ok (.iload_n 1, 1) := by decide +kernel
theorem dX5_octet_8 : decode cX5_octet 8 = .ok (.invokevirtual 111, 3) := by decide +kernel
theorem dX5_octet_11 : decode cX5_octet 11 = .ok (.ireturn, 1) := by decide +kernel
set_option maxRecDepth 20000 in
theorem ggX5_first_X2_recordPlace : GoodIn wsX5_first wsX2_recordPlace := goodIn_r _ [6, 7, 11, 12, 13, 14, 15, 16, 17, 18, 19, 20] (by decide +kernel) (by decide +kernel)
set_option maxRecDepth 20000 in
theorem gX5_first_X2_recordPlace : GoodIn wsX5_first (wsV RX5 132 RX2 yX2_recordPlace wsX2_recordPlace) := goodIn_app (goodIn_of _ (by decide +kernel)) ggX5_first_X2_recordPlace
theorem dX5_first_0 : decode cX5_first 0 = .ok (.aload_n 0, 1) := by decide +kernel
theorem dX5_first_1 : decode cX5_first 1 = .ok (.getfield 30, 3) := by decide +kernel
theorem dX5_first_4 : decode cX5_first 4 = .ok (.invokevirtual 132, 3) := by decide +kernel
theorem dX5_first_7 : decode cX5_first 7 = .ok (.ireturn, 1) := by decide +kernel
set_option maxRecDepth 20000 in
theorem ggX5_count_X0_bytes : GoodIn wsX5_count wsX0_bytes := goodIn_r _ [10, 11, 48, 49] (by decide +kernel) (by decide +kernel)
set_option maxRecDepth 20000 in
theorem gX5_count_X0_bytes : GoodIn wsX5_count (wsV RX5 93 RX0 yX0_bytes wsX0_bytes) := goodIn_app (goodIn_of _ (by decide +kernel)) ggX5_count_X0_bytes
set_option maxRecDepth 20000 in
theorem ggX5_count_X3_many : GoodIn wsX5_count wsX3_many := goodIn_r _ [16, 17, 50, 51] (by decide +kernel) (by decide +kernel)
set_option maxRecDepth 20000 in
theorem gX5_count_X3_many : GoodIn wsX5_count (wsV RX5 68 RX3 yX3_many wsX3_many) := goodIn_app (goodIn_of _ (by decide +kernel)) ggX5_count_X3_many
set_option maxRecDepth 20000 in
theorem ggX5_count_X2_place : GoodIn wsX5_count wsX2_place := goodIn_r _ [22, 23, 52, 53, 54, 55, 56, 57, 58, 59, 60, 61] (by decide +kernel) (by decide +kernel)
set_option maxRecDepth 20000 in
theorem gX5_count_X2_place : GoodIn wsX5_count (wsV RX5 122 RX2 yX2_place wsX2_place) := goodIn_app (goodIn_of _ (by decide +kernel)) ggX5_count_X2_place
set_option maxRecDepth 20000 in
theorem ggX5_count_X2_isLost : GoodIn wsX5_count wsX2_isLost := goodIn_r _ [27, 28, 52, 53, 54, 55, 56, 57, 58, 59, 60, 61] (by decide +kernel) (by decide +kernel)
set_option maxRecDepth 20000 in
theorem gX5_count_X2_isLost : GoodIn wsX5_count (wsV RX5 135 RX2 yX2_isLost wsX2_isLost) := goodIn_app (goodIn_of _ (by decide +kernel)) ggX5_count_X2_isLost
set_option maxRecDepth 20000 in
theorem ggX5_count_X2_drops : GoodIn wsX5_count wsX2_drops := goodIn_r _ [32, 33, 52, 53, 54, 55, 56, 57, 58, 59, 60, 61] (by decide +kernel) (by decide +kernel)
set_option maxRecDepth 20000 in
theorem gX5_count_X2_drops : GoodIn wsX5_count (wsV RX5 138 RX2 yX2_drops wsX2_drops) := goodIn_app (goodIn_of _ (by decide +kernel)) ggX5_count_X2_drops
set_option maxRecDepth 20000 in
theorem ggX5_count_X1_many : GoodIn wsX5_count wsX1_many := goodIn_r _ [38, 39, 62, 63, 64, 65] (by decide +kernel) (by decide +kernel)
set_option maxRecDepth 20000 in
theorem gX5_count_X1_many : GoodIn wsX5_count (wsV RX5 142 RX1 yX1_many wsX1_many) := goodIn_app (goodIn_of _ (by decide +kernel)) ggX5_count_X1_many
set_option maxRecDepth 20000 in
theorem ggX5_count_X1_allBytes : GoodIn wsX5_count wsX1_allBytes := goodIn_r _ [43, 44, 62, 63, 64, 65] (by decide +kernel) (by decide +kernel)
set_option maxRecDepth 20000 in
theorem gX5_count_X1_allBytes : GoodIn wsX5_count (wsV RX5 145 RX1 yX1_allBytes wsX1_allBytes) := goodIn_app (goodIn_of _ (by decide +kernel)) ggX5_count_X1_allBytes
theorem dX5_count_0 : decode cX5_count 0 = .ok (.iload_n 1, 1) := by decide +kernel
theorem dX5_count_1 : decode cX5_count 1 = .ok (.tableswitch 104 0 5 #[39, 50, 58, 74, 85, 96], 39) := by decide +kernel
theorem dX5_count_40 : decode cX5_count 40 = .ok (.aload_n 0, 1) := by decide +kernel
theorem dX5_count_41 : decode cX5_count 41 = .ok (.getfield 21, 3) := by decide +kernel
theorem dX5_count_44 : decode cX5_count 44 = .ok (.invokevirtual 93, 3) := by decide +kernel
theorem dX5_count_47 : decode cX5_count 47 = .ok (.invokevirtual 68, 3) := by decide +kernel
theorem dX5_count_50 : decode cX5_count 50 = .ok (.ireturn, 1) := by decide +kernel
theorem dX5_count_51 : decode cX5_count 51 = .ok (.aload_n 0, 1) := by decide +kernel
theorem dX5_count_52 : decode cX5_count 52 = .ok (.getfield 30, 3) := by decide +kernel
theorem dX5_count_55 : decode cX5_count 55 = .ok (.invokevirtual 122, 3) := by decide +kernel
theorem dX5_count_58 : decode cX5_count 58 = .ok (.ireturn, 1) := by decide +kernel
theorem dX5_count_59 : decode cX5_count 59 = .ok (.aload_n 0, 1) := by decide +kernel
theorem dX5_count_60 : decode cX5_count 60 = .ok (.getfield 30, 3) := by decide +kernel
theorem dX5_count_63 : decode cX5_count 63 = .ok (.invokevirtual 135, 3) := by decide +kernel
theorem dX5_count_66 : decode cX5_count 66 = .ok (.ifCond .eq 7, 3) := by decide +kernel
theorem dX5_count_69 : decode cX5_count 69 = .ok (.iconst 1, 1) := by decide +kernel
theorem dX5_count_70 : decode cX5_count 70 = .ok (.goto 4, 3) := by decide +kernel
theorem dX5_count_73 : decode cX5_count 73 = .ok (.iconst 0, 1) := by decide +kernel
theorem dX5_count_74 : decode cX5_count 74 = .ok (.ireturn, 1) := by decide +kernel
theorem dX5_count_75 : decode cX5_count 75 = .ok (.aload_n 0, 1) := by decide +kernel
theorem dX5_count_76 : decode cX5_count 76 = .ok (.getfield 30, 3) := by decide +kernel
theorem dX5_count_79 : decode cX5_count 79 = .ok (.invokevirtual 138, 3) := by decide +kernel
theorem dX5_count_82 : decode cX5_count 82 = .ok (.invokevirtual 142, 3) := by decide +kernel
theorem dX5_count_85 : decode cX5_count 85 = .ok (.ireturn, 1) := by decide +kernel
theorem dX5_count_86 : decode cX5_count 86 = .ok (.aload_n 0, 1) := by decide +kernel
theorem dX5_count_87 : decode cX5_count 87 = .ok (.getfield 30, 3) := by decide +kernel
theorem dX5_count_90 : decode cX5_count 90 = .ok (.invokevirtual 138, 3) := by decide +kernel
theorem dX5_count_93 : decode cX5_count 93 = .ok (.invokevirtual 145, 3) := by decide +kernel
theorem dX5_count_96 : decode cX5_count 96 = .ok (.ireturn, 1) := by decide +kernel
theorem dX5_count_97 : decode cX5_count 97 = .ok (.aload_n 0, 1) := by decide +kernel
theorem dX5_count_98 : decode cX5_count 98 = .ok (.getfield 14, 3) := by decide +kernel
theorem dX5_count_101 : decode cX5_count 101 = .ok (.invokevirtual 68, 3) := by decide +kernel
theorem dX5_count_104 : decode cX5_count 104 = .ok (.ireturn, 1) := by decide +kernel
theorem dX5_count_105 : decode cX5_count 105 = .ok (.new 34, 3) := by decide +kernel
theorem dX5_count_108 : decode cX5_count 108 = .ok (.dup, 1) := by decide +kernel
theorem dX5_count_109 : decode cX5_count 109 = .ok (.ldc 148, 2) := by decide +kernel
theorem dX5_count_111 : decode cX5_count 111 = .ok (.invokespecial 38, 3) := by decide +kernel
theorem dX5_count_114 : decode cX5_count 114 = .ok (.athrow, 1) := by decide +kernel
set_option maxRecDepth 20000 in
theorem ggX5_told_X2_drops : GoodIn wsX5_told wsX2_drops := goodIn_r _ [8, 9, 29, 30, 31, 32, 33, 34, 35, 36, 37, 38] (by decide +kernel) (by decide +kernel)
set_option maxRecDepth 20000 in
theorem gX5_told_X2_drops : GoodIn wsX5_told (wsV RX5 138 RX2 yX2_drops wsX2_drops) := goodIn_app (goodIn_of _ (by decide +kernel)) ggX5_told_X2_drops
