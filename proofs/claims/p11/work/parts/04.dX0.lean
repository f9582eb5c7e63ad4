set_option maxRecDepth 20000 in
theorem ggX0_init_X3_init : GoodIn wsX0_init wsX3_init := goodIn_r _ [11, 12, 2, 3, 13, 14, 15, 16, 17] (by decide +kernel) (by decide +kernel)
set_option maxRecDepth 20000 in
theorem gX0_init_X3_init : GoodIn wsX0_init (wsX3_init) := ggX0_init_X3_init
theorem dX0_init_0 : decode cX0_init 0 = .ok (.aload_n 0, 1) := by decide +kernel
theorem dX0_init_1 : decode cX0_init 1 = .ok (.invokespecial 3, 3) := by decide +kernel
theorem dX0_init_4 : decode cX0_init 4 = .ok (.aload_n 0, 1) := by decide +kernel
theorem dX0_init_5 : decode cX0_init 5 = .ok (.new 9, 3) := by decide +kernel
theorem dX0_init_8 : decode cX0_init 8 = .ok (.dup, 1) := by decide +kernel
theorem dX0_init_9 : decode cX0_init 9 = .ok (.sipush 4096, 3) := by decide +kernel
theorem dX0_init_12 : decode cX0_init 12 = .ok (.invokespecial 11, 3) := by decide +kernel
theorem dX0_init_15 : decode cX0_init 15 = .ok (.putfield 14, 3) := by decide +kernel
theorem dX0_init_18 : decode cX0_init 18 = .ok (.aload_n 0, 1) := by decide +kernel
theorem dX0_init_19 : decode cX0_init 19 = .ok (.bipush 64, 2) := by decide +kernel
theorem dX0_init_21 : decode cX0_init 21 = .ok (.putfield 20, 3) := by decide +kernel
theorem dX0_init_24 : decode cX0_init 24 = .ok (.return_, 1) := by decide +kernel
theorem dX0_bytes_0 : decode cX0_bytes 0 = .ok (.aload_n 0, 1) := by decide +kernel
theorem dX0_bytes_1 : decode cX0_bytes 1 = .ok (.getfield 14, 3) := by decide +kernel
theorem dX0_bytes_4 : decode cX0_bytes 4 = .ok (.areturn, 1) := by decide +kernel
set_option maxRecDepth 20000 in
theorem ggX0_startAnew_X3_shorten : GoodIn wsX0_startAnew wsX3_shorten := goodIn_r _ [7, 8, 11, 12] (by decide +kernel) (by decide +kernel)
set_option maxRecDepth 20000 in
theorem gX0_startAnew_X3_shorten : GoodIn wsX0_startAnew (wsV RX0 24 RX3 yX3_shorten wsX3_shorten) := goodIn_app (goodIn_of _ (by decide +kernel)) ggX0_startAnew_X3_shorten
theorem dX0_startAnew_0 : decode cX0_startAnew 0 = .ok (.aload_n 0, 1) := by decide +kernel
theorem dX0_startAnew_1 : decode cX0_startAnew 1 = .ok (.getfield 14, 3) := by decide +kernel
theorem dX0_startAnew_4 : decode cX0_startAnew 4 = .ok (.iconst 0, 1) := by decide +kernel
theorem dX0_startAnew_5 : decode cX0_startAnew 5 = .ok (.invokevirtual 24, 3) := by decide +kernel
theorem dX0_startAnew_8 : decode cX0_startAnew 8 = .ok (.aload_n 0, 1) := by decide +kernel
theorem dX0_startAnew_9 : decode cX0_startAnew 9 = .ok (.iload_n 1, 1) := by decide +kernel
theorem dX0_startAnew_10 : decode cX0_startAnew 10 = .ok (.putfield 20, 3) := by decide +kernel
theorem dX0_startAnew_13 : decode cX0_startAnew 13 = .ok (.return_, 1) := by decide +kernel
theorem dX0_startOfBlock_0 : decode cX0_startOfBlock 0 = .ok (.iload_n 1, 1) := by decide +kernel
theorem dX0_startOfBlock_1 : decode cX0_startOfBlock 1 = .ok (.iload_n 1, 1) := by decide +kernel
theorem dX0_startOfBlock_2 : decode cX0_startOfBlock 2 = .ok (.aload_n 0, 1) := by decide +kernel
theorem dX0_startOfBlock_3 : decode cX0_startOfBlock 3 = .ok (.getfield 20, 3) := by decide +kernel
theorem dX0_startOfBlock_6 : decode cX0_startOfBlock 6 = .ok (.irem, 1) := by decide +kernel
theorem dX0_startOfBlock_7 : decode cX0_startOfBlock 7 = .ok (.isub, 1) := by decide +kernel
theorem dX0_startOfBlock_8 : decode cX0_startOfBlock 8 = .ok (.ireturn, 1) := by decide +kernel
set_option maxRecDepth 20000 in
theorem ggX0_endOfBlock_X0_startOfBlock : GoodIn wsX0_endOfBlock wsX0_startOfBlock := goodIn_r _ [6, 1, 7, 8] (by decide +kernel) (by decide +kernel)
set_option maxRecDepth 20000 in
theorem gX0_endOfBlock_X0_startOfBlock : GoodIn wsX0_endOfBlock (wsV RX0 27 RX0 yX0_startOfBlock wsX0_startOfBlock) := goodIn_app (goodIn_of _ (by decide +kernel)) ggX0_endOfBlock_X0_startOfBlock
theorem dX0_endOfBlock_0 : decode cX0_endOfBlock 0 = .ok (.aload_n 0, 1) := by decide +kernel
theorem dX0_endOfBlock_1 : decode cX0_endOfBlock 1 = .ok (.iload_n 1, 1) := by decide +kernel
theorem dX0_endOfBlock_2 : decode cX0_endOfBlock 2 = .ok (.invokevirtual 27, 3) := by decide +kernel
theorem dX0_endOfBlock_5 : decode cX0_endOfBlock 5 = .ok (.aload_n 0, 1) := by decide +kernel
theorem dX0_endOfBlock_6 : decode cX0_endOfBlock 6 = .ok (.getfield 20, 3) := by decide +kernel
theorem dX0_endOfBlock_9 : decode cX0_endOfBlock 9 = .ok (.iadd, 1) := by decide +kernel
theorem dX0_endOfBlock_10 : decode cX0_endOfBlock 10 = .ok (.ireturn, 1) := by decide +kernel
set_option maxRecDepth 20000 in
theorem ggX0_isWhole_X0_endOfBlock : GoodIn wsX0_isWhole wsX0_endOfBlock := goodIn_r _ [6, 7, 8, 9, 10, 5, 11, 18, 19] (by decide +kernel) (by decide +kernel)
set_option maxRecDepth 20000 in
theorem gX0_isWhole_X0_endOfBlock : GoodIn wsX0_isWhole (wsV RX0 31 RX0 yX0_endOfBlock wsX0_endOfBlock) := goodIn_app (goodIn_of _ (by decide +kernel)) ggX0_isWhole_X0_endOfBlock
set_option maxRecDepth 20000 in
theorem ggX0_isWhole_X3_many : GoodIn wsX0_isWhole wsX3_many := goodIn_r _ [16, 17, 20, 21] (by decide +kernel) (by decide +kernel)
set_option maxRecDepth 20000 in
theorem gX0_isWhole_X3_many : GoodIn wsX0_isWhole (wsV RX0 34 RX3 yX3_many wsX3_many) := goodIn_app (goodIn_of _ (by decide +kernel)) ggX0_isWhole_X3_many
theorem dX0_isWhole_0 : decode cX0_isWhole 0 = .ok (.aload_n 0, 1) := by decide +kernel
theorem dX0_isWhole_1 : decode cX0_isWhole 1 = .ok (.iload_n 1, 1) := by decide +kernel
theorem dX0_isWhole_2 : decode cX0_isWhole 2 = .ok (.invokevirtual 31, 3) := by decide +kernel
theorem dX0_isWhole_5 : decode cX0_isWhole 5 = .ok (.aload_n 0, 1) := by decide +kernel
theorem dX0_isWhole_6 : decode cX0_isWhole 6 = .ok (.getfield 14, 3) := by decide +kernel
theorem dX0_isWhole_9 : decode cX0_isWhole 9 = .ok (.invokevirtual 34, 3) := by decide +kernel
theorem dX0_isWhole_12 : decode cX0_isWhole 12 = .ok (.if_icmp .gt 7, 3) := by decide +kernel
theorem dX0_isWhole_15 : decode cX0_isWhole 15 = .ok (.iconst 1, 1) := by decide +kernel
theorem dX0_isWhole_16 : decode cX0_isWhole 16 = .ok (.goto 4, 3) := by decide +kernel
theorem dX0_isWhole_19 : decode cX0_isWhole 19 = .ok (.iconst 0, 1) := by decide +kernel
theorem dX0_isWhole_20 : decode cX0_isWhole 20 = .ok (.ireturn, 1) := by decide +kernel
set_option maxRecDepth 20000 in
theorem ggX0_leftInBlock_X0_endOfBlock : GoodIn wsX0_leftInBlock wsX0_endOfBlock := goodIn_r _ [10, 11, 12, 13, 14, 9, 15, 22, 23] (by decide +kernel) (by decide +kernel)
set_option maxRecDepth 20000 in
theorem gX0_leftInBlock_X0_endOfBlock : GoodIn wsX0_leftInBlock (wsV RX0 31 RX0 yX0_endOfBlock wsX0_endOfBlock) := goodIn_app (goodIn_of _ (by decide +kernel)) ggX0_leftInBlock_X0_endOfBlock
set_option maxRecDepth 20000 in
theorem ggX0_leftInBlock_X3_many : GoodIn wsX0_leftInBlock wsX3_many := goodIn_r _ [20, 21, 24, 25] (by decide +kernel) (by decide +kernel)
set_option maxRecDepth 20000 in
theorem gX0_leftInBlock_X3_many : GoodIn wsX0_leftInBlock (wsV RX0 34 RX3 yX3_many wsX3_many) := goodIn_app (goodIn_of _ (by decide +kernel)) ggX0_leftInBlock_X3_many
theorem dX0_leftInBlock_0 : decode cX0_leftInBlock 0 = .ok (.aload_n 0, 1) := by decide +kernel
theorem dX0_leftInBlock_1 : decode cX0_leftInBlock 1 = .ok (.iload_n 1, 1) := by decide +kernel
theorem dX0_leftInBlock_2 : decode cX0_leftInBlock 2 = .ok (.invokevirtual 31, 3) := by decide +kernel
theorem dX0_leftInBlock_5 : decode cX0_leftInBlock 5 = .ok (.aload_n 0, 1) := by decide +kernel
theorem dX0_leftInBlock_6 : decode cX0_leftInBlock 6 = .ok (.getfield 14, 3) := by decide +kernel
theorem dX0_leftInBlock_9 : decode cX0_leftInBlock 9 = .ok (.invokevirtual 34, 3) := by decide +kernel
theorem dX0_leftInBlock_12 : decode cX0_leftInBlock 12 = .ok (.invokestatic 38, 3) := by decide +kernel
theorem dX0_leftInBlock_15 : decode cX0_leftInBlock 15 = .ok (.iload_n 1, 1) := by decide +kernel
theorem dX0_leftInBlock_16 : decode cX0_leftInBlock 16 = .ok (.isub, 1) := by decide +kernel
theorem dX0_leftInBlock_17 : decode cX0_leftInBlock 17 = .ok (.ireturn, 1) := by decide +kernel
set_option maxRecDepth 20000 in
theorem ggX0_addRecord_X3_many : GoodIn wsX0_addRecord wsX3_many := goodIn_r _ [6, 7, 79, 80] (by decide +kernel) (by decide +kernel)
set_option maxRecDepth 20000 in
theorem gX0_addRecord_X3_many : GoodIn wsX0_addRecord (wsV RX0 34 RX3 yX3_many wsX3_many) := goodIn_app (goodIn_of _ (by decide +kernel)) ggX0_addRecord_X3_many
set_option maxRecDepth 20000 in
theorem ggX0_addRecord_X0_addPieces : GoodIn wsX0_addRecord wsX0_addPieces := goodIn_r _ [12, 13, 14, 15, 16, 17, 18, 19, 11, 20, 1, 21, 22, 23, 24, 2, 3, 4, 5, 6, 7, 25, 26, 27, 28, 29, 30, 31, 32, 33, 34, 35, 36, 37, 38, 39, 40, 41, 42, 43, 44, 45, 46, 47, 48, 49, 50, 51, 52, 53, 54, 55, 56, 57, 58, 59, 60, 61, 62, 63, 64, 65, 66, 67, 68, 69, 70, 71, 72, 77, 78, 79, 80] (by decide +kernel) (by decide +kernel)
set_option maxRecDepth 20000 in
theorem gX0_addRecord_X0_addPieces : GoodIn wsX0_addRecord (wsV RX0 44 RX0 yX0_addPieces wsX0_addPieces) := goodIn_app (goodIn_of _ (by decide +kernel)) ggX0_addRecord_X0_addPieces
set_option maxRecDepth 20000 in
theorem ggX0_addRecord_X3_shorten : GoodIn wsX0_addRecord wsX3_shorten := goodIn_r _ [76, 7, 79, 80] (by decide +kernel) (by decide +kernel)
set_option maxRecDepth 20000 in
theorem gX0_addRecord_X3_shorten : GoodIn wsX0_addRecord (wsV RX0 24 RX3 yX3_shorten wsX3_shorten) := goodIn_app (goodIn_of _ (by decide +kernel)) ggX0_addRecord_X3_shorten
theorem dX0_addRecord_0 : decode cX0_addRecord 0 = .ok (.aload_n 0, 1) := by decide +kernel
theorem dX0_addRecord_1 : decode cX0_addRecord 1 = .ok (.getfield 14, 3) := by decide +kernel
theorem dX0_addRecord_4 : decode cX0_addRecord 4 = .ok (.invokevirtual 34, 3) := by decide +kernel
theorem dX0_addRecord_7 : decode cX0_addRecord 7 = .ok (.istore_n 2, 1) := by decide +kernel
theorem dX0_addRecord_8 : decode cX0_addRecord 8 = .ok (.aload_n 0, 1) := by decide +kernel
theorem dX0_addRecord_9 : decode cX0_addRecord 9 = .ok (.aload_n 1, 1) := by decide +kernel
theorem dX0_addRecord_10 : decode cX0_addRecord 10 = .ok (.invokevirtual 44, 3) := by decide +kernel
theorem dX0_addRecord_13 : decode cX0_addRecord 13 = .ok (.ifCond .eq 5, 3) := by decide +kernel
theorem dX0_addRecord_16 : decode cX0_addRecord 16 = .ok (.iconst 1, 1) := by decide +kernel
theorem dX0_addRecord_17 : decode cX0_addRecord 17 = .ok (.ireturn, 1) := by decide +kernel
theorem dX0_addRecord_18 : decode cX0_addRecord 18 = .ok (.aload_n 0, 1) := by decide +kernel
theorem dX0_addRecord_19 : decode cX0_addRecord 19 = .ok (.getfield 14, 3) := by decide +kernel
theorem dX0_addRecord_22 : decode cX0_addRecord 22 = .ok (.iload_n 2, 1) := by decide +kernel
theorem dX0_addRecord_23 : decode cX0_addRecord 23 = .ok (.invokevirtual 24, 3) := by decide +kernel
theorem dX0_addRecord_26 : decode cX0_addRecord 26 = .ok (.iconst 0, 1) := by decide +kernel
theorem dX0_addRecord_27 : decode cX0_addRecord 27 = .ok (.ireturn, 1) := by decide +kernel
set_option maxRecDepth 20000 in
theorem ggX0_addPieces_X0_fillBlock : GoodIn wsX0_addPieces wsX0_fillBlock := goodIn_r _ [9, 10, 11, 12, 13, 8, 14, 15, 16, 17, 18, 19, 20, 21, 22, 23, 24, 25, 26, 27, 28, 29, 30, 31, 32, 33, 34, 35, 36, 37, 38, 39, 40, 41, 42, 69, 70, 71, 72] (by decide +kernel) (by decide +kernel)
set_option maxRecDepth 20000 in
theorem gX0_addPieces_X0_fillBlock : GoodIn wsX0_addPieces (wsV RX0 48 RX0 yX0_fillBlock wsX0_fillBlock) := goodIn_app (goodIn_of _ (by decide +kernel)) ggX0_addPieces_X0_fillBlock
set_option maxRecDepth 20000 in
theorem ggX0_addPieces_X3_many : GoodIn wsX0_addPieces wsX3_many := goodIn_r _ [19, 20, 71, 72] (by decide +kernel) (by decide +kernel)
set_option maxRecDepth 20000 in
theorem gX0_addPieces_X3_many : GoodIn wsX0_addPieces (wsV RX0 34 RX3 yX3_many wsX3_many) := goodIn_app (goodIn_of _ (by decide +kernel)) ggX0_addPieces_X3_many
set_option maxRecDepth 20000 in
theorem ggX0_addPieces_X0_roomInBlock : GoodIn wsX0_addPieces wsX0_roomInBlock := goodIn_r _ [14, 10, 15, 16, 17, 18, 19, 20, 21, 22, 23, 8, 24, 25, 26, 27, 28, 29, 69, 70, 71, 72] (by decide +kernel) (by decide +kernel)
set_option maxRecDepth 20000 in
theorem gX0_addPieces_X0_roomInBlock : GoodIn wsX0_addPieces (wsV RX0 52 RX0 yX0_roomInBlock wsX0_roomInBlock) := goodIn_app (goodIn_of _ (by decide +kernel)) ggX0_addPieces_X0_roomInBlock
set_option maxRecDepth 20000 in
theorem ggX0_addPieces_X0_kindOf : GoodIn wsX0_addPieces wsX0_kindOf := goodIn_r _ [45] (by decide +kernel) (by decide +kernel)
set_option maxRecDepth 20000 in
theorem gX0_addPieces_X0_kindOf : GoodIn wsX0_addPieces (va_wsS RX0 55 yX0_kindOf wsX0_kindOf) := goodIn_app (goodIn_of _ (by decide +kernel)) ggX0_addPieces_X0_kindOf
set_option maxRecDepth 20000 in
theorem ggX0_addPieces_X0_addFragment : GoodIn wsX0_addPieces wsX0_addFragment := goodIn_r _ [49, 10, 30, 31, 32, 18, 33, 34, 20, 50, 51, 52, 53, 54, 55, 56, 57, 58, 59, 60, 61, 62, 35, 36, 37, 38, 39, 40, 41, 42, 63, 64, 65, 66, 67, 68, 69, 70, 71, 72] (by decide +kernel) (by decide +kernel)
set_option maxRecDepth 20000 in
theorem gX0_addPieces_X0_addFragment : GoodIn wsX0_addPieces (wsV RX0 59 RX0 yX0_addFragment wsX0_addFragment) := goodIn_app (goodIn_of _ (by decide +kernel)) ggX0_addPieces_X0_addFragment
theorem dX0_addPieces_0 : decode cX0_addPieces 0 = .ok (.iconst 0, 1) := by decide +kernel
theorem dX0_addPieces_1 : decode cX0_addPieces 1 = .ok (.istore_n 2, 1) := by decide +kernel
theorem dX0_addPieces_2 : decode cX0_addPieces 2 = .ok (.iconst 0, 1) := by decide +kernel
theorem dX0_addPieces_3 : decode cX0_addPieces 3 = .ok (.istore_n 3, 1) := by decide +kernel
theorem dX0_addPieces_4 : decode cX0_addPieces 4 = .ok (.iload_n 3, 1) := by decide +kernel
theorem dX0_addPieces_5 : decode cX0_addPieces 5 = .ok (.sipush 400, 3) := by decide +kernel
theorem dX0_addPieces_8 : decode cX0_addPieces 8 = .ok (.if_icmp .gt 93, 3) := by decide +kernel
theorem dX0_addPieces_11 : decode cX0_addPieces 11 = .ok (.aload_n 0, 1) := by decide +kernel
theorem dX0_addPieces_12 : decode cX0_addPieces 12 = .ok (.invokevirtual 48, 3) := by decide +kernel
theorem dX0_addPieces_15 : decode cX0_addPieces 15 = .ok (.ifCond .ne 5, 3) := by decide +kernel
theorem dX0_addPieces_18 : decode cX0_addPieces 18 = .ok (.iconst 0, 1) := by decide +kernel
theorem dX0_addPieces_19 : decode cX0_addPieces 19 = .ok (.ireturn, 1) := by decide +kernel
theorem dX0_addPieces_20 : decode cX0_addPieces 20 = .ok (.aload_n 1, 1) := by decide +kernel
theorem dX0_addPieces_21 : decode cX0_addPieces 21 = .ok (.invokevirtual 34, 3) := by decide +kernel
theorem dX0_addPieces_24 : decode cX0_addPieces 24 = .ok (.iload_n 2, 1) := by decide +kernel
theorem dX0_addPieces_25 : decode cX0_addPieces 25 = .ok (.isub, 1) := by decide +kernel
theorem dX0_addPieces_26 : decode cX0_addPieces 26 = .ok (.aload_n 0, 1) := by decide +kernel
theorem dX0_addPieces_27 : decode cX0_addPieces 27 = .ok (.invokevirtual 52, 3) := by decide +kernel
theorem dX0_addPieces_30 : decode cX0_addPieces 30 = .ok (.bipush 7, 2) := by decide +kernel
theorem dX0_addPieces_32 : decode cX0_addPieces 32 = .ok (.isub, 1) := by decide +kernel
theorem dX0_addPieces_33 : decode cX0_addPieces 33 = .ok (.invokestatic 38, 3) := by decide +kernel
theorem dX0_addPieces_36 : decode cX0_addPieces 36 = .ok (.istore 4, 2) := by decide +kernel
theorem dX0_addPieces_38 : decode cX0_addPieces 38 = .ok (.iload_n 2, 1) := by decide +kernel
theorem dX0_addPieces_39 : decode cX0_addPieces 39 = .ok (.iload 4, 2) := by decide +kernel
theorem dX0_addPieces_41 : decode cX0_addPieces 41 = .ok (.iadd, 1) := by decide +kernel
theorem dX0_addPieces_42 : decode cX0_addPieces 42 = .ok (.aload_n 1, 1) := by decide +kernel
theorem dX0_addPieces_43 : decode cX0_addPieces 43 = .ok (.invokevirtual 34, 3) := by decide +kernel
theorem dX0_addPieces_46 : decode cX0_addPieces 46 = .ok (.if_icmp .ne 7, 3) := by decide +kernel
theorem dX0_addPieces_49 : decode cX0_addPieces 49 = .ok (.iconst 1, 1) := by decide +kernel
theorem dX0_addPieces_50 : decode cX0_addPieces 50 = .ok (.goto 4, 3) := by decide +kernel
theorem dX0_addPieces_53 : decode cX0_addPieces 53 = .ok (.iconst 0, 1) := by decide +kernel
theorem dX0_addPieces_54 : decode cX0_addPieces 54 = .ok (.istore 5, 2) := by decide +kernel
theorem dX0_addPieces_56 : decode cX0_addPieces 56 = .ok (.aload_n 0, 1) := by decide +kernel
theorem dX0_addPieces_57 : decode cX0_addPieces 57 = .ok (.iload_n 3, 1) := by decide +kernel
theorem dX0_addPieces_58 : decode cX0_addPieces 58 = .ok (.ifCond .ne 7, 3) := by decide +kernel
theorem dX0_addPieces_61 : decode cX0_addPieces 61 = .ok (.iconst 1, 1) := by decide +kernel
theorem dX0_addPieces_62 : decode cX0_addPieces 62 = .ok (.goto 4, 3) := by decide +kernel
theorem dX0_addPieces_65 : decode cX0_addPieces 65 = .ok (.iconst 0, 1) := by decide +kernel
theorem dX0_addPieces_66 : decode cX0_addPieces 66 = .ok (.iload 5, 2) := by decide +kernel
theorem dX0_addPieces_68 : decode cX0_addPieces 68 = .ok (.invokestatic 55, 3) := by decide +kernel
theorem dX0_addPieces_71 : decode cX0_addPieces 71 = .ok (.aload_n 1, 1) := by decide +kernel
theorem dX0_addPieces_72 : decode cX0_addPieces 72 = .ok (.iload_n 2, 1) := by decide +kernel
theorem dX0_addPieces_73 : decode cX0_addPieces 73 = .ok (.iload 4, 2) := by decide +kernel
theorem dX0_addPieces_75 : decode cX0_addPieces 75 = .ok (.invokevirtual 59, 3) := by decide +kernel
theorem dX0_addPieces_78 : decode cX0_addPieces 78 = .ok (.ifCond .ne 5, 3) := by decide +kernel
theorem dX0_addPieces_81 : decode cX0_addPieces 81 = .ok (.iconst 0, 1) := by decide +kernel
theorem dX0_addPieces_82 : decode cX0_addPieces 82 = .ok (.ireturn, 1) := by decide +kernel
theorem dX0_addPieces_83 : decode cX0_addPieces 83 = .ok (.iload_n 2, 1) := by decide +kernel
theorem dX0_addPieces_84 : decode cX0_addPieces 84 = .ok (.iload 4, 2) := by decide +kernel
theorem dX0_addPieces_86 : decode cX0_addPieces 86 = .ok (.iadd, 1) := by decide +kernel
theorem dX0_addPieces_87 : decode cX0_addPieces 87 = .ok (.istore_n 2, 1) := by decide +kernel
theorem dX0_addPieces_88 : decode cX0_addPieces 88 = .ok (.iload 5, 2) := by decide +kernel
theorem dX0_addPieces_90 : decode cX0_addPieces 90 = .ok (.ifCond .eq 5, 3) := by decide +kernel
theorem dX0_addPieces_93 : decode cX0_addPieces 93 = .ok (.iconst 1, 1) := by decide +kernel
theorem dX0_addPieces_94 : decode cX0_addPieces 94 = .ok (.ireturn, 1) := by decide +kernel
theorem dX0_addPieces_95 : decode cX0_addPieces 95 = .ok (.iinc 3 1, 3) := by decide +kernel
theorem dX0_addPieces_98 : decode cX0_addPieces 98 = .ok (.goto (-94), 3) := by decide +kernel
theorem dX0_addPieces_101 : decode cX0_addPieces 101 = .ok (.iconst 0, 1) := by decide +kernel
theorem dX0_addPieces_102 : decode cX0_addPieces 102 = .ok (.ireturn, 1) := by decide +kernel
set_option maxRecDepth 20000 in
theorem ggX0_fillBlock_X0_roomInBlock : GoodIn wsX0_fillBlock wsX0_roomInBlock := goodIn_r _ [6, 1, 7, 8, 9, 10, 11, 12, 13, 14, 15, 5, 16, 17, 18, 19, 20, 21, 35, 36, 37, 38] (by decide +kernel) (by decide +kernel)
set_option maxRecDepth 20000 in
theorem gX0_fillBlock_X0_roomInBlock : GoodIn wsX0_fillBlock (wsV RX0 52 RX0 yX0_roomInBlock wsX0_roomInBlock) := goodIn_app (goodIn_of _ (by decide +kernel)) ggX0_fillBlock_X0_roomInBlock
set_option maxRecDepth 20000 in
theorem ggX0_fillBlock_X3_hasRoomFor : GoodIn wsX0_fillBlock wsX3_hasRoomFor := goodIn_r _ [25, 26, 12, 37, 38] (by decide +kernel) (by decide +kernel)
set_option maxRecDepth 20000 in
theorem gX0_fillBlock_X3_hasRoomFor : GoodIn wsX0_fillBlock (wsV RX0 63 RX3 yX3_hasRoomFor wsX3_hasRoomFor) := goodIn_app (goodIn_of _ (by decide +kernel)) ggX0_fillBlock_X3_hasRoomFor
set_option maxRecDepth 20000 in
theorem ggX0_fillBlock_X3_addLowestFirst : GoodIn wsX0_fillBlock wsX3_addLowestFirst := goodIn_r _ [30, 31, 32, 33, 10, 34, 12, 26, 37, 38] (by decide +kernel) (by decide +kernel)
set_option maxRecDepth 20000 in
theorem gX0_fillBlock_X3_addLowestFirst : GoodIn wsX0_fillBlock (wsV RX0 67 RX3 yX3_addLowestFirst wsX3_addLowestFirst) := goodIn_app (goodIn_of _ (by decide +kernel)) ggX0_fillBlock_X3_addLowestFirst
theorem dX0_fillBlock_0 : decode cX0_fillBlock 0 = .ok (.aload_n 0, 1) := by decide +kernel
theorem dX0_fillBlock_1 : decode cX0_fillBlock 1 = .ok (.invokevirtual 52, 3) := by decide +kernel
theorem dX0_fillBlock_4 : decode cX0_fillBlock 4 = .ok (.istore_n 1, 1) := by decide +kernel
theorem dX0_fillBlock_5 : decode cX0_fillBlock 5 = .ok (.iload_n 1, 1) := by decide +kernel
theorem dX0_fillBlock_6 : decode cX0_fillBlock 6 = .ok (.bipush 7, 2) := by decide +kernel
theorem dX0_fillBlock_8 : decode cX0_fillBlock 8 = .ok (.if_icmp .lt 5, 3) := by decide +kernel
theorem dX0_fillBlock_11 : decode cX0_fillBlock 11 = .ok (.iconst 1, 1) := by decide +kernel
theorem dX0_fillBlock_12 : decode cX0_fillBlock 12 = .ok (.ireturn, 1) := by decide +kernel
theorem dX0_fillBlock_13 : decode cX0_fillBlock 13 = .ok (.aload_n 0, 1) := by decide +kernel
theorem dX0_fillBlock_14 : decode cX0_fillBlock 14 = .ok (.getfield 14, 3) := by decide +kernel
theorem dX0_fillBlock_17 : decode cX0_fillBlock 17 = .ok (.iload_n 1, 1) := by decide +kernel
theorem dX0_fillBlock_18 : decode cX0_fillBlock 18 = .ok (.invokevirtual 63, 3) := by decide +kernel
theorem dX0_fillBlock_21 : decode cX0_fillBlock 21 = .ok (.ifCond .ne 5, 3) := by decide +kernel
theorem dX0_fillBlock_24 : decode cX0_fillBlock 24 = .ok (.iconst 0, 1) := by decide +kernel
theorem dX0_fillBlock_25 : decode cX0_fillBlock 25 = .ok (.ireturn, 1) := by decide +kernel
theorem dX0_fillBlock_26 : decode cX0_fillBlock 26 = .ok (.aload_n 0, 1) := by decide +kernel
theorem dX0_fillBlock_27 : decode cX0_fillBlock 27 = .ok (.getfield 14, 3) := by decide +kernel
theorem dX0_fillBlock_30 : decode cX0_fillBlock 30 = .ok (.iconst 0, 1) := by decide +kernel
theorem dX0_fillBlock_31 : decode cX0_fillBlock 31 = .ok (.iload_n 1, 1) := by decide +kernel
theorem dX0_fillBlock_32 : decode cX0_fillBlock 32 = .ok (.invokevirtual 67, 3) := by decide +kernel
theorem dX0_fillBlock_35 : decode cX0_fillBlock 35 = .ok (.iconst 1, 1) := by decide +kernel
theorem dX0_fillBlock_36 : decode cX0_fillBlock 36 = .ok (.ireturn, 1) := by decide +kernel
set_option maxRecDepth 20000 in
theorem ggX0_roomInBlock_X3_many : GoodIn wsX0_roomInBlock wsX3_many := goodIn_r _ [6, 7, 20, 21] (by decide +kernel) (by decide +kernel)
set_option maxRecDepth 20000 in
theorem gX0_roomInBlock_X3_many : GoodIn wsX0_roomInBlock (wsV RX0 34 RX3 yX3_many wsX3_many) := goodIn_app (goodIn_of _ (by decide +kernel)) ggX0_roomInBlock_X3_many
set_option maxRecDepth 20000 in
theorem ggX0_roomInBlock_X0_endOfBlock : GoodIn wsX0_roomInBlock wsX0_endOfBlock := goodIn_r _ [12, 13, 14, 15, 16, 11, 17, 18, 19] (by decide +kernel) (by decide +kernel)
set_option maxRecDepth 20000 in
theorem gX0_roomInBlock_X0_endOfBlock : GoodIn wsX0_roomInBlock (wsV RX0 31 RX0 yX0_endOfBlock wsX0_endOfBlock) := goodIn_app (goodIn_of _ (by decide +kernel)) ggX0_roomInBlock_X0_endOfBlock
theorem dX0_roomInBlock_0 : decode cX0_roomInBlock 0 = .ok (.aload_n 0, 1) := by decide +kernel
theorem dX0_roomInBlock_1 : decode cX0_roomInBlock 1 = .ok (.aload_n 0, 1) := by decide +kernel
theorem dX0_roomInBlock_2 : decode cX0_roomInBlock 2 = .ok (.getfield 14, 3) := by decide +kernel
theorem dX0_roomInBlock_5 : decode cX0_roomInBlock 5 = .ok (.invokevirtual 34, 3) := by decide +kernel
theorem dX0_roomInBlock_8 : decode cX0_roomInBlock 8 = .ok (.invokevirtual 31, 3) := by decide +kernel
theorem dX0_roomInBlock_11 : decode cX0_roomInBlock 11 = .ok (.aload_n 0, 1) := by decide +kernel
theorem dX0_roomInBlock_12 : decode cX0_roomInBlock 12 = .ok (.getfield 14, 3) := by decide +kernel
theorem dX0_roomInBlock_15 : decode cX0_roomInBlock 15 = .ok (.invokevirtual 34, 3) := by decide +kernel
theorem dX0_roomInBlock_18 : decode cX0_roomInBlock 18 = .ok (.isub, 1) := by decide +kernel
theorem dX0_roomInBlock_19 : decode cX0_roomInBlock 19 = .ok (.ireturn, 1) := by decide +kernel
theorem dX0_kindOf_0 : decode cX0_kindOf 0 = .ok (.iload_n 0, 1) := by decide +kernel
theorem dX0_kindOf_1 : decode cX0_kindOf 1 = .ok (.ifCond .eq 13, 3) := by decide +kernel
theorem dX0_kindOf_4 : decode cX0_kindOf 4 = .ok (.iload_n 1, 1) := by decide +kernel
theorem dX0_kindOf_5 : decode cX0_kindOf 5 = .ok (.ifCond .eq 7, 3) := by decide +kernel
theorem dX0_kindOf_8 : decode cX0_kindOf 8 = .ok (.iconst 1, 1) := by decide +kernel
theorem dX0_kindOf_9 : decode cX0_kindOf 9 = .ok (.goto 4, 3) := by decide +kernel
theorem dX0_kindOf_12 : decode cX0_kindOf 12 = .ok (.iconst 2, 1) := by decide +kernel
theorem dX0_kindOf_13 : decode cX0_kindOf 13 = .ok (.ireturn, 1) := by decide +kernel
theorem dX0_kindOf_14 : decode cX0_kindOf 14 = .ok (.iload_n 1, 1) := by decide +kernel
theorem dX0_kindOf_15 : decode cX0_kindOf 15 = .ok (.ifCond .eq 7, 3) := by decide +kernel
theorem dX0_kindOf_18 : decode cX0_kindOf 18 = .ok (.iconst 4, 1) := by decide +kernel
theorem dX0_kindOf_19 : decode cX0_kindOf 19 = .ok (.goto 4, 3) := by decide +kernel
theorem dX0_kindOf_22 : decode cX0_kindOf 22 = .ok (.iconst 3, 1) := by decide +kernel
theorem dX0_kindOf_23 : decode cX0_kindOf 23 = .ok (.ireturn, 1) := by decide +kernel
set_option maxRecDepth 20000 in
theorem ggX0_addFragment_X3_hasRoomFor : GoodIn wsX0_addFragment wsX3_hasRoomFor := goodIn_r _ [6, 7, 8, 38, 39] (by decide +kernel) (by decide +kernel)
set_option maxRecDepth 20000 in
theorem gX0_addFragment_X3_hasRoomFor : GoodIn wsX0_addFragment (wsV RX0 63 RX3 yX3_hasRoomFor wsX3_hasRoomFor) := goodIn_app (goodIn_of _ (by decide +kernel)) ggX0_addFragment_X3_hasRoomFor
set_option maxRecDepth 20000 in
theorem ggX0_addFragment_X4_of : GoodIn wsX0_addFragment wsX4_of := goodIn_r _ [12, 13, 14, 15, 11, 16, 17, 18, 19, 20, 5, 21, 8, 7, 38, 39] (by decide +kernel) (by decide +kernel)
set_option maxRecDepth 20000 in
theorem gX0_addFragment_X4_of : GoodIn wsX0_addFragment (va_wsS RX0 71 yX4_of wsX4_of) := goodIn_app (goodIn_of _ (by decide +kernel)) ggX0_addFragment_X4_of
set_option maxRecDepth 20000 in
theorem ggX0_addFragment_X3_addLowestFirst : GoodIn wsX0_addFragment wsX3_addLowestFirst := goodIn_r _ [25, 26, 27, 28, 5, 29, 8, 7, 38, 39] (by decide +kernel) (by decide +kernel)
set_option maxRecDepth 20000 in
theorem gX0_addFragment_X3_addLowestFirst : GoodIn wsX0_addFragment (wsV RX0 67 RX3 yX3_addLowestFirst wsX3_addLowestFirst) := goodIn_app (goodIn_of _ (by decide +kernel)) ggX0_addFragment_X3_addLowestFirst
set_option maxRecDepth 20000 in
theorem ggX0_addFragment_X3_add : GoodIn wsX0_addFragment wsX3_add := goodIn_r _ [29, 8, 7, 38, 39] (by decide +kernel) (by decide +kernel)
set_option maxRecDepth 20000 in
theorem gX0_addFragment_X3_add : GoodIn wsX0_addFragment (wsV RX0 77 RX3 yX3_add wsX3_add) := goodIn_app (goodIn_of _ (by decide +kernel)) ggX0_addFragment_X3_add
set_option maxRecDepth 20000 in
theorem ggX0_addFragment_X3_addPart : GoodIn wsX0_addFragment wsX3_addPart := goodIn_r _ [34, 35, 19, 20, 5, 21, 8, 7, 26, 27, 28, 29, 38, 39] (by decide +kernel) (by decide +kernel)
set_option maxRecDepth 20000 in
theorem gX0_addFragment_X3_addPart : GoodIn wsX0_addFragment (wsV RX0 80 RX3 yX3_addPart wsX3_addPart) := goodIn_app (goodIn_of _ (by decide +kernel)) ggX0_addFragment_X3_addPart
theorem dX0_addFragment_0 : decode cX0_addFragment 0 = .ok (.aload_n 0, 1) := by decide +kernel
theorem dX0_addFragment_1 : decode cX0_addFragment 1 = .ok (.getfield 14, 3) := by decide +kernel
theorem dX0_addFragment_4 : decode cX0_addFragment 4 = .ok (.bipush 7, 2) := by decide +kernel
theorem dX0_addFragment_6 : decode cX0_addFragment 6 = .ok (.iload 4, 2) := by decide +kernel
theorem dX0_addFragment_8 : decode cX0_addFragment 8 = .ok (.iadd, 1) := by decide +kernel
theorem dX0_addFragment_9 : decode cX0_addFragment 9 = .ok (.invokevirtual 63, 3) := by decide +kernel
theorem dX0_addFragment_12 : decode cX0_addFragment 12 = .ok (.ifCond .ne 5, 3) := by decide +kernel
theorem dX0_addFragment_15 : decode cX0_addFragment 15 = .ok (.iconst 0, 1) := by decide +kernel
theorem dX0_addFragment_16 : decode cX0_addFragment 16 = .ok (.ireturn, 1) := by decide +kernel
theorem dX0_addFragment_17 : decode cX0_addFragment 17 = .ok (.aload_n 0, 1) := by decide +kernel
theorem dX0_addFragment_18 : decode cX0_addFragment 18 = .ok (.getfield 14, 3) := by decide +kernel
theorem dX0_addFragment_21 : decode cX0_addFragment 21 = .ok (.iload_n 1, 1) := by decide +kernel
theorem dX0_addFragment_22 : decode cX0_addFragment 22 = .ok (.aload_n 2, 1) := by decide +kernel
theorem dX0_addFragment_23 : decode cX0_addFragment 23 = .ok (.iload_n 3, 1) := by decide +kernel
theorem dX0_addFragment_24 : decode cX0_addFragment 24 = .ok (.iload 4, 2) := by decide +kernel
theorem dX0_addFragment_26 : decode cX0_addFragment 26 = .ok (.invokestatic 71, 3) := by decide +kernel
theorem dX0_addFragment_29 : decode cX0_addFragment 29 = .ok (.iconst 4, 1) := by decide +kernel
theorem dX0_addFragment_30 : decode cX0_addFragment 30 = .ok (.invokevirtual 67, 3) := by decide +kernel
theorem dX0_addFragment_33 : decode cX0_addFragment 33 = .ok (.aload_n 0, 1) := by decide +kernel
theorem dX0_addFragment_34 : decode cX0_addFragment 34 = .ok (.getfield 14, 3) := by decide +kernel
theorem dX0_addFragment_37 : decode cX0_addFragment 37 = .ok (.iload 4, 2) := by decide +kernel
theorem dX0_addFragment_39 : decode cX0_addFragment 39 = .ok (.iconst 2, 1) := by decide +kernel
theorem dX0_addFragment_40 : decode cX0_addFragment 40 = .ok (.invokevirtual 67, 3) := by decide +kernel
theorem dX0_addFragment_43 : decode cX0_addFragment 43 = .ok (.aload_n 0, 1) := by decide +kernel
theorem dX0_addFragment_44 : decode cX0_addFragment 44 = .ok (.getfield 14, 3) := by decide +kernel
theorem dX0_addFragment_47 : decode cX0_addFragment 47 = .ok (.iload_n 1, 1) := by decide +kernel
theorem dX0_addFragment_48 : decode cX0_addFragment 48 = .ok (.invokevirtual 77, 3) := by decide +kernel
theorem dX0_addFragment_51 : decode cX0_addFragment 51 = .ok (.aload_n 0, 1) := by decide +kernel
theorem dX0_addFragment_52 : decode cX0_addFragment 52 = .ok (.getfield 14, 3) := by decide +kernel
theorem dX0_addFragment_55 : decode cX0_addFragment 55 = .ok (.aload_n 2, 1) := by decide +kernel
theorem dX0_addFragment_56 : decode cX0_addFragment 56 = .ok (.iload_n 3, 1) := by decide +kernel
theorem dX0_addFragment_57 : decode cX0_addFragment 57 = .ok (.iload 4, 2) := by decide +kernel
theorem dX0_addFragment_59 : decode cX0_addFragment 59 = .ok (.invokevirtual 80, 3) := by decide +kernel
theorem dX0_addFragment_62 : decode cX0_addFragment 62 = .ok (.iconst 1, 1) := by decide +kernel
theorem dX0_addFragment_63 : decode cX0_addFragment 63 = .ok (.ireturn, 1) := by decide +kernel
