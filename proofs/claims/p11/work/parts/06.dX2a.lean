set_option maxRecDepth 20000 in
theorem ggX2_init_X1_init : GoodIn wsX2_init wsX1_init := goodIn_r _ [21, 22, 2, 3, 23, 24, 25, 26, 27, 35, 36, 37, 38] (by decide +kernel) (by decide +kernel)
set_option maxRecDepth 20000 in
theorem gX2_init_X1_init_n11 : GoodIn wsX2_init (wsX1_init) := ggX2_init_X1_init
set_option maxRecDepth 20000 in
theorem ggX2_init_X3_init : GoodIn wsX2_init wsX3_init := goodIn_r _ [30, 31, 2, 3, 32, 33, 34, 49, 50] (by decide +kernel) (by decide +kernel)
set_option maxRecDepth 20000 in
theorem gX2_init_X3_init : GoodIn wsX2_init (wsX3_init) := ggX2_init_X3_init
theorem dX2_init_0 : decode cX2_init 0 = .ok (.aload_n 0, 1) := by decide +kernel
theorem dX2_init_1 : decode cX2_init 1 = .ok (.invokespecial 3, 3) := by decide +kernel
theorem dX2_init_4 : decode cX2_init 4 = .ok (.aload_n 0, 1) := by decide +kernel
theorem dX2_init_5 : decode cX2_init 5 = .ok (.new 9, 3) := by decide +kernel
theorem dX2_init_8 : decode cX2_init 8 = .ok (.dup, 1) := by decide +kernel
theorem dX2_init_9 : decode cX2_init 9 = .ok (.invokespecial 11, 3) := by decide +kernel
theorem dX2_init_12 : decode cX2_init 12 = .ok (.putfield 12, 3) := by decide +kernel
theorem dX2_init_15 : decode cX2_init 15 = .ok (.aload_n 0, 1) := by decide +kernel
theorem dX2_init_16 : decode cX2_init 16 = .ok (.new 18, 3) := by decide +kernel
theorem dX2_init_19 : decode cX2_init 19 = .ok (.dup, 1) := by decide +kernel
theorem dX2_init_20 : decode cX2_init 20 = .ok (.sipush 4096, 3) := by decide +kernel
theorem dX2_init_23 : decode cX2_init 23 = .ok (.invokespecial 20, 3) := by decide +kernel
theorem dX2_init_26 : decode cX2_init 26 = .ok (.putfield 23, 3) := by decide +kernel
theorem dX2_init_29 : decode cX2_init 29 = .ok (.aload_n 0, 1) := by decide +kernel
theorem dX2_init_30 : decode cX2_init 30 = .ok (.iconst (-1), 1) := by decide +kernel
theorem dX2_init_31 : decode cX2_init 31 = .ok (.putfield 27, 3) := by decide +kernel
theorem dX2_init_34 : decode cX2_init 34 = .ok (.aload_n 0, 1) := by decide +kernel
theorem dX2_init_35 : decode cX2_init 35 = .ok (.iconst 0, 1) := by decide +kernel
theorem dX2_init_36 : decode cX2_init 36 = .ok (.putfield 31, 3) := by decide +kernel
theorem dX2_init_39 : decode cX2_init 39 = .ok (.aload_n 0, 1) := by decide +kernel
theorem dX2_init_40 : decode cX2_init 40 = .ok (.iconst 0, 1) := by decide +kernel
theorem dX2_init_41 : decode cX2_init 41 = .ok (.putfield 35, 3) := by decide +kernel
theorem dX2_init_44 : decode cX2_init 44 = .ok (.aload_n 0, 1) := by decide +kernel
theorem dX2_init_45 : decode cX2_init 45 = .ok (.iconst 0, 1) := by decide +kernel
theorem dX2_init_46 : decode cX2_init 46 = .ok (.putfield 38, 3) := by decide +kernel
theorem dX2_init_49 : decode cX2_init 49 = .ok (.aload_n 0, 1) := by decide +kernel
theorem dX2_init_50 : decode cX2_init 50 = .ok (.iconst 0, 1) := by decide +kernel
theorem dX2_init_51 : decode cX2_init 51 = .ok (.putfield 41, 3) := by decide +kernel
theorem dX2_init_54 : decode cX2_init 54 = .ok (.aload_n 0, 1) := by decide +kernel
theorem dX2_init_55 : decode cX2_init 55 = .ok (.iconst 0, 1) := by decide +kernel
theorem dX2_init_56 : decode cX2_init 56 = .ok (.putfield 44, 3) := by decide +kernel
theorem dX2_init_59 : decode cX2_init 59 = .ok (.aload_n 0, 1) := by decide +kernel
theorem dX2_init_60 : decode cX2_init 60 = .ok (.iconst 0, 1) := by decide +kernel
theorem dX2_init_61 : decode cX2_init 61 = .ok (.putfield 47, 3) := by decide +kernel
theorem dX2_init_64 : decode cX2_init 64 = .ok (.aload_n 0, 1) := by decide +kernel
theorem dX2_init_65 : decode cX2_init 65 = .ok (.aload_n 1, 1) := by decide +kernel
theorem dX2_init_66 : decode cX2_init 66 = .ok (.putfield 50, 3) := by decide +kernel
theorem dX2_init_69 : decode cX2_init 69 = .ok (.return_, 1) := by decide +kernel
theorem dX2_place_0 : decode cX2_place 0 = .ok (.aload_n 0, 1) := by decide +kernel
theorem dX2_place_1 : decode cX2_place 1 = .ok (.getfield 35, 3) := by decide +kernel
theorem dX2_place_4 : decode cX2_place 4 = .ok (.ireturn, 1) := by decide +kernel
theorem dX2_isLost_0 : decode cX2_isLost 0 = .ok (.aload_n 0, 1) := by decide +kernel
theorem dX2_isLost_1 : decode cX2_isLost 1 = .ok (.getfield 41, 3) := by decide +kernel
theorem dX2_isLost_4 : decode cX2_isLost 4 = .ok (.ireturn, 1) := by decide +kernel
theorem dX2_drops_0 : decode cX2_drops 0 = .ok (.aload_n 0, 1) := by decide +kernel
theorem dX2_drops_1 : decode cX2_drops 1 = .ok (.getfield 12, 3) := by decide +kernel
theorem dX2_drops_4 : decode cX2_drops 4 = .ok (.areturn, 1) := by decide +kernel
theorem dX2_record_0 : decode cX2_record 0 = .ok (.aload_n 0, 1) := by decide +kernel
theorem dX2_record_1 : decode cX2_record 1 = .ok (.getfield 23, 3) := by decide +kernel
theorem dX2_record_4 : decode cX2_record 4 = .ok (.areturn, 1) := by decide +kernel
theorem dX2_recordPlace_0 : decode cX2_recordPlace 0 = .ok (.aload_n 0, 1) := by decide +kernel
theorem dX2_recordPlace_1 : decode cX2_recordPlace 1 = .ok (.getfield 27, 3) := by decide +kernel
theorem dX2_recordPlace_4 : decode cX2_recordPlace 4 = .ok (.ireturn, 1) := by decide +kernel
set_option maxRecDepth 20000 in
theorem ggX2_beginAt_X0_endOfBlock : GoodIn wsX2_beginAt wsX0_endOfBlock := goodIn_r _ [10, 11, 12, 13, 14, 9, 15, 34, 35] (by decide +kernel) (by decide +kernel)
set_option maxRecDepth 20000 in
theorem gX2_beginAt_X0_endOfBlock : GoodIn wsX2_beginAt (wsV RX2 54 RX0 yX0_endOfBlock wsX0_endOfBlock) := goodIn_app (goodIn_of _ (by decide +kernel)) ggX2_beginAt_X0_endOfBlock
set_option maxRecDepth 20000 in
theorem ggX2_beginAt_X0_startOfBlock : GoodIn wsX2_beginAt wsX0_startOfBlock := goodIn_r _ [15, 11, 34, 35] (by decide +kernel) (by decide +kernel)
set_option maxRecDepth 20000 in
theorem gX2_beginAt_X0_startOfBlock : GoodIn wsX2_beginAt (wsV RX2 60 RX0 yX0_startOfBlock wsX0_startOfBlock) := goodIn_app (goodIn_of _ (by decide +kernel)) ggX2_beginAt_X0_startOfBlock
set_option maxRecDepth 20000 in
theorem ggX2_beginAt_X1_forget : GoodIn wsX2_beginAt wsX1_forget := goodIn_r _ [21, 22, 23, 36, 37, 38, 39] (by decide +kernel) (by decide +kernel)
set_option maxRecDepth 20000 in
theorem gX2_beginAt_X1_forget : GoodIn wsX2_beginAt (wsV RX2 63 RX1 yX1_forget wsX1_forget) := goodIn_app (goodIn_of _ (by decide +kernel)) ggX2_beginAt_X1_forget
theorem dX2_beginAt_0 : decode cX2_beginAt 0 = .ok (.aload_n 0, 1) := by decide +kernel
theorem dX2_beginAt_1 : decode cX2_beginAt 1 = .ok (.getfield 50, 3) := by decide +kernel
theorem dX2_beginAt_4 : decode cX2_beginAt 4 = .ok (.iload_n 1, 1) := by decide +kernel
theorem dX2_beginAt_5 : decode cX2_beginAt 5 = .ok (.invokevirtual 54, 3) := by decide +kernel
theorem dX2_beginAt_8 : decode cX2_beginAt 8 = .ok (.iload_n 1, 1) := by decide +kernel
theorem dX2_beginAt_9 : decode cX2_beginAt 9 = .ok (.isub, 1) := by decide +kernel
theorem dX2_beginAt_10 : decode cX2_beginAt 10 = .ok (.istore_n 2, 1) := by decide +kernel
theorem dX2_beginAt_11 : decode cX2_beginAt 11 = .ok (.aload_n 0, 1) := by decide +kernel
theorem dX2_beginAt_12 : decode cX2_beginAt 12 = .ok (.iload_n 2, 1) := by decide +kernel
theorem dX2_beginAt_13 : decode cX2_beginAt 13 = .ok (.bipush 7, 2) := by decide +kernel
theorem dX2_beginAt_15 : decode cX2_beginAt 15 = .ok (.if_icmp .ge 14, 3) := by decide +kernel
theorem dX2_beginAt_18 : decode cX2_beginAt 18 = .ok (.aload_n 0, 1) := by decide +kernel
theorem dX2_beginAt_19 : decode cX2_beginAt 19 = .ok (.getfield 50, 3) := by decide +kernel
theorem dX2_beginAt_22 : decode cX2_beginAt 22 = .ok (.iload_n 1, 1) := by decide +kernel
theorem dX2_beginAt_23 : decode cX2_beginAt 23 = .ok (.invokevirtual 54, 3) := by decide +kernel
theorem dX2_beginAt_26 : decode cX2_beginAt 26 = .ok (.goto 11, 3) := by decide +kernel
theorem dX2_beginAt_29 : decode cX2_beginAt 29 = .ok (.aload_n 0, 1) := by decide +kernel
theorem dX2_beginAt_30 : decode cX2_beginAt 30 = .ok (.getfield 50, 3) := by decide +kernel
theorem dX2_beginAt_33 : decode cX2_beginAt 33 = .ok (.iload_n 1, 1) := by decide +kernel
theorem dX2_beginAt_34 : decode cX2_beginAt 34 = .ok (.invokevirtual 60, 3) := by decide +kernel
theorem dX2_beginAt_37 : decode cX2_beginAt 37 = .ok (.putfield 35, 3) := by decide +kernel
theorem dX2_beginAt_40 : decode cX2_beginAt 40 = .ok (.aload_n 0, 1) := by decide +kernel
theorem dX2_beginAt_41 : decode cX2_beginAt 41 = .ok (.iload_n 1, 1) := by decide +kernel
theorem dX2_beginAt_42 : decode cX2_beginAt 42 = .ok (.putfield 38, 3) := by decide +kernel
theorem dX2_beginAt_45 : decode cX2_beginAt 45 = .ok (.aload_n 0, 1) := by decide +kernel
theorem dX2_beginAt_46 : decode cX2_beginAt 46 = .ok (.iload_n 1, 1) := by decide +kernel
theorem dX2_beginAt_47 : decode cX2_beginAt 47 = .ok (.ifCond .le 7, 3) := by decide +kernel
theorem dX2_beginAt_50 : decode cX2_beginAt 50 = .ok (.iconst 1, 1) := by decide +kernel
theorem dX2_beginAt_51 : decode cX2_beginAt 51 = .ok (.goto 4, 3) := by decide +kernel
theorem dX2_beginAt_54 : decode cX2_beginAt 54 = .ok (.iconst 0, 1) := by decide +kernel
theorem dX2_beginAt_55 : decode cX2_beginAt 55 = .ok (.putfield 41, 3) := by decide +kernel
theorem dX2_beginAt_58 : decode cX2_beginAt 58 = .ok (.aload_n 0, 1) := by decide +kernel
theorem dX2_beginAt_59 : decode cX2_beginAt 59 = .ok (.getfield 12, 3) := by decide +kernel
theorem dX2_beginAt_62 : decode cX2_beginAt 62 = .ok (.invokevirtual 63, 3) := by decide +kernel
theorem dX2_beginAt_65 : decode cX2_beginAt 65 = .ok (.return_, 1) := by decide +kernel
set_option maxRecDepth 20000 in
theorem ggX2_findRecord_X2_dropRecord : GoodIn wsX2_findRecord wsX2_dropRecord := goodIn_r _ [5, 6, 7, 8, 9, 10, 11, 12, 13, 14, 128, 129, 130, 131, 132, 133, 134, 135, 136, 137, 138, 139] (by decide +kernel) (by decide +kernel)
set_option maxRecDepth 20000 in
theorem gX2_findRecord_X2_dropRecord : GoodIn wsX2_findRecord (wsV RX2 66 RX2 yX2_dropRecord wsX2_dropRecord) := goodIn_app (goodIn_of _ (by decide +kernel)) ggX2_findRecord_X2_dropRecord
set_option maxRecDepth 20000 in
theorem ggX2_findRecord_X2_nextBit : GoodIn wsX2_findRecord wsX2_nextBit := goodIn_r _ [18, 19, 20, 21, 22, 23, 24, 25, 26, 27, 28, 29, 30, 31, 32, 33, 34, 35, 36, 37, 38, 39, 40, 41, 42, 43, 44, 45, 12, 46, 14, 47, 48, 49, 50, 51, 52, 53, 54, 55, 56, 57, 58, 59, 60, 61, 62, 63, 64, 65, 66, 67, 68, 4, 69, 70, 71, 72, 73, 74, 75, 76, 77, 78, 79, 80, 81, 82, 83, 84, 85, 86, 87, 88, 89, 90, 91, 92, 93, 128, 129, 130, 131, 132, 133, 134, 135, 136, 137, 140, 141, 138, 139, 142, 143, 144, 145] (by decide +kernel) (by decide +kernel)
set_option maxRecDepth 20000 in
theorem gX2_findRecord_X2_nextBit : GoodIn wsX2_findRecord (wsV RX2 69 RX2 yX2_nextBit wsX2_nextBit) := goodIn_app (goodIn_of _ (by decide +kernel)) ggX2_findRecord_X2_nextBit
set_option maxRecDepth 20000 in
theorem ggX2_findRecord_X2_tear : GoodIn wsX2_findRecord wsX2_tear := goodIn_r _ [97, 8, 70, 6, 98, 44, 45, 12, 46, 14, 71, 72, 73, 74, 75, 76, 77, 78, 79, 1, 2, 3, 4, 5, 7, 9, 10, 11, 13, 128, 129, 130, 131, 132, 133, 134, 135, 136, 137, 138, 139, 142, 143, 144, 145] (by decide +kernel) (by decide +kernel)
set_option maxRecDepth 20000 in
theorem gX2_findRecord_X2_tear : GoodIn wsX2_findRecord (wsV RX2 73 RX2 yX2_tear wsX2_tear) := goodIn_app (goodIn_of _ (by decide +kernel)) ggX2_findRecord_X2_tear
set_option maxRecDepth 20000 in
theorem ggX2_findRecord_X2_passesOver : GoodIn wsX2_findRecord wsX2_passesOver := goodIn_r _ [102, 103, 128, 129, 130, 131, 132, 133, 134, 135, 136, 137] (by decide +kernel) (by decide +kernel)
set_option maxRecDepth 20000 in
theorem gX2_findRecord_X2_passesOver : GoodIn wsX2_findRecord (wsV RX2 76 RX2 yX2_passesOver wsX2_passesOver) := goodIn_app (goodIn_of _ (by decide +kernel)) ggX2_findRecord_X2_passesOver
set_option maxRecDepth 20000 in
theorem ggX2_findRecord_X2_takeFragment : GoodIn wsX2_findRecord wsX2_takeFragment := goodIn_r _ [107, 70, 22, 6, 108, 109, 110, 4, 111, 21, 7, 8, 98, 44, 45, 12, 46, 14, 71, 72, 73, 74, 75, 76, 77, 78, 79, 1, 2, 3, 5, 9, 10, 11, 13, 112, 113, 114, 115, 19, 52, 53, 54, 27, 55, 29, 116, 117, 118, 119, 60, 61, 62, 63, 64, 120, 121, 122, 123, 124, 125, 126, 127, 128, 129, 130, 131, 132, 133, 134, 135, 136, 137, 138, 139, 142, 143, 144, 145, 140, 141] (by decide +kernel) (by decide +kernel)
set_option maxRecDepth 20000 in
theorem gX2_findRecord_X2_takeFragment : GoodIn wsX2_findRecord (wsV RX2 80 RX2 yX2_takeFragment wsX2_takeFragment) := goodIn_app (goodIn_of _ (by decide +kernel)) ggX2_findRecord_X2_takeFragment
theorem dX2_findRecord_0 : decode cX2_findRecord 0 = .ok (.aload_n 0, 1) := by decide +kernel
theorem dX2_findRecord_1 : decode cX2_findRecord 1 = .ok (.invokevirtual 66, 3) := by decide +kernel
theorem dX2_findRecord_4 : decode cX2_findRecord 4 = .ok (.iconst 0, 1) := by decide +kernel
theorem dX2_findRecord_5 : decode cX2_findRecord 5 = .ok (.istore_n 1, 1) := by decide +kernel
theorem dX2_findRecord_6 : decode cX2_findRecord 6 = .ok (.iload_n 1, 1) := by decide +kernel
theorem dX2_findRecord_7 : decode cX2_findRecord 7 = .ok (.sipush 4096, 3) := by decide +kernel
theorem dX2_findRecord_10 : decode cX2_findRecord 10 = .ok (.if_icmp .gt 56, 3) := by decide +kernel
theorem dX2_findRecord_13 : decode cX2_findRecord 13 = .ok (.aload_n 0, 1) := by decide +kernel
theorem dX2_findRecord_14 : decode cX2_findRecord 14 = .ok (.invokevirtual 69, 3) := by decide +kernel
theorem dX2_findRecord_17 : decode cX2_findRecord 17 = .ok (.istore_n 2, 1) := by decide +kernel
theorem dX2_findRecord_18 : decode cX2_findRecord 18 = .ok (.iload_n 2, 1) := by decide +kernel
theorem dX2_findRecord_19 : decode cX2_findRecord 19 = .ok (.sipush 256, 3) := by decide +kernel
theorem dX2_findRecord_22 : decode cX2_findRecord 22 = .ok (.if_icmp .ne 6, 3) := by decide +kernel
theorem dX2_findRecord_25 : decode cX2_findRecord 25 = .ok (.goto 41, 3) := by decide +kernel
theorem dX2_findRecord_28 : decode cX2_findRecord 28 = .ok (.iload_n 2, 1) := by decide +kernel
theorem dX2_findRecord_29 : decode cX2_findRecord 29 = .ok (.sipush 257, 3) := by decide +kernel
theorem dX2_findRecord_32 : decode cX2_findRecord 32 = .ok (.if_icmp .ne 10, 3) := by decide +kernel
theorem dX2_findRecord_35 : decode cX2_findRecord 35 = .ok (.aload_n 0, 1) := by decide +kernel
theorem dX2_findRecord_36 : decode cX2_findRecord 36 = .ok (.invokevirtual 73, 3) := by decide +kernel
theorem dX2_findRecord_39 : decode cX2_findRecord 39 = .ok (.goto 21, 3) := by decide +kernel
theorem dX2_findRecord_42 : decode cX2_findRecord 42 = .ok (.aload_n 0, 1) := by decide +kernel
theorem dX2_findRecord_43 : decode cX2_findRecord 43 = .ok (.iload_n 2, 1) := by decide +kernel
theorem dX2_findRecord_44 : decode cX2_findRecord 44 = .ok (.invokevirtual 76, 3) := by decide +kernel
theorem dX2_findRecord_47 : decode cX2_findRecord 47 = .ok (.ifCond .ne 13, 3) := by decide +kernel
theorem dX2_findRecord_50 : decode cX2_findRecord 50 = .ok (.aload_n 0, 1) := by decide +kernel
theorem dX2_findRecord_51 : decode cX2_findRecord 51 = .ok (.iload_n 2, 1) := by decide +kernel
theorem dX2_findRecord_52 : decode cX2_findRecord 52 = .ok (.invokevirtual 80, 3) := by decide +kernel
theorem dX2_findRecord_55 : decode cX2_findRecord 55 = .ok (.ifCond .eq 5, 3) := by decide +kernel
theorem dX2_findRecord_58 : decode cX2_findRecord 58 = .ok (.iconst 1, 1) := by decide +kernel
theorem dX2_findRecord_59 : decode cX2_findRecord 59 = .ok (.ireturn, 1) := by decide +kernel
theorem dX2_findRecord_60 : decode cX2_findRecord 60 = .ok (.iinc 1 1, 3) := by decide +kernel
theorem dX2_findRecord_63 : decode cX2_findRecord 63 = .ok (.goto (-57), 3) := by decide +kernel
theorem dX2_findRecord_66 : decode cX2_findRecord 66 = .ok (.aload_n 0, 1) := by decide +kernel
theorem dX2_findRecord_67 : decode cX2_findRecord 67 = .ok (.invokevirtual 66, 3) := by decide +kernel
theorem dX2_findRecord_70 : decode cX2_findRecord 70 = .ok (.iconst 0, 1) := by decide +kernel
theorem dX2_findRecord_71 : decode cX2_findRecord 71 = .ok (.ireturn, 1) := by decide +kernel
set_option maxRecDepth 20000 in
theorem ggX2_nextBit_X0_leftInBlock : GoodIn wsX2_nextBit wsX0_leftInBlock := goodIn_r _ [10, 11, 12, 13, 14, 15, 16, 17, 18, 9, 19, 20, 21, 22, 23, 24, 25, 26, 27, 28, 29, 30, 89, 90, 91, 92] (by decide +kernel) (by decide +kernel)
set_option maxRecDepth 20000 in
theorem gX2_nextBit_X0_leftInBlock : GoodIn wsX2_nextBit (wsV RX2 83 RX0 yX0_leftInBlock wsX0_leftInBlock) := goodIn_app (goodIn_of _ (by decide +kernel)) ggX2_nextBit_X0_leftInBlock
set_option maxRecDepth 20000 in
theorem ggX2_nextBit_X0_isWhole : GoodIn wsX2_nextBit wsX0_isWhole := goodIn_r _ [34, 11, 16, 17, 18, 9, 19, 20, 21, 22, 23, 24, 25, 26, 27, 28, 29, 30, 89, 90, 91, 92] (by decide +kernel) (by decide +kernel)
set_option maxRecDepth 20000 in
theorem gX2_nextBit_X0_isWhole : GoodIn wsX2_nextBit (wsV RX2 86 RX0 yX0_isWhole wsX0_isWhole) := goodIn_app (goodIn_of _ (by decide +kernel)) ggX2_nextBit_X0_isWhole
set_option maxRecDepth 20000 in
theorem ggX2_nextBit_X0_endOfBlock : GoodIn wsX2_nextBit wsX0_endOfBlock := goodIn_r _ [19, 20, 21, 22, 23, 9, 24, 89, 90] (by decide +kernel) (by decide +kernel)
set_option maxRecDepth 20000 in
theorem gX2_nextBit_X0_endOfBlock : GoodIn wsX2_nextBit (wsV RX2 54 RX0 yX0_endOfBlock wsX0_endOfBlock) := goodIn_app (goodIn_of _ (by decide +kernel)) ggX2_nextBit_X0_endOfBlock
set_option maxRecDepth 20000 in
theorem ggX2_nextBit_X0_bytes : GoodIn wsX2_nextBit wsX0_bytes := goodIn_r _ [39, 11, 89, 90] (by decide +kernel) (by decide +kernel)
set_option maxRecDepth 20000 in
theorem gX2_nextBit_X0_bytes : GoodIn wsX2_nextBit (wsV RX2 89 RX0 yX0_bytes wsX0_bytes) := goodIn_app (goodIn_of _ (by decide +kernel)) ggX2_nextBit_X0_bytes
set_option maxRecDepth 20000 in
theorem ggX2_nextBit_X3_numberLowestFirst : GoodIn wsX2_nextBit wsX3_numberLowestFirst := goodIn_r _ [43, 44, 45, 46, 28, 47, 30, 48, 91, 92] (by decide +kernel) (by decide +kernel)
set_option maxRecDepth 20000 in
theorem gX2_nextBit_X3_numberLowestFirst : GoodIn wsX2_nextBit (wsV RX2 93 RX3 yX3_numberLowestFirst wsX3_numberLowestFirst) := goodIn_app (goodIn_of _ (by decide +kernel)) ggX2_nextBit_X3_numberLowestFirst
set_option maxRecDepth 20000 in
theorem ggX2_nextBit_X3_at : GoodIn wsX2_nextBit wsX3_at := goodIn_r _ [47, 30, 48, 91, 92] (by decide +kernel) (by decide +kernel)
set_option maxRecDepth 20000 in
theorem gX2_nextBit_X3_at : GoodIn wsX2_nextBit (wsV RX2 97 RX3 yX3_at wsX3_at) := goodIn_app (goodIn_of _ (by decide +kernel)) ggX2_nextBit_X3_at
set_option maxRecDepth 20000 in
theorem ggX2_nextBit_X2_breakBlock : GoodIn wsX2_nextBit wsX2_breakBlock := goodIn_r _ [54, 55, 2, 56, 57, 58, 59, 60, 61, 62, 63, 64, 79, 80, 81, 82, 83, 84, 85, 86, 87, 88, 93, 94, 95, 96] (by decide +kernel) (by decide +kernel)
set_option maxRecDepth 20000 in
theorem gX2_nextBit_X2_breakBlock : GoodIn wsX2_nextBit (wsV RX2 100 RX2 yX2_breakBlock wsX2_breakBlock) := goodIn_app (goodIn_of _ (by decide +kernel)) ggX2_nextBit_X2_breakBlock
set_option maxRecDepth 20000 in
theorem ggX2_nextBit_X2_isCheckRight : GoodIn wsX2_nextBit wsX2_isCheckRight := goodIn_r _ [68, 1, 2, 36, 37, 38, 9, 39, 11, 40, 41, 42, 28, 43, 44, 45, 46, 47, 30, 48, 69, 70, 71, 72, 73, 74, 75, 76, 77, 78, 79, 80, 81, 82, 83, 84, 85, 86, 87, 88, 89, 90, 91, 92] (by decide +kernel) (by decide +kernel)
set_option maxRecDepth 20000 in
theorem gX2_nextBit_X2_isCheckRight : GoodIn wsX2_nextBit (wsV RX2 103 RX2 yX2_isCheckRight wsX2_isCheckRight) := goodIn_app (goodIn_of _ (by decide +kernel)) ggX2_nextBit_X2_isCheckRight
theorem dX2_nextBit_0 : decode cX2_nextBit 0 = .ok (.aload_n 0, 1) := by decide +kernel
theorem dX2_nextBit_1 : decode cX2_nextBit 1 = .ok (.getfield 50, 3) := by decide +kernel
theorem dX2_nextBit_4 : decode cX2_nextBit 4 = .ok (.aload_n 0, 1) := by decide +kernel
theorem dX2_nextBit_5 : decode cX2_nextBit 5 = .ok (.getfield 35, 3) := by decide +kernel
theorem dX2_nextBit_8 : decode cX2_nextBit 8 = .ok (.invokevirtual 83, 3) := by decide +kernel
theorem dX2_nextBit_11 : decode cX2_nextBit 11 = .ok (.bipush 7, 2) := by decide +kernel
theorem dX2_nextBit_13 : decode cX2_nextBit 13 = .ok (.if_icmp .ge 32, 3) := by decide +kernel
theorem dX2_nextBit_16 : decode cX2_nextBit 16 = .ok (.aload_n 0, 1) := by decide +kernel
theorem dX2_nextBit_17 : decode cX2_nextBit 17 = .ok (.getfield 50, 3) := by decide +kernel
theorem dX2_nextBit_20 : decode cX2_nextBit 20 = .ok (.aload_n 0, 1) := by decide +kernel
theorem dX2_nextBit_21 : decode cX2_nextBit 21 = .ok (.getfield 35, 3) := by decide +kernel
theorem dX2_nextBit_24 : decode cX2_nextBit 24 = .ok (.invokevirtual 86, 3) := by decide +kernel
theorem dX2_nextBit_27 : decode cX2_nextBit 27 = .ok (.ifCond .eq 18, 3) := by decide +kernel
theorem dX2_nextBit_30 : decode cX2_nextBit 30 = .ok (.aload_n 0, 1) := by decide +kernel
theorem dX2_nextBit_31 : decode cX2_nextBit 31 = .ok (.aload_n 0, 1) := by decide +kernel
theorem dX2_nextBit_32 : decode cX2_nextBit 32 = .ok (.getfield 50, 3) := by decide +kernel
theorem dX2_nextBit_35 : decode cX2_nextBit 35 = .ok (.aload_n 0, 1) := by decide +kernel
theorem dX2_nextBit_36 : decode cX2_nextBit 36 = .ok (.getfield 35, 3) := by decide +kernel
theorem dX2_nextBit_39 : decode cX2_nextBit 39 = .ok (.invokevirtual 54, 3) := by decide +kernel
theorem dX2_nextBit_42 : decode cX2_nextBit 42 = .ok (.putfield 35, 3) := by decide +kernel
theorem dX2_nextBit_45 : decode cX2_nextBit 45 = .ok (.aload_n 0, 1) := by decide +kernel
theorem dX2_nextBit_46 : decode cX2_nextBit 46 = .ok (.getfield 50, 3) := by decide +kernel
theorem dX2_nextBit_49 : decode cX2_nextBit 49 = .ok (.aload_n 0, 1) := by decide +kernel
theorem dX2_nextBit_50 : decode cX2_nextBit 50 = .ok (.getfield 35, 3) := by decide +kernel
theorem dX2_nextBit_53 : decode cX2_nextBit 53 = .ok (.invokevirtual 83, 3) := by decide +kernel
theorem dX2_nextBit_56 : decode cX2_nextBit 56 = .ok (.istore_n 1, 1) := by decide +kernel
theorem dX2_nextBit_57 : decode cX2_nextBit 57 = .ok (.iload_n 1, 1) := by decide +kernel
theorem dX2_nextBit_58 : decode cX2_nextBit 58 = .ok (.bipush 7, 2) := by decide +kernel
theorem dX2_nextBit_60 : decode cX2_nextBit 60 = .ok (.if_icmp .ge 7, 3) := by decide +kernel
theorem dX2_nextBit_63 : decode cX2_nextBit 63 = .ok (.sipush 256, 3) := by decide +kernel
theorem dX2_nextBit_66 : decode cX2_nextBit 66 = .ok (.ireturn, 1) := by decide +kernel
theorem dX2_nextBit_67 : decode cX2_nextBit 67 = .ok (.aload_n 0, 1) := by decide +kernel
theorem dX2_nextBit_68 : decode cX2_nextBit 68 = .ok (.getfield 50, 3) := by decide +kernel
theorem dX2_nextBit_71 : decode cX2_nextBit 71 = .ok (.invokevirtual 89, 3) := by decide +kernel
theorem dX2_nextBit_74 : decode cX2_nextBit 74 = .ok (.aload_n 0, 1) := by decide +kernel
theorem dX2_nextBit_75 : decode cX2_nextBit 75 = .ok (.getfield 35, 3) := by decide +kernel
theorem dX2_nextBit_78 : decode cX2_nextBit 78 = .ok (.iconst 4, 1) := by decide +kernel
theorem dX2_nextBit_79 : decode cX2_nextBit 79 = .ok (.iadd, 1) := by decide +kernel
theorem dX2_nextBit_80 : decode cX2_nextBit 80 = .ok (.iconst 2, 1) := by decide +kernel
theorem dX2_nextBit_81 : decode cX2_nextBit 81 = .ok (.invokevirtual 93, 3) := by decide +kernel
theorem dX2_nextBit_84 : decode cX2_nextBit 84 = .ok (.istore_n 2, 1) := by decide +kernel
theorem dX2_nextBit_85 : decode cX2_nextBit 85 = .ok (.aload_n 0, 1) := by decide +kernel
theorem dX2_nextBit_86 : decode cX2_nextBit 86 = .ok (.getfield 50, 3) := by decide +kernel
theorem dX2_nextBit_89 : decode cX2_nextBit 89 = .ok (.invokevirtual 89, 3) := by decide +kernel
theorem dX2_nextBit_92 : decode cX2_nextBit 92 = .ok (.aload_n 0, 1) := by decide +kernel
theorem dX2_nextBit_93 : decode cX2_nextBit 93 = .ok (.getfield 35, 3) := by decide +kernel
theorem dX2_nextBit_96 : decode cX2_nextBit 96 = .ok (.bipush 7, 2) := by decide +kernel
theorem dX2_nextBit_98 : decode cX2_nextBit 98 = .ok (.iadd, 1) := by decide +kernel
theorem dX2_nextBit_99 : decode cX2_nextBit 99 = .ok (.iconst 1, 1) := by decide +kernel
theorem dX2_nextBit_100 : decode cX2_nextBit 100 = .ok (.isub, 1) := by decide +kernel
theorem dX2_nextBit_101 : decode cX2_nextBit 101 = .ok (.invokevirtual 97, 3) := by decide +kernel
theorem dX2_nextBit_104 : decode cX2_nextBit 104 = .ok (.istore_n 3, 1) := by decide +kernel
theorem dX2_nextBit_105 : decode cX2_nextBit 105 = .ok (.iload_n 2, 1) := by decide +kernel
theorem dX2_nextBit_106 : decode cX2_nextBit 106 = .ok (.iload_n 1, 1) := by decide +kernel
theorem dX2_nextBit_107 : decode cX2_nextBit 107 = .ok (.bipush 7, 2) := by decide +kernel
theorem dX2_nextBit_109 : decode cX2_nextBit 109 = .ok (.isub, 1) := by decide +kernel
theorem dX2_nextBit_110 : decode cX2_nextBit 110 = .ok (.if_icmp .le 30, 3) := by decide +kernel
theorem dX2_nextBit_113 : decode cX2_nextBit 113 = .ok (.aload_n 0, 1) := by decide +kernel
theorem dX2_nextBit_114 : decode cX2_nextBit 114 = .ok (.getfield 50, 3) := by decide +kernel
theorem dX2_nextBit_117 : decode cX2_nextBit 117 = .ok (.aload_n 0, 1) := by decide +kernel
theorem dX2_nextBit_118 : decode cX2_nextBit 118 = .ok (.getfield 35, 3) := by decide +kernel
theorem dX2_nextBit_121 : decode cX2_nextBit 121 = .ok (.invokevirtual 86, 3) := by decide +kernel
theorem dX2_nextBit_124 : decode cX2_nextBit 124 = .ok (.ifCond .eq 12, 3) := by decide +kernel
theorem dX2_nextBit_127 : decode cX2_nextBit 127 = .ok (.aload_n 0, 1) := by decide +kernel
theorem dX2_nextBit_128 : decode cX2_nextBit 128 = .ok (.iconst 1, 1) := by decide +kernel
theorem dX2_nextBit_129 : decode cX2_nextBit 129 = .ok (.iload_n 1, 1) := by decide +kernel
theorem dX2_nextBit_130 : decode cX2_nextBit 130 = .ok (.invokevirtual 100, 3) := by decide +kernel
theorem dX2_nextBit_133 : decode cX2_nextBit 133 = .ok (.goto 6, 3) := by decide +kernel
theorem dX2_nextBit_136 : decode cX2_nextBit 136 = .ok (.sipush 256, 3) := by decide +kernel
theorem dX2_nextBit_139 : decode cX2_nextBit 139 = .ok (.ireturn, 1) := by decide +kernel
theorem dX2_nextBit_140 : decode cX2_nextBit 140 = .ok (.iload_n 3, 1) := by decide +kernel
theorem dX2_nextBit_141 : decode cX2_nextBit 141 = .ok (.ifCond .ne 21, 3) := by decide +kernel
theorem dX2_nextBit_144 : decode cX2_nextBit 144 = .ok (.iload_n 2, 1) := by decide +kernel
theorem dX2_nextBit_145 : decode cX2_nextBit 145 = .ok (.ifCond .ne 17, 3) := by decide +kernel
theorem dX2_nextBit_148 : decode cX2_nextBit 148 = .ok (.aload_n 0, 1) := by decide +kernel
theorem dX2_nextBit_149 : decode cX2_nextBit 149 = .ok (.dup, 1) := by decide +kernel
theorem dX2_nextBit_150 : decode cX2_nextBit 150 = .ok (.getfield 35, 3) := by decide +kernel
theorem dX2_nextBit_153 : decode cX2_nextBit 153 = .ok (.iload_n 1, 1) := by decide +kernel
theorem dX2_nextBit_154 : decode cX2_nextBit 154 = .ok (.iadd, 1) := by decide +kernel
theorem dX2_nextBit_155 : decode cX2_nextBit 155 = .ok (.putfield 35, 3) := by decide +kernel
theorem dX2_nextBit_158 : decode cX2_nextBit 158 = .ok (.sipush 257, 3) := by decide +kernel
theorem dX2_nextBit_161 : decode cX2_nextBit 161 = .ok (.ireturn, 1) := by decide +kernel
theorem dX2_nextBit_162 : decode cX2_nextBit 162 = .ok (.aload_n 0, 1) := by decide +kernel
theorem dX2_nextBit_163 : decode cX2_nextBit 163 = .ok (.iload_n 3, 1) := by decide +kernel
theorem dX2_nextBit_164 : decode cX2_nextBit 164 = .ok (.iload_n 2, 1) := by decide +kernel
theorem dX2_nextBit_165 : decode cX2_nextBit 165 = .ok (.invokevirtual 103, 3) := by decide +kernel
theorem dX2_nextBit_168 : decode cX2_nextBit 168 = .ok (.ifCond .ne 10, 3) := by decide +kernel
theorem dX2_nextBit_171 : decode cX2_nextBit 171 = .ok (.aload_n 0, 1) := by decide +kernel
theorem dX2_nextBit_172 : decode cX2_nextBit 172 = .ok (.iconst 2, 1) := by decide +kernel
theorem dX2_nextBit_173 : decode cX2_nextBit 173 = .ok (.iload_n 1, 1) := by decide +kernel
theorem dX2_nextBit_174 : decode cX2_nextBit 174 = .ok (.invokevirtual 100, 3) := by decide +kernel
theorem dX2_nextBit_177 : decode cX2_nextBit 177 = .ok (.ireturn, 1) := by decide +kernel
theorem dX2_nextBit_178 : decode cX2_nextBit 178 = .ok (.aload_n 0, 1) := by decide +kernel
theorem dX2_nextBit_179 : decode cX2_nextBit 179 = .ok (.aload_n 0, 1) := by decide +kernel
theorem dX2_nextBit_180 : decode cX2_nextBit 180 = .ok (.getfield 35, 3) := by decide +kernel
theorem dX2_nextBit_183 : decode cX2_nextBit 183 = .ok (.putfield 44, 3) := by decide +kernel
theorem dX2_nextBit_186 : decode cX2_nextBit 186 = .ok (.aload_n 0, 1) := by decide +kernel
theorem dX2_nextBit_187 : decode cX2_nextBit 187 = .ok (.iload_n 2, 1) := by decide +kernel
theorem dX2_nextBit_188 : decode cX2_nextBit 188 = .ok (.putfield 47, 3) := by decide +kernel
theorem dX2_nextBit_191 : decode cX2_nextBit 191 = .ok (.aload_n 0, 1) := by decide +kernel
theorem dX2_nextBit_192 : decode cX2_nextBit 192 = .ok (.dup, 1) := by decide +kernel
theorem dX2_nextBit_193 : decode cX2_nextBit 193 = .ok (.getfield 35, 3) := by decide +kernel
theorem dX2_nextBit_196 : decode cX2_nextBit 196 = .ok (.bipush 7, 2) := by decide +kernel
theorem dX2_nextBit_198 : decode cX2_nextBit 198 = .ok (.iload_n 2, 1) := by decide +kernel
theorem dX2_nextBit_199 : decode cX2_nextBit 199 = .ok (.iadd, 1) := by decide +kernel
theorem dX2_nextBit_200 : decode cX2_nextBit 200 = .ok (.iadd, 1) := by decide +kernel
theorem dX2_nextBit_201 : decode cX2_nextBit 201 = .ok (.putfield 35, 3) := by decide +kernel
theorem dX2_nextBit_204 : decode cX2_nextBit 204 = .ok (.aload_n 0, 1) := by decide +kernel
theorem dX2_nextBit_205 : decode cX2_nextBit 205 = .ok (.getfield 44, 3) := by decide +kernel
theorem dX2_nextBit_208 : decode cX2_nextBit 208 = .ok (.aload_n 0, 1) := by decide +kernel
theorem dX2_nextBit_209 : decode cX2_nextBit 209 = .ok (.getfield 38, 3) := by decide +kernel
theorem dX2_nextBit_212 : decode cX2_nextBit 212 = .ok (.if_icmp .ge 9, 3) := by decide +kernel
theorem dX2_nextBit_215 : decode cX2_nextBit 215 = .ok (.sipush 257, 3) := by decide +kernel
theorem dX2_nextBit_218 : decode cX2_nextBit 218 = .ok (.goto 4, 3) := by decide +kernel
theorem dX2_nextBit_221 : decode cX2_nextBit 221 = .ok (.iload_n 3, 1) := by decide +kernel
theorem dX2_nextBit_222 : decode cX2_nextBit 222 = .ok (.ireturn, 1) := by decide +kernel
set_option maxRecDepth 20000 in
theorem ggX2_isCheckRight_X0_bytes : GoodIn wsX2_isCheckRight wsX0_bytes := goodIn_r _ [7, 8, 40, 41] (by decide +kernel) (by decide +kernel)
set_option maxRecDepth 20000 in
theorem gX2_isCheckRight_X0_bytes : GoodIn wsX2_isCheckRight (wsV RX2 89 RX0 yX0_bytes wsX0_bytes) := goodIn_app (goodIn_of _ (by decide +kernel)) ggX2_isCheckRight_X0_bytes
set_option maxRecDepth 20000 in
theorem ggX2_isCheckRight_X3_numberLowestFirst : GoodIn wsX2_isCheckRight wsX3_numberLowestFirst := goodIn_r _ [13, 14, 15, 16, 12, 17, 18, 19, 42, 43] (by decide +kernel) (by decide +kernel)
set_option maxRecDepth 20000 in
theorem gX2_isCheckRight_X3_numberLowestFirst : GoodIn wsX2_isCheckRight (wsV RX2 93 RX3 yX3_numberLowestFirst wsX3_numberLowestFirst) := goodIn_app (goodIn_of _ (by decide +kernel)) ggX2_isCheckRight_X3_numberLowestFirst
set_option maxRecDepth 20000 in
theorem ggX2_isCheckRight_X4_of : GoodIn wsX2_isCheckRight wsX4_of := goodIn_r _ [23, 24, 25, 26, 22, 27, 28, 29, 15, 16, 12, 17, 18, 19, 42, 43] (by decide +kernel) (by decide +kernel)
set_option maxRecDepth 20000 in
theorem gX2_isCheckRight_X4_of : GoodIn wsX2_isCheckRight (va_wsS RX2 107 yX4_of wsX4_of) := goodIn_app (goodIn_of _ (by decide +kernel)) ggX2_isCheckRight_X4_of
theorem dX2_isCheckRight_0 : decode cX2_isCheckRight 0 = .ok (.aload_n 0, 1) := by decide +kernel
theorem dX2_isCheckRight_1 : decode cX2_isCheckRight 1 = .ok (.getfield 50, 3) := by decide +kernel
theorem dX2_isCheckRight_4 : decode cX2_isCheckRight 4 = .ok (.invokevirtual 89, 3) := by decide +kernel
theorem dX2_isCheckRight_7 : decode cX2_isCheckRight 7 = .ok (.aload_n 0, 1) := by decide +kernel
theorem dX2_isCheckRight_8 : decode cX2_isCheckRight 8 = .ok (.getfield 35, 3) := by decide +kernel
theorem dX2_isCheckRight_11 : decode cX2_isCheckRight 11 = .ok (.iconst 4, 1) := by decide +kernel
theorem dX2_isCheckRight_12 : decode cX2_isCheckRight 12 = .ok (.invokevirtual 93, 3) := by decide +kernel
theorem dX2_isCheckRight_15 : decode cX2_isCheckRight 15 = .ok (.istore_n 3, 1) := by decide +kernel
theorem dX2_isCheckRight_16 : decode cX2_isCheckRight 16 = .ok (.iload_n 3, 1) := by decide +kernel
theorem dX2_isCheckRight_17 : decode cX2_isCheckRight 17 = .ok (.iload_n 1, 1) := by decide +kernel
theorem dX2_isCheckRight_18 : decode cX2_isCheckRight 18 = .ok (.aload_n 0, 1) := by decide +kernel
theorem dX2_isCheckRight_19 : decode cX2_isCheckRight 19 = .ok (.getfield 50, 3) := by decide +kernel
theorem dX2_isCheckRight_22 : decode cX2_isCheckRight 22 = .ok (.invokevirtual 89, 3) := by decide +kernel
theorem dX2_isCheckRight_25 : decode cX2_isCheckRight 25 = .ok (.aload_n 0, 1) := by decide +kernel
theorem dX2_isCheckRight_26 : decode cX2_isCheckRight 26 = .ok (.getfield 35, 3) := by decide +kernel
theorem dX2_isCheckRight_29 : decode cX2_isCheckRight 29 = .ok (.bipush 7, 2) := by decide +kernel
theorem dX2_isCheckRight_31 : decode cX2_isCheckRight 31 = .ok (.iadd, 1) := by decide +kernel
theorem dX2_isCheckRight_32 : decode cX2_isCheckRight 32 = .ok (.iload_n 2, 1) := by decide +kernel
theorem dX2_isCheckRight_33 : decode cX2_isCheckRight 33 = .ok (.invokestatic 107, 3) := by decide +kernel
theorem dX2_isCheckRight_36 : decode cX2_isCheckRight 36 = .ok (.if_icmp .ne 7, 3) := by decide +kernel
theorem dX2_isCheckRight_39 : decode cX2_isCheckRight 39 = .ok (.iconst 1, 1) := by decide +kernel
theorem dX2_isCheckRight_40 : decode cX2_isCheckRight 40 = .ok (.goto 4, 3) := by decide +kernel
theorem dX2_isCheckRight_43 : decode cX2_isCheckRight 43 = .ok (.iconst 0, 1) := by decide +kernel
theorem dX2_isCheckRight_44 : decode cX2_isCheckRight 44 = .ok (.ireturn, 1) := by decide +kernel
set_option maxRecDepth 20000 in
theorem ggX2_breakBlock_X1_tell : GoodIn wsX2_breakBlock wsX1_tell := goodIn_r _ [7, 8, 9, 10, 11, 22, 23, 24, 25] (by decide +kernel) (by decide +kernel)
set_option maxRecDepth 20000 in
theorem gX2_breakBlock_X1_tell : GoodIn wsX2_breakBlock (wsV RX2 113 RX1 yX1_tell wsX1_tell) := goodIn_app (goodIn_of _ (by decide +kernel)) ggX2_breakBlock_X1_tell
theorem dX2_breakBlock_0 : decode cX2_breakBlock 0 = .ok (.aload_n 0, 1) := by decide +kernel
theorem dX2_breakBlock_1 : decode cX2_breakBlock 1 = .ok (.getfield 12, 3) := by decide +kernel
theorem dX2_breakBlock_4 : decode cX2_breakBlock 4 = .ok (.iload_n 1, 1) := by decide +kernel
theorem dX2_breakBlock_5 : decode cX2_breakBlock 5 = .ok (.iload_n 2, 1) := by decide +kernel
theorem dX2_breakBlock_6 : decode cX2_breakBlock 6 = .ok (.invokevirtual 113, 3) := by decide +kernel
theorem dX2_breakBlock_9 : decode cX2_breakBlock 9 = .ok (.aload_n 0, 1) := by decide +kernel
theorem dX2_breakBlock_10 : decode cX2_breakBlock 10 = .ok (.dup, 1) := by decide +kernel
theorem dX2_breakBlock_11 : decode cX2_breakBlock 11 = .ok (.getfield 35, 3) := by decide +kernel
theorem dX2_breakBlock_14 : decode cX2_breakBlock 14 = .ok (.iload_n 2, 1) := by decide +kernel
theorem dX2_breakBlock_15 : decode cX2_breakBlock 15 = .ok (.iadd, 1) := by decide +kernel
theorem dX2_breakBlock_16 : decode cX2_breakBlock 16 = .ok (.putfield 35, 3) := by decide +kernel
theorem dX2_breakBlock_19 : decode cX2_breakBlock 19 = .ok (.sipush 257, 3) := by decide +kernel
theorem dX2_breakBlock_22 : decode cX2_breakBlock 22 = .ok (.ireturn, 1) := by decide +kernel
set_option maxRecDepth 20000 in
theorem ggX2_tear_X3_many : GoodIn wsX2_tear wsX3_many := goodIn_r _ [8, 9, 39, 40] (by decide +kernel) (by decide +kernel)
set_option maxRecDepth 20000 in
theorem gX2_tear_X3_many : GoodIn wsX2_tear (wsV RX2 117 RX3 yX3_many wsX3_many) := goodIn_app (goodIn_of _ (by decide +kernel)) ggX2_tear_X3_many
set_option maxRecDepth 20000 in
theorem ggX2_tear_X1_tell : GoodIn wsX2_tear wsX1_tell := goodIn_r _ [14, 15, 16, 17, 18, 41, 42, 43, 44] (by decide +kernel) (by decide +kernel)
set_option maxRecDepth 20000 in
theorem gX2_tear_X1_tell : GoodIn wsX2_tear (wsV RX2 113 RX1 yX1_tell wsX1_tell) := goodIn_app (goodIn_of _ (by decide +kernel)) ggX2_tear_X1_tell
set_option maxRecDepth 20000 in
theorem ggX2_tear_X2_dropRecord : GoodIn wsX2_tear wsX2_dropRecord := goodIn_r _ [23, 3, 24, 1, 25, 26, 27, 7, 28, 9, 29, 30, 31, 32, 33, 34, 35, 36, 37, 38, 39, 40] (by decide +kernel) (by decide +kernel)
set_option maxRecDepth 20000 in
theorem gX2_tear_X2_dropRecord : GoodIn wsX2_tear (wsV RX2 66 RX2 yX2_dropRecord wsX2_dropRecord) := goodIn_app (goodIn_of _ (by decide +kernel)) ggX2_tear_X2_dropRecord
theorem dX2_tear_0 : decode cX2_tear 0 = .ok (.aload_n 0, 1) := by decide +kernel
theorem dX2_tear_1 : decode cX2_tear 1 = .ok (.getfield 31, 3) := by decide +kernel
theorem dX2_tear_4 : decode cX2_tear 4 = .ok (.ifCond .eq 22, 3) := by decide +kernel
theorem dX2_tear_7 : decode cX2_tear 7 = .ok (.aload_n 0, 1) := by decide +kernel
theorem dX2_tear_8 : decode cX2_tear 8 = .ok (.getfield 12, 3) := by decide +kernel
theorem dX2_tear_11 : decode cX2_tear 11 = .ok (.iconst 3, 1) := by decide +kernel
theorem dX2_tear_12 : decode cX2_tear 12 = .ok (.aload_n 0, 1) := by decide +kernel
theorem dX2_tear_13 : decode cX2_tear 13 = .ok (.getfield 23, 3) := by decide +kernel
theorem dX2_tear_16 : decode cX2_tear 16 = .ok (.invokevirtual 117, 3) := by decide +kernel
theorem dX2_tear_19 : decode cX2_tear 19 = .ok (.invokevirtual 113, 3) := by decide +kernel
theorem dX2_tear_22 : decode cX2_tear 22 = .ok (.aload_n 0, 1) := by decide +kernel
theorem dX2_tear_23 : decode cX2_tear 23 = .ok (.invokevirtual 66, 3) := by decide +kernel
theorem dX2_tear_26 : decode cX2_tear 26 = .ok (.return_, 1) := by decide +kernel
theorem dX2_passesOver_0 : decode cX2_passesOver 0 = .ok (.aload_n 0, 1) := by decide +kernel
theorem dX2_passesOver_1 : decode cX2_passesOver 1 = .ok (.getfield 41, 3) := by decide +kernel
theorem dX2_passesOver_4 : decode cX2_passesOver 4 = .ok (.ifCond .ne 5, 3) := by decide +kernel
theorem dX2_passesOver_7 : decode cX2_passesOver 7 = .ok (.iconst 0, 1) := by decide +kernel
theorem dX2_passesOver_8 : decode cX2_passesOver 8 = .ok (.ireturn, 1) := by decide +kernel
theorem dX2_passesOver_9 : decode cX2_passesOver 9 = .ok (.aload_n 0, 1) := by decide +kernel
theorem dX2_passesOver_10 : decode cX2_passesOver 10 = .ok (.iload_n 1, 1) := by decide +kernel
theorem dX2_passesOver_11 : decode cX2_passesOver 11 = .ok (.iconst 3, 1) := by decide +kernel
theorem dX2_passesOver_12 : decode cX2_passesOver 12 = .ok (.if_icmp .ne 7, 3) := by decide +kernel
theorem dX2_passesOver_15 : decode cX2_passesOver 15 = .ok (.iconst 1, 1) := by decide +kernel
theorem dX2_passesOver_16 : decode cX2_passesOver 16 = .ok (.goto 4, 3) := by decide +kernel
theorem dX2_passesOver_19 : decode cX2_passesOver 19 = .ok (.iconst 0, 1) := by decide +kernel
theorem dX2_passesOver_20 : decode cX2_passesOver 20 = .ok (.putfield 41, 3) := by decide +kernel
theorem dX2_passesOver_23 : decode cX2_passesOver 23 = .ok (.iload_n 1, 1) := by decide +kernel
theorem dX2_passesOver_24 : decode cX2_passesOver 24 = .ok (.iconst 3, 1) := by decide +kernel
theorem dX2_passesOver_25 : decode cX2_passesOver 25 = .ok (.if_icmp .eq 8, 3) := by decide +kernel
theorem dX2_passesOver_28 : decode cX2_passesOver 28 = .ok (.iload_n 1, 1) := by decide +kernel
theorem dX2_passesOver_29 : decode cX2_passesOver 29 = .ok (.iconst 4, 1) := by decide +kernel
theorem dX2_passesOver_30 : decode cX2_passesOver 30 = .ok (.if_icmp .ne 7, 3) := by decide +kernel
theorem dX2_passesOver_33 : decode cX2_passesOver 33 = .ok (.iconst 1, 1) := by decide +kernel
theorem dX2_passesOver_34 : decode cX2_passesOver 34 = .ok (.goto 4, 3) := by decide +kernel
theorem dX2_passesOver_37 : decode cX2_passesOver 37 = .ok (.iconst 0, 1) := by decide +kernel
theorem dX2_passesOver_38 : decode cX2_passesOver 38 = .ok (.ireturn, 1) := by decide +kernel
set_option maxRecDepth 20000 in
theorem ggX2_takeFragment_X2_startRecord : GoodIn wsX2_takeFragment wsX2_startRecord := goodIn_r _ [8, 3, 1, 9, 10, 11, 12, 13, 14, 15, 16, 17, 18, 19, 20, 21, 22, 23, 24, 25, 26, 27, 28, 29, 7, 30, 31, 32, 33, 34, 35, 36, 37, 38, 39, 2, 40, 41, 42, 43, 44, 45, 46, 47, 48, 49, 50, 51, 52, 53, 54, 55, 56, 57, 58, 63, 64, 65, 66, 67, 68, 69, 70, 71, 72, 73, 74, 75, 76, 77, 78, 79, 80] (by decide +kernel) (by decide +kernel)
set_option maxRecDepth 20000 in
theorem gX2_takeFragment_X2_startRecord : GoodIn wsX2_takeFragment (wsV RX2 120 RX2 yX2_startRecord wsX2_startRecord) := goodIn_app (goodIn_of _ (by decide +kernel)) ggX2_takeFragment_X2_startRecord
set_option maxRecDepth 20000 in
theorem ggX2_takeFragment_X2_goOnWithRecord : GoodIn wsX2_takeFragment wsX2_goOnWithRecord := goodIn_r _ [62, 11, 1, 2, 18, 19, 20, 21, 22, 23, 24, 25, 26, 35, 36, 37, 7, 38, 3, 39, 9, 40, 41, 42, 43, 44, 45, 46, 47, 48, 15, 49, 50, 51, 52, 53, 17, 54, 55, 56, 57, 58, 63, 64, 65, 66, 67, 68, 69, 70, 71, 72, 75, 76, 77, 78, 79, 80, 73, 74] (by decide +kernel) (by decide +kernel)
set_option maxRecDepth 20000 in
theorem gX2_takeFragment_X2_goOnWithRecord : GoodIn wsX2_takeFragment (wsV RX2 123 RX2 yX2_goOnWithRecord wsX2_goOnWithRecord) := goodIn_app (goodIn_of _ (by decide +kernel)) ggX2_takeFragment_X2_goOnWithRecord
set_option maxRecDepth 20000 in
theorem ggX2_takeFragment_X3_many : GoodIn wsX2_takeFragment wsX3_many := goodIn_r _ [16, 17, 73, 74] (by decide +kernel) (by decide +kernel)
set_option maxRecDepth 20000 in
theorem gX2_takeFragment_X3_many : GoodIn wsX2_takeFragment (wsV RX2 117 RX3 yX3_many wsX3_many) := goodIn_app (goodIn_of _ (by decide +kernel)) ggX2_takeFragment_X3_many
set_option maxRecDepth 20000 in
theorem ggX2_takeFragment_X1_tell : GoodIn wsX2_takeFragment wsX1_tell := goodIn_r _ [22, 23, 24, 25, 26, 75, 76, 77, 78] (by decide +kernel) (by decide +kernel)
set_option maxRecDepth 20000 in
theorem gX2_takeFragment_X1_tell : GoodIn wsX2_takeFragment (wsV RX2 113 RX1 yX1_tell wsX1_tell) := goodIn_app (goodIn_of _ (by decide +kernel)) ggX2_takeFragment_X1_tell
set_option maxRecDepth 20000 in
theorem ggX2_takeFragment_X2_dropRecord : GoodIn wsX2_takeFragment wsX2_dropRecord := goodIn_r _ [30, 3, 10, 11, 31, 32, 33, 15, 34, 17, 63, 64, 65, 66, 67, 68, 69, 70, 71, 72, 73, 74] (by decide +kernel) (by decide +kernel)
set_option maxRecDepth 20000 in
theorem gX2_takeFragment_X2_dropRecord : GoodIn wsX2_takeFragment (wsV RX2 66 RX2 yX2_dropRecord wsX2_dropRecord) := goodIn_app (goodIn_of _ (by decide +kernel)) ggX2_takeFragment_X2_dropRecord
theorem dX2_takeFragment_0 : decode cX2_takeFragment 0 = .ok (.iload_n 1, 1) := by decide +kernel
theorem dX2_takeFragment_1 : decode cX2_takeFragment 1 = .ok (.tableswitch 55 1 4 #[31, 37, 43, 50], 31) := by decide +kernel
theorem dX2_takeFragment_32 : decode cX2_takeFragment 32 = .ok (.aload_n 0, 1) := by decide +kernel
theorem dX2_takeFragment_33 : decode cX2_takeFragment 33 = .ok (.invokevirtual 120, 3) := by decide +kernel
theorem dX2_takeFragment_36 : decode cX2_takeFragment 36 = .ok (.iconst 1, 1) := by decide +kernel
theorem dX2_takeFragment_37 : decode cX2_takeFragment 37 = .ok (.ireturn, 1) := by decide +kernel
theorem dX2_takeFragment_38 : decode cX2_takeFragment 38 = .ok (.aload_n 0, 1) := by decide +kernel
theorem dX2_takeFragment_39 : decode cX2_takeFragment 39 = .ok (.invokevirtual 120, 3) := by decide +kernel
theorem dX2_takeFragment_42 : decode cX2_takeFragment 42 = .ok (.iconst 0, 1) := by decide +kernel
theorem dX2_takeFragment_43 : decode cX2_takeFragment 43 = .ok (.ireturn, 1) := by decide +kernel
theorem dX2_takeFragment_44 : decode cX2_takeFragment 44 = .ok (.aload_n 0, 1) := by decide +kernel
theorem dX2_takeFragment_45 : decode cX2_takeFragment 45 = .ok (.invokevirtual 123, 3) := by decide +kernel
theorem dX2_takeFragment_48 : decode cX2_takeFragment 48 = .ok (.pop, 1) := by decide +kernel
theorem dX2_takeFragment_49 : decode cX2_takeFragment 49 = .ok (.iconst 0, 1) := by decide +kernel
theorem dX2_takeFragment_50 : decode cX2_takeFragment 50 = .ok (.ireturn, 1) := by decide +kernel
theorem dX2_takeFragment_51 : decode cX2_takeFragment 51 = .ok (.aload_n 0, 1) := by decide +kernel
theorem dX2_takeFragment_52 : decode cX2_takeFragment 52 = .ok (.invokevirtual 123, 3) := by decide +kernel
theorem dX2_takeFragment_55 : decode cX2_takeFragment 55 = .ok (.ireturn, 1) := by decide +kernel
theorem dX2_takeFragment_56 : decode cX2_takeFragment 56 = .ok (.aload_n 0, 1) := by decide +kernel
theorem dX2_takeFragment_57 : decode cX2_takeFragment 57 = .ok (.getfield 12, 3) := by decide +kernel
theorem dX2_takeFragment_60 : decode cX2_takeFragment 60 = .ok (.bipush 6, 2) := by decide +kernel
theorem dX2_takeFragment_62 : decode cX2_takeFragment 62 = .ok (.aload_n 0, 1) := by decide +kernel
theorem dX2_takeFragment_63 : decode cX2_takeFragment 63 = .ok (.getfield 47, 3) := by decide +kernel
theorem dX2_takeFragment_66 : decode cX2_takeFragment 66 = .ok (.aload_n 0, 1) := by decide +kernel
theorem dX2_takeFragment_67 : decode cX2_takeFragment 67 = .ok (.getfield 23, 3) := by decide +kernel
theorem dX2_takeFragment_70 : decode cX2_takeFragment 70 = .ok (.invokevirtual 117, 3) := by decide +kernel
theorem dX2_takeFragment_73 : decode cX2_takeFragment 73 = .ok (.iadd, 1) := by decide +kernel
theorem dX2_takeFragment_74 : decode cX2_takeFragment 74 = .ok (.invokevirtual 113, 3) := by decide +kernel
theorem dX2_takeFragment_77 : decode cX2_takeFragment 77 = .ok (.aload_n 0, 1) := by decide +kernel
theorem dX2_takeFragment_78 : decode cX2_takeFragment 78 = .ok (.invokevirtual 66, 3) := by decide +kernel
theorem dX2_takeFragment_81 : decode cX2_takeFragment 81 = .ok (.iconst 0, 1) := by decide +kernel
theorem dX2_takeFragment_82 : decode cX2_takeFragment 82 = .ok (.ireturn, 1) := by decide +kernel
set_option maxRecDepth 20000 in
theorem ggX2_startRecord_X3_many : GoodIn wsX2_startRecord wsX3_many := goodIn_r _ [10, 11, 65, 66] (by decide +kernel) (by decide +kernel)
set_option maxRecDepth 20000 in
theorem gX2_startRecord_X3_many : GoodIn wsX2_startRecord (wsV RX2 117 RX3 yX3_many wsX3_many) := goodIn_app (goodIn_of _ (by decide +kernel)) ggX2_startRecord_X3_many
set_option maxRecDepth 20000 in
theorem ggX2_startRecord_X1_tell : GoodIn wsX2_startRecord wsX1_tell := goodIn_r _ [16, 17, 18, 19, 20, 67, 68, 69, 70] (by decide +kernel) (by decide +kernel)
set_option maxRecDepth 20000 in
theorem gX2_startRecord_X1_tell : GoodIn wsX2_startRecord (wsV RX2 113 RX1 yX1_tell wsX1_tell) := goodIn_app (goodIn_of _ (by decide +kernel)) ggX2_startRecord_X1_tell
set_option maxRecDepth 20000 in
theorem ggX2_startRecord_X2_dropRecord : GoodIn wsX2_startRecord wsX2_dropRecord := goodIn_r _ [25, 1, 4, 5, 26, 27, 28, 9, 29, 11, 55, 56, 57, 58, 59, 60, 61, 62, 63, 64, 65, 66] (by decide +kernel) (by decide +kernel)
set_option maxRecDepth 20000 in
theorem gX2_startRecord_X2_dropRecord : GoodIn wsX2_startRecord (wsV RX2 66 RX2 yX2_dropRecord wsX2_dropRecord) := goodIn_app (goodIn_of _ (by decide +kernel)) ggX2_startRecord_X2_dropRecord
set_option maxRecDepth 20000 in
theorem ggX2_startRecord_X2_addFragmentBytes : GoodIn wsX2_startRecord wsX2_addFragmentBytes := goodIn_r _ [33, 1, 34, 3, 35, 36, 37, 38, 39, 40, 41, 42, 43, 44, 9, 45, 46, 47, 48, 49, 11, 50, 51, 52, 53, 54, 55, 56, 57, 58, 59, 60, 61, 62, 63, 64, 71, 72, 65, 66] (by decide +kernel) (by decide +kernel)
set_option maxRecDepth 20000 in
theorem gX2_startRecord_X2_addFragmentBytes : GoodIn wsX2_startRecord (wsV RX2 127 RX2 yX2_addFragmentBytes wsX2_addFragmentBytes) := goodIn_app (goodIn_of _ (by decide +kernel)) ggX2_startRecord_X2_addFragmentBytes
theorem dX2_startRecord_0 : decode cX2_startRecord 0 = .ok (.aload_n 0, 1) := by decide +kernel
theorem dX2_startRecord_1 : decode cX2_startRecord 1 = .ok (.getfield 23, 3) := by decide +kernel
theorem dX2_startRecord_4 : decode cX2_startRecord 4 = .ok (.invokevirtual 117, 3) := by decide +kernel
theorem dX2_startRecord_7 : decode cX2_startRecord 7 = .ok (.ifCond .le 18, 3) := by decide +kernel
theorem dX2_startRecord_10 : decode cX2_startRecord 10 = .ok (.aload_n 0, 1) := by decide +kernel
theorem dX2_startRecord_11 : decode cX2_startRecord 11 = .ok (.getfield 12, 3) := by decide +kernel
theorem dX2_startRecord_14 : decode cX2_startRecord 14 = .ok (.iconst 4, 1) := by decide +kernel
theorem dX2_startRecord_15 : decode cX2_startRecord 15 = .ok (.aload_n 0, 1) := by decide +kernel
theorem dX2_startRecord_16 : decode cX2_startRecord 16 = .ok (.getfield 23, 3) := by decide +kernel
theorem dX2_startRecord_19 : decode cX2_startRecord 19 = .ok (.invokevirtual 117, 3) := by decide +kernel
theorem dX2_startRecord_22 : decode cX2_startRecord 22 = .ok (.invokevirtual 113, 3) := by decide +kernel
theorem dX2_startRecord_25 : decode cX2_startRecord 25 = .ok (.aload_n 0, 1) := by decide +kernel
theorem dX2_startRecord_26 : decode cX2_startRecord 26 = .ok (.invokevirtual 66, 3) := by decide +kernel
theorem dX2_startRecord_29 : decode cX2_startRecord 29 = .ok (.aload_n 0, 1) := by decide +kernel
theorem dX2_startRecord_30 : decode cX2_startRecord 30 = .ok (.aload_n 0, 1) := by decide +kernel
theorem dX2_startRecord_31 : decode cX2_startRecord 31 = .ok (.getfield 44, 3) := by decide +kernel
theorem dX2_startRecord_34 : decode cX2_startRecord 34 = .ok (.putfield 27, 3) := by decide +kernel
theorem dX2_startRecord_37 : decode cX2_startRecord 37 = .ok (.aload_n 0, 1) := by decide +kernel
theorem dX2_startRecord_38 : decode cX2_startRecord 38 = .ok (.iconst 1, 1) := by decide +kernel
