theorem dX2_startRecord_39 : decode cX2_startRecord 39 = .ok (.putfield 31, 3) := by decide +kernel
theorem dX2_startRecord_42 : decode cX2_startRecord 42 = .ok (.aload_n 0, 1) := by decide +kernel
theorem dX2_startRecord_43 : decode cX2_startRecord 43 = .ok (.invokevirtual 127, 3) := by decide +kernel
theorem dX2_startRecord_46 : decode cX2_startRecord 46 = .ok (.return_, 1) := by decide +kernel
set_option maxRecDepth 20000 in
theorem ggX2_goOnWithRecord_X1_tell : GoodIn wsX2_goOnWithRecord wsX1_tell := goodIn_r _ [8, 9, 10, 11, 12, 52, 53, 54, 55] (by decide +kernel) (by decide +kernel)
set_option maxRecDepth 20000 in
theorem gX2_goOnWithRecord_X1_tell : GoodIn wsX2_goOnWithRecord (wsV RX2 113 RX1 yX1_tell wsX1_tell) := goodIn_app (goodIn_of _ (by decide +kernel)) ggX2_goOnWithRecord_X1_tell
set_option maxRecDepth 20000 in
theorem ggX2_goOnWithRecord_X2_addFragmentBytes : GoodIn wsX2_goOnWithRecord wsX2_addFragmentBytes := goodIn_r _ [17, 18, 19, 20, 3, 21, 22, 23, 24, 25, 26, 27, 28, 29, 30, 31, 32, 33, 34, 35, 36, 37, 38, 39, 40, 41, 42, 43, 44, 45, 46, 47, 48, 49, 50, 51, 56, 57, 58, 59] (by decide +kernel) (by decide +kernel)
set_option maxRecDepth 20000 in
theorem gX2_goOnWithRecord_X2_addFragmentBytes : GoodIn wsX2_goOnWithRecord (wsV RX2 127 RX2 yX2_addFragmentBytes wsX2_addFragmentBytes) := goodIn_app (goodIn_of _ (by decide +kernel)) ggX2_goOnWithRecord_X2_addFragmentBytes
theorem dX2_goOnWithRecord_0 : decode cX2_goOnWithRecord 0 = .ok (.aload_n 0, 1) := by decide +kernel
theorem dX2_goOnWithRecord_1 : decode cX2_goOnWithRecord 1 = .ok (.getfield 31, 3) := by decide +kernel
theorem dX2_goOnWithRecord_4 : decode cX2_goOnWithRecord 4 = .ok (.ifCond .ne 17, 3) := by decide +kernel
theorem dX2_goOnWithRecord_7 : decode cX2_goOnWithRecord 7 = .ok (.aload_n 0, 1) := by decide +kernel
theorem dX2_goOnWithRecord_8 : decode cX2_goOnWithRecord 8 = .ok (.getfield 12, 3) := by decide +kernel
theorem dX2_goOnWithRecord_11 : decode cX2_goOnWithRecord 11 = .ok (.iconst 5, 1) := by decide +kernel
theorem dX2_goOnWithRecord_12 : decode cX2_goOnWithRecord 12 = .ok (.aload_n 0, 1) := by decide +kernel
theorem dX2_goOnWithRecord_13 : decode cX2_goOnWithRecord 13 = .ok (.getfield 47, 3) := by decide +kernel
theorem dX2_goOnWithRecord_16 : decode cX2_goOnWithRecord 16 = .ok (.invokevirtual 113, 3) := by decide +kernel
theorem dX2_goOnWithRecord_19 : decode cX2_goOnWithRecord 19 = .ok (.iconst 0, 1) := by decide +kernel
theorem dX2_goOnWithRecord_20 : decode cX2_goOnWithRecord 20 = .ok (.ireturn, 1) := by decide +kernel
theorem dX2_goOnWithRecord_21 : decode cX2_goOnWithRecord 21 = .ok (.aload_n 0, 1) := by decide +kernel
theorem dX2_goOnWithRecord_22 : decode cX2_goOnWithRecord 22 = .ok (.invokevirtual 127, 3) := by decide +kernel
theorem dX2_goOnWithRecord_25 : decode cX2_goOnWithRecord 25 = .ok (.iconst 1, 1) := by decide +kernel
theorem dX2_goOnWithRecord_26 : decode cX2_goOnWithRecord 26 = .ok (.ireturn, 1) := by decide +kernel
set_option maxRecDepth 20000 in
theorem ggX2_addFragmentBytes_X0_bytes : GoodIn wsX2_addFragmentBytes wsX0_bytes := goodIn_r _ [9, 10, 36, 37] (by decide +kernel) (by decide +kernel)
set_option maxRecDepth 20000 in
theorem gX2_addFragmentBytes_X0_bytes : GoodIn wsX2_addFragmentBytes (wsV RX2 89 RX0 yX0_bytes wsX0_bytes) := goodIn_app (goodIn_of _ (by decide +kernel)) ggX2_addFragmentBytes_X0_bytes
set_option maxRecDepth 20000 in
theorem ggX2_addFragmentBytes_X3_addPart : GoodIn wsX2_addFragmentBytes wsX3_addPart := goodIn_r _ [15, 16, 17, 18, 14, 19, 20, 21, 22, 23, 24, 25, 38, 39] (by decide +kernel) (by decide +kernel)
set_option maxRecDepth 20000 in
theorem gX2_addFragmentBytes_X3_addPart : GoodIn wsX2_addFragmentBytes (wsV RX2 130 RX3 yX3_addPart wsX3_addPart) := goodIn_app (goodIn_of _ (by decide +kernel)) ggX2_addFragmentBytes_X3_addPart
theorem dX2_addFragmentBytes_0 : decode cX2_addFragmentBytes 0 = .ok (.aload_n 0, 1) := by decide +kernel
theorem dX2_addFragmentBytes_1 : decode cX2_addFragmentBytes 1 = .ok (.getfield 23, 3) := by decide +kernel
theorem dX2_addFragmentBytes_4 : decode cX2_addFragmentBytes 4 = .ok (.aload_n 0, 1) := by decide +kernel
theorem dX2_addFragmentBytes_5 : decode cX2_addFragmentBytes 5 = .ok (.getfield 50, 3) := by decide +kernel
theorem dX2_addFragmentBytes_8 : decode cX2_addFragmentBytes 8 = .ok (.invokevirtual 89, 3) := by decide +kernel
theorem dX2_addFragmentBytes_11 : decode cX2_addFragmentBytes 11 = .ok (.aload_n 0, 1) := by decide +kernel
theorem dX2_addFragmentBytes_12 : decode cX2_addFragmentBytes 12 = .ok (.getfield 44, 3) := by decide +kernel
theorem dX2_addFragmentBytes_15 : decode cX2_addFragmentBytes 15 = .ok (.bipush 7, 2) := by decide +kernel
theorem dX2_addFragmentBytes_17 : decode cX2_addFragmentBytes 17 = .ok (.iadd, 1) := by decide +kernel
theorem dX2_addFragmentBytes_18 : decode cX2_addFragmentBytes 18 = .ok (.aload_n 0, 1) := by decide +kernel
theorem dX2_addFragmentBytes_19 : decode cX2_addFragmentBytes 19 = .ok (.getfield 47, 3) := by decide +kernel
theorem dX2_addFragmentBytes_22 : decode cX2_addFragmentBytes 22 = .ok (.invokevirtual 130, 3) := by decide +kernel
theorem dX2_addFragmentBytes_25 : decode cX2_addFragmentBytes 25 = .ok (.return_, 1) := by decide +kernel
set_option maxRecDepth 20000 in
theorem ggX2_dropRecord_X3_shorten : GoodIn wsX2_dropRecord wsX3_shorten := goodIn_r _ [8, 9, 20, 21] (by decide +kernel) (by decide +kernel)
set_option maxRecDepth 20000 in
theorem gX2_dropRecord_X3_shorten : GoodIn wsX2_dropRecord (wsV RX2 134 RX3 yX3_shorten wsX3_shorten) := goodIn_app (goodIn_of _ (by decide +kernel)) ggX2_dropRecord_X3_shorten
theorem dX2_dropRecord_0 : decode cX2_dropRecord 0 = .ok (.aload_n 0, 1) := by decide +kernel
theorem dX2_dropRecord_1 : decode cX2_dropRecord 1 = .ok (.getfield 23, 3) := by decide +kernel
theorem dX2_dropRecord_4 : decode cX2_dropRecord 4 = .ok (.iconst 0, 1) := by decide +kernel
theorem dX2_dropRecord_5 : decode cX2_dropRecord 5 = .ok (.invokevirtual 134, 3) := by decide +kernel
theorem dX2_dropRecord_8 : decode cX2_dropRecord 8 = .ok (.aload_n 0, 1) := by decide +kernel
theorem dX2_dropRecord_9 : decode cX2_dropRecord 9 = .ok (.iconst (-1), 1) := by decide +kernel
theorem dX2_dropRecord_10 : decode cX2_dropRecord 10 = .ok (.putfield 27, 3) := by decide +kernel
theorem dX2_dropRecord_13 : decode cX2_dropRecord 13 = .ok (.aload_n 0, 1) := by decide +kernel
theorem dX2_dropRecord_14 : decode cX2_dropRecord 14 = .ok (.iconst 0, 1) := by decide +kernel
theorem dX2_dropRecord_15 : decode cX2_dropRecord 15 = .ok (.putfield 31, 3) := by decide +kernel
theorem dX2_dropRecord_18 : decode cX2_dropRecord 18 = .ok (.return_, 1) := by decide +kernel
