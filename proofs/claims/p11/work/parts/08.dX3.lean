theorem dX3_init_0 : decode cX3_init 0 = .ok (.aload_n 0, 1) := by decide +kernel
theorem dX3_init_1 : decode cX3_init 1 = .ok (.invokespecial 3, 3) := by decide +kernel
theorem dX3_init_4 : decode cX3_init 4 = .ok (.aload_n 0, 1) := by decide +kernel
theorem dX3_init_5 : decode cX3_init 5 = .ok (.iload_n 1, 1) := by decide +kernel
theorem dX3_init_6 : decode cX3_init 6 = .ok (.newarray .byte, 2) := by decide +kernel
theorem dX3_init_8 : decode cX3_init 8 = .ok (.putfield 9, 3) := by decide +kernel
theorem dX3_init_11 : decode cX3_init 11 = .ok (.aload_n 0, 1) := by decide +kernel
theorem dX3_init_12 : decode cX3_init 12 = .ok (.iconst 0, 1) := by decide +kernel
theorem dX3_init_13 : decode cX3_init 13 = .ok (.putfield 15, 3) := by decide +kernel
theorem dX3_init_16 : decode cX3_init 16 = .ok (.return_, 1) := by decide +kernel
theorem dX3_many_0 : decode cX3_many 0 = .ok (.aload_n 0, 1) := by decide +kernel
theorem dX3_many_1 : decode cX3_many 1 = .ok (.getfield 15, 3) := by decide +kernel
theorem dX3_many_4 : decode cX3_many 4 = .ok (.ireturn, 1) := by decide +kernel
theorem dX3_hasRoomFor_0 : decode cX3_hasRoomFor 0 = .ok (.iload_n 1, 1) := by decide +kernel
theorem dX3_hasRoomFor_1 : decode cX3_hasRoomFor 1 = .ok (.aload_n 0, 1) := by decide +kernel
theorem dX3_hasRoomFor_2 : decode cX3_hasRoomFor 2 = .ok (.getfield 9, 3) := by decide +kernel
theorem dX3_hasRoomFor_5 : decode cX3_hasRoomFor 5 = .ok (.arraylength, 1) := by decide +kernel
theorem dX3_hasRoomFor_6 : decode cX3_hasRoomFor 6 = .ok (.aload_n 0, 1) := by decide +kernel
theorem dX3_hasRoomFor_7 : decode cX3_hasRoomFor 7 = .ok (.getfield 15, 3) := by decide +kernel
theorem dX3_hasRoomFor_10 : decode cX3_hasRoomFor 10 = .ok (.isub, 1) := by decide +kernel
theorem dX3_hasRoomFor_11 : decode cX3_hasRoomFor 11 = .ok (.if_icmp .gt 7, 3) := by decide +kernel
theorem dX3_hasRoomFor_14 : decode cX3_hasRoomFor 14 = .ok (.iconst 1, 1) := by decide +kernel
theorem dX3_hasRoomFor_15 : decode cX3_hasRoomFor 15 = .ok (.goto 4, 3) := by decide +kernel
theorem dX3_hasRoomFor_18 : decode cX3_hasRoomFor 18 = .ok (.iconst 0, 1) := by decide +kernel
theorem dX3_hasRoomFor_19 : decode cX3_hasRoomFor 19 = .ok (.ireturn, 1) := by decide +kernel
theorem dX3_has_0 : decode cX3_has 0 = .ok (.iload_n 1, 1) := by decide +kernel
theorem dX3_has_1 : decode cX3_has 1 = .ok (.ifCond .lt 15, 3) := by decide +kernel
theorem dX3_has_4 : decode cX3_has 4 = .ok (.iload_n 1, 1) := by decide +kernel
theorem dX3_has_5 : decode cX3_has 5 = .ok (.aload_n 0, 1) := by decide +kernel
theorem dX3_has_6 : decode cX3_has 6 = .ok (.getfield 15, 3) := by decide +kernel
theorem dX3_has_9 : decode cX3_has 9 = .ok (.if_icmp .ge 7, 3) := by decide +kernel
theorem dX3_has_12 : decode cX3_has 12 = .ok (.iconst 1, 1) := by decide +kernel
theorem dX3_has_13 : decode cX3_has 13 = .ok (.goto 4, 3) := by decide +kernel
theorem dX3_has_16 : decode cX3_has 16 = .ok (.iconst 0, 1) := by decide +kernel
theorem dX3_has_17 : decode cX3_has 17 = .ok (.ireturn, 1) := by decide +kernel
theorem dX3_at_0 : decode cX3_at 0 = .ok (.iload_n 1, 1) := by decide +kernel
theorem dX3_at_1 : decode cX3_at 1 = .ok (.ifCond .lt 24, 3) := by decide +kernel
theorem dX3_at_4 : decode cX3_at 4 = .ok (.iload_n 1, 1) := by decide +kernel
theorem dX3_at_5 : decode cX3_at 5 = .ok (.aload_n 0, 1) := by decide +kernel
theorem dX3_at_6 : decode cX3_at 6 = .ok (.getfield 15, 3) := by decide +kernel
theorem dX3_at_9 : decode cX3_at 9 = .ok (.if_icmp .ge 16, 3) := by decide +kernel
theorem dX3_at_12 : decode cX3_at 12 = .ok (.aload_n 0, 1) := by decide +kernel
theorem dX3_at_13 : decode cX3_at 13 = .ok (.getfield 9, 3) := by decide +kernel
theorem dX3_at_16 : decode cX3_at 16 = .ok (.iload_n 1, 1) := by decide +kernel
theorem dX3_at_17 : decode cX3_at 17 = .ok (.baload, 1) := by decide +kernel
theorem dX3_at_18 : decode cX3_at 18 = .ok (.sipush 255, 3) := by decide +kernel
theorem dX3_at_21 : decode cX3_at 21 = .ok (.iand, 1) := by decide +kernel
theorem dX3_at_22 : decode cX3_at 22 = .ok (.goto 4, 3) := by decide +kernel
theorem dX3_at_25 : decode cX3_at 25 = .ok (.iconst (-1), 1) := by decide +kernel
theorem dX3_at_26 : decode cX3_at 26 = .ok (.ireturn, 1) := by decide +kernel
theorem dX3_add_0 : decode cX3_add 0 = .ok (.aload_n 0, 1) := by decide +kernel
theorem dX3_add_1 : decode cX3_add 1 = .ok (.getfield 15, 3) := by decide +kernel
theorem dX3_add_4 : decode cX3_add 4 = .ok (.aload_n 0, 1) := by decide +kernel
theorem dX3_add_5 : decode cX3_add 5 = .ok (.getfield 9, 3) := by decide +kernel
theorem dX3_add_8 : decode cX3_add 8 = .ok (.arraylength, 1) := by decide +kernel
theorem dX3_add_9 : decode cX3_add 9 = .ok (.if_icmp .ge 24, 3) := by decide +kernel
theorem dX3_add_12 : decode cX3_add 12 = .ok (.aload_n 0, 1) := by decide +kernel
theorem dX3_add_13 : decode cX3_add 13 = .ok (.getfield 9, 3) := by decide +kernel
theorem dX3_add_16 : decode cX3_add 16 = .ok (.aload_n 0, 1) := by decide +kernel
theorem dX3_add_17 : decode cX3_add 17 = .ok (.getfield 15, 3) := by decide +kernel
theorem dX3_add_20 : decode cX3_add 20 = .ok (.iload_n 1, 1) := by decide +kernel
theorem dX3_add_21 : decode cX3_add 21 = .ok (.i2b, 1) := by decide +kernel
theorem dX3_add_22 : decode cX3_add 22 = .ok (.bastore, 1) := by decide +kernel
theorem dX3_add_23 : decode cX3_add 23 = .ok (.aload_n 0, 1) := by decide +kernel
theorem dX3_add_24 : decode cX3_add 24 = .ok (.dup, 1) := by decide +kernel
theorem dX3_add_25 : decode cX3_add 25 = .ok (.getfield 15, 3) := by decide +kernel
theorem dX3_add_28 : decode cX3_add 28 = .ok (.iconst 1, 1) := by decide +kernel
theorem dX3_add_29 : decode cX3_add 29 = .ok (.iadd, 1) := by decide +kernel
theorem dX3_add_30 : decode cX3_add 30 = .ok (.putfield 15, 3) := by decide +kernel
theorem dX3_add_33 : decode cX3_add 33 = .ok (.return_, 1) := by decide +kernel
set_option maxRecDepth 20000 in
theorem ggX3_addLowestFirst_X3_add : GoodIn wsX3_addLowestFirst wsX3_add := goodIn_r _ [5, 6, 7, 8, 9] (by decide +kernel) (by decide +kernel)
set_option maxRecDepth 20000 in
theorem gX3_addLowestFirst_X3_add : GoodIn wsX3_addLowestFirst (wsV RX3 19 RX3 yX3_add wsX3_add) := goodIn_app (goodIn_of _ (by decide +kernel)) ggX3_addLowestFirst_X3_add
theorem dX3_addLowestFirst_0 : decode cX3_addLowestFirst 0 = .ok (.iconst 0, 1) := by decide +kernel
theorem dX3_addLowestFirst_1 : decode cX3_addLowestFirst 1 = .ok (.istore_n 3, 1) := by decide +kernel
theorem dX3_addLowestFirst_2 : decode cX3_addLowestFirst 2 = .ok (.iload_n 3, 1) := by decide +kernel
theorem dX3_addLowestFirst_3 : decode cX3_addLowestFirst 3 = .ok (.iload_n 2, 1) := by decide +kernel
theorem dX3_addLowestFirst_4 : decode cX3_addLowestFirst 4 = .ok (.if_icmp .ge 19, 3) := by decide +kernel
theorem dX3_addLowestFirst_7 : decode cX3_addLowestFirst 7 = .ok (.aload_n 0, 1) := by decide +kernel
theorem dX3_addLowestFirst_8 : decode cX3_addLowestFirst 8 = .ok (.iload_n 1, 1) := by decide +kernel
theorem dX3_addLowestFirst_9 : decode cX3_addLowestFirst 9 = .ok (.bipush 8, 2) := by decide +kernel
theorem dX3_addLowestFirst_11 : decode cX3_addLowestFirst 11 = .ok (.iload_n 3, 1) := by decide +kernel
theorem dX3_addLowestFirst_12 : decode cX3_addLowestFirst 12 = .ok (.imul, 1) := by decide +kernel
theorem dX3_addLowestFirst_13 : decode cX3_addLowestFirst 13 = .ok (.iushr, 1) := by decide +kernel
theorem dX3_addLowestFirst_14 : decode cX3_addLowestFirst 14 = .ok (.invokevirtual 19, 3) := by decide +kernel
theorem dX3_addLowestFirst_17 : decode cX3_addLowestFirst 17 = .ok (.iinc 3 1, 3) := by decide +kernel
theorem dX3_addLowestFirst_20 : decode cX3_addLowestFirst 20 = .ok (.goto (-18), 3) := by decide +kernel
theorem dX3_addLowestFirst_23 : decode cX3_addLowestFirst 23 = .ok (.return_, 1) := by decide +kernel
set_option maxRecDepth 20000 in
theorem ggX3_addPart_X3_at : GoodIn wsX3_addPart wsX3_at := goodIn_r _ [5, 6, 7, 12, 13] (by decide +kernel) (by decide +kernel)
set_option maxRecDepth 20000 in
theorem gX3_addPart_X3_at : GoodIn wsX3_addPart (wsV RX3 23 RX3 yX3_at wsX3_at) := goodIn_app (goodIn_of _ (by decide +kernel)) ggX3_addPart_X3_at
set_option maxRecDepth 20000 in
theorem ggX3_addPart_X3_add : GoodIn wsX3_addPart wsX3_add := goodIn_r _ [11, 6, 7, 12, 13] (by decide +kernel) (by decide +kernel)
set_option maxRecDepth 20000 in
theorem gX3_addPart_X3_add : GoodIn wsX3_addPart (wsV RX3 19 RX3 yX3_add wsX3_add) := goodIn_app (goodIn_of _ (by decide +kernel)) ggX3_addPart_X3_add
theorem dX3_addPart_0 : decode cX3_addPart 0 = .ok (.iconst 0, 1) := by decide +kernel
theorem dX3_addPart_1 : decode cX3_addPart 1 = .ok (.istore 4, 2) := by decide +kernel
theorem dX3_addPart_3 : decode cX3_addPart 3 = .ok (.iload 4, 2) := by decide +kernel
theorem dX3_addPart_5 : decode cX3_addPart 5 = .ok (.iload_n 3, 1) := by decide +kernel
theorem dX3_addPart_6 : decode cX3_addPart 6 = .ok (.if_icmp .ge 21, 3) := by decide +kernel
theorem dX3_addPart_9 : decode cX3_addPart 9 = .ok (.aload_n 0, 1) := by decide +kernel
theorem dX3_addPart_10 : decode cX3_addPart 10 = .ok (.aload_n 1, 1) := by decide +kernel
theorem dX3_addPart_11 : decode cX3_addPart 11 = .ok (.iload_n 2, 1) := by decide +kernel
theorem dX3_addPart_12 : decode cX3_addPart 12 = .ok (.iload 4, 2) := by decide +kernel
theorem dX3_addPart_14 : decode cX3_addPart 14 = .ok (.iadd, 1) := by decide +kernel
theorem dX3_addPart_15 : decode cX3_addPart 15 = .ok (.invokevirtual 23, 3) := by decide +kernel
theorem dX3_addPart_18 : decode cX3_addPart 18 = .ok (.invokevirtual 19, 3) := by decide +kernel
theorem dX3_addPart_21 : decode cX3_addPart 21 = .ok (.iinc 4 1, 3) := by decide +kernel
theorem dX3_addPart_24 : decode cX3_addPart 24 = .ok (.goto (-21), 3) := by decide +kernel
theorem dX3_addPart_27 : decode cX3_addPart 27 = .ok (.return_, 1) := by decide +kernel
set_option maxRecDepth 20000 in
theorem ggX3_numberLowestFirst_X3_at : GoodIn wsX3_numberLowestFirst wsX3_at := goodIn_r _ [5, 6, 7, 8, 9] (by decide +kernel) (by decide +kernel)
set_option maxRecDepth 20000 in
theorem gX3_numberLowestFirst_X3_at : GoodIn wsX3_numberLowestFirst (wsV RX3 23 RX3 yX3_at wsX3_at) := goodIn_app (goodIn_of _ (by decide +kernel)) ggX3_numberLowestFirst_X3_at
theorem dX3_numberLowestFirst_0 : decode cX3_numberLowestFirst 0 = .ok (.iconst 0, 1) := by decide +kernel
theorem dX3_numberLowestFirst_1 : decode cX3_numberLowestFirst 1 = .ok (.istore_n 3, 1) := by decide +kernel
theorem dX3_numberLowestFirst_2 : decode cX3_numberLowestFirst 2 = .ok (.iconst 0, 1) := by decide +kernel
theorem dX3_numberLowestFirst_3 : decode cX3_numberLowestFirst 3 = .ok (.istore 4, 2) := by decide +kernel
theorem dX3_numberLowestFirst_5 : decode cX3_numberLowestFirst 5 = .ok (.iload 4, 2) := by decide +kernel
theorem dX3_numberLowestFirst_7 : decode cX3_numberLowestFirst 7 = .ok (.iload_n 2, 1) := by decide +kernel
theorem dX3_numberLowestFirst_8 : decode cX3_numberLowestFirst 8 = .ok (.if_icmp .ge 26, 3) := by decide +kernel
theorem dX3_numberLowestFirst_11 : decode cX3_numberLowestFirst 11 = .ok (.iload_n 3, 1) := by decide +kernel
theorem dX3_numberLowestFirst_12 : decode cX3_numberLowestFirst 12 = .ok (.aload_n 0, 1) := by decide +kernel
theorem dX3_numberLowestFirst_13 : decode cX3_numberLowestFirst 13 = .ok (.iload_n 1, 1) := by decide +kernel
theorem dX3_numberLowestFirst_14 : decode cX3_numberLowestFirst 14 = .ok (.iload 4, 2) := by decide +kernel
theorem dX3_numberLowestFirst_16 : decode cX3_numberLowestFirst 16 = .ok (.iadd, 1) := by decide +kernel
theorem dX3_numberLowestFirst_17 : decode cX3_numberLowestFirst 17 = .ok (.invokevirtual 23, 3) := by decide +kernel
theorem dX3_numberLowestFirst_20 : decode cX3_numberLowestFirst 20 = .ok (.bipush 8, 2) := by decide +kernel
theorem dX3_numberLowestFirst_22 : decode cX3_numberLowestFirst 22 = .ok (.iload 4, 2) := by decide +kernel
theorem dX3_numberLowestFirst_24 : decode cX3_numberLowestFirst 24 = .ok (.imul, 1) := by decide +kernel
theorem dX3_numberLowestFirst_25 : decode cX3_numberLowestFirst 25 = .ok (.ishl, 1) := by decide +kernel
theorem dX3_numberLowestFirst_26 : decode cX3_numberLowestFirst 26 = .ok (.ior, 1) := by decide +kernel
theorem dX3_numberLowestFirst_27 : decode cX3_numberLowestFirst 27 = .ok (.istore_n 3, 1) := by decide +kernel
theorem dX3_numberLowestFirst_28 : decode cX3_numberLowestFirst 28 = .ok (.iinc 4 1, 3) := by decide +kernel
theorem dX3_numberLowestFirst_31 : decode cX3_numberLowestFirst 31 = .ok (.goto (-26), 3) := by decide +kernel
theorem dX3_numberLowestFirst_34 : decode cX3_numberLowestFirst 34 = .ok (.iload_n 3, 1) := by decide +kernel
theorem dX3_numberLowestFirst_35 : decode cX3_numberLowestFirst 35 = .ok (.ireturn, 1) := by decide +kernel
set_option maxRecDepth 20000 in
theorem ggX3_replace_X3_has : GoodIn wsX3_replace wsX3_has := goodIn_r _ [6, 7, 8, 9] (by decide +kernel) (by decide +kernel)
set_option maxRecDepth 20000 in
theorem gX3_replace_X3_has : GoodIn wsX3_replace (wsV RX3 27 RX3 yX3_has wsX3_has) := goodIn_app (goodIn_of _ (by decide +kernel)) ggX3_replace_X3_has
theorem dX3_replace_0 : decode cX3_replace 0 = .ok (.aload_n 0, 1) := by decide +kernel
theorem dX3_replace_1 : decode cX3_replace 1 = .ok (.iload_n 1, 1) := by decide +kernel
theorem dX3_replace_2 : decode cX3_replace 2 = .ok (.invokevirtual 27, 3) := by decide +kernel
theorem dX3_replace_5 : decode cX3_replace 5 = .ok (.ifCond .eq 11, 3) := by decide +kernel
theorem dX3_replace_8 : decode cX3_replace 8 = .ok (.aload_n 0, 1) := by decide +kernel
theorem dX3_replace_9 : decode cX3_replace 9 = .ok (.getfield 9, 3) := by decide +kernel
theorem dX3_replace_12 : decode cX3_replace 12 = .ok (.iload_n 1, 1) := by decide +kernel
theorem dX3_replace_13 : decode cX3_replace 13 = .ok (.iload_n 2, 1) := by decide +kernel
theorem dX3_replace_14 : decode cX3_replace 14 = .ok (.i2b, 1) := by decide +kernel
theorem dX3_replace_15 : decode cX3_replace 15 = .ok (.bastore, 1) := by decide +kernel
theorem dX3_replace_16 : decode cX3_replace 16 = .ok (.return_, 1) := by decide +kernel
theorem dX3_shorten_0 : decode cX3_shorten 0 = .ok (.iload_n 1, 1) := by decide +kernel
theorem dX3_shorten_1 : decode cX3_shorten 1 = .ok (.ifCond .lt 16, 3) := by decide +kernel
theorem dX3_shorten_4 : decode cX3_shorten 4 = .ok (.iload_n 1, 1) := by decide +kernel
theorem dX3_shorten_5 : decode cX3_shorten 5 = .ok (.aload_n 0, 1) := by decide +kernel
theorem dX3_shorten_6 : decode cX3_shorten 6 = .ok (.getfield 15, 3) := by decide +kernel
theorem dX3_shorten_9 : decode cX3_shorten 9 = .ok (.if_icmp .ge 8, 3) := by decide +kernel
theorem dX3_shorten_12 : decode cX3_shorten 12 = .ok (.aload_n 0, 1) := by decide +kernel
theorem dX3_shorten_13 : decode cX3_shorten 13 = .ok (.iload_n 1, 1) := by decide +kernel
theorem dX3_shorten_14 : decode cX3_shorten 14 = .ok (.putfield 15, 3) := by decide +kernel
theorem dX3_shorten_17 : decode cX3_shorten 17 = .ok (.return_, 1) := by decide +kernel
