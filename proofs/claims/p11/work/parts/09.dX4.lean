set_option maxRecDepth 20000 in
theorem ggX4_of_X4_withByte : GoodIn wsX4_of wsX4_withByte := goodIn_r _ [5, 6] (by decide +kernel) (by decide +kernel)
set_option maxRecDepth 20000 in
theorem gX4_of_X4_withByte : GoodIn wsX4_of (va_wsS RX4 7 yX4_withByte wsX4_withByte) := goodIn_app (goodIn_of _ (by decide +kernel)) ggX4_of_X4_withByte
set_option maxRecDepth 20000 in
theorem ggX4_of_X3_at : GoodIn wsX4_of wsX3_at := goodIn_r _ [11, 12, 13, 14, 15] (by decide +kernel) (by decide +kernel)
set_option maxRecDepth 20000 in
theorem gX4_of_X3_at : GoodIn wsX4_of (wsV RX4 13 RX3 yX3_at wsX3_at) := goodIn_app (goodIn_of _ (by decide +kernel)) ggX4_of_X3_at
theorem dX4_of_0 : decode cX4_of 0 = .ok (.iconst (-1), 1) := by decide +kernel
theorem dX4_of_1 : decode cX4_of 1 = .ok (.iload_n 0, 1) := by decide +kernel
theorem dX4_of_2 : decode cX4_of 2 = .ok (.invokestatic 7, 3) := by decide +kernel
theorem dX4_of_5 : decode cX4_of 5 = .ok (.istore 4, 2) := by decide +kernel
theorem dX4_of_7 : decode cX4_of 7 = .ok (.iconst 0, 1) := by decide +kernel
theorem dX4_of_8 : decode cX4_of 8 = .ok (.istore 5, 2) := by decide +kernel
theorem dX4_of_10 : decode cX4_of 10 = .ok (.iload 5, 2) := by decide +kernel
theorem dX4_of_12 : decode cX4_of 12 = .ok (.iload_n 3, 1) := by decide +kernel
theorem dX4_of_13 : decode cX4_of 13 = .ok (.if_icmp .ge 24, 3) := by decide +kernel
theorem dX4_of_16 : decode cX4_of 16 = .ok (.iload 4, 2) := by decide +kernel
theorem dX4_of_18 : decode cX4_of 18 = .ok (.aload_n 1, 1) := by decide +kernel
theorem dX4_of_19 : decode cX4_of 19 = .ok (.iload_n 2, 1) := by decide +kernel
theorem dX4_of_20 : decode cX4_of 20 = .ok (.iload 5, 2) := by decide +kernel
theorem dX4_of_22 : decode cX4_of 22 = .ok (.iadd, 1) := by decide +kernel
theorem dX4_of_23 : decode cX4_of 23 = .ok (.invokevirtual 13, 3) := by decide +kernel
theorem dX4_of_26 : decode cX4_of 26 = .ok (.invokestatic 7, 3) := by decide +kernel
theorem dX4_of_29 : decode cX4_of 29 = .ok (.istore 4, 2) := by decide +kernel
theorem dX4_of_31 : decode cX4_of 31 = .ok (.iinc 5 1, 3) := by decide +kernel
theorem dX4_of_34 : decode cX4_of 34 = .ok (.goto (-24), 3) := by decide +kernel
theorem dX4_of_37 : decode cX4_of 37 = .ok (.iload 4, 2) := by decide +kernel
theorem dX4_of_39 : decode cX4_of 39 = .ok (.iconst (-1), 1) := by decide +kernel
theorem dX4_of_40 : decode cX4_of 40 = .ok (.ixor, 1) := by decide +kernel
theorem dX4_of_41 : decode cX4_of 41 = .ok (.istore 4, 2) := by decide +kernel
theorem dX4_of_43 : decode cX4_of 43 = .ok (.iload 4, 2) := by decide +kernel
theorem dX4_of_45 : decode cX4_of 45 = .ok (.bipush 15, 2) := by decide +kernel
theorem dX4_of_47 : decode cX4_of 47 = .ok (.iushr, 1) := by decide +kernel
theorem dX4_of_48 : decode cX4_of 48 = .ok (.iload 4, 2) := by decide +kernel
theorem dX4_of_50 : decode cX4_of 50 = .ok (.bipush 17, 2) := by decide +kernel
theorem dX4_of_52 : decode cX4_of 52 = .ok (.ishl, 1) := by decide +kernel
theorem dX4_of_53 : decode cX4_of 53 = .ok (.ior, 1) := by decide +kernel
theorem dX4_of_54 : decode cX4_of 54 = .ok (.ldc 19, 2) := by decide +kernel
theorem dX4_of_56 : decode cX4_of 56 = .ok (.iadd, 1) := by decide +kernel
theorem dX4_of_57 : decode cX4_of 57 = .ok (.ireturn, 1) := by decide +kernel
theorem dX4_withByte_0 : decode cX4_withByte 0 = .ok (.iload_n 0, 1) := by decide +kernel
theorem dX4_withByte_1 : decode cX4_withByte 1 = .ok (.iconst 4, 1) := by decide +kernel
theorem dX4_withByte_2 : decode cX4_withByte 2 = .ok (.iushr, 1) := by decide +kernel
theorem dX4_withByte_3 : decode cX4_withByte 3 = .ok (.getstatic 20, 3) := by decide +kernel
theorem dX4_withByte_6 : decode cX4_withByte 6 = .ok (.iload_n 0, 1) := by decide +kernel
theorem dX4_withByte_7 : decode cX4_withByte 7 = .ok (.iload_n 1, 1) := by decide +kernel
theorem dX4_withByte_8 : decode cX4_withByte 8 = .ok (.ixor, 1) := by decide +kernel
theorem dX4_withByte_9 : decode cX4_withByte 9 = .ok (.bipush 15, 2) := by decide +kernel
theorem dX4_withByte_11 : decode cX4_withByte 11 = .ok (.iand, 1) := by decide +kernel
theorem dX4_withByte_12 : decode cX4_withByte 12 = .ok (.iaload, 1) := by decide +kernel
theorem dX4_withByte_13 : decode cX4_withByte 13 = .ok (.ixor, 1) := by decide +kernel
theorem dX4_withByte_14 : decode cX4_withByte 14 = .ok (.istore_n 2, 1) := by decide +kernel
theorem dX4_withByte_15 : decode cX4_withByte 15 = .ok (.iload_n 2, 1) := by decide +kernel
theorem dX4_withByte_16 : decode cX4_withByte 16 = .ok (.iconst 4, 1) := by decide +kernel
theorem dX4_withByte_17 : decode cX4_withByte 17 = .ok (.iushr, 1) := by decide +kernel
theorem dX4_withByte_18 : decode cX4_withByte 18 = .ok (.getstatic 20, 3) := by decide +kernel
theorem dX4_withByte_21 : decode cX4_withByte 21 = .ok (.iload_n 2, 1) := by decide +kernel
theorem dX4_withByte_22 : decode cX4_withByte 22 = .ok (.iload_n 1, 1) := by decide +kernel
theorem dX4_withByte_23 : decode cX4_withByte 23 = .ok (.iconst 4, 1) := by decide +kernel
theorem dX4_withByte_24 : decode cX4_withByte 24 = .ok (.iushr, 1) := by decide +kernel
theorem dX4_withByte_25 : decode cX4_withByte 25 = .ok (.ixor, 1) := by decide +kernel
theorem dX4_withByte_26 : decode cX4_withByte 26 = .ok (.bipush 15, 2) := by decide +kernel
theorem dX4_withByte_28 : decode cX4_withByte 28 = .ok (.iand, 1) := by decide +kernel
theorem dX4_withByte_29 : decode cX4_withByte 29 = .ok (.iaload, 1) := by decide +kernel
theorem dX4_withByte_30 : decode cX4_withByte 30 = .ok (.ixor, 1) := by decide +kernel
theorem dX4_withByte_31 : decode cX4_withByte 31 = .ok (.ireturn, 1) := by decide +kernel
