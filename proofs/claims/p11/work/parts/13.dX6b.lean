theorem dX6_append_38 : decode cX6_append 38 = .ok (.irem, 1) := by decide +kernel
theorem dX6_append_39 : decode cX6_append 39 = .ok (.isub, 1) := by decide +kernel
theorem dX6_append_40 : decode cX6_append 40 = .ok (.istore_n 3, 1) := by decide +kernel
theorem dX6_append_41 : decode cX6_append 41 = .ok (.iload_n 3, 1) := by decide +kernel
theorem dX6_append_42 : decode cX6_append 42 = .ok (.bipush 7, 2) := by decide +kernel
theorem dX6_append_44 : decode cX6_append 44 = .ok (.if_icmp .ge 28, 3) := by decide +kernel
theorem dX6_append_47 : decode cX6_append 47 = .ok (.iconst 0, 1) := by decide +kernel
theorem dX6_append_48 : decode cX6_append 48 = .ok (.istore 4, 2) := by decide +kernel
theorem dX6_append_50 : decode cX6_append 50 = .ok (.iload 4, 2) := by decide +kernel
theorem dX6_append_52 : decode cX6_append 52 = .ok (.iload_n 3, 1) := by decide +kernel
theorem dX6_append_53 : decode cX6_append 53 = .ok (.if_icmp .ge 14, 3) := by decide +kernel
theorem dX6_append_56 : decode cX6_append 56 = .ok (.aload_n 0, 1) := by decide +kernel
theorem dX6_append_57 : decode cX6_append 57 = .ok (.iconst 0, 1) := by decide +kernel
theorem dX6_append_58 : decode cX6_append 58 = .ok (.invokevirtual 95, 3) := by decide +kernel
theorem dX6_append_61 : decode cX6_append 61 = .ok (.iinc 4 1, 3) := by decide +kernel
theorem dX6_append_64 : decode cX6_append 64 = .ok (.goto (-14), 3) := by decide +kernel
theorem dX6_append_67 : decode cX6_append 67 = .ok (.aload_n 0, 1) := by decide +kernel
theorem dX6_append_68 : decode cX6_append 68 = .ok (.getfield 7, 3) := by decide +kernel
theorem dX6_append_71 : decode cX6_append 71 = .ok (.istore_n 3, 1) := by decide +kernel
theorem dX6_append_72 : decode cX6_append 72 = .ok (.aload_n 0, 1) := by decide +kernel
theorem dX6_append_73 : decode cX6_append 73 = .ok (.getfield 78, 3) := by decide +kernel
theorem dX6_append_76 : decode cX6_append 76 = .ok (.iload_n 1, 1) := by decide +kernel
theorem dX6_append_77 : decode cX6_append 77 = .ok (.isub, 1) := by decide +kernel
theorem dX6_append_78 : decode cX6_append 78 = .ok (.istore 4, 2) := by decide +kernel
theorem dX6_append_80 : decode cX6_append 80 = .ok (.iload 4, 2) := by decide +kernel
theorem dX6_append_82 : decode cX6_append 82 = .ok (.iload_n 3, 1) := by decide +kernel
theorem dX6_append_83 : decode cX6_append 83 = .ok (.bipush 7, 2) := by decide +kernel
theorem dX6_append_85 : decode cX6_append 85 = .ok (.isub, 1) := by decide +kernel
theorem dX6_append_86 : decode cX6_append 86 = .ok (.if_icmp .ge 8, 3) := by decide +kernel
theorem dX6_append_89 : decode cX6_append 89 = .ok (.iload 4, 2) := by decide +kernel
theorem dX6_append_91 : decode cX6_append 91 = .ok (.goto 7, 3) := by decide +kernel
theorem dX6_append_94 : decode cX6_append 94 = .ok (.iload_n 3, 1) := by decide +kernel
theorem dX6_append_95 : decode cX6_append 95 = .ok (.bipush 7, 2) := by decide +kernel
theorem dX6_append_97 : decode cX6_append 97 = .ok (.isub, 1) := by decide +kernel
theorem dX6_append_98 : decode cX6_append 98 = .ok (.istore 5, 2) := by decide +kernel
theorem dX6_append_100 : decode cX6_append 100 = .ok (.iload 5, 2) := by decide +kernel
theorem dX6_append_102 : decode cX6_append 102 = .ok (.iload 4, 2) := by decide +kernel
theorem dX6_append_104 : decode cX6_append 104 = .ok (.if_icmp .ne 7, 3) := by decide +kernel
theorem dX6_append_107 : decode cX6_append 107 = .ok (.iconst 1, 1) := by decide +kernel
theorem dX6_append_108 : decode cX6_append 108 = .ok (.goto 4, 3) := by decide +kernel
theorem dX6_append_111 : decode cX6_append 111 = .ok (.iconst 0, 1) := by decide +kernel
theorem dX6_append_112 : decode cX6_append 112 = .ok (.istore 6, 2) := by decide +kernel
theorem dX6_append_114 : decode cX6_append 114 = .ok (.aload_n 0, 1) := by decide +kernel
theorem dX6_append_115 : decode cX6_append 115 = .ok (.iload_n 1, 1) := by decide +kernel
theorem dX6_append_116 : decode cX6_append 116 = .ok (.ifCond .ne 23, 3) := by decide +kernel
theorem dX6_append_119 : decode cX6_append 119 = .ok (.aload_n 0, 1) := by decide +kernel
theorem dX6_append_120 : decode cX6_append 120 = .ok (.getfield 102, 3) := by decide +kernel
theorem dX6_append_123 : decode cX6_append 123 = .ok (.ifCond .ne 16, 3) := by decide +kernel
theorem dX6_append_126 : decode cX6_append 126 = .ok (.iload 6, 2) := by decide +kernel
theorem dX6_append_128 : decode cX6_append 128 = .ok (.ifCond .eq 7, 3) := by decide +kernel
theorem dX6_append_131 : decode cX6_append 131 = .ok (.iconst 1, 1) := by decide +kernel
theorem dX6_append_132 : decode cX6_append 132 = .ok (.goto 17, 3) := by decide +kernel
theorem dX6_append_135 : decode cX6_append 135 = .ok (.iconst 2, 1) := by decide +kernel
theorem dX6_append_136 : decode cX6_append 136 = .ok (.goto 13, 3) := by decide +kernel
theorem dX6_append_139 : decode cX6_append 139 = .ok (.iload 6, 2) := by decide +kernel
theorem dX6_append_141 : decode cX6_append 141 = .ok (.ifCond .eq 7, 3) := by decide +kernel
theorem dX6_append_144 : decode cX6_append 144 = .ok (.iconst 4, 1) := by decide +kernel
theorem dX6_append_145 : decode cX6_append 145 = .ok (.goto 4, 3) := by decide +kernel
theorem dX6_append_148 : decode cX6_append 148 = .ok (.iconst 3, 1) := by decide +kernel
theorem dX6_append_149 : decode cX6_append 149 = .ok (.iload_n 1, 1) := by decide +kernel
theorem dX6_append_150 : decode cX6_append 150 = .ok (.iload 5, 2) := by decide +kernel
theorem dX6_append_152 : decode cX6_append 152 = .ok (.invokevirtual 105, 3) := by decide +kernel
theorem dX6_append_155 : decode cX6_append 155 = .ok (.aload_n 0, 1) := by decide +kernel
theorem dX6_append_156 : decode cX6_append 156 = .ok (.iconst 1, 1) := by decide +kernel
theorem dX6_append_157 : decode cX6_append 157 = .ok (.putfield 102, 3) := by decide +kernel
theorem dX6_append_160 : decode cX6_append 160 = .ok (.iload_n 1, 1) := by decide +kernel
theorem dX6_append_161 : decode cX6_append 161 = .ok (.iload 5, 2) := by decide +kernel
theorem dX6_append_163 : decode cX6_append 163 = .ok (.iadd, 1) := by decide +kernel
theorem dX6_append_164 : decode cX6_append 164 = .ok (.istore_n 1, 1) := by decide +kernel
theorem dX6_append_165 : decode cX6_append 165 = .ok (.iload 6, 2) := by decide +kernel
theorem dX6_append_167 : decode cX6_append 167 = .ok (.ifCond .ne 7, 3) := by decide +kernel
theorem dX6_append_170 : decode cX6_append 170 = .ok (.iconst 1, 1) := by decide +kernel
theorem dX6_append_171 : decode cX6_append 171 = .ok (.goto 4, 3) := by decide +kernel
theorem dX6_append_174 : decode cX6_append 174 = .ok (.iconst 0, 1) := by decide +kernel
theorem dX6_append_175 : decode cX6_append 175 = .ok (.istore_n 2, 1) := by decide +kernel
theorem dX6_append_176 : decode cX6_append 176 = .ok (.goto (-154), 3) := by decide +kernel
theorem dX6_append_179 : decode cX6_append 179 = .ok (.aload_n 0, 1) := by decide +kernel
theorem dX6_append_180 : decode cX6_append 180 = .ok (.iconst 0, 1) := by decide +kernel
theorem dX6_append_181 : decode cX6_append 181 = .ok (.putfield 102, 3) := by decide +kernel
theorem dX6_append_184 : decode cX6_append 184 = .ok (.aload_n 0, 1) := by decide +kernel
theorem dX6_append_185 : decode cX6_append 185 = .ok (.getfield 71, 3) := by decide +kernel
theorem dX6_append_188 : decode cX6_append 188 = .ok (.ireturn, 1) := by decide +kernel
set_option maxRecDepth 20000 in
theorem ggX6_raw_X6_isIn : GoodIn wsX6_raw wsX6_isIn := goodIn_r _ [6] (by decide +kernel) (by decide +kernel)
set_option maxRecDepth 20000 in
theorem gX6_raw_X6_isIn : GoodIn wsX6_raw (va_wsS RX6 63 yX6_isIn wsX6_isIn) := goodIn_app (goodIn_of _ (by decide +kernel)) ggX6_raw_X6_isIn
set_option maxRecDepth 20000 in
theorem ggX6_raw_X6_refused : GoodIn wsX6_raw wsX6_refused := goodIn_r _ [10, 11, 34, 35, 36, 37, 38, 39, 40, 41, 42, 43, 44, 45, 46, 47, 48, 49, 50, 51, 52, 53, 54, 55, 56] (by decide +kernel) (by decide +kernel)
set_option maxRecDepth 20000 in
theorem gX6_raw_X6_refused : GoodIn wsX6_raw (wsV RX6 67 RX6 yX6_refused wsX6_refused) := goodIn_app (goodIn_of _ (by decide +kernel)) ggX6_raw_X6_refused
set_option maxRecDepth 20000 in
theorem ggX6_raw_X6_putFragment : GoodIn wsX6_raw wsX6_putFragment := goodIn_r _ [15, 16, 17, 18, 19, 5, 20, 21, 22, 23, 24, 25, 26, 27, 28, 29, 30, 31, 32, 33, 1, 34, 35, 36, 37, 38, 39, 40, 41, 42, 43, 44, 45, 46, 47, 48, 49, 50, 51, 52, 53, 54, 55, 56] (by decide +kernel) (by decide +kernel)
set_option maxRecDepth 20000 in
theorem gX6_raw_X6_putFragment : GoodIn wsX6_raw (wsV RX6 105 RX6 yX6_putFragment wsX6_putFragment) := goodIn_app (goodIn_of _ (by decide +kernel)) ggX6_raw_X6_putFragment
theorem dX6_raw_0 : decode cX6_raw 0 = .ok (.aload_n 0, 1) := by decide +kernel
theorem dX6_raw_1 : decode cX6_raw 1 = .ok (.iload_n 1, 1) := by decide +kernel
theorem dX6_raw_2 : decode cX6_raw 2 = .ok (.iconst 0, 1) := by decide +kernel
theorem dX6_raw_3 : decode cX6_raw 3 = .ok (.sipush 255, 3) := by decide +kernel
theorem dX6_raw_6 : decode cX6_raw 6 = .ok (.invokestatic 63, 3) := by decide +kernel
theorem dX6_raw_9 : decode cX6_raw 9 = .ok (.ifCond .eq 7, 3) := by decide +kernel
theorem dX6_raw_12 : decode cX6_raw 12 = .ok (.iconst 0, 1) := by decide +kernel
theorem dX6_raw_13 : decode cX6_raw 13 = .ok (.goto 4, 3) := by decide +kernel
theorem dX6_raw_16 : decode cX6_raw 16 = .ok (.iconst 1, 1) := by decide +kernel
theorem dX6_raw_17 : decode cX6_raw 17 = .ok (.invokevirtual 67, 3) := by decide +kernel
theorem dX6_raw_20 : decode cX6_raw 20 = .ok (.ifCond .eq 5, 3) := by decide +kernel
theorem dX6_raw_23 : decode cX6_raw 23 = .ok (.iconst 0, 1) := by decide +kernel
theorem dX6_raw_24 : decode cX6_raw 24 = .ok (.ireturn, 1) := by decide +kernel
theorem dX6_raw_25 : decode cX6_raw 25 = .ok (.aload_n 0, 1) := by decide +kernel
theorem dX6_raw_26 : decode cX6_raw 26 = .ok (.getfield 71, 3) := by decide +kernel
theorem dX6_raw_29 : decode cX6_raw 29 = .ok (.bipush 7, 2) := by decide +kernel
theorem dX6_raw_31 : decode cX6_raw 31 = .ok (.iadd, 1) := by decide +kernel
theorem dX6_raw_32 : decode cX6_raw 32 = .ok (.aload_n 0, 1) := by decide +kernel
theorem dX6_raw_33 : decode cX6_raw 33 = .ok (.getfield 78, 3) := by decide +kernel
theorem dX6_raw_36 : decode cX6_raw 36 = .ok (.iadd, 1) := by decide +kernel
theorem dX6_raw_37 : decode cX6_raw 37 = .ok (.sipush 4096, 3) := by decide +kernel
theorem dX6_raw_40 : decode cX6_raw 40 = .ok (.if_icmp .le 6, 3) := by decide +kernel
theorem dX6_raw_43 : decode cX6_raw 43 = .ok (.bipush (-2), 2) := by decide +kernel
theorem dX6_raw_45 : decode cX6_raw 45 = .ok (.ireturn, 1) := by decide +kernel
theorem dX6_raw_46 : decode cX6_raw 46 = .ok (.aload_n 0, 1) := by decide +kernel
theorem dX6_raw_47 : decode cX6_raw 47 = .ok (.iload_n 1, 1) := by decide +kernel
theorem dX6_raw_48 : decode cX6_raw 48 = .ok (.iconst 0, 1) := by decide +kernel
theorem dX6_raw_49 : decode cX6_raw 49 = .ok (.aload_n 0, 1) := by decide +kernel
theorem dX6_raw_50 : decode cX6_raw 50 = .ok (.getfield 78, 3) := by decide +kernel
theorem dX6_raw_53 : decode cX6_raw 53 = .ok (.invokevirtual 105, 3) := by decide +kernel
theorem dX6_raw_56 : decode cX6_raw 56 = .ok (.aload_n 0, 1) := by decide +kernel
theorem dX6_raw_57 : decode cX6_raw 57 = .ok (.getfield 71, 3) := by decide +kernel
theorem dX6_raw_60 : decode cX6_raw 60 = .ok (.ireturn, 1) := by decide +kernel
set_option maxRecDepth 20000 in
theorem ggX6_put__X6_isIn : GoodIn wsX6_put_ wsX6_isIn := goodIn_r _ [6] (by decide +kernel) (by decide +kernel)
set_option maxRecDepth 20000 in
theorem gX6_put__X6_isIn : GoodIn wsX6_put_ (va_wsS RX6 63 yX6_isIn wsX6_isIn) := goodIn_app (goodIn_of _ (by decide +kernel)) ggX6_put__X6_isIn
set_option maxRecDepth 20000 in
theorem ggX6_put__X6_refused : GoodIn wsX6_put_ wsX6_refused := goodIn_r _ [10, 11, 12, 13, 14, 15, 16, 17, 18, 19, 20, 21, 22, 23, 24, 25, 26, 27, 28, 29, 30, 31, 32, 33, 34] (by decide +kernel) (by decide +kernel)
set_option maxRecDepth 20000 in
theorem gX6_put__X6_refused : GoodIn wsX6_put_ (wsV RX6 67 RX6 yX6_refused wsX6_refused) := goodIn_app (goodIn_of _ (by decide +kernel)) ggX6_put__X6_refused
theorem dX6_put__0 : decode cX6_put_ 0 = .ok (.aload_n 0, 1) := by decide +kernel
theorem dX6_put__1 : decode cX6_put_ 1 = .ok (.iload_n 1, 1) := by decide +kernel
theorem dX6_put__2 : decode cX6_put_ 2 = .ok (.iconst 0, 1) := by decide +kernel
theorem dX6_put__3 : decode cX6_put_ 3 = .ok (.aload_n 0, 1) := by decide +kernel
theorem dX6_put__4 : decode cX6_put_ 4 = .ok (.getfield 71, 3) := by decide +kernel
theorem dX6_put__7 : decode cX6_put_ 7 = .ok (.iconst 1, 1) := by decide +kernel
theorem dX6_put__8 : decode cX6_put_ 8 = .ok (.isub, 1) := by decide +kernel
theorem dX6_put__9 : decode cX6_put_ 9 = .ok (.invokestatic 63, 3) := by decide +kernel
theorem dX6_put__12 : decode cX6_put_ 12 = .ok (.ifCond .ne 7, 3) := by decide +kernel
theorem dX6_put__15 : decode cX6_put_ 15 = .ok (.iconst 1, 1) := by decide +kernel
theorem dX6_put__16 : decode cX6_put_ 16 = .ok (.goto 19, 3) := by decide +kernel
theorem dX6_put__19 : decode cX6_put_ 19 = .ok (.iload_n 2, 1) := by decide +kernel
theorem dX6_put__20 : decode cX6_put_ 20 = .ok (.iconst 0, 1) := by decide +kernel
theorem dX6_put__21 : decode cX6_put_ 21 = .ok (.sipush 255, 3) := by decide +kernel
theorem dX6_put__24 : decode cX6_put_ 24 = .ok (.invokestatic 63, 3) := by decide +kernel
theorem dX6_put__27 : decode cX6_put_ 27 = .ok (.ifCond .ne 7, 3) := by decide +kernel
theorem dX6_put__30 : decode cX6_put_ 30 = .ok (.iconst 2, 1) := by decide +kernel
theorem dX6_put__31 : decode cX6_put_ 31 = .ok (.goto 4, 3) := by decide +kernel
theorem dX6_put__34 : decode cX6_put_ 34 = .ok (.iconst 0, 1) := by decide +kernel
theorem dX6_put__35 : decode cX6_put_ 35 = .ok (.invokevirtual 67, 3) := by decide +kernel
theorem dX6_put__38 : decode cX6_put_ 38 = .ok (.ifCond .eq 5, 3) := by decide +kernel
theorem dX6_put__41 : decode cX6_put_ 41 = .ok (.iconst 0, 1) := by decide +kernel
theorem dX6_put__42 : decode cX6_put_ 42 = .ok (.ireturn, 1) := by decide +kernel
theorem dX6_put__43 : decode cX6_put_ 43 = .ok (.aload_n 0, 1) := by decide +kernel
theorem dX6_put__44 : decode cX6_put_ 44 = .ok (.getfield 13, 3) := by decide +kernel
theorem dX6_put__47 : decode cX6_put_ 47 = .ok (.iload_n 1, 1) := by decide +kernel
theorem dX6_put__48 : decode cX6_put_ 48 = .ok (.iaload, 1) := by decide +kernel
theorem dX6_put__49 : decode cX6_put_ 49 = .ok (.istore_n 3, 1) := by decide +kernel
theorem dX6_put__50 : decode cX6_put_ 50 = .ok (.aload_n 0, 1) := by decide +kernel
theorem dX6_put__51 : decode cX6_put_ 51 = .ok (.getfield 13, 3) := by decide +kernel
theorem dX6_put__54 : decode cX6_put_ 54 = .ok (.iload_n 1, 1) := by decide +kernel
theorem dX6_put__55 : decode cX6_put_ 55 = .ok (.iload_n 2, 1) := by decide +kernel
theorem dX6_put__56 : decode cX6_put_ 56 = .ok (.iastore, 1) := by decide +kernel
theorem dX6_put__57 : decode cX6_put_ 57 = .ok (.iload_n 3, 1) := by decide +kernel
theorem dX6_put__58 : decode cX6_put_ 58 = .ok (.ireturn, 1) := by decide +kernel
set_option maxRecDepth 20000 in
theorem ggX6_cut_X6_isIn : GoodIn wsX6_cut wsX6_isIn := goodIn_r _ [5] (by decide +kernel) (by decide +kernel)
set_option maxRecDepth 20000 in
theorem gX6_cut_X6_isIn : GoodIn wsX6_cut (va_wsS RX6 63 yX6_isIn wsX6_isIn) := goodIn_app (goodIn_of _ (by decide +kernel)) ggX6_cut_X6_isIn
set_option maxRecDepth 20000 in
theorem ggX6_cut_X6_refused : GoodIn wsX6_cut wsX6_refused := goodIn_r _ [9, 10, 25, 26, 27, 28, 29, 30, 31, 32, 33, 34, 35, 36, 37, 38, 39, 40, 41, 42, 43, 44, 45, 46, 47] (by decide +kernel) (by decide +kernel)
set_option maxRecDepth 20000 in
theorem gX6_cut_X6_refused : GoodIn wsX6_cut (wsV RX6 67 RX6 yX6_refused wsX6_refused) := goodIn_app (goodIn_of _ (by decide +kernel)) ggX6_cut_X6_refused
set_option maxRecDepth 20000 in
theorem ggX6_cut_X6_beginAt : GoodIn wsX6_cut wsX6_beginAt := goodIn_r _ [14, 15, 16, 17, 18, 19, 20, 21, 22, 23, 24, 25, 26, 27, 28, 29, 30, 31, 32, 33, 34, 35, 36, 37, 38, 39, 40, 41, 42, 43, 44, 45, 46, 47] (by decide +kernel) (by decide +kernel)
set_option maxRecDepth 20000 in
theorem gX6_cut_X6_beginAt : GoodIn wsX6_cut (wsV RX6 74 RX6 yX6_beginAt wsX6_beginAt) := goodIn_app (goodIn_of _ (by decide +kernel)) ggX6_cut_X6_beginAt
theorem dX6_cut_0 : decode cX6_cut 0 = .ok (.aload_n 0, 1) := by decide +kernel
theorem dX6_cut_1 : decode cX6_cut 1 = .ok (.iload_n 1, 1) := by decide +kernel
theorem dX6_cut_2 : decode cX6_cut 2 = .ok (.iconst 0, 1) := by decide +kernel
theorem dX6_cut_3 : decode cX6_cut 3 = .ok (.aload_n 0, 1) := by decide +kernel
theorem dX6_cut_4 : decode cX6_cut 4 = .ok (.getfield 71, 3) := by decide +kernel
theorem dX6_cut_7 : decode cX6_cut 7 = .ok (.invokestatic 63, 3) := by decide +kernel
theorem dX6_cut_10 : decode cX6_cut 10 = .ok (.ifCond .eq 7, 3) := by decide +kernel
theorem dX6_cut_13 : decode cX6_cut 13 = .ok (.iconst 0, 1) := by decide +kernel
theorem dX6_cut_14 : decode cX6_cut 14 = .ok (.goto 4, 3) := by decide +kernel
theorem dX6_cut_17 : decode cX6_cut 17 = .ok (.iconst 1, 1) := by decide +kernel
theorem dX6_cut_18 : decode cX6_cut 18 = .ok (.invokevirtual 67, 3) := by decide +kernel
theorem dX6_cut_21 : decode cX6_cut 21 = .ok (.ifCond .eq 5, 3) := by decide +kernel
theorem dX6_cut_24 : decode cX6_cut 24 = .ok (.iconst 0, 1) := by decide +kernel
theorem dX6_cut_25 : decode cX6_cut 25 = .ok (.ireturn, 1) := by decide +kernel
theorem dX6_cut_26 : decode cX6_cut 26 = .ok (.aload_n 0, 1) := by decide +kernel
theorem dX6_cut_27 : decode cX6_cut 27 = .ok (.getfield 71, 3) := by decide +kernel
theorem dX6_cut_30 : decode cX6_cut 30 = .ok (.iload_n 1, 1) := by decide +kernel
theorem dX6_cut_31 : decode cX6_cut 31 = .ok (.isub, 1) := by decide +kernel
theorem dX6_cut_32 : decode cX6_cut 32 = .ok (.istore_n 2, 1) := by decide +kernel
theorem dX6_cut_33 : decode cX6_cut 33 = .ok (.aload_n 0, 1) := by decide +kernel
theorem dX6_cut_34 : decode cX6_cut 34 = .ok (.iload_n 1, 1) := by decide +kernel
theorem dX6_cut_35 : decode cX6_cut 35 = .ok (.putfield 71, 3) := by decide +kernel
theorem dX6_cut_38 : decode cX6_cut 38 = .ok (.aload_n 0, 1) := by decide +kernel
theorem dX6_cut_39 : decode cX6_cut 39 = .ok (.iconst 0, 1) := by decide +kernel
theorem dX6_cut_40 : decode cX6_cut 40 = .ok (.invokevirtual 74, 3) := by decide +kernel
theorem dX6_cut_43 : decode cX6_cut 43 = .ok (.iload_n 2, 1) := by decide +kernel
theorem dX6_cut_44 : decode cX6_cut 44 = .ok (.ireturn, 1) := by decide +kernel
set_option maxRecDepth 20000 in
theorem ggX6_begin_X6_isIn : GoodIn wsX6_begin wsX6_isIn := goodIn_r _ [5] (by decide +kernel) (by decide +kernel)
set_option maxRecDepth 20000 in
theorem gX6_begin_X6_isIn : GoodIn wsX6_begin (va_wsS RX6 63 yX6_isIn wsX6_isIn) := goodIn_app (goodIn_of _ (by decide +kernel)) ggX6_begin_X6_isIn
set_option maxRecDepth 20000 in
theorem ggX6_begin_X6_refused : GoodIn wsX6_begin wsX6_refused := goodIn_r _ [9, 10, 24, 25, 26, 27, 28, 29, 30, 31, 32, 33, 34, 35, 36, 37, 38, 39, 40, 41, 42, 43, 44, 45, 46] (by decide +kernel) (by decide +kernel)
set_option maxRecDepth 20000 in
theorem gX6_begin_X6_refused : GoodIn wsX6_begin (wsV RX6 67 RX6 yX6_refused wsX6_refused) := goodIn_app (goodIn_of _ (by decide +kernel)) ggX6_begin_X6_refused
set_option maxRecDepth 20000 in
theorem ggX6_begin_X6_beginAt : GoodIn wsX6_begin wsX6_beginAt := goodIn_r _ [14, 15, 16, 1, 17, 18, 19, 20, 21, 22, 23, 24, 25, 26, 27, 28, 29, 30, 31, 32, 33, 34, 35, 36, 37, 38, 39, 40, 41, 42, 43, 44, 45, 46] (by decide +kernel) (by decide +kernel)
set_option maxRecDepth 20000 in
theorem gX6_begin_X6_beginAt : GoodIn wsX6_begin (wsV RX6 74 RX6 yX6_beginAt wsX6_beginAt) := goodIn_app (goodIn_of _ (by decide +kernel)) ggX6_begin_X6_beginAt
theorem dX6_begin_0 : decode cX6_begin 0 = .ok (.aload_n 0, 1) := by decide +kernel
theorem dX6_begin_1 : decode cX6_begin 1 = .ok (.iload_n 1, 1) := by decide +kernel
theorem dX6_begin_2 : decode cX6_begin 2 = .ok (.iconst 0, 1) := by decide +kernel
theorem dX6_begin_3 : decode cX6_begin 3 = .ok (.sipush 4096, 3) := by decide +kernel
theorem dX6_begin_6 : decode cX6_begin 6 = .ok (.invokestatic 63, 3) := by decide +kernel
theorem dX6_begin_9 : decode cX6_begin 9 = .ok (.ifCond .eq 7, 3) := by decide +kernel
theorem dX6_begin_12 : decode cX6_begin 12 = .ok (.iconst 0, 1) := by decide +kernel
theorem dX6_begin_13 : decode cX6_begin 13 = .ok (.goto 4, 3) := by decide +kernel
theorem dX6_begin_16 : decode cX6_begin 16 = .ok (.iconst 1, 1) := by decide +kernel
theorem dX6_begin_17 : decode cX6_begin 17 = .ok (.invokevirtual 67, 3) := by decide +kernel
theorem dX6_begin_20 : decode cX6_begin 20 = .ok (.ifCond .eq 5, 3) := by decide +kernel
theorem dX6_begin_23 : decode cX6_begin 23 = .ok (.iconst 0, 1) := by decide +kernel
theorem dX6_begin_24 : decode cX6_begin 24 = .ok (.ireturn, 1) := by decide +kernel
theorem dX6_begin_25 : decode cX6_begin 25 = .ok (.aload_n 0, 1) := by decide +kernel
theorem dX6_begin_26 : decode cX6_begin 26 = .ok (.iload_n 1, 1) := by decide +kernel
theorem dX6_begin_27 : decode cX6_begin 27 = .ok (.invokevirtual 74, 3) := by decide +kernel
theorem dX6_begin_30 : decode cX6_begin 30 = .ok (.aload_n 0, 1) := by decide +kernel
theorem dX6_begin_31 : decode cX6_begin 31 = .ok (.getfield 44, 3) := by decide +kernel
theorem dX6_begin_34 : decode cX6_begin 34 = .ok (.ireturn, 1) := by decide +kernel
theorem dX6_tell_0 : decode cX6_tell 0 = .ok (.aload_n 0, 1) := by decide +kernel
theorem dX6_tell_1 : decode cX6_tell 1 = .ok (.getfield 57, 3) := by decide +kernel
theorem dX6_tell_4 : decode cX6_tell 4 = .ok (.bipush 100, 2) := by decide +kernel
theorem dX6_tell_6 : decode cX6_tell 6 = .ok (.if_icmp .ge 23, 3) := by decide +kernel
theorem dX6_tell_9 : decode cX6_tell 9 = .ok (.aload_n 0, 1) := by decide +kernel
theorem dX6_tell_10 : decode cX6_tell 10 = .ok (.getfield 32, 3) := by decide +kernel
theorem dX6_tell_13 : decode cX6_tell 13 = .ok (.aload_n 0, 1) := by decide +kernel
theorem dX6_tell_14 : decode cX6_tell 14 = .ok (.getfield 57, 3) := by decide +kernel
theorem dX6_tell_17 : decode cX6_tell 17 = .ok (.iload_n 1, 1) := by decide +kernel
theorem dX6_tell_18 : decode cX6_tell 18 = .ok (.iastore, 1) := by decide +kernel
theorem dX6_tell_19 : decode cX6_tell 19 = .ok (.aload_n 0, 1) := by decide +kernel
theorem dX6_tell_20 : decode cX6_tell 20 = .ok (.getfield 35, 3) := by decide +kernel
theorem dX6_tell_23 : decode cX6_tell 23 = .ok (.aload_n 0, 1) := by decide +kernel
theorem dX6_tell_24 : decode cX6_tell 24 = .ok (.getfield 57, 3) := by decide +kernel
theorem dX6_tell_27 : decode cX6_tell 27 = .ok (.iload_n 2, 1) := by decide +kernel
theorem dX6_tell_28 : decode cX6_tell 28 = .ok (.iastore, 1) := by decide +kernel
theorem dX6_tell_29 : decode cX6_tell 29 = .ok (.aload_n 0, 1) := by decide +kernel
theorem dX6_tell_30 : decode cX6_tell 30 = .ok (.dup, 1) := by decide +kernel
theorem dX6_tell_31 : decode cX6_tell 31 = .ok (.getfield 57, 3) := by decide +kernel
theorem dX6_tell_34 : decode cX6_tell 34 = .ok (.iconst 1, 1) := by decide +kernel
theorem dX6_tell_35 : decode cX6_tell 35 = .ok (.iadd, 1) := by decide +kernel
theorem dX6_tell_36 : decode cX6_tell 36 = .ok (.putfield 57, 3) := by decide +kernel
theorem dX6_tell_39 : decode cX6_tell 39 = .ok (.aload_n 0, 1) := by decide +kernel
theorem dX6_tell_40 : decode cX6_tell 40 = .ok (.aload_n 0, 1) := by decide +kernel
theorem dX6_tell_41 : decode cX6_tell 41 = .ok (.getfield 60, 3) := by decide +kernel
theorem dX6_tell_44 : decode cX6_tell 44 = .ok (.iload_n 2, 1) := by decide +kernel
theorem dX6_tell_45 : decode cX6_tell 45 = .ok (.iadd, 1) := by decide +kernel
theorem dX6_tell_46 : decode cX6_tell 46 = .ok (.putfield 60, 3) := by decide +kernel
theorem dX6_tell_49 : decode cX6_tell 49 = .ok (.return_, 1) := by decide +kernel
set_option maxRecDepth 20000 in
theorem ggX6_fragment_X6_tell : GoodIn wsX6_fragment wsX6_tell := goodIn_r _ [12, 13, 14, 15, 16, 25, 26, 27, 28, 29, 30, 31, 32, 33, 34, 35, 36, 37, 38, 39, 40, 41, 42, 43, 44, 45, 46, 47] (by decide +kernel) (by decide +kernel)
set_option maxRecDepth 20000 in
theorem gX6_fragment_X6_tell : GoodIn wsX6_fragment (wsV RX6 115 RX6 yX6_tell wsX6_tell) := goodIn_app (goodIn_of _ (by decide +kernel)) ggX6_fragment_X6_tell
set_option maxRecDepth 20000 in
theorem ggX6_fragment_X6_more : GoodIn wsX6_fragment wsX6_more := goodIn_r _ [19, 20] (by decide +kernel) (by decide +kernel)
set_option maxRecDepth 20000 in
theorem gX6_fragment_X6_more : GoodIn wsX6_fragment (va_wsS RX6 83 yX6_more wsX6_more) := goodIn_app (goodIn_of _ (by decide +kernel)) ggX6_fragment_X6_more
set_option maxRecDepth 20000 in
theorem ggX6_fragment_X6_masked : GoodIn wsX6_fragment wsX6_masked := goodIn_r _ [23, 24] (by decide +kernel) (by decide +kernel)
set_option maxRecDepth 20000 in
theorem gX6_fragment_X6_masked : GoodIn wsX6_fragment (va_wsS RX6 87 yX6_masked wsX6_masked) := goodIn_app (goodIn_of _ (by decide +kernel)) ggX6_fragment_X6_masked
theorem dX6_fragment_0 : decode cX6_fragment 0 = .ok (.aload_n 0, 1) := by decide +kernel
theorem dX6_fragment_1 : decode cX6_fragment 1 = .ok (.getfield 44, 3) := by decide +kernel
theorem dX6_fragment_4 : decode cX6_fragment 4 = .ok (.aload_n 0, 1) := by decide +kernel
theorem dX6_fragment_5 : decode cX6_fragment 5 = .ok (.getfield 7, 3) := by decide +kernel
theorem dX6_fragment_8 : decode cX6_fragment 8 = .ok (.idiv, 1) := by decide +kernel
theorem dX6_fragment_9 : decode cX6_fragment 9 = .ok (.iconst 1, 1) := by decide +kernel
theorem dX6_fragment_10 : decode cX6_fragment 10 = .ok (.iadd, 1) := by decide +kernel
theorem dX6_fragment_11 : decode cX6_fragment 11 = .ok (.aload_n 0, 1) := by decide +kernel
theorem dX6_fragment_12 : decode cX6_fragment 12 = .ok (.getfield 7, 3) := by decide +kernel
theorem dX6_fragment_15 : decode cX6_fragment 15 = .ok (.imul, 1) := by decide +kernel
theorem dX6_fragment_16 : decode cX6_fragment 16 = .ok (.aload_n 0, 1) := by decide +kernel
theorem dX6_fragment_17 : decode cX6_fragment 17 = .ok (.getfield 71, 3) := by decide +kernel
theorem dX6_fragment_20 : decode cX6_fragment 20 = .ok (.if_icmp .gt 7, 3) := by decide +kernel
theorem dX6_fragment_23 : decode cX6_fragment 23 = .ok (.iconst 1, 1) := by decide +kernel
theorem dX6_fragment_24 : decode cX6_fragment 24 = .ok (.goto 4, 3) := by decide +kernel
theorem dX6_fragment_27 : decode cX6_fragment 27 = .ok (.iconst 0, 1) := by decide +kernel
theorem dX6_fragment_28 : decode cX6_fragment 28 = .ok (.istore_n 1, 1) := by decide +kernel
theorem dX6_fragment_29 : decode cX6_fragment 29 = .ok (.iload_n 1, 1) := by decide +kernel
theorem dX6_fragment_30 : decode cX6_fragment 30 = .ok (.ifCond .eq 22, 3) := by decide +kernel
theorem dX6_fragment_33 : decode cX6_fragment 33 = .ok (.aload_n 0, 1) := by decide +kernel
theorem dX6_fragment_34 : decode cX6_fragment 34 = .ok (.getfield 44, 3) := by decide +kernel
theorem dX6_fragment_37 : decode cX6_fragment 37 = .ok (.aload_n 0, 1) := by decide +kernel
theorem dX6_fragment_38 : decode cX6_fragment 38 = .ok (.getfield 7, 3) := by decide +kernel
theorem dX6_fragment_41 : decode cX6_fragment 41 = .ok (.idiv, 1) := by decide +kernel
theorem dX6_fragment_42 : decode cX6_fragment 42 = .ok (.iconst 1, 1) := by decide +kernel
theorem dX6_fragment_43 : decode cX6_fragment 43 = .ok (.iadd, 1) := by decide +kernel
theorem dX6_fragment_44 : decode cX6_fragment 44 = .ok (.aload_n 0, 1) := by decide +kernel
theorem dX6_fragment_45 : decode cX6_fragment 45 = .ok (.getfield 7, 3) := by decide +kernel
theorem dX6_fragment_48 : decode cX6_fragment 48 = .ok (.imul, 1) := by decide +kernel
theorem dX6_fragment_49 : decode cX6_fragment 49 = .ok (.goto 7, 3) := by decide +kernel
theorem dX6_fragment_52 : decode cX6_fragment 52 = .ok (.aload_n 0, 1) := by decide +kernel
theorem dX6_fragment_53 : decode cX6_fragment 53 = .ok (.getfield 71, 3) := by decide +kernel
theorem dX6_fragment_56 : decode cX6_fragment 56 = .ok (.istore_n 2, 1) := by decide +kernel
theorem dX6_fragment_57 : decode cX6_fragment 57 = .ok (.iload_n 2, 1) := by decide +kernel
theorem dX6_fragment_58 : decode cX6_fragment 58 = .ok (.aload_n 0, 1) := by decide +kernel
theorem dX6_fragment_59 : decode cX6_fragment 59 = .ok (.getfield 44, 3) := by decide +kernel
theorem dX6_fragment_62 : decode cX6_fragment 62 = .ok (.isub, 1) := by decide +kernel
theorem dX6_fragment_63 : decode cX6_fragment 63 = .ok (.bipush 7, 2) := by decide +kernel
theorem dX6_fragment_65 : decode cX6_fragment 65 = .ok (.if_icmp .ge 60, 3) := by decide +kernel
theorem dX6_fragment_68 : decode cX6_fragment 68 = .ok (.iload_n 1, 1) := by decide +kernel
theorem dX6_fragment_69 : decode cX6_fragment 69 = .ok (.ifCond .ne 5, 3) := by decide +kernel
theorem dX6_fragment_72 : decode cX6_fragment 72 = .ok (.iconst (-1), 1) := by decide +kernel
theorem dX6_fragment_73 : decode cX6_fragment 73 = .ok (.ireturn, 1) := by decide +kernel
theorem dX6_fragment_74 : decode cX6_fragment 74 = .ok (.aload_n 0, 1) := by decide +kernel
theorem dX6_fragment_75 : decode cX6_fragment 75 = .ok (.iload_n 2, 1) := by decide +kernel
theorem dX6_fragment_76 : decode cX6_fragment 76 = .ok (.putfield 44, 3) := by decide +kernel
theorem dX6_fragment_79 : decode cX6_fragment 79 = .ok (.aload_n 0, 1) := by decide +kernel
theorem dX6_fragment_80 : decode cX6_fragment 80 = .ok (.getfield 44, 3) := by decide +kernel
theorem dX6_fragment_83 : decode cX6_fragment 83 = .ok (.aload_n 0, 1) := by decide +kernel
theorem dX6_fragment_84 : decode cX6_fragment 84 = .ok (.getfield 7, 3) := by decide +kernel
theorem dX6_fragment_87 : decode cX6_fragment 87 = .ok (.iadd, 1) := by decide +kernel
theorem dX6_fragment_88 : decode cX6_fragment 88 = .ok (.aload_n 0, 1) := by decide +kernel
theorem dX6_fragment_89 : decode cX6_fragment 89 = .ok (.getfield 71, 3) := by decide +kernel
theorem dX6_fragment_92 : decode cX6_fragment 92 = .ok (.if_icmp .gt 7, 3) := by decide +kernel
theorem dX6_fragment_95 : decode cX6_fragment 95 = .ok (.iconst 1, 1) := by decide +kernel
theorem dX6_fragment_96 : decode cX6_fragment 96 = .ok (.goto 4, 3) := by decide +kernel
theorem dX6_fragment_99 : decode cX6_fragment 99 = .ok (.iconst 0, 1) := by decide +kernel
theorem dX6_fragment_100 : decode cX6_fragment 100 = .ok (.istore_n 1, 1) := by decide +kernel
theorem dX6_fragment_101 : decode cX6_fragment 101 = .ok (.iload_n 1, 1) := by decide +kernel
theorem dX6_fragment_102 : decode cX6_fragment 102 = .ok (.ifCond .eq 15, 3) := by decide +kernel
theorem dX6_fragment_105 : decode cX6_fragment 105 = .ok (.aload_n 0, 1) := by decide +kernel
theorem dX6_fragment_106 : decode cX6_fragment 106 = .ok (.getfield 44, 3) := by decide +kernel
theorem dX6_fragment_109 : decode cX6_fragment 109 = .ok (.aload_n 0, 1) := by decide +kernel
theorem dX6_fragment_110 : decode cX6_fragment 110 = .ok (.getfield 7, 3) := by decide +kernel
theorem dX6_fragment_113 : decode cX6_fragment 113 = .ok (.iadd, 1) := by decide +kernel
theorem dX6_fragment_114 : decode cX6_fragment 114 = .ok (.goto 7, 3) := by decide +kernel
theorem dX6_fragment_117 : decode cX6_fragment 117 = .ok (.aload_n 0, 1) := by decide +kernel
theorem dX6_fragment_118 : decode cX6_fragment 118 = .ok (.getfield 71, 3) := by decide +kernel
theorem dX6_fragment_121 : decode cX6_fragment 121 = .ok (.istore_n 2, 1) := by decide +kernel
theorem dX6_fragment_122 : decode cX6_fragment 122 = .ok (.goto (-65), 3) := by decide +kernel
theorem dX6_fragment_125 : decode cX6_fragment 125 = .ok (.aload_n 0, 1) := by decide +kernel
theorem dX6_fragment_126 : decode cX6_fragment 126 = .ok (.aload_n 0, 1) := by decide +kernel
theorem dX6_fragment_127 : decode cX6_fragment 127 = .ok (.getfield 44, 3) := by decide +kernel
theorem dX6_fragment_130 : decode cX6_fragment 130 = .ok (.putfield 109, 3) := by decide +kernel
theorem dX6_fragment_133 : decode cX6_fragment 133 = .ok (.aload_n 0, 1) := by decide +kernel
theorem dX6_fragment_134 : decode cX6_fragment 134 = .ok (.aload_n 0, 1) := by decide +kernel
theorem dX6_fragment_135 : decode cX6_fragment 135 = .ok (.getfield 13, 3) := by decide +kernel
theorem dX6_fragment_138 : decode cX6_fragment 138 = .ok (.aload_n 0, 1) := by decide +kernel
theorem dX6_fragment_139 : decode cX6_fragment 139 = .ok (.getfield 44, 3) := by decide +kernel
theorem dX6_fragment_142 : decode cX6_fragment 142 = .ok (.iconst 4, 1) := by decide +kernel
theorem dX6_fragment_143 : decode cX6_fragment 143 = .ok (.iadd, 1) := by decide +kernel
theorem dX6_fragment_144 : decode cX6_fragment 144 = .ok (.iaload, 1) := by decide +kernel
theorem dX6_fragment_145 : decode cX6_fragment 145 = .ok (.aload_n 0, 1) := by decide +kernel
theorem dX6_fragment_146 : decode cX6_fragment 146 = .ok (.getfield 13, 3) := by decide +kernel
theorem dX6_fragment_149 : decode cX6_fragment 149 = .ok (.aload_n 0, 1) := by decide +kernel
theorem dX6_fragment_150 : decode cX6_fragment 150 = .ok (.getfield 44, 3) := by decide +kernel
theorem dX6_fragment_153 : decode cX6_fragment 153 = .ok (.iconst 5, 1) := by decide +kernel
theorem dX6_fragment_154 : decode cX6_fragment 154 = .ok (.iadd, 1) := by decide +kernel
theorem dX6_fragment_155 : decode cX6_fragment 155 = .ok (.iaload, 1) := by decide +kernel
theorem dX6_fragment_156 : decode cX6_fragment 156 = .ok (.bipush 8, 2) := by decide +kernel
theorem dX6_fragment_158 : decode cX6_fragment 158 = .ok (.ishl, 1) := by decide +kernel
theorem dX6_fragment_159 : decode cX6_fragment 159 = .ok (.ior, 1) := by decide +kernel
theorem dX6_fragment_160 : decode cX6_fragment 160 = .ok (.putfield 112, 3) := by decide +kernel
theorem dX6_fragment_163 : decode cX6_fragment 163 = .ok (.aload_n 0, 1) := by decide +kernel
theorem dX6_fragment_164 : decode cX6_fragment 164 = .ok (.getfield 13, 3) := by decide +kernel
theorem dX6_fragment_167 : decode cX6_fragment 167 = .ok (.aload_n 0, 1) := by decide +kernel
theorem dX6_fragment_168 : decode cX6_fragment 168 = .ok (.getfield 44, 3) := by decide +kernel
theorem dX6_fragment_171 : decode cX6_fragment 171 = .ok (.bipush 6, 2) := by decide +kernel
theorem dX6_fragment_173 : decode cX6_fragment 173 = .ok (.iadd, 1) := by decide +kernel
theorem dX6_fragment_174 : decode cX6_fragment 174 = .ok (.iaload, 1) := by decide +kernel
theorem dX6_fragment_175 : decode cX6_fragment 175 = .ok (.istore_n 3, 1) := by decide +kernel
theorem dX6_fragment_176 : decode cX6_fragment 176 = .ok (.iload_n 2, 1) := by decide +kernel
theorem dX6_fragment_177 : decode cX6_fragment 177 = .ok (.aload_n 0, 1) := by decide +kernel
theorem dX6_fragment_178 : decode cX6_fragment 178 = .ok (.getfield 44, 3) := by decide +kernel
theorem dX6_fragment_181 : decode cX6_fragment 181 = .ok (.isub, 1) := by decide +kernel
theorem dX6_fragment_182 : decode cX6_fragment 182 = .ok (.istore 4, 2) := by decide +kernel
theorem dX6_fragment_184 : decode cX6_fragment 184 = .ok (.bipush 7, 2) := by decide +kernel
theorem dX6_fragment_186 : decode cX6_fragment 186 = .ok (.aload_n 0, 1) := by decide +kernel
theorem dX6_fragment_187 : decode cX6_fragment 187 = .ok (.getfield 112, 3) := by decide +kernel
theorem dX6_fragment_190 : decode cX6_fragment 190 = .ok (.iadd, 1) := by decide +kernel
theorem dX6_fragment_191 : decode cX6_fragment 191 = .ok (.iload 4, 2) := by decide +kernel
theorem dX6_fragment_193 : decode cX6_fragment 193 = .ok (.if_icmp .le 24, 3) := by decide +kernel
theorem dX6_fragment_196 : decode cX6_fragment 196 = .ok (.iload_n 1, 1) := by decide +kernel
theorem dX6_fragment_197 : decode cX6_fragment 197 = .ok (.ifCond .ne 5, 3) := by decide +kernel
theorem dX6_fragment_200 : decode cX6_fragment 200 = .ok (.iconst (-1), 1) := by decide +kernel
theorem dX6_fragment_201 : decode cX6_fragment 201 = .ok (.ireturn, 1) := by decide +kernel
theorem dX6_fragment_202 : decode cX6_fragment 202 = .ok (.aload_n 0, 1) := by decide +kernel
theorem dX6_fragment_203 : decode cX6_fragment 203 = .ok (.iload_n 2, 1) := by decide +kernel
theorem dX6_fragment_204 : decode cX6_fragment 204 = .ok (.putfield 44, 3) := by decide +kernel
theorem dX6_fragment_207 : decode cX6_fragment 207 = .ok (.aload_n 0, 1) := by decide +kernel
theorem dX6_fragment_208 : decode cX6_fragment 208 = .ok (.iconst 1, 1) := by decide +kernel
theorem dX6_fragment_209 : decode cX6_fragment 209 = .ok (.iload 4, 2) := by decide +kernel
theorem dX6_fragment_211 : decode cX6_fragment 211 = .ok (.invokevirtual 115, 3) := by decide +kernel
theorem dX6_fragment_214 : decode cX6_fragment 214 = .ok (.bipush (-2), 2) := by decide +kernel
theorem dX6_fragment_216 : decode cX6_fragment 216 = .ok (.ireturn, 1) := by decide +kernel
theorem dX6_fragment_217 : decode cX6_fragment 217 = .ok (.iload_n 3, 1) := by decide +kernel
theorem dX6_fragment_218 : decode cX6_fragment 218 = .ok (.ifCond .ne 18, 3) := by decide +kernel
theorem dX6_fragment_221 : decode cX6_fragment 221 = .ok (.aload_n 0, 1) := by decide +kernel
theorem dX6_fragment_222 : decode cX6_fragment 222 = .ok (.getfield 112, 3) := by decide +kernel
theorem dX6_fragment_225 : decode cX6_fragment 225 = .ok (.ifCond .ne 11, 3) := by decide +kernel
theorem dX6_fragment_228 : decode cX6_fragment 228 = .ok (.aload_n 0, 1) := by decide +kernel
theorem dX6_fragment_229 : decode cX6_fragment 229 = .ok (.iload_n 2, 1) := by decide +kernel
theorem dX6_fragment_230 : decode cX6_fragment 230 = .ok (.putfield 44, 3) := by decide +kernel
theorem dX6_fragment_233 : decode cX6_fragment 233 = .ok (.bipush (-2), 2) := by decide +kernel
theorem dX6_fragment_235 : decode cX6_fragment 235 = .ok (.ireturn, 1) := by decide +kernel
theorem dX6_fragment_236 : decode cX6_fragment 236 = .ok (.iconst (-1), 1) := by decide +kernel
theorem dX6_fragment_237 : decode cX6_fragment 237 = .ok (.istore 5, 2) := by decide +kernel
theorem dX6_fragment_239 : decode cX6_fragment 239 = .ok (.iconst 0, 1) := by decide +kernel
theorem dX6_fragment_240 : decode cX6_fragment 240 = .ok (.istore 6, 2) := by decide +kernel
theorem dX6_fragment_242 : decode cX6_fragment 242 = .ok (.iload 6, 2) := by decide +kernel
theorem dX6_fragment_244 : decode cX6_fragment 244 = .ok (.aload_n 0, 1) := by decide +kernel
theorem dX6_fragment_245 : decode cX6_fragment 245 = .ok (.getfield 112, 3) := by decide +kernel
theorem dX6_fragment_248 : decode cX6_fragment 248 = .ok (.if_icmp .gt 31, 3) := by decide +kernel
theorem dX6_fragment_251 : decode cX6_fragment 251 = .ok (.iload 5, 2) := by decide +kernel
theorem dX6_fragment_253 : decode cX6_fragment 253 = .ok (.aload_n 0, 1) := by decide +kernel
theorem dX6_fragment_254 : decode cX6_fragment 254 = .ok (.getfield 13, 3) := by decide +kernel
theorem dX6_fragment_257 : decode cX6_fragment 257 = .ok (.aload_n 0, 1) := by decide +kernel
theorem dX6_fragment_258 : decode cX6_fragment 258 = .ok (.getfield 44, 3) := by decide +kernel
theorem dX6_fragment_261 : decode cX6_fragment 261 = .ok (.bipush 6, 2) := by decide +kernel
theorem dX6_fragment_263 : decode cX6_fragment 263 = .ok (.iadd, 1) := by decide +kernel
theorem dX6_fragment_264 : decode cX6_fragment 264 = .ok (.iload 6, 2) := by decide +kernel
theorem dX6_fragment_266 : decode cX6_fragment 266 = .ok (.iadd, 1) := by decide +kernel
theorem dX6_fragment_267 : decode cX6_fragment 267 = .ok (.iaload, 1) := by decide +kernel
theorem dX6_fragment_268 : decode cX6_fragment 268 = .ok (.invokestatic 83, 3) := by decide +kernel
theorem dX6_fragment_271 : decode cX6_fragment 271 = .ok (.istore 5, 2) := by decide +kernel
theorem dX6_fragment_273 : decode cX6_fragment 273 = .ok (.iinc 6 1, 3) := by decide +kernel
theorem dX6_fragment_276 : decode cX6_fragment 276 = .ok (.goto (-34), 3) := by decide +kernel
theorem dX6_fragment_279 : decode cX6_fragment 279 = .ok (.iload 5, 2) := by decide +kernel
theorem dX6_fragment_281 : decode cX6_fragment 281 = .ok (.invokestatic 87, 3) := by decide +kernel
theorem dX6_fragment_284 : decode cX6_fragment 284 = .ok (.istore 5, 2) := by decide +kernel
theorem dX6_fragment_286 : decode cX6_fragment 286 = .ok (.iload 5, 2) := by decide +kernel
theorem dX6_fragment_288 : decode cX6_fragment 288 = .ok (.aload_n 0, 1) := by decide +kernel
theorem dX6_fragment_289 : decode cX6_fragment 289 = .ok (.getfield 13, 3) := by decide +kernel
theorem dX6_fragment_292 : decode cX6_fragment 292 = .ok (.aload_n 0, 1) := by decide +kernel
theorem dX6_fragment_293 : decode cX6_fragment 293 = .ok (.getfield 44, 3) := by decide +kernel
theorem dX6_fragment_296 : decode cX6_fragment 296 = .ok (.iaload, 1) := by decide +kernel
theorem dX6_fragment_297 : decode cX6_fragment 297 = .ok (.aload_n 0, 1) := by decide +kernel
theorem dX6_fragment_298 : decode cX6_fragment 298 = .ok (.getfield 13, 3) := by decide +kernel
theorem dX6_fragment_301 : decode cX6_fragment 301 = .ok (.aload_n 0, 1) := by decide +kernel
theorem dX6_fragment_302 : decode cX6_fragment 302 = .ok (.getfield 44, 3) := by decide +kernel
theorem dX6_fragment_305 : decode cX6_fragment 305 = .ok (.iconst 1, 1) := by decide +kernel
theorem dX6_fragment_306 : decode cX6_fragment 306 = .ok (.iadd, 1) := by decide +kernel
theorem dX6_fragment_307 : decode cX6_fragment 307 = .ok (.iaload, 1) := by decide +kernel
theorem dX6_fragment_308 : decode cX6_fragment 308 = .ok (.bipush 8, 2) := by decide +kernel
theorem dX6_fragment_310 : decode cX6_fragment 310 = .ok (.ishl, 1) := by decide +kernel
theorem dX6_fragment_311 : decode cX6_fragment 311 = .ok (.ior, 1) := by decide +kernel
theorem dX6_fragment_312 : decode cX6_fragment 312 = .ok (.aload_n 0, 1) := by decide +kernel
theorem dX6_fragment_313 : decode cX6_fragment 313 = .ok (.getfield 13, 3) := by decide +kernel
theorem dX6_fragment_316 : decode cX6_fragment 316 = .ok (.aload_n 0, 1) := by decide +kernel
theorem dX6_fragment_317 : decode cX6_fragment 317 = .ok (.getfield 44, 3) := by decide +kernel
theorem dX6_fragment_320 : decode cX6_fragment 320 = .ok (.iconst 2, 1) := by decide +kernel
theorem dX6_fragment_321 : decode cX6_fragment 321 = .ok (.iadd, 1) := by decide +kernel
theorem dX6_fragment_322 : decode cX6_fragment 322 = .ok (.iaload, 1) := by decide +kernel
theorem dX6_fragment_323 : decode cX6_fragment 323 = .ok (.bipush 16, 2) := by decide +kernel
theorem dX6_fragment_325 : decode cX6_fragment 325 = .ok (.ishl, 1) := by decide +kernel
theorem dX6_fragment_326 : decode cX6_fragment 326 = .ok (.ior, 1) := by decide +kernel
theorem dX6_fragment_327 : decode cX6_fragment 327 = .ok (.aload_n 0, 1) := by decide +kernel
theorem dX6_fragment_328 : decode cX6_fragment 328 = .ok (.getfield 13, 3) := by decide +kernel
theorem dX6_fragment_331 : decode cX6_fragment 331 = .ok (.aload_n 0, 1) := by decide +kernel
theorem dX6_fragment_332 : decode cX6_fragment 332 = .ok (.getfield 44, 3) := by decide +kernel
theorem dX6_fragment_335 : decode cX6_fragment 335 = .ok (.iconst 3, 1) := by decide +kernel
theorem dX6_fragment_336 : decode cX6_fragment 336 = .ok (.iadd, 1) := by decide +kernel
theorem dX6_fragment_337 : decode cX6_fragment 337 = .ok (.iaload, 1) := by decide +kernel
theorem dX6_fragment_338 : decode cX6_fragment 338 = .ok (.bipush 24, 2) := by decide +kernel
theorem dX6_fragment_340 : decode cX6_fragment 340 = .ok (.ishl, 1) := by decide +kernel
theorem dX6_fragment_341 : decode cX6_fragment 341 = .ok (.ior, 1) := by decide +kernel
theorem dX6_fragment_342 : decode cX6_fragment 342 = .ok (.if_icmp .eq 18, 3) := by decide +kernel
theorem dX6_fragment_345 : decode cX6_fragment 345 = .ok (.aload_n 0, 1) := by decide +kernel
theorem dX6_fragment_346 : decode cX6_fragment 346 = .ok (.iload_n 2, 1) := by decide +kernel
theorem dX6_fragment_347 : decode cX6_fragment 347 = .ok (.putfield 44, 3) := by decide +kernel
theorem dX6_fragment_350 : decode cX6_fragment 350 = .ok (.aload_n 0, 1) := by decide +kernel
theorem dX6_fragment_351 : decode cX6_fragment 351 = .ok (.iconst 2, 1) := by decide +kernel
theorem dX6_fragment_352 : decode cX6_fragment 352 = .ok (.iload 4, 2) := by decide +kernel
theorem dX6_fragment_354 : decode cX6_fragment 354 = .ok (.invokevirtual 115, 3) := by decide +kernel
theorem dX6_fragment_357 : decode cX6_fragment 357 = .ok (.bipush (-2), 2) := by decide +kernel
theorem dX6_fragment_359 : decode cX6_fragment 359 = .ok (.ireturn, 1) := by decide +kernel
theorem dX6_fragment_360 : decode cX6_fragment 360 = .ok (.aload_n 0, 1) := by decide +kernel
theorem dX6_fragment_361 : decode cX6_fragment 361 = .ok (.aload_n 0, 1) := by decide +kernel
theorem dX6_fragment_362 : decode cX6_fragment 362 = .ok (.getfield 44, 3) := by decide +kernel
theorem dX6_fragment_365 : decode cX6_fragment 365 = .ok (.bipush 7, 2) := by decide +kernel
theorem dX6_fragment_367 : decode cX6_fragment 367 = .ok (.iadd, 1) := by decide +kernel
theorem dX6_fragment_368 : decode cX6_fragment 368 = .ok (.aload_n 0, 1) := by decide +kernel
theorem dX6_fragment_369 : decode cX6_fragment 369 = .ok (.getfield 112, 3) := by decide +kernel
theorem dX6_fragment_372 : decode cX6_fragment 372 = .ok (.iadd, 1) := by decide +kernel
theorem dX6_fragment_373 : decode cX6_fragment 373 = .ok (.putfield 44, 3) := by decide +kernel
theorem dX6_fragment_376 : decode cX6_fragment 376 = .ok (.aload_n 0, 1) := by decide +kernel
theorem dX6_fragment_377 : decode cX6_fragment 377 = .ok (.getfield 109, 3) := by decide +kernel
theorem dX6_fragment_380 : decode cX6_fragment 380 = .ok (.aload_n 0, 1) := by decide +kernel
theorem dX6_fragment_381 : decode cX6_fragment 381 = .ok (.getfield 41, 3) := by decide +kernel
