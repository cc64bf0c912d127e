theorem dX9_rate_82 : decode cX9_rate 82 = .ok (.ladd, 1) := by decide +kernel
theorem dX9_rate_83 : decode cX9_rate 83 = .ok (.putfield 184, 3) := by decide +kernel
theorem dX9_rate_86 : decode cX9_rate 86 = .ok (.iconst 2, 1) := by decide +kernel
theorem dX9_rate_87 : decode cX9_rate 87 = .ok (.aload_n 0, 1) := by decide +kernel
theorem dX9_rate_88 : decode cX9_rate 88 = .ok (.iload_n 2, 1) := by decide +kernel
theorem dX9_rate_89 : decode cX9_rate 89 = .ok (.invokevirtual 196, 3) := by decide +kernel
theorem dX9_rate_92 : decode cX9_rate 92 = .ok (.imul, 1) := by decide +kernel
theorem dX9_rate_93 : decode cX9_rate 93 = .ok (.ireturn, 1) := by decide +kernel
theorem dX9_rate_94 : decode cX9_rate 94 = .ok (.aload_n 0, 1) := by decide +kernel
theorem dX9_rate_95 : decode cX9_rate 95 = .ok (.dup, 1) := by decide +kernel
theorem dX9_rate_96 : decode cX9_rate 96 = .ok (.getfield 184, 3) := by decide +kernel
theorem dX9_rate_99 : decode cX9_rate 99 = .ok (.ldc2_w 204, 3) := by decide +kernel
theorem dX9_rate_102 : decode cX9_rate 102 = .ok (.ladd, 1) := by decide +kernel
theorem dX9_rate_103 : decode cX9_rate 103 = .ok (.putfield 184, 3) := by decide +kernel
theorem dX9_rate_106 : decode cX9_rate 106 = .ok (.aload_n 0, 1) := by decide +kernel
theorem dX9_rate_107 : decode cX9_rate 107 = .ok (.iload_n 2, 1) := by decide +kernel
theorem dX9_rate_108 : decode cX9_rate 108 = .ok (.invokevirtual 199, 3) := by decide +kernel
theorem dX9_rate_111 : decode cX9_rate 111 = .ok (.iload_n 2, 1) := by decide +kernel
theorem dX9_rate_112 : decode cX9_rate 112 = .ok (.iadd, 1) := by decide +kernel
theorem dX9_rate_113 : decode cX9_rate 113 = .ok (.ireturn, 1) := by decide +kernel
theorem dX9_rate_114 : decode cX9_rate 114 = .ok (.aload_n 0, 1) := by decide +kernel
theorem dX9_rate_115 : decode cX9_rate 115 = .ok (.dup, 1) := by decide +kernel
theorem dX9_rate_116 : decode cX9_rate 116 = .ok (.getfield 184, 3) := by decide +kernel
theorem dX9_rate_119 : decode cX9_rate 119 = .ok (.ldc2_w 206, 3) := by decide +kernel
theorem dX9_rate_122 : decode cX9_rate 122 = .ok (.ladd, 1) := by decide +kernel
theorem dX9_rate_123 : decode cX9_rate 123 = .ok (.putfield 184, 3) := by decide +kernel
theorem dX9_rate_126 : decode cX9_rate 126 = .ok (.aload_n 0, 1) := by decide +kernel
theorem dX9_rate_127 : decode cX9_rate 127 = .ok (.iload_n 2, 1) := by decide +kernel
theorem dX9_rate_128 : decode cX9_rate 128 = .ok (.invokevirtual 190, 3) := by decide +kernel
theorem dX9_rate_131 : decode cX9_rate 131 = .ok (.aload_n 0, 1) := by decide +kernel
theorem dX9_rate_132 : decode cX9_rate 132 = .ok (.getfield 26, 3) := by decide +kernel
theorem dX9_rate_135 : decode cX9_rate 135 = .ok (.iconst 0, 1) := by decide +kernel
theorem dX9_rate_136 : decode cX9_rate 136 = .ok (.iaload, 1) := by decide +kernel
theorem dX9_rate_137 : decode cX9_rate 137 = .ok (.iadd, 1) := by decide +kernel
theorem dX9_rate_138 : decode cX9_rate 138 = .ok (.ireturn, 1) := by decide +kernel
set_option maxRecDepth 20000 in
theorem ggX9_keep_X9_in : GoodIn wsX9_keep wsX9_in := goodIn_r _ [7] (by decide +kernel) (by decide +kernel)
set_option maxRecDepth 20000 in
theorem gX9_keep_X9_in : GoodIn wsX9_keep (va_wsS RX9 60 yX9_in wsX9_in) := goodIn_app (goodIn_of _ (by decide +kernel)) ggX9_keep_X9_in
set_option maxRecDepth 20000 in
theorem ggX9_keep_X9_copy : GoodIn wsX9_keep wsX9_copy := goodIn_r _ [10] (by decide +kernel) (by decide +kernel)
set_option maxRecDepth 20000 in
theorem gX9_keep_X9_copy : GoodIn wsX9_keep (va_wsS RX9 128 yX9_copy wsX9_copy) := goodIn_app (goodIn_of _ (by decide +kernel)) ggX9_keep_X9_copy
theorem dX9_keep_0 : decode cX9_keep 0 = .ok (.iload_n 1, 1) := by decide +kernel
theorem dX9_keep_1 : decode cX9_keep 1 = .ok (.iconst 0, 1) := by decide +kernel
theorem dX9_keep_2 : decode cX9_keep 2 = .ok (.iconst 1, 1) := by decide +kernel
theorem dX9_keep_3 : decode cX9_keep 3 = .ok (.invokestatic 60, 3) := by decide +kernel
theorem dX9_keep_6 : decode cX9_keep 6 = .ok (.ifCond .ne 5, 3) := by decide +kernel
theorem dX9_keep_9 : decode cX9_keep 9 = .ok (.iconst (-1), 1) := by decide +kernel
theorem dX9_keep_10 : decode cX9_keep 10 = .ok (.ireturn, 1) := by decide +kernel
theorem dX9_keep_11 : decode cX9_keep 11 = .ok (.aload_n 0, 1) := by decide +kernel
theorem dX9_keep_12 : decode cX9_keep 12 = .ok (.getfield 32, 3) := by decide +kernel
theorem dX9_keep_15 : decode cX9_keep 15 = .ok (.bipush 15, 2) := by decide +kernel
theorem dX9_keep_17 : decode cX9_keep 17 = .ok (.iload_n 1, 1) := by decide +kernel
theorem dX9_keep_18 : decode cX9_keep 18 = .ok (.imul, 1) := by decide +kernel
theorem dX9_keep_19 : decode cX9_keep 19 = .ok (.aload_n 0, 1) := by decide +kernel
theorem dX9_keep_20 : decode cX9_keep 20 = .ok (.getfield 26, 3) := by decide +kernel
theorem dX9_keep_23 : decode cX9_keep 23 = .ok (.iconst 0, 1) := by decide +kernel
theorem dX9_keep_24 : decode cX9_keep 24 = .ok (.invokestatic 128, 3) := by decide +kernel
theorem dX9_keep_27 : decode cX9_keep 27 = .ok (.aload_n 0, 1) := by decide +kernel
theorem dX9_keep_28 : decode cX9_keep 28 = .ok (.getfield 35, 3) := by decide +kernel
theorem dX9_keep_31 : decode cX9_keep 31 = .ok (.iload_n 1, 1) := by decide +kernel
theorem dX9_keep_32 : decode cX9_keep 32 = .ok (.iconst 1, 1) := by decide +kernel
theorem dX9_keep_33 : decode cX9_keep 33 = .ok (.bastore, 1) := by decide +kernel
theorem dX9_keep_34 : decode cX9_keep 34 = .ok (.aload_n 0, 1) := by decide +kernel
theorem dX9_keep_35 : decode cX9_keep 35 = .ok (.getfield 26, 3) := by decide +kernel
theorem dX9_keep_38 : decode cX9_keep 38 = .ok (.iconst 0, 1) := by decide +kernel
theorem dX9_keep_39 : decode cX9_keep 39 = .ok (.iaload, 1) := by decide +kernel
theorem dX9_keep_40 : decode cX9_keep 40 = .ok (.ireturn, 1) := by decide +kernel
set_option maxRecDepth 20000 in
theorem ggX9_back_X9_in : GoodIn wsX9_back wsX9_in := goodIn_r _ [8] (by decide +kernel) (by decide +kernel)
set_option maxRecDepth 20000 in
theorem gX9_back_X9_in : GoodIn wsX9_back (va_wsS RX9 60 yX9_in wsX9_in) := goodIn_app (goodIn_of _ (by decide +kernel)) ggX9_back_X9_in
set_option maxRecDepth 20000 in
theorem ggX9_back_X9_copy : GoodIn wsX9_back wsX9_copy := goodIn_r _ [11] (by decide +kernel) (by decide +kernel)
set_option maxRecDepth 20000 in
theorem gX9_back_X9_copy : GoodIn wsX9_back (va_wsS RX9 128 yX9_copy wsX9_copy) := goodIn_app (goodIn_of _ (by decide +kernel)) ggX9_back_X9_copy
theorem dX9_back_0 : decode cX9_back 0 = .ok (.iload_n 1, 1) := by decide +kernel
theorem dX9_back_1 : decode cX9_back 1 = .ok (.iconst 0, 1) := by decide +kernel
theorem dX9_back_2 : decode cX9_back 2 = .ok (.iconst 1, 1) := by decide +kernel
theorem dX9_back_3 : decode cX9_back 3 = .ok (.invokestatic 60, 3) := by decide +kernel
theorem dX9_back_6 : decode cX9_back 6 = .ok (.ifCond .ne 5, 3) := by decide +kernel
theorem dX9_back_9 : decode cX9_back 9 = .ok (.iconst (-1), 1) := by decide +kernel
theorem dX9_back_10 : decode cX9_back 10 = .ok (.ireturn, 1) := by decide +kernel
theorem dX9_back_11 : decode cX9_back 11 = .ok (.aload_n 0, 1) := by decide +kernel
theorem dX9_back_12 : decode cX9_back 12 = .ok (.getfield 35, 3) := by decide +kernel
theorem dX9_back_15 : decode cX9_back 15 = .ok (.iload_n 1, 1) := by decide +kernel
theorem dX9_back_16 : decode cX9_back 16 = .ok (.baload, 1) := by decide +kernel
theorem dX9_back_17 : decode cX9_back 17 = .ok (.ifCond .ne 6, 3) := by decide +kernel
theorem dX9_back_20 : decode cX9_back 20 = .ok (.bipush (-2), 2) := by decide +kernel
theorem dX9_back_22 : decode cX9_back 22 = .ok (.ireturn, 1) := by decide +kernel
theorem dX9_back_23 : decode cX9_back 23 = .ok (.aload_n 0, 1) := by decide +kernel
theorem dX9_back_24 : decode cX9_back 24 = .ok (.getfield 26, 3) := by decide +kernel
theorem dX9_back_27 : decode cX9_back 27 = .ok (.iconst 0, 1) := by decide +kernel
theorem dX9_back_28 : decode cX9_back 28 = .ok (.aload_n 0, 1) := by decide +kernel
theorem dX9_back_29 : decode cX9_back 29 = .ok (.getfield 32, 3) := by decide +kernel
theorem dX9_back_32 : decode cX9_back 32 = .ok (.bipush 15, 2) := by decide +kernel
theorem dX9_back_34 : decode cX9_back 34 = .ok (.iload_n 1, 1) := by decide +kernel
theorem dX9_back_35 : decode cX9_back 35 = .ok (.imul, 1) := by decide +kernel
theorem dX9_back_36 : decode cX9_back 36 = .ok (.invokestatic 128, 3) := by decide +kernel
theorem dX9_back_39 : decode cX9_back 39 = .ok (.aload_n 0, 1) := by decide +kernel
theorem dX9_back_40 : decode cX9_back 40 = .ok (.iconst 0, 1) := by decide +kernel
theorem dX9_back_41 : decode cX9_back 41 = .ok (.putfield 122, 3) := by decide +kernel
theorem dX9_back_44 : decode cX9_back 44 = .ok (.aload_n 0, 1) := by decide +kernel
theorem dX9_back_45 : decode cX9_back 45 = .ok (.getfield 26, 3) := by decide +kernel
theorem dX9_back_48 : decode cX9_back 48 = .ok (.iconst 0, 1) := by decide +kernel
theorem dX9_back_49 : decode cX9_back 49 = .ok (.iaload, 1) := by decide +kernel
theorem dX9_back_50 : decode cX9_back 50 = .ok (.ireturn, 1) := by decide +kernel
theorem dX9_count_0 : decode cX9_count 0 = .ok (.iload_n 1, 1) := by decide +kernel
theorem dX9_count_1 : decode cX9_count 1 = .ok (.tableswitch 69 0 5 #[39, 44, 49, 54, 59, 64], 39) := by decide +kernel
theorem dX9_count_40 : decode cX9_count 40 = .ok (.aload_n 0, 1) := by decide +kernel
theorem dX9_count_41 : decode cX9_count 41 = .ok (.getfield 7, 3) := by decide +kernel
theorem dX9_count_44 : decode cX9_count 44 = .ok (.ireturn, 1) := by decide +kernel
theorem dX9_count_45 : decode cX9_count 45 = .ok (.aload_n 0, 1) := by decide +kernel
theorem dX9_count_46 : decode cX9_count 46 = .ok (.getfield 13, 3) := by decide +kernel
theorem dX9_count_49 : decode cX9_count 49 = .ok (.ireturn, 1) := by decide +kernel
theorem dX9_count_50 : decode cX9_count 50 = .ok (.aload_n 0, 1) := by decide +kernel
theorem dX9_count_51 : decode cX9_count 51 = .ok (.getfield 16, 3) := by decide +kernel
theorem dX9_count_54 : decode cX9_count 54 = .ok (.ireturn, 1) := by decide +kernel
theorem dX9_count_55 : decode cX9_count 55 = .ok (.aload_n 0, 1) := by decide +kernel
theorem dX9_count_56 : decode cX9_count 56 = .ok (.getfield 19, 3) := by decide +kernel
theorem dX9_count_59 : decode cX9_count 59 = .ok (.ireturn, 1) := by decide +kernel
theorem dX9_count_60 : decode cX9_count 60 = .ok (.aload_n 0, 1) := by decide +kernel
theorem dX9_count_61 : decode cX9_count 61 = .ok (.getfield 125, 3) := by decide +kernel
theorem dX9_count_64 : decode cX9_count 64 = .ok (.ireturn, 1) := by decide +kernel
theorem dX9_count_65 : decode cX9_count 65 = .ok (.aload_n 0, 1) := by decide +kernel
theorem dX9_count_66 : decode cX9_count 66 = .ok (.getfield 64, 3) := by decide +kernel
theorem dX9_count_69 : decode cX9_count 69 = .ok (.ireturn, 1) := by decide +kernel
theorem dX9_count_70 : decode cX9_count 70 = .ok (.iconst (-1), 1) := by decide +kernel
theorem dX9_count_71 : decode cX9_count 71 = .ok (.ireturn, 1) := by decide +kernel
theorem dX9_trace_0 : decode cX9_trace 0 = .ok (.aload_n 0, 1) := by decide +kernel
theorem dX9_trace_1 : decode cX9_trace 1 = .ok (.getfield 184, 3) := by decide +kernel
theorem dX9_trace_4 : decode cX9_trace 4 = .ok (.lreturn, 1) := by decide +kernel
theorem dJ9_max_7cf53_0 : decode cJ9_max_7cf53 0 = .ok (.iload_n 0, 1) := by decide +kernel
theorem dJ9_max_7cf53_1 : decode cJ9_max_7cf53 1 = .ok (.iload_n 1, 1) := by decide +kernel
theorem dJ9_max_7cf53_2 : decode cJ9_max_7cf53 2 = .ok (.if_icmp .lt 7, 3) := by decide +kernel
theorem dJ9_max_7cf53_5 : decode cJ9_max_7cf53 5 = .ok (.iload_n 0, 1) := by decide +kernel
theorem dJ9_max_7cf53_6 : decode cJ9_max_7cf53 6 = .ok (.goto 4, 3) := by decide +kernel
theorem dJ9_max_7cf53_9 : decode cJ9_max_7cf53 9 = .ok (.iload_n 1, 1) := by decide +kernel
theorem dJ9_max_7cf53_10 : decode cJ9_max_7cf53 10 = .ok (.ireturn, 1) := by decide +kernel
theorem dJ9_min_7cf53_0 : decode cJ9_min_7cf53 0 = .ok (.iload_n 0, 1) := by decide +kernel
theorem dJ9_min_7cf53_1 : decode cJ9_min_7cf53 1 = .ok (.iload_n 1, 1) := by decide +kernel
theorem dJ9_min_7cf53_2 : decode cJ9_min_7cf53 2 = .ok (.if_icmp .gt 7, 3) := by decide +kernel
theorem dJ9_min_7cf53_5 : decode cJ9_min_7cf53 5 = .ok (.iload_n 0, 1) := by decide +kernel
theorem dJ9_min_7cf53_6 : decode cJ9_min_7cf53 6 = .ok (.goto 4, 3) := by decide +kernel
theorem dJ9_min_7cf53_9 : decode cJ9_min_7cf53 9 = .ok (.iload_n 1, 1) := by decide +kernel
theorem dJ9_min_7cf53_10 : decode cJ9_min_7cf53 10 = .ok (.ireturn, 1) := by decide +kernel
theorem dJ7_fill_53178_0 : decode cJ7_fill_53178 0 = .ok (.iconst 0, 1) := by decide +kernel
theorem dJ7_fill_53178_1 : decode cJ7_fill_53178 1 = .ok (.istore_n 2, 1) := by decide +kernel
theorem dJ7_fill_53178_2 : decode cJ7_fill_53178 2 = .ok (.aload_n 0, 1) := by decide +kernel
theorem dJ7_fill_53178_3 : decode cJ7_fill_53178 3 = .ok (.arraylength, 1) := by decide +kernel
theorem dJ7_fill_53178_4 : decode cJ7_fill_53178 4 = .ok (.istore_n 3, 1) := by decide +kernel
theorem dJ7_fill_53178_5 : decode cJ7_fill_53178 5 = .ok (.iload_n 2, 1) := by decide +kernel
theorem dJ7_fill_53178_6 : decode cJ7_fill_53178 6 = .ok (.iload_n 3, 1) := by decide +kernel
theorem dJ7_fill_53178_7 : decode cJ7_fill_53178 7 = .ok (.if_icmp .ge 13, 3) := by decide +kernel
theorem dJ7_fill_53178_10 : decode cJ7_fill_53178 10 = .ok (.aload_n 0, 1) := by decide +kernel
theorem dJ7_fill_53178_11 : decode cJ7_fill_53178 11 = .ok (.iload_n 2, 1) := by decide +kernel
theorem dJ7_fill_53178_12 : decode cJ7_fill_53178 12 = .ok (.iload_n 1, 1) := by decide +kernel
theorem dJ7_fill_53178_13 : decode cJ7_fill_53178 13 = .ok (.iastore, 1) := by decide +kernel
theorem dJ7_fill_53178_14 : decode cJ7_fill_53178 14 = .ok (.iinc 2 1, 3) := by decide +kernel
theorem dJ7_fill_53178_17 : decode cJ7_fill_53178 17 = .ok (.goto (-12), 3) := by decide +kernel
theorem dJ7_fill_53178_20 : decode cJ7_fill_53178 20 = .ok (.return_, 1) := by decide +kernel
