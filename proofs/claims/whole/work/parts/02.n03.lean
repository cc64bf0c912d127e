theorem dX4_readStart_6 : decode cX4_readStart 6 = .ok (.getfield 94, 3) := by decide +kernel
theorem dX4_readStart_9 : decode cX4_readStart 9 = .ok (.iconst 1, 1) := by decide +kernel
theorem dX4_readStart_10 : decode cX4_readStart 10 = .ok (.isub, 1) := by decide +kernel
theorem dX4_readStart_11 : decode cX4_readStart 11 = .ok (.invokevirtual 86, 3) := by decide +kernel
theorem dX4_readStart_14 : decode cX4_readStart 14 = .ok (.ifCond .ne 5, 3) := by decide +kernel
theorem dX4_readStart_17 : decode cX4_readStart 17 = .ok (.iconst 0, 1) := by decide +kernel
theorem dX4_readStart_18 : decode cX4_readStart 18 = .ok (.ireturn, 1) := by decide +kernel
theorem dX4_readStart_19 : decode cX4_readStart 19 = .ok (.aload_n 0, 1) := by decide +kernel
theorem dX4_readStart_20 : decode cX4_readStart 20 = .ok (.getfield 12, 3) := by decide +kernel
theorem dX4_readStart_23 : decode cX4_readStart 23 = .ok (.aload_n 0, 1) := by decide +kernel
theorem dX4_readStart_24 : decode cX4_readStart 24 = .ok (.getfield 68, 3) := by decide +kernel
theorem dX4_readStart_27 : decode cX4_readStart 27 = .ok (.putfield 103, 3) := by decide +kernel
theorem dX4_readStart_30 : decode cX4_readStart 30 = .ok (.aload_n 0, 1) := by decide +kernel
theorem dX4_readStart_31 : decode cX4_readStart 31 = .ok (.iconst 1, 1) := by decide +kernel
theorem dX4_readStart_32 : decode cX4_readStart 32 = .ok (.putfield 36, 3) := by decide +kernel
theorem dX4_readStart_35 : decode cX4_readStart 35 = .ok (.iconst 1, 1) := by decide +kernel
theorem dX4_readStart_36 : decode cX4_readStart 36 = .ok (.ireturn, 1) := by decide +kernel
set_option maxRecDepth 20000 in
theorem ggX4_isNumber_X4_step : GoodIn wsX4_isNumber wsX4_step := goodIn_r _ [7, 8, 9, 10, 11, 12, 1, 13, 14, 15, 16, 17, 18, 19, 20, 21, 22, 6, 23, 2, 24, 25, 26, 27, 28, 29, 30, 31, 32, 33, 34] (by decide +kernel) (by decide +kernel)
set_option maxRecDepth 20000 in
theorem gX4_isNumber_X4_step : GoodIn wsX4_isNumber (wsV RX4 39 RX4 yX4_step wsX4_step) := goodIn_app (goodIn_of _ (by decide +kernel)) ggX4_isNumber_X4_step
theorem dX4_isNumber_0 : decode cX4_isNumber 0 = .ok (.aload_n 0, 1) := by decide +kernel
theorem dX4_isNumber_1 : decode cX4_isNumber 1 = .ok (.invokevirtual 39, 3) := by decide +kernel
theorem dX4_isNumber_4 : decode cX4_isNumber 4 = .ok (.aload_n 0, 1) := by decide +kernel
theorem dX4_isNumber_5 : decode cX4_isNumber 5 = .ok (.getfield 42, 3) := by decide +kernel
theorem dX4_isNumber_8 : decode cX4_isNumber 8 = .ok (.bipush (-2), 2) := by decide +kernel
theorem dX4_isNumber_10 : decode cX4_isNumber 10 = .ok (.if_icmp .ne 23, 3) := by decide +kernel
theorem dX4_isNumber_13 : decode cX4_isNumber 13 = .ok (.aload_n 0, 1) := by decide +kernel
theorem dX4_isNumber_14 : decode cX4_isNumber 14 = .ok (.getfield 68, 3) := by decide +kernel
theorem dX4_isNumber_17 : decode cX4_isNumber 17 = .ok (.iload_n 1, 1) := by decide +kernel
theorem dX4_isNumber_18 : decode cX4_isNumber 18 = .ok (.if_icmp .lt 15, 3) := by decide +kernel
theorem dX4_isNumber_21 : decode cX4_isNumber 21 = .ok (.aload_n 0, 1) := by decide +kernel
theorem dX4_isNumber_22 : decode cX4_isNumber 22 = .ok (.getfield 68, 3) := by decide +kernel
theorem dX4_isNumber_25 : decode cX4_isNumber 25 = .ok (.iload_n 2, 1) := by decide +kernel
theorem dX4_isNumber_26 : decode cX4_isNumber 26 = .ok (.if_icmp .gt 7, 3) := by decide +kernel
theorem dX4_isNumber_29 : decode cX4_isNumber 29 = .ok (.iconst 1, 1) := by decide +kernel
theorem dX4_isNumber_30 : decode cX4_isNumber 30 = .ok (.goto 4, 3) := by decide +kernel
theorem dX4_isNumber_33 : decode cX4_isNumber 33 = .ok (.iconst 0, 1) := by decide +kernel
theorem dX4_isNumber_34 : decode cX4_isNumber 34 = .ok (.ireturn, 1) := by decide +kernel
set_option maxRecDepth 20000 in
theorem ggX4_ends_X4_step : GoodIn wsX4_ends wsX4_step := goodIn_r _ [6, 7, 8, 9, 10, 11, 1, 12, 13, 14, 15, 16, 17, 18, 19, 20, 21, 5, 22, 23, 24, 25, 26, 27, 28, 29, 30, 31, 32, 33, 34] (by decide +kernel) (by decide +kernel)
set_option maxRecDepth 20000 in
theorem gX4_ends_X4_step : GoodIn wsX4_ends (wsV RX4 39 RX4 yX4_step wsX4_step) := goodIn_app (goodIn_of _ (by decide +kernel)) ggX4_ends_X4_step
theorem dX4_ends_0 : decode cX4_ends 0 = .ok (.aload_n 0, 1) := by decide +kernel
theorem dX4_ends_1 : decode cX4_ends 1 = .ok (.invokevirtual 39, 3) := by decide +kernel
theorem dX4_ends_4 : decode cX4_ends 4 = .ok (.aload_n 0, 1) := by decide +kernel
theorem dX4_ends_5 : decode cX4_ends 5 = .ok (.getfield 42, 3) := by decide +kernel
theorem dX4_ends_8 : decode cX4_ends 8 = .ok (.bipush 59, 2) := by decide +kernel
theorem dX4_ends_10 : decode cX4_ends 10 = .ok (.if_icmp .ne 7, 3) := by decide +kernel
theorem dX4_ends_13 : decode cX4_ends 13 = .ok (.iconst 1, 1) := by decide +kernel
theorem dX4_ends_14 : decode cX4_ends 14 = .ok (.goto 4, 3) := by decide +kernel
theorem dX4_ends_17 : decode cX4_ends 17 = .ok (.iconst 0, 1) := by decide +kernel
theorem dX4_ends_18 : decode cX4_ends 18 = .ok (.ireturn, 1) := by decide +kernel
theorem dX5_init_0 : decode cX5_init 0 = .ok (.aload_n 0, 1) := by decide +kernel
theorem dX5_init_1 : decode cX5_init 1 = .ok (.invokespecial 3, 3) := by decide +kernel
theorem dX5_init_4 : decode cX5_init 4 = .ok (.aload_n 0, 1) := by decide +kernel
theorem dX5_init_5 : decode cX5_init 5 = .ok (.bipush 12, 2) := by decide +kernel
theorem dX5_init_7 : decode cX5_init 7 = .ok (.newarray .int, 2) := by decide +kernel
theorem dX5_init_9 : decode cX5_init 9 = .ok (.putfield 9, 3) := by decide +kernel
theorem dX5_init_12 : decode cX5_init 12 = .ok (.aload_n 0, 1) := by decide +kernel
theorem dX5_init_13 : decode cX5_init 13 = .ok (.aload_n 1, 1) := by decide +kernel
theorem dX5_init_14 : decode cX5_init 14 = .ok (.putfield 15, 3) := by decide +kernel
theorem dX5_init_17 : decode cX5_init 17 = .ok (.return_, 1) := by decide +kernel
set_option maxRecDepth 20000 in
theorem ggX5_find_X0_reached : GoodIn wsX5_find wsX0_reached := goodIn_r _ [8, 9, 10, 11, 12, 7, 13, 14, 15, 16, 17, 18, 19, 20, 21, 22, 23, 24, 25, 26, 43, 44, 45, 46, 47, 48] (by decide +kernel) (by decide +kernel)
set_option maxRecDepth 20000 in
theorem gX5_find_X0_reached : GoodIn wsX5_find (wsV RX5 26 RX0 yX0_reached wsX0_reached) := goodIn_app (goodIn_of _ (by decide +kernel)) ggX5_find_X0_reached
set_option maxRecDepth 20000 in
theorem ggX5_find_X0_allBits : GoodIn wsX5_find wsX0_allBits := goodIn_r _ [30, 9, 43, 44, 45, 46, 47, 48] (by decide +kernel) (by decide +kernel)
set_option maxRecDepth 20000 in
theorem gX5_find_X0_allBits : GoodIn wsX5_find (wsV RX5 32 RX0 yX0_allBits wsX0_allBits) := goodIn_app (goodIn_of _ (by decide +kernel)) ggX5_find_X0_allBits
set_option maxRecDepth 20000 in
theorem ggX5_find_X5_goOn : GoodIn wsX5_find wsX5_goOn := goodIn_r _ [35, 3, 36, 2, 1, 37, 38, 15, 16, 7, 17, 18, 19, 20, 21, 22, 23, 24, 25, 26, 31, 32, 33, 34, 39, 40, 41, 42, 43, 44, 45, 46, 47, 48] (by decide +kernel) (by decide +kernel)
set_option maxRecDepth 20000 in
theorem gX5_find_X5_goOn : GoodIn wsX5_find (wsV RX5 36 RX5 yX5_goOn wsX5_goOn) := goodIn_app (goodIn_of _ (by decide +kernel)) ggX5_find_X5_goOn
theorem dX5_find_0 : decode cX5_find 0 = .ok (.aload_n 0, 1) := by decide +kernel
theorem dX5_find_1 : decode cX5_find 1 = .ok (.iload_n 1, 1) := by decide +kernel
theorem dX5_find_2 : decode cX5_find 2 = .ok (.putfield 19, 3) := by decide +kernel
theorem dX5_find_5 : decode cX5_find 5 = .ok (.aload_n 0, 1) := by decide +kernel
theorem dX5_find_6 : decode cX5_find 6 = .ok (.iload_n 2, 1) := by decide +kernel
theorem dX5_find_7 : decode cX5_find 7 = .ok (.putfield 23, 3) := by decide +kernel
theorem dX5_find_10 : decode cX5_find 10 = .ok (.aload_n 0, 1) := by decide +kernel
theorem dX5_find_11 : decode cX5_find 11 = .ok (.getfield 15, 3) := by decide +kernel
theorem dX5_find_14 : decode cX5_find 14 = .ok (.iload_n 1, 1) := by decide +kernel
theorem dX5_find_15 : decode cX5_find 15 = .ok (.iload_n 2, 1) := by decide +kernel
theorem dX5_find_16 : decode cX5_find 16 = .ok (.invokevirtual 26, 3) := by decide +kernel
theorem dX5_find_19 : decode cX5_find 19 = .ok (.aload_n 0, 1) := by decide +kernel
theorem dX5_find_20 : decode cX5_find 20 = .ok (.getfield 15, 3) := by decide +kernel
theorem dX5_find_23 : decode cX5_find 23 = .ok (.invokevirtual 32, 3) := by decide +kernel
theorem dX5_find_26 : decode cX5_find 26 = .ok (.if_icmp .ne 19, 3) := by decide +kernel
theorem dX5_find_29 : decode cX5_find 29 = .ok (.aload_n 0, 1) := by decide +kernel
theorem dX5_find_30 : decode cX5_find 30 = .ok (.iload_n 1, 1) := by decide +kernel
theorem dX5_find_31 : decode cX5_find 31 = .ok (.iconst 1, 1) := by decide +kernel
theorem dX5_find_32 : decode cX5_find 32 = .ok (.iload_n 1, 1) := by decide +kernel
theorem dX5_find_33 : decode cX5_find 33 = .ok (.ishl, 1) := by decide +kernel
theorem dX5_find_34 : decode cX5_find 34 = .ok (.iconst 0, 1) := by decide +kernel
theorem dX5_find_35 : decode cX5_find 35 = .ok (.invokevirtual 36, 3) := by decide +kernel
theorem dX5_find_38 : decode cX5_find 38 = .ok (.ifCond .eq 7, 3) := by decide +kernel
theorem dX5_find_41 : decode cX5_find 41 = .ok (.iconst 1, 1) := by decide +kernel
theorem dX5_find_42 : decode cX5_find 42 = .ok (.goto 4, 3) := by decide +kernel
theorem dX5_find_45 : decode cX5_find 45 = .ok (.iconst 0, 1) := by decide +kernel
theorem dX5_find_46 : decode cX5_find 46 = .ok (.ireturn, 1) := by decide +kernel
set_option maxRecDepth 20000 in
theorem ggX5_goOn_X0_from : GoodIn wsX5_goOn wsX0_from := goodIn_r _ [10, 11, 12, 13, 14, 9, 15, 16, 17, 18, 19, 28, 29, 30, 31, 32, 33] (by decide +kernel) (by decide +kernel)
set_option maxRecDepth 20000 in
theorem gX5_goOn_X0_from : GoodIn wsX5_goOn (wsV RX5 43 RX0 yX0_from wsX0_from) := goodIn_app (goodIn_of _ (by decide +kernel)) ggX5_goOn_X0_from
set_option maxRecDepth 20000 in
theorem ggX5_goOn_X5_goOn : GoodIn wsX5_goOn wsX5_goOn := goodIn_r _ [0, 1, 2, 3, 4, 5, 6, 7, 8, 9, 10, 11, 12, 13, 14, 15, 16, 17, 18, 19, 20, 21, 22, 23, 24, 25, 26, 27, 28, 29, 30, 31, 32, 33] (by decide +kernel) (by decide +kernel)
set_option maxRecDepth 20000 in
theorem gX5_goOn_X5_goOn : GoodIn wsX5_goOn (wsV RX5 36 RX5 yX5_goOn wsX5_goOn) := goodIn_app (goodIn_of _ (by decide +kernel)) ggX5_goOn_X5_goOn
theorem dX5_goOn_0 : decode cX5_goOn 0 = .ok (.iload_n 3, 1) := by decide +kernel
theorem dX5_goOn_1 : decode cX5_goOn 1 = .ok (.aload_n 0, 1) := by decide +kernel
theorem dX5_goOn_2 : decode cX5_goOn 2 = .ok (.getfield 15, 3) := by decide +kernel
theorem dX5_goOn_5 : decode cX5_goOn 5 = .ok (.getfield 40, 3) := by decide +kernel
theorem dX5_goOn_8 : decode cX5_goOn 8 = .ok (.if_icmp .lt 5, 3) := by decide +kernel
theorem dX5_goOn_11 : decode cX5_goOn 11 = .ok (.iconst 0, 1) := by decide +kernel
theorem dX5_goOn_12 : decode cX5_goOn 12 = .ok (.ireturn, 1) := by decide +kernel
theorem dX5_goOn_13 : decode cX5_goOn 13 = .ok (.iload_n 3, 1) := by decide +kernel
theorem dX5_goOn_14 : decode cX5_goOn 14 = .ok (.aload_n 0, 1) := by decide +kernel
theorem dX5_goOn_15 : decode cX5_goOn 15 = .ok (.getfield 15, 3) := by decide +kernel
theorem dX5_goOn_18 : decode cX5_goOn 18 = .ok (.getfield 40, 3) := by decide +kernel
theorem dX5_goOn_21 : decode cX5_goOn 21 = .ok (.iconst 1, 1) := by decide +kernel
theorem dX5_goOn_22 : decode cX5_goOn 22 = .ok (.isub, 1) := by decide +kernel
theorem dX5_goOn_23 : decode cX5_goOn 23 = .ok (.if_icmp .ne 7, 3) := by decide +kernel
theorem dX5_goOn_26 : decode cX5_goOn 26 = .ok (.iconst 1, 1) := by decide +kernel
theorem dX5_goOn_27 : decode cX5_goOn 27 = .ok (.goto 4, 3) := by decide +kernel
theorem dX5_goOn_30 : decode cX5_goOn 30 = .ok (.iconst 0, 1) := by decide +kernel
theorem dX5_goOn_31 : decode cX5_goOn 31 = .ok (.istore 4, 2) := by decide +kernel
theorem dX5_goOn_33 : decode cX5_goOn 33 = .ok (.iconst 0, 1) := by decide +kernel
theorem dX5_goOn_34 : decode cX5_goOn 34 = .ok (.istore 5, 2) := by decide +kernel
theorem dX5_goOn_36 : decode cX5_goOn 36 = .ok (.iload 5, 2) := by decide +kernel
theorem dX5_goOn_38 : decode cX5_goOn 38 = .ok (.aload_n 0, 1) := by decide +kernel
theorem dX5_goOn_39 : decode cX5_goOn 39 = .ok (.getfield 15, 3) := by decide +kernel
theorem dX5_goOn_42 : decode cX5_goOn 42 = .ok (.getfield 40, 3) := by decide +kernel
theorem dX5_goOn_45 : decode cX5_goOn 45 = .ok (.if_icmp .ge 115, 3) := by decide +kernel
theorem dX5_goOn_48 : decode cX5_goOn 48 = .ok (.aload_n 0, 1) := by decide +kernel
theorem dX5_goOn_49 : decode cX5_goOn 49 = .ok (.getfield 23, 3) := by decide +kernel
theorem dX5_goOn_52 : decode cX5_goOn 52 = .ok (.iload 5, 2) := by decide +kernel
theorem dX5_goOn_54 : decode cX5_goOn 54 = .ok (.ishr, 1) := by decide +kernel
theorem dX5_goOn_55 : decode cX5_goOn 55 = .ok (.iconst 1, 1) := by decide +kernel
theorem dX5_goOn_56 : decode cX5_goOn 56 = .ok (.iand, 1) := by decide +kernel
theorem dX5_goOn_57 : decode cX5_goOn 57 = .ok (.ifCond .ne 6, 3) := by decide +kernel
theorem dX5_goOn_60 : decode cX5_goOn 60 = .ok (.goto 94, 3) := by decide +kernel
theorem dX5_goOn_63 : decode cX5_goOn 63 = .ok (.aload_n 0, 1) := by decide +kernel
theorem dX5_goOn_64 : decode cX5_goOn 64 = .ok (.getfield 15, 3) := by decide +kernel
theorem dX5_goOn_67 : decode cX5_goOn 67 = .ok (.iload_n 1, 1) := by decide +kernel
theorem dX5_goOn_68 : decode cX5_goOn 68 = .ok (.iload 5, 2) := by decide +kernel
theorem dX5_goOn_70 : decode cX5_goOn 70 = .ok (.invokevirtual 43, 3) := by decide +kernel
theorem dX5_goOn_73 : decode cX5_goOn 73 = .ok (.istore 6, 2) := by decide +kernel
theorem dX5_goOn_75 : decode cX5_goOn 75 = .ok (.iload 4, 2) := by decide +kernel
theorem dX5_goOn_77 : decode cX5_goOn 77 = .ok (.ifCond .eq 20, 3) := by decide +kernel
theorem dX5_goOn_80 : decode cX5_goOn 80 = .ok (.iload 6, 2) := by decide +kernel
theorem dX5_goOn_82 : decode cX5_goOn 82 = .ok (.aload_n 0, 1) := by decide +kernel
theorem dX5_goOn_83 : decode cX5_goOn 83 = .ok (.getfield 19, 3) := by decide +kernel
theorem dX5_goOn_86 : decode cX5_goOn 86 = .ok (.if_icmp .ne 7, 3) := by decide +kernel
theorem dX5_goOn_89 : decode cX5_goOn 89 = .ok (.iconst 1, 1) := by decide +kernel
theorem dX5_goOn_90 : decode cX5_goOn 90 = .ok (.goto 21, 3) := by decide +kernel
theorem dX5_goOn_93 : decode cX5_goOn 93 = .ok (.iconst 0, 1) := by decide +kernel
theorem dX5_goOn_94 : decode cX5_goOn 94 = .ok (.goto 17, 3) := by decide +kernel
theorem dX5_goOn_97 : decode cX5_goOn 97 = .ok (.iload_n 2, 1) := by decide +kernel
theorem dX5_goOn_98 : decode cX5_goOn 98 = .ok (.iload 6, 2) := by decide +kernel
theorem dX5_goOn_100 : decode cX5_goOn 100 = .ok (.ishr, 1) := by decide +kernel
theorem dX5_goOn_101 : decode cX5_goOn 101 = .ok (.iconst 1, 1) := by decide +kernel
theorem dX5_goOn_102 : decode cX5_goOn 102 = .ok (.iand, 1) := by decide +kernel
theorem dX5_goOn_103 : decode cX5_goOn 103 = .ok (.ifCond .ne 7, 3) := by decide +kernel
theorem dX5_goOn_106 : decode cX5_goOn 106 = .ok (.iconst 1, 1) := by decide +kernel
theorem dX5_goOn_107 : decode cX5_goOn 107 = .ok (.goto 4, 3) := by decide +kernel
theorem dX5_goOn_110 : decode cX5_goOn 110 = .ok (.iconst 0, 1) := by decide +kernel
theorem dX5_goOn_111 : decode cX5_goOn 111 = .ok (.istore 7, 2) := by decide +kernel
theorem dX5_goOn_113 : decode cX5_goOn 113 = .ok (.iload 7, 2) := by decide +kernel
theorem dX5_goOn_115 : decode cX5_goOn 115 = .ok (.ifCond .ne 6, 3) := by decide +kernel
theorem dX5_goOn_118 : decode cX5_goOn 118 = .ok (.goto 36, 3) := by decide +kernel
theorem dX5_goOn_121 : decode cX5_goOn 121 = .ok (.aload_n 0, 1) := by decide +kernel
theorem dX5_goOn_122 : decode cX5_goOn 122 = .ok (.getfield 9, 3) := by decide +kernel
theorem dX5_goOn_125 : decode cX5_goOn 125 = .ok (.iload_n 3, 1) := by decide +kernel
theorem dX5_goOn_126 : decode cX5_goOn 126 = .ok (.iload 5, 2) := by decide +kernel
theorem dX5_goOn_128 : decode cX5_goOn 128 = .ok (.iastore, 1) := by decide +kernel
theorem dX5_goOn_129 : decode cX5_goOn 129 = .ok (.iload 4, 2) := by decide +kernel
theorem dX5_goOn_131 : decode cX5_goOn 131 = .ok (.ifCond .ne 21, 3) := by decide +kernel
theorem dX5_goOn_134 : decode cX5_goOn 134 = .ok (.aload_n 0, 1) := by decide +kernel
theorem dX5_goOn_135 : decode cX5_goOn 135 = .ok (.iload 6, 2) := by decide +kernel
theorem dX5_goOn_137 : decode cX5_goOn 137 = .ok (.iload_n 2, 1) := by decide +kernel
theorem dX5_goOn_138 : decode cX5_goOn 138 = .ok (.iconst 1, 1) := by decide +kernel
theorem dX5_goOn_139 : decode cX5_goOn 139 = .ok (.iload 6, 2) := by decide +kernel
theorem dX5_goOn_141 : decode cX5_goOn 141 = .ok (.ishl, 1) := by decide +kernel
theorem dX5_goOn_142 : decode cX5_goOn 142 = .ok (.ior, 1) := by decide +kernel
theorem dX5_goOn_143 : decode cX5_goOn 143 = .ok (.iload_n 3, 1) := by decide +kernel
theorem dX5_goOn_144 : decode cX5_goOn 144 = .ok (.iconst 1, 1) := by decide +kernel
theorem dX5_goOn_145 : decode cX5_goOn 145 = .ok (.iadd, 1) := by decide +kernel
theorem dX5_goOn_146 : decode cX5_goOn 146 = .ok (.invokevirtual 36, 3) := by decide +kernel
theorem dX5_goOn_149 : decode cX5_goOn 149 = .ok (.ifCond .eq 5, 3) := by decide +kernel
theorem dX5_goOn_152 : decode cX5_goOn 152 = .ok (.iconst 1, 1) := by decide +kernel
theorem dX5_goOn_153 : decode cX5_goOn 153 = .ok (.ireturn, 1) := by decide +kernel
theorem dX5_goOn_154 : decode cX5_goOn 154 = .ok (.iinc 5 1, 3) := by decide +kernel
theorem dX5_goOn_157 : decode cX5_goOn 157 = .ok (.goto (-121), 3) := by decide +kernel
theorem dX5_goOn_160 : decode cX5_goOn 160 = .ok (.iconst 0, 1) := by decide +kernel
theorem dX5_goOn_161 : decode cX5_goOn 161 = .ok (.ireturn, 1) := by decide +kernel
theorem dX6_init_0 : decode cX6_init 0 = .ok (.aload_n 0, 1) := by decide +kernel
theorem dX6_init_1 : decode cX6_init 1 = .ok (.invokespecial 3, 3) := by decide +kernel
theorem dX6_init_4 : decode cX6_init 4 = .ok (.aload_n 0, 1) := by decide +kernel
theorem dX6_init_5 : decode cX6_init 5 = .ok (.sipush 200, 3) := by decide +kernel
theorem dX6_init_8 : decode cX6_init 8 = .ok (.newarray .int, 2) := by decide +kernel
theorem dX6_init_10 : decode cX6_init 10 = .ok (.putfield 9, 3) := by decide +kernel
theorem dX6_init_13 : decode cX6_init 13 = .ok (.return_, 1) := by decide +kernel
theorem dX6_add_0 : decode cX6_add 0 = .ok (.aload_n 0, 1) := by decide +kernel
theorem dX6_add_1 : decode cX6_add 1 = .ok (.getfield 15, 3) := by decide +kernel
theorem dX6_add_4 : decode cX6_add 4 = .ok (.sipush 200, 3) := by decide +kernel
theorem dX6_add_7 : decode cX6_add 7 = .ok (.if_icmp .lt 5, 3) := by decide +kernel
theorem dX6_add_10 : decode cX6_add 10 = .ok (.iconst 0, 1) := by decide +kernel
theorem dX6_add_11 : decode cX6_add 11 = .ok (.ireturn, 1) := by decide +kernel
theorem dX6_add_12 : decode cX6_add 12 = .ok (.aload_n 0, 1) := by decide +kernel
theorem dX6_add_13 : decode cX6_add 13 = .ok (.getfield 9, 3) := by decide +kernel
theorem dX6_add_16 : decode cX6_add 16 = .ok (.aload_n 0, 1) := by decide +kernel
theorem dX6_add_17 : decode cX6_add 17 = .ok (.getfield 15, 3) := by decide +kernel
theorem dX6_add_20 : decode cX6_add 20 = .ok (.iload_n 1, 1) := by decide +kernel
theorem dX6_add_21 : decode cX6_add 21 = .ok (.iastore, 1) := by decide +kernel
theorem dX6_add_22 : decode cX6_add 22 = .ok (.aload_n 0, 1) := by decide +kernel
theorem dX6_add_23 : decode cX6_add 23 = .ok (.dup, 1) := by decide +kernel
theorem dX6_add_24 : decode cX6_add 24 = .ok (.getfield 15, 3) := by decide +kernel
theorem dX6_add_27 : decode cX6_add 27 = .ok (.iconst 1, 1) := by decide +kernel
theorem dX6_add_28 : decode cX6_add 28 = .ok (.iadd, 1) := by decide +kernel
theorem dX6_add_29 : decode cX6_add 29 = .ok (.putfield 15, 3) := by decide +kernel
theorem dX6_add_32 : decode cX6_add 32 = .ok (.iconst 1, 1) := by decide +kernel
theorem dX6_add_33 : decode cX6_add 33 = .ok (.ireturn, 1) := by decide +kernel
theorem dX6_empty_0 : decode cX6_empty 0 = .ok (.aload_n 0, 1) := by decide +kernel
theorem dX6_empty_1 : decode cX6_empty 1 = .ok (.getfield 15, 3) := by decide +kernel
theorem dX6_empty_4 : decode cX6_empty 4 = .ok (.istore_n 1, 1) := by decide +kernel
theorem dX6_empty_5 : decode cX6_empty 5 = .ok (.aload_n 0, 1) := by decide +kernel
theorem dX6_empty_6 : decode cX6_empty 6 = .ok (.iconst 0, 1) := by decide +kernel
theorem dX6_empty_7 : decode cX6_empty 7 = .ok (.putfield 15, 3) := by decide +kernel
theorem dX6_empty_10 : decode cX6_empty 10 = .ok (.iload_n 1, 1) := by decide +kernel
theorem dX6_empty_11 : decode cX6_empty 11 = .ok (.ireturn, 1) := by decide +kernel
theorem dX6_behindDigits_0 : decode cX6_behindDigits 0 = .ok (.iload_n 1, 1) := by decide +kernel
theorem dX6_behindDigits_1 : decode cX6_behindDigits 1 = .ok (.istore_n 2, 1) := by decide +kernel
theorem dX6_behindDigits_2 : decode cX6_behindDigits 2 = .ok (.iload_n 2, 1) := by decide +kernel
theorem dX6_behindDigits_3 : decode cX6_behindDigits 3 = .ok (.aload_n 0, 1) := by decide +kernel
theorem dX6_behindDigits_4 : decode cX6_behindDigits 4 = .ok (.getfield 15, 3) := by decide +kernel
theorem dX6_behindDigits_7 : decode cX6_behindDigits 7 = .ok (.if_icmp .ge 31, 3) := by decide +kernel
theorem dX6_behindDigits_10 : decode cX6_behindDigits 10 = .ok (.aload_n 0, 1) := by decide +kernel
theorem dX6_behindDigits_11 : decode cX6_behindDigits 11 = .ok (.getfield 9, 3) := by decide +kernel
theorem dX6_behindDigits_14 : decode cX6_behindDigits 14 = .ok (.iload_n 2, 1) := by decide +kernel
theorem dX6_behindDigits_15 : decode cX6_behindDigits 15 = .ok (.iaload, 1) := by decide +kernel
theorem dX6_behindDigits_16 : decode cX6_behindDigits 16 = .ok (.bipush 48, 2) := by decide +kernel
theorem dX6_behindDigits_18 : decode cX6_behindDigits 18 = .ok (.if_icmp .lt 20, 3) := by decide +kernel
theorem dX6_behindDigits_21 : decode cX6_behindDigits 21 = .ok (.aload_n 0, 1) := by decide +kernel
theorem dX6_behindDigits_22 : decode cX6_behindDigits 22 = .ok (.getfield 9, 3) := by decide +kernel
theorem dX6_behindDigits_25 : decode cX6_behindDigits 25 = .ok (.iload_n 2, 1) := by decide +kernel
theorem dX6_behindDigits_26 : decode cX6_behindDigits 26 = .ok (.iaload, 1) := by decide +kernel
theorem dX6_behindDigits_27 : decode cX6_behindDigits 27 = .ok (.bipush 57, 2) := by decide +kernel
theorem dX6_behindDigits_29 : decode cX6_behindDigits 29 = .ok (.if_icmp .gt 9, 3) := by decide +kernel
theorem dX6_behindDigits_32 : decode cX6_behindDigits 32 = .ok (.iinc 2 1, 3) := by decide +kernel
theorem dX6_behindDigits_35 : decode cX6_behindDigits 35 = .ok (.goto (-33), 3) := by decide +kernel
theorem dX6_behindDigits_38 : decode cX6_behindDigits 38 = .ok (.iload_n 2, 1) := by decide +kernel
theorem dX6_behindDigits_39 : decode cX6_behindDigits 39 = .ok (.ireturn, 1) := by decide +kernel
theorem dX7_init_0 : decode cX7_init 0 = .ok (.aload_n 0, 1) := by decide +kernel
theorem dX7_init_1 : decode cX7_init 1 = .ok (.invokespecial 3, 3) := by decide +kernel
theorem dX7_init_4 : decode cX7_init 4 = .ok (.aload_n 0, 1) := by decide +kernel
theorem dX7_init_5 : decode cX7_init 5 = .ok (.bipush 12, 2) := by decide +kernel
theorem dX7_init_7 : decode cX7_init 7 = .ok (.newarray .int, 2) := by decide +kernel
theorem dX7_init_9 : decode cX7_init 9 = .ok (.putfield 9, 3) := by decide +kernel
theorem dX7_init_12 : decode cX7_init 12 = .ok (.aload_n 0, 1) := by decide +kernel
theorem dX7_init_13 : decode cX7_init 13 = .ok (.aload_n 1, 1) := by decide +kernel
theorem dX7_init_14 : decode cX7_init 14 = .ok (.putfield 15, 3) := by decide +kernel
theorem dX7_init_17 : decode cX7_init 17 = .ok (.aload_n 0, 1) := by decide +kernel
theorem dX7_init_18 : decode cX7_init 18 = .ok (.aload_n 2, 1) := by decide +kernel
theorem dX7_init_19 : decode cX7_init 19 = .ok (.putfield 19, 3) := by decide +kernel
theorem dX7_init_22 : decode cX7_init 22 = .ok (.return_, 1) := by decide +kernel
set_option maxRecDepth 20000 in
theorem ggX7_isOut_X2_greatest : GoodIn wsX7_isOut wsX2_greatest := goodIn_r _ [8, 9, 10, 11, 12, 13, 23, 24, 25, 26] (by decide +kernel) (by decide +kernel)
set_option maxRecDepth 20000 in
theorem gX7_isOut_X2_greatest : GoodIn wsX7_isOut (wsV RX7 23 RX2 yX2_greatest wsX2_greatest) := goodIn_app (goodIn_of _ (by decide +kernel)) ggX7_isOut_X2_greatest
theorem dX7_isOut_0 : decode cX7_isOut 0 = .ok (.aload_n 0, 1) := by decide +kernel
theorem dX7_isOut_1 : decode cX7_isOut 1 = .ok (.getfield 19, 3) := by decide +kernel
theorem dX7_isOut_4 : decode cX7_isOut 4 = .ok (.invokevirtual 23, 3) := by decide +kernel
theorem dX7_isOut_7 : decode cX7_isOut 7 = .ok (.aload_n 0, 1) := by decide +kernel
theorem dX7_isOut_8 : decode cX7_isOut 8 = .ok (.getfield 15, 3) := by decide +kernel
theorem dX7_isOut_11 : decode cX7_isOut 11 = .ok (.getfield 29, 3) := by decide +kernel
theorem dX7_isOut_14 : decode cX7_isOut 14 = .ok (.if_icmp .lt 7, 3) := by decide +kernel
theorem dX7_isOut_17 : decode cX7_isOut 17 = .ok (.iconst 1, 1) := by decide +kernel
theorem dX7_isOut_18 : decode cX7_isOut 18 = .ok (.goto 4, 3) := by decide +kernel
theorem dX7_isOut_21 : decode cX7_isOut 21 = .ok (.iconst 0, 1) := by decide +kernel
theorem dX7_isOut_22 : decode cX7_isOut 22 = .ok (.ireturn, 1) := by decide +kernel
set_option maxRecDepth 20000 in
theorem ggX7_seasonsBy_X7_isOut : GoodIn wsX7_seasonsBy wsX7_isOut := goodIn_r _ [12, 2, 1, 13, 14, 15, 16, 17, 18, 19, 20, 21, 6, 22, 51, 52, 53, 58, 59, 60, 61, 62, 63, 54, 55, 56, 57] (by decide +kernel) (by decide +kernel)
set_option maxRecDepth 20000 in
theorem gX7_seasonsBy_X7_isOut : GoodIn wsX7_seasonsBy (wsV RX7 35 RX7 yX7_isOut wsX7_isOut) := goodIn_app (goodIn_of _ (by decide +kernel)) ggX7_seasonsBy_X7_isOut
set_option maxRecDepth 20000 in
theorem ggX7_seasonsBy_X0_orderOf : GoodIn wsX7_seasonsBy wsX0_orderOf := goodIn_r _ [27, 28, 29, 30, 26, 31, 32, 33, 34, 35, 36, 37, 38, 39, 40, 58, 59, 60, 61, 62, 63] (by decide +kernel) (by decide +kernel)
set_option maxRecDepth 20000 in
theorem gX7_seasonsBy_X0_orderOf : GoodIn wsX7_seasonsBy (wsV RX7 39 RX0 yX0_orderOf wsX0_orderOf) := goodIn_app (goodIn_of _ (by decide +kernel)) ggX7_seasonsBy_X0_orderOf
set_option maxRecDepth 20000 in
theorem ggX7_seasonsBy_X0_from : GoodIn wsX7_seasonsBy wsX0_from := goodIn_r _ [31, 32, 33, 34, 35, 26, 36, 37, 38, 39, 40, 58, 59, 60, 61, 62, 63] (by decide +kernel) (by decide +kernel)
set_option maxRecDepth 20000 in
theorem gX7_seasonsBy_X0_from : GoodIn wsX7_seasonsBy (wsV RX7 46 RX0 yX0_from wsX0_from) := goodIn_app (goodIn_of _ (by decide +kernel)) ggX7_seasonsBy_X0_from
set_option maxRecDepth 20000 in
theorem ggX7_seasonsBy_X7_visitsToLimit : GoodIn wsX7_seasonsBy wsX7_visitsToLimit := goodIn_r _ [45, 1, 13, 2, 46, 47, 48, 49, 11, 50, 51, 52, 53, 58, 59, 60, 61, 62, 63, 54, 55, 56, 57] (by decide +kernel) (by decide +kernel)
set_option maxRecDepth 20000 in
theorem gX7_seasonsBy_X7_visitsToLimit : GoodIn wsX7_seasonsBy (wsV RX7 50 RX7 yX7_visitsToLimit wsX7_visitsToLimit) := goodIn_app (goodIn_of _ (by decide +kernel)) ggX7_seasonsBy_X7_visitsToLimit
theorem dX7_seasonsBy_0 : decode cX7_seasonsBy 0 = .ok (.aload_n 0, 1) := by decide +kernel
theorem dX7_seasonsBy_1 : decode cX7_seasonsBy 1 = .ok (.invokevirtual 35, 3) := by decide +kernel
theorem dX7_seasonsBy_4 : decode cX7_seasonsBy 4 = .ok (.ifCond .eq 5, 3) := by decide +kernel
theorem dX7_seasonsBy_7 : decode cX7_seasonsBy 7 = .ok (.iconst 0, 1) := by decide +kernel
theorem dX7_seasonsBy_8 : decode cX7_seasonsBy 8 = .ok (.ireturn, 1) := by decide +kernel
theorem dX7_seasonsBy_9 : decode cX7_seasonsBy 9 = .ok (.aload_n 0, 1) := by decide +kernel
theorem dX7_seasonsBy_10 : decode cX7_seasonsBy 10 = .ok (.getfield 15, 3) := by decide +kernel
theorem dX7_seasonsBy_13 : decode cX7_seasonsBy 13 = .ok (.iload_n 1, 1) := by decide +kernel
theorem dX7_seasonsBy_14 : decode cX7_seasonsBy 14 = .ok (.invokevirtual 39, 3) := by decide +kernel
theorem dX7_seasonsBy_17 : decode cX7_seasonsBy 17 = .ok (.istore_n 2, 1) := by decide +kernel
theorem dX7_seasonsBy_18 : decode cX7_seasonsBy 18 = .ok (.aload_n 0, 1) := by decide +kernel
theorem dX7_seasonsBy_19 : decode cX7_seasonsBy 19 = .ok (.getfield 15, 3) := by decide +kernel
theorem dX7_seasonsBy_22 : decode cX7_seasonsBy 22 = .ok (.aload_n 0, 1) := by decide +kernel
theorem dX7_seasonsBy_23 : decode cX7_seasonsBy 23 = .ok (.getfield 19, 3) := by decide +kernel
theorem dX7_seasonsBy_26 : decode cX7_seasonsBy 26 = .ok (.getfield 43, 3) := by decide +kernel
theorem dX7_seasonsBy_29 : decode cX7_seasonsBy 29 = .ok (.iload_n 1, 1) := by decide +kernel
theorem dX7_seasonsBy_30 : decode cX7_seasonsBy 30 = .ok (.invokevirtual 46, 3) := by decide +kernel
theorem dX7_seasonsBy_33 : decode cX7_seasonsBy 33 = .ok (.istore_n 3, 1) := by decide +kernel
theorem dX7_seasonsBy_34 : decode cX7_seasonsBy 34 = .ok (.iload_n 2, 1) := by decide +kernel
theorem dX7_seasonsBy_35 : decode cX7_seasonsBy 35 = .ok (.aload_n 0, 1) := by decide +kernel
theorem dX7_seasonsBy_36 : decode cX7_seasonsBy 36 = .ok (.iload_n 3, 1) := by decide +kernel
theorem dX7_seasonsBy_37 : decode cX7_seasonsBy 37 = .ok (.invokevirtual 50, 3) := by decide +kernel
theorem dX7_seasonsBy_40 : decode cX7_seasonsBy 40 = .ok (.imul, 1) := by decide +kernel
theorem dX7_seasonsBy_41 : decode cX7_seasonsBy 41 = .ok (.iload_n 2, 1) := by decide +kernel
theorem dX7_seasonsBy_42 : decode cX7_seasonsBy 42 = .ok (.isub, 1) := by decide +kernel
theorem dX7_seasonsBy_43 : decode cX7_seasonsBy 43 = .ok (.iconst 1, 1) := by decide +kernel
theorem dX7_seasonsBy_44 : decode cX7_seasonsBy 44 = .ok (.iadd, 1) := by decide +kernel
theorem dX7_seasonsBy_45 : decode cX7_seasonsBy 45 = .ok (.istore 4, 2) := by decide +kernel
theorem dX7_seasonsBy_47 : decode cX7_seasonsBy 47 = .ok (.iconst 2, 1) := by decide +kernel
theorem dX7_seasonsBy_48 : decode cX7_seasonsBy 48 = .ok (.istore 5, 2) := by decide +kernel
theorem dX7_seasonsBy_50 : decode cX7_seasonsBy 50 = .ok (.iload 5, 2) := by decide +kernel
theorem dX7_seasonsBy_52 : decode cX7_seasonsBy 52 = .ok (.iload_n 2, 1) := by decide +kernel
theorem dX7_seasonsBy_53 : decode cX7_seasonsBy 53 = .ok (.if_icmp .gt 38, 3) := by decide +kernel
theorem dX7_seasonsBy_56 : decode cX7_seasonsBy 56 = .ok (.aload_n 0, 1) := by decide +kernel
theorem dX7_seasonsBy_57 : decode cX7_seasonsBy 57 = .ok (.getfield 15, 3) := by decide +kernel
theorem dX7_seasonsBy_60 : decode cX7_seasonsBy 60 = .ok (.iload_n 3, 1) := by decide +kernel
theorem dX7_seasonsBy_61 : decode cX7_seasonsBy 61 = .ok (.iload_n 1, 1) := by decide +kernel
theorem dX7_seasonsBy_62 : decode cX7_seasonsBy 62 = .ok (.invokevirtual 46, 3) := by decide +kernel
theorem dX7_seasonsBy_65 : decode cX7_seasonsBy 65 = .ok (.istore_n 3, 1) := by decide +kernel
theorem dX7_seasonsBy_66 : decode cX7_seasonsBy 66 = .ok (.iload 4, 2) := by decide +kernel
theorem dX7_seasonsBy_68 : decode cX7_seasonsBy 68 = .ok (.iload_n 2, 1) := by decide +kernel
theorem dX7_seasonsBy_69 : decode cX7_seasonsBy 69 = .ok (.aload_n 0, 1) := by decide +kernel
theorem dX7_seasonsBy_70 : decode cX7_seasonsBy 70 = .ok (.iload_n 3, 1) := by decide +kernel
theorem dX7_seasonsBy_71 : decode cX7_seasonsBy 71 = .ok (.invokevirtual 50, 3) := by decide +kernel
theorem dX7_seasonsBy_74 : decode cX7_seasonsBy 74 = .ok (.imul, 1) := by decide +kernel
theorem dX7_seasonsBy_75 : decode cX7_seasonsBy 75 = .ok (.iload_n 2, 1) := by decide +kernel
theorem dX7_seasonsBy_76 : decode cX7_seasonsBy 76 = .ok (.isub, 1) := by decide +kernel
theorem dX7_seasonsBy_77 : decode cX7_seasonsBy 77 = .ok (.iload 5, 2) := by decide +kernel
theorem dX7_seasonsBy_79 : decode cX7_seasonsBy 79 = .ok (.iadd, 1) := by decide +kernel
theorem dX7_seasonsBy_80 : decode cX7_seasonsBy 80 = .ok (.invokestatic 53, 3) := by decide +kernel
theorem dX7_seasonsBy_83 : decode cX7_seasonsBy 83 = .ok (.istore 4, 2) := by decide +kernel
theorem dX7_seasonsBy_85 : decode cX7_seasonsBy 85 = .ok (.iinc 5 1, 3) := by decide +kernel
theorem dX7_seasonsBy_88 : decode cX7_seasonsBy 88 = .ok (.goto (-38), 3) := by decide +kernel
theorem dX7_seasonsBy_91 : decode cX7_seasonsBy 91 = .ok (.iload 4, 2) := by decide +kernel
theorem dX7_seasonsBy_93 : decode cX7_seasonsBy 93 = .ok (.ireturn, 1) := by decide +kernel
set_option maxRecDepth 20000 in
theorem ggX7_visitsToLimit_X7_quotient : GoodIn wsX7_visitsToLimit wsX7_quotient := goodIn_r _ [9] (by decide +kernel) (by decide +kernel)
set_option maxRecDepth 20000 in
theorem gX7_visitsToLimit_X7_quotient : GoodIn wsX7_visitsToLimit (va_wsS RX7 64 yX7_quotient wsX7_quotient) := goodIn_app (goodIn_of _ (by decide +kernel)) ggX7_visitsToLimit_X7_quotient
theorem dX7_visitsToLimit_0 : decode cX7_visitsToLimit 0 = .ok (.aload_n 0, 1) := by decide +kernel
theorem dX7_visitsToLimit_1 : decode cX7_visitsToLimit 1 = .ok (.getfield 15, 3) := by decide +kernel
theorem dX7_visitsToLimit_4 : decode cX7_visitsToLimit 4 = .ok (.getfield 29, 3) := by decide +kernel
theorem dX7_visitsToLimit_7 : decode cX7_visitsToLimit 7 = .ok (.iconst 1, 1) := by decide +kernel
theorem dX7_visitsToLimit_8 : decode cX7_visitsToLimit 8 = .ok (.isub, 1) := by decide +kernel
theorem dX7_visitsToLimit_9 : decode cX7_visitsToLimit 9 = .ok (.aload_n 0, 1) := by decide +kernel
theorem dX7_visitsToLimit_10 : decode cX7_visitsToLimit 10 = .ok (.getfield 19, 3) := by decide +kernel
theorem dX7_visitsToLimit_13 : decode cX7_visitsToLimit 13 = .ok (.getfield 58, 3) := by decide +kernel
theorem dX7_visitsToLimit_16 : decode cX7_visitsToLimit 16 = .ok (.iload_n 1, 1) := by decide +kernel
theorem dX7_visitsToLimit_17 : decode cX7_visitsToLimit 17 = .ok (.iaload, 1) := by decide +kernel
theorem dX7_visitsToLimit_18 : decode cX7_visitsToLimit 18 = .ok (.isub, 1) := by decide +kernel
theorem dX7_visitsToLimit_19 : decode cX7_visitsToLimit 19 = .ok (.aload_n 0, 1) := by decide +kernel
theorem dX7_visitsToLimit_20 : decode cX7_visitsToLimit 20 = .ok (.getfield 15, 3) := by decide +kernel
theorem dX7_visitsToLimit_23 : decode cX7_visitsToLimit 23 = .ok (.getfield 61, 3) := by decide +kernel
theorem dX7_visitsToLimit_26 : decode cX7_visitsToLimit 26 = .ok (.iload_n 1, 1) := by decide +kernel
theorem dX7_visitsToLimit_27 : decode cX7_visitsToLimit 27 = .ok (.iaload, 1) := by decide +kernel
theorem dX7_visitsToLimit_28 : decode cX7_visitsToLimit 28 = .ok (.invokestatic 64, 3) := by decide +kernel
theorem dX7_visitsToLimit_31 : decode cX7_visitsToLimit 31 = .ok (.iconst 1, 1) := by decide +kernel
theorem dX7_visitsToLimit_32 : decode cX7_visitsToLimit 32 = .ok (.iadd, 1) := by decide +kernel
theorem dX7_visitsToLimit_33 : decode cX7_visitsToLimit 33 = .ok (.ireturn, 1) := by decide +kernel
set_option maxRecDepth 20000 in
theorem ggX7_room_X7_quotient : GoodIn wsX7_room wsX7_quotient := goodIn_r _ [9] (by decide +kernel) (by decide +kernel)
set_option maxRecDepth 20000 in
theorem gX7_room_X7_quotient : GoodIn wsX7_room (va_wsS RX7 64 yX7_quotient wsX7_quotient) := goodIn_app (goodIn_of _ (by decide +kernel)) ggX7_room_X7_quotient
theorem dX7_room_0 : decode cX7_room 0 = .ok (.iconst 0, 1) := by decide +kernel
theorem dX7_room_1 : decode cX7_room 1 = .ok (.istore_n 2, 1) := by decide +kernel
theorem dX7_room_2 : decode cX7_room 2 = .ok (.iconst 0, 1) := by decide +kernel
theorem dX7_room_3 : decode cX7_room 3 = .ok (.istore_n 3, 1) := by decide +kernel
theorem dX7_room_4 : decode cX7_room 4 = .ok (.iload_n 3, 1) := by decide +kernel
theorem dX7_room_5 : decode cX7_room 5 = .ok (.aload_n 0, 1) := by decide +kernel
theorem dX7_room_6 : decode cX7_room 6 = .ok (.getfield 15, 3) := by decide +kernel
theorem dX7_room_9 : decode cX7_room 9 = .ok (.getfield 67, 3) := by decide +kernel
theorem dX7_room_12 : decode cX7_room 12 = .ok (.if_icmp .ge 35, 3) := by decide +kernel
theorem dX7_room_15 : decode cX7_room 15 = .ok (.iload_n 2, 1) := by decide +kernel
theorem dX7_room_16 : decode cX7_room 16 = .ok (.iload_n 1, 1) := by decide +kernel
theorem dX7_room_17 : decode cX7_room 17 = .ok (.aload_n 0, 1) := by decide +kernel
theorem dX7_room_18 : decode cX7_room 18 = .ok (.getfield 19, 3) := by decide +kernel
theorem dX7_room_21 : decode cX7_room 21 = .ok (.getfield 58, 3) := by decide +kernel
theorem dX7_room_24 : decode cX7_room 24 = .ok (.iload_n 3, 1) := by decide +kernel
theorem dX7_room_25 : decode cX7_room 25 = .ok (.iaload, 1) := by decide +kernel
theorem dX7_room_26 : decode cX7_room 26 = .ok (.isub, 1) := by decide +kernel
theorem dX7_room_27 : decode cX7_room 27 = .ok (.aload_n 0, 1) := by decide +kernel
theorem dX7_room_28 : decode cX7_room 28 = .ok (.getfield 15, 3) := by decide +kernel
theorem dX7_room_31 : decode cX7_room 31 = .ok (.getfield 61, 3) := by decide +kernel
theorem dX7_room_34 : decode cX7_room 34 = .ok (.iload_n 3, 1) := by decide +kernel
theorem dX7_room_35 : decode cX7_room 35 = .ok (.iaload, 1) := by decide +kernel
theorem dX7_room_36 : decode cX7_room 36 = .ok (.invokestatic 64, 3) := by decide +kernel
theorem dX7_room_39 : decode cX7_room 39 = .ok (.iadd, 1) := by decide +kernel
theorem dX7_room_40 : decode cX7_room 40 = .ok (.istore_n 2, 1) := by decide +kernel
theorem dX7_room_41 : decode cX7_room 41 = .ok (.iinc 3 1, 3) := by decide +kernel
theorem dX7_room_44 : decode cX7_room 44 = .ok (.goto (-40), 3) := by decide +kernel
theorem dX7_room_47 : decode cX7_room 47 = .ok (.iload_n 2, 1) := by decide +kernel
theorem dX7_room_48 : decode cX7_room 48 = .ok (.ireturn, 1) := by decide +kernel
set_option maxRecDepth 20000 in
theorem ggX7_leastGreatest_X2_greatest : GoodIn wsX7_leastGreatest wsX2_greatest := goodIn_r _ [6, 7, 8, 9, 10, 11, 27, 28, 29, 30] (by decide +kernel) (by decide +kernel)
set_option maxRecDepth 20000 in
theorem gX7_leastGreatest_X2_greatest : GoodIn wsX7_leastGreatest (wsV RX7 23 RX2 yX2_greatest wsX2_greatest) := goodIn_app (goodIn_of _ (by decide +kernel)) ggX7_leastGreatest_X2_greatest
set_option maxRecDepth 20000 in
theorem ggX7_leastGreatest_X7_room : GoodIn wsX7_leastGreatest wsX7_room := goodIn_r _ [16, 17, 18, 1, 19, 20, 21, 22, 15, 23, 24, 25, 26, 31, 32, 33, 34, 35, 36, 27, 28, 29, 30] (by decide +kernel) (by decide +kernel)
set_option maxRecDepth 20000 in
theorem gX7_leastGreatest_X7_room : GoodIn wsX7_leastGreatest (wsV RX7 70 RX7 yX7_room wsX7_room) := goodIn_app (goodIn_of _ (by decide +kernel)) ggX7_leastGreatest_X7_room
theorem dX7_leastGreatest_0 : decode cX7_leastGreatest 0 = .ok (.aload_n 0, 1) := by decide +kernel
theorem dX7_leastGreatest_1 : decode cX7_leastGreatest 1 = .ok (.getfield 19, 3) := by decide +kernel
theorem dX7_leastGreatest_4 : decode cX7_leastGreatest 4 = .ok (.invokevirtual 23, 3) := by decide +kernel
theorem dX7_leastGreatest_7 : decode cX7_leastGreatest 7 = .ok (.istore_n 2, 1) := by decide +kernel
theorem dX7_leastGreatest_8 : decode cX7_leastGreatest 8 = .ok (.iload_n 2, 1) := by decide +kernel
theorem dX7_leastGreatest_9 : decode cX7_leastGreatest 9 = .ok (.bipush 36, 2) := by decide +kernel
theorem dX7_leastGreatest_11 : decode cX7_leastGreatest 11 = .ok (.iadd, 1) := by decide +kernel
theorem dX7_leastGreatest_12 : decode cX7_leastGreatest 12 = .ok (.istore_n 3, 1) := by decide +kernel
theorem dX7_leastGreatest_13 : decode cX7_leastGreatest 13 = .ok (.iload_n 2, 1) := by decide +kernel
theorem dX7_leastGreatest_14 : decode cX7_leastGreatest 14 = .ok (.iload_n 3, 1) := by decide +kernel
theorem dX7_leastGreatest_15 : decode cX7_leastGreatest 15 = .ok (.if_icmp .ge 18, 3) := by decide +kernel
theorem dX7_leastGreatest_18 : decode cX7_leastGreatest 18 = .ok (.aload_n 0, 1) := by decide +kernel
theorem dX7_leastGreatest_19 : decode cX7_leastGreatest 19 = .ok (.iload_n 2, 1) := by decide +kernel
theorem dX7_leastGreatest_20 : decode cX7_leastGreatest 20 = .ok (.invokevirtual 70, 3) := by decide +kernel
theorem dX7_leastGreatest_23 : decode cX7_leastGreatest 23 = .ok (.iload_n 1, 1) := by decide +kernel
theorem dX7_leastGreatest_24 : decode cX7_leastGreatest 24 = .ok (.if_icmp .ge 9, 3) := by decide +kernel
theorem dX7_leastGreatest_27 : decode cX7_leastGreatest 27 = .ok (.iinc 2 1, 3) := by decide +kernel
theorem dX7_leastGreatest_30 : decode cX7_leastGreatest 30 = .ok (.goto (-17), 3) := by decide +kernel
theorem dX7_leastGreatest_33 : decode cX7_leastGreatest 33 = .ok (.iload_n 2, 1) := by decide +kernel
theorem dX7_leastGreatest_34 : decode cX7_leastGreatest 34 = .ok (.ireturn, 1) := by decide +kernel
set_option maxRecDepth 20000 in
theorem ggX7_plannedTurn_X7_firstTurnUnder : GoodIn wsX7_plannedTurn wsX7_firstTurnUnder := goodIn_r _ [15, 9, 16, 3, 10, 17, 18, 19, 20, 21, 22, 23, 24, 25, 26, 27, 28, 29, 30, 31, 32, 33, 38, 39, 40, 41, 42, 43] (by decide +kernel) (by decide +kernel)
set_option maxRecDepth 20000 in
theorem gX7_plannedTurn_X7_firstTurnUnder : GoodIn wsX7_plannedTurn (wsV RX7 79 RX7 yX7_firstTurnUnder wsX7_firstTurnUnder) := goodIn_app (goodIn_of _ (by decide +kernel)) ggX7_plannedTurn_X7_firstTurnUnder
set_option maxRecDepth 20000 in
theorem ggX7_plannedTurn_X0_from : GoodIn wsX7_plannedTurn wsX0_from := goodIn_r _ [21, 22, 23, 24, 25, 20, 26, 27, 28, 29, 30, 38, 39, 40, 41, 42, 43] (by decide +kernel) (by decide +kernel)
set_option maxRecDepth 20000 in
theorem gX7_plannedTurn_X0_from : GoodIn wsX7_plannedTurn (wsV RX7 46 RX0 yX0_from wsX0_from) := goodIn_app (goodIn_of _ (by decide +kernel)) ggX7_plannedTurn_X0_from
theorem dX7_plannedTurn_0 : decode cX7_plannedTurn 0 = .ok (.aload_n 0, 1) := by decide +kernel
theorem dX7_plannedTurn_1 : decode cX7_plannedTurn 1 = .ok (.getfield 19, 3) := by decide +kernel
theorem dX7_plannedTurn_4 : decode cX7_plannedTurn 4 = .ok (.getfield 58, 3) := by decide +kernel
theorem dX7_plannedTurn_7 : decode cX7_plannedTurn 7 = .ok (.iconst 0, 1) := by decide +kernel
theorem dX7_plannedTurn_8 : decode cX7_plannedTurn 8 = .ok (.aload_n 0, 1) := by decide +kernel
theorem dX7_plannedTurn_9 : decode cX7_plannedTurn 9 = .ok (.getfield 9, 3) := by decide +kernel
theorem dX7_plannedTurn_12 : decode cX7_plannedTurn 12 = .ok (.iconst 0, 1) := by decide +kernel
theorem dX7_plannedTurn_13 : decode cX7_plannedTurn 13 = .ok (.bipush 12, 2) := by decide +kernel
theorem dX7_plannedTurn_15 : decode cX7_plannedTurn 15 = .ok (.invokestatic 73, 3) := by decide +kernel
theorem dX7_plannedTurn_18 : decode cX7_plannedTurn 18 = .ok (.aload_n 0, 1) := by decide +kernel
theorem dX7_plannedTurn_19 : decode cX7_plannedTurn 19 = .ok (.getfield 19, 3) := by decide +kernel
theorem dX7_plannedTurn_22 : decode cX7_plannedTurn 22 = .ok (.getfield 43, 3) := by decide +kernel
theorem dX7_plannedTurn_25 : decode cX7_plannedTurn 25 = .ok (.istore_n 3, 1) := by decide +kernel
theorem dX7_plannedTurn_26 : decode cX7_plannedTurn 26 = .ok (.bipush (-9), 2) := by decide +kernel
theorem dX7_plannedTurn_28 : decode cX7_plannedTurn 28 = .ok (.istore 4, 2) := by decide +kernel
theorem dX7_plannedTurn_30 : decode cX7_plannedTurn 30 = .ok (.iconst 0, 1) := by decide +kernel
theorem dX7_plannedTurn_31 : decode cX7_plannedTurn 31 = .ok (.istore 5, 2) := by decide +kernel
theorem dX7_plannedTurn_33 : decode cX7_plannedTurn 33 = .ok (.iload 5, 2) := by decide +kernel
theorem dX7_plannedTurn_35 : decode cX7_plannedTurn 35 = .ok (.iload_n 2, 1) := by decide +kernel
theorem dX7_plannedTurn_36 : decode cX7_plannedTurn 36 = .ok (.if_icmp .gt 54, 3) := by decide +kernel
theorem dX7_plannedTurn_39 : decode cX7_plannedTurn 39 = .ok (.aload_n 0, 1) := by decide +kernel
theorem dX7_plannedTurn_40 : decode cX7_plannedTurn 40 = .ok (.iload_n 1, 1) := by decide +kernel
theorem dX7_plannedTurn_41 : decode cX7_plannedTurn 41 = .ok (.iload_n 3, 1) := by decide +kernel
theorem dX7_plannedTurn_42 : decode cX7_plannedTurn 42 = .ok (.invokevirtual 79, 3) := by decide +kernel
theorem dX7_plannedTurn_45 : decode cX7_plannedTurn 45 = .ok (.istore 4, 2) := by decide +kernel
theorem dX7_plannedTurn_47 : decode cX7_plannedTurn 47 = .ok (.iload 4, 2) := by decide +kernel
theorem dX7_plannedTurn_49 : decode cX7_plannedTurn 49 = .ok (.ifCond .ge 6, 3) := by decide +kernel
theorem dX7_plannedTurn_52 : decode cX7_plannedTurn 52 = .ok (.bipush (-9), 2) := by decide +kernel
theorem dX7_plannedTurn_54 : decode cX7_plannedTurn 54 = .ok (.ireturn, 1) := by decide +kernel
theorem dX7_plannedTurn_55 : decode cX7_plannedTurn 55 = .ok (.aload_n 0, 1) := by decide +kernel
theorem dX7_plannedTurn_56 : decode cX7_plannedTurn 56 = .ok (.getfield 15, 3) := by decide +kernel
theorem dX7_plannedTurn_59 : decode cX7_plannedTurn 59 = .ok (.iload_n 3, 1) := by decide +kernel
theorem dX7_plannedTurn_60 : decode cX7_plannedTurn 60 = .ok (.iload 4, 2) := by decide +kernel
theorem dX7_plannedTurn_62 : decode cX7_plannedTurn 62 = .ok (.invokevirtual 46, 3) := by decide +kernel
theorem dX7_plannedTurn_65 : decode cX7_plannedTurn 65 = .ok (.istore_n 3, 1) := by decide +kernel
theorem dX7_plannedTurn_66 : decode cX7_plannedTurn 66 = .ok (.aload_n 0, 1) := by decide +kernel
theorem dX7_plannedTurn_67 : decode cX7_plannedTurn 67 = .ok (.getfield 9, 3) := by decide +kernel
theorem dX7_plannedTurn_70 : decode cX7_plannedTurn 70 = .ok (.iload_n 3, 1) := by decide +kernel
theorem dX7_plannedTurn_71 : decode cX7_plannedTurn 71 = .ok (.dup2, 1) := by decide +kernel
theorem dX7_plannedTurn_72 : decode cX7_plannedTurn 72 = .ok (.iaload, 1) := by decide +kernel
