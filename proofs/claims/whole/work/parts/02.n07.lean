theorem dX9_init_60 : decode cX9_init 60 = .ok (.bipush 7, 2) := by decide +kernel
theorem dX9_init_62 : decode cX9_init 62 = .ok (.iconst 1, 1) := by decide +kernel
theorem dX9_init_63 : decode cX9_init 63 = .ok (.iastore, 1) := by decide +kernel
theorem dX9_init_64 : decode cX9_init 64 = .ok (.dup, 1) := by decide +kernel
theorem dX9_init_65 : decode cX9_init 65 = .ok (.bipush 8, 2) := by decide +kernel
theorem dX9_init_67 : decode cX9_init 67 = .ok (.iconst 1, 1) := by decide +kernel
theorem dX9_init_68 : decode cX9_init 68 = .ok (.iastore, 1) := by decide +kernel
theorem dX9_init_69 : decode cX9_init 69 = .ok (.dup, 1) := by decide +kernel
theorem dX9_init_70 : decode cX9_init 70 = .ok (.bipush 9, 2) := by decide +kernel
theorem dX9_init_72 : decode cX9_init 72 = .ok (.iconst 1, 1) := by decide +kernel
theorem dX9_init_73 : decode cX9_init 73 = .ok (.iastore, 1) := by decide +kernel
theorem dX9_init_74 : decode cX9_init 74 = .ok (.dup, 1) := by decide +kernel
theorem dX9_init_75 : decode cX9_init 75 = .ok (.bipush 10, 2) := by decide +kernel
theorem dX9_init_77 : decode cX9_init 77 = .ok (.iconst 1, 1) := by decide +kernel
theorem dX9_init_78 : decode cX9_init 78 = .ok (.iastore, 1) := by decide +kernel
theorem dX9_init_79 : decode cX9_init 79 = .ok (.dup, 1) := by decide +kernel
theorem dX9_init_80 : decode cX9_init 80 = .ok (.bipush 11, 2) := by decide +kernel
theorem dX9_init_82 : decode cX9_init 82 = .ok (.iconst 1, 1) := by decide +kernel
theorem dX9_init_83 : decode cX9_init 83 = .ok (.iastore, 1) := by decide +kernel
theorem dX9_init_84 : decode cX9_init 84 = .ok (.putfield 22, 3) := by decide +kernel
theorem dX9_init_87 : decode cX9_init 87 = .ok (.aload_n 0, 1) := by decide +kernel
theorem dX9_init_88 : decode cX9_init 88 = .ok (.bipush 15, 2) := by decide +kernel
theorem dX9_init_90 : decode cX9_init 90 = .ok (.newarray .int, 2) := by decide +kernel
theorem dX9_init_92 : decode cX9_init 92 = .ok (.putfield 26, 3) := by decide +kernel
theorem dX9_init_95 : decode cX9_init 95 = .ok (.aload_n 0, 1) := by decide +kernel
theorem dX9_init_96 : decode cX9_init 96 = .ok (.sipush 150, 3) := by decide +kernel
theorem dX9_init_99 : decode cX9_init 99 = .ok (.newarray .int, 2) := by decide +kernel
theorem dX9_init_101 : decode cX9_init 101 = .ok (.putfield 29, 3) := by decide +kernel
theorem dX9_init_104 : decode cX9_init 104 = .ok (.aload_n 0, 1) := by decide +kernel
theorem dX9_init_105 : decode cX9_init 105 = .ok (.bipush 30, 2) := by decide +kernel
theorem dX9_init_107 : decode cX9_init 107 = .ok (.newarray .int, 2) := by decide +kernel
theorem dX9_init_109 : decode cX9_init 109 = .ok (.putfield 32, 3) := by decide +kernel
theorem dX9_init_112 : decode cX9_init 112 = .ok (.aload_n 0, 1) := by decide +kernel
theorem dX9_init_113 : decode cX9_init 113 = .ok (.iconst 2, 1) := by decide +kernel
theorem dX9_init_114 : decode cX9_init 114 = .ok (.newarray .boolean, 2) := by decide +kernel
theorem dX9_init_116 : decode cX9_init 116 = .ok (.putfield 35, 3) := by decide +kernel
theorem dX9_init_119 : decode cX9_init 119 = .ok (.aload_n 0, 1) := by decide +kernel
theorem dX9_init_120 : decode cX9_init 120 = .ok (.bipush 15, 2) := by decide +kernel
theorem dX9_init_122 : decode cX9_init 122 = .ok (.newarray .int, 2) := by decide +kernel
theorem dX9_init_124 : decode cX9_init 124 = .ok (.putfield 39, 3) := by decide +kernel
theorem dX9_init_127 : decode cX9_init 127 = .ok (.aload_n 0, 1) := by decide +kernel
theorem dX9_init_128 : decode cX9_init 128 = .ok (.sipush 200, 3) := by decide +kernel
theorem dX9_init_131 : decode cX9_init 131 = .ok (.newarray .int, 2) := by decide +kernel
theorem dX9_init_133 : decode cX9_init 133 = .ok (.putfield 42, 3) := by decide +kernel
theorem dX9_init_136 : decode cX9_init 136 = .ok (.aload_n 0, 1) := by decide +kernel
theorem dX9_init_137 : decode cX9_init 137 = .ok (.bipush 12, 2) := by decide +kernel
theorem dX9_init_139 : decode cX9_init 139 = .ok (.newarray .int, 2) := by decide +kernel
theorem dX9_init_141 : decode cX9_init 141 = .ok (.putfield 45, 3) := by decide +kernel
theorem dX9_init_144 : decode cX9_init 144 = .ok (.aload_n 0, 1) := by decide +kernel
theorem dX9_init_145 : decode cX9_init 145 = .ok (.bipush 15, 2) := by decide +kernel
theorem dX9_init_147 : decode cX9_init 147 = .ok (.newarray .int, 2) := by decide +kernel
theorem dX9_init_149 : decode cX9_init 149 = .ok (.putfield 48, 3) := by decide +kernel
theorem dX9_init_152 : decode cX9_init 152 = .ok (.aload_n 0, 1) := by decide +kernel
theorem dX9_init_153 : decode cX9_init 153 = .ok (.sipush 4096, 3) := by decide +kernel
theorem dX9_init_156 : decode cX9_init 156 = .ok (.newarray .int, 2) := by decide +kernel
theorem dX9_init_158 : decode cX9_init 158 = .ok (.putfield 51, 3) := by decide +kernel
theorem dX9_init_161 : decode cX9_init 161 = .ok (.aload_n 0, 1) := by decide +kernel
theorem dX9_init_162 : decode cX9_init 162 = .ok (.iconst 4, 1) := by decide +kernel
theorem dX9_init_163 : decode cX9_init 163 = .ok (.newarray .int, 2) := by decide +kernel
theorem dX9_init_165 : decode cX9_init 165 = .ok (.putfield 54, 3) := by decide +kernel
theorem dX9_init_168 : decode cX9_init 168 = .ok (.aload_n 0, 1) := by decide +kernel
theorem dX9_init_169 : decode cX9_init 169 = .ok (.iconst 4, 1) := by decide +kernel
theorem dX9_init_170 : decode cX9_init 170 = .ok (.newarray .int, 2) := by decide +kernel
theorem dX9_init_172 : decode cX9_init 172 = .ok (.putfield 57, 3) := by decide +kernel
theorem dX9_init_175 : decode cX9_init 175 = .ok (.return_, 1) := by decide +kernel
theorem dX9_in_0 : decode cX9_in 0 = .ok (.iload_n 0, 1) := by decide +kernel
theorem dX9_in_1 : decode cX9_in 1 = .ok (.iload_n 1, 1) := by decide +kernel
theorem dX9_in_2 : decode cX9_in 2 = .ok (.if_icmp .lt 12, 3) := by decide +kernel
theorem dX9_in_5 : decode cX9_in 5 = .ok (.iload_n 0, 1) := by decide +kernel
theorem dX9_in_6 : decode cX9_in 6 = .ok (.iload_n 2, 1) := by decide +kernel
theorem dX9_in_7 : decode cX9_in 7 = .ok (.if_icmp .gt 7, 3) := by decide +kernel
theorem dX9_in_10 : decode cX9_in 10 = .ok (.iconst 1, 1) := by decide +kernel
theorem dX9_in_11 : decode cX9_in 11 = .ok (.goto 4, 3) := by decide +kernel
theorem dX9_in_14 : decode cX9_in 14 = .ok (.iconst 0, 1) := by decide +kernel
theorem dX9_in_15 : decode cX9_in 15 = .ok (.ireturn, 1) := by decide +kernel
theorem dX9_has_0 : decode cX9_has 0 = .ok (.iload_n 0, 1) := by decide +kernel
theorem dX9_has_1 : decode cX9_has 1 = .ok (.iload_n 1, 1) := by decide +kernel
theorem dX9_has_2 : decode cX9_has 2 = .ok (.ishr, 1) := by decide +kernel
theorem dX9_has_3 : decode cX9_has 3 = .ok (.iconst 1, 1) := by decide +kernel
theorem dX9_has_4 : decode cX9_has 4 = .ok (.iand, 1) := by decide +kernel
theorem dX9_has_5 : decode cX9_has 5 = .ok (.iconst 1, 1) := by decide +kernel
theorem dX9_has_6 : decode cX9_has 6 = .ok (.if_icmp .ne 7, 3) := by decide +kernel
theorem dX9_has_9 : decode cX9_has 9 = .ok (.iconst 1, 1) := by decide +kernel
theorem dX9_has_10 : decode cX9_has 10 = .ok (.goto 4, 3) := by decide +kernel
theorem dX9_has_13 : decode cX9_has 13 = .ok (.iconst 0, 1) := by decide +kernel
theorem dX9_has_14 : decode cX9_has 14 = .ok (.ireturn, 1) := by decide +kernel
set_option maxRecDepth 20000 in
theorem ggX9_isWay_X9_in : GoodIn wsX9_isWay wsX9_in := goodIn_r _ [5] (by decide +kernel) (by decide +kernel)
set_option maxRecDepth 20000 in
theorem gX9_isWay_X9_in : GoodIn wsX9_isWay (va_wsS RX9 60 yX9_in wsX9_in) := goodIn_app (goodIn_of _ (by decide +kernel)) ggX9_isWay_X9_in
theorem dX9_isWay_0 : decode cX9_isWay 0 = .ok (.iload_n 1, 1) := by decide +kernel
theorem dX9_isWay_1 : decode cX9_isWay 1 = .ok (.iconst 0, 1) := by decide +kernel
theorem dX9_isWay_2 : decode cX9_isWay 2 = .ok (.aload_n 0, 1) := by decide +kernel
theorem dX9_isWay_3 : decode cX9_isWay 3 = .ok (.getfield 16, 3) := by decide +kernel
theorem dX9_isWay_6 : decode cX9_isWay 6 = .ok (.iconst 1, 1) := by decide +kernel
theorem dX9_isWay_7 : decode cX9_isWay 7 = .ok (.isub, 1) := by decide +kernel
theorem dX9_isWay_8 : decode cX9_isWay 8 = .ok (.invokestatic 60, 3) := by decide +kernel
theorem dX9_isWay_11 : decode cX9_isWay 11 = .ok (.ireturn, 1) := by decide +kernel
set_option maxRecDepth 20000 in
theorem ggX9_isSet_X9_in : GoodIn wsX9_isSet wsX9_in := goodIn_r _ [5] (by decide +kernel) (by decide +kernel)
set_option maxRecDepth 20000 in
theorem gX9_isSet_X9_in : GoodIn wsX9_isSet (va_wsS RX9 60 yX9_in wsX9_in) := goodIn_app (goodIn_of _ (by decide +kernel)) ggX9_isSet_X9_in
theorem dX9_isSet_0 : decode cX9_isSet 0 = .ok (.iload_n 1, 1) := by decide +kernel
theorem dX9_isSet_1 : decode cX9_isSet 1 = .ok (.iconst 0, 1) := by decide +kernel
theorem dX9_isSet_2 : decode cX9_isSet 2 = .ok (.iconst 1, 1) := by decide +kernel
theorem dX9_isSet_3 : decode cX9_isSet 3 = .ok (.aload_n 0, 1) := by decide +kernel
theorem dX9_isSet_4 : decode cX9_isSet 4 = .ok (.getfield 16, 3) := by decide +kernel
theorem dX9_isSet_7 : decode cX9_isSet 7 = .ok (.ishl, 1) := by decide +kernel
theorem dX9_isSet_8 : decode cX9_isSet 8 = .ok (.iconst 1, 1) := by decide +kernel
theorem dX9_isSet_9 : decode cX9_isSet 9 = .ok (.isub, 1) := by decide +kernel
theorem dX9_isSet_10 : decode cX9_isSet 10 = .ok (.invokestatic 60, 3) := by decide +kernel
theorem dX9_isSet_13 : decode cX9_isSet 13 = .ok (.ireturn, 1) := by decide +kernel
theorem dX9_copy_0 : decode cX9_copy 0 = .ok (.iconst 0, 1) := by decide +kernel
theorem dX9_copy_1 : decode cX9_copy 1 = .ok (.istore 4, 2) := by decide +kernel
theorem dX9_copy_3 : decode cX9_copy 3 = .ok (.iload 4, 2) := by decide +kernel
theorem dX9_copy_5 : decode cX9_copy 5 = .ok (.bipush 15, 2) := by decide +kernel
theorem dX9_copy_7 : decode cX9_copy 7 = .ok (.if_icmp .ge 21, 3) := by decide +kernel
theorem dX9_copy_10 : decode cX9_copy 10 = .ok (.aload_n 0, 1) := by decide +kernel
theorem dX9_copy_11 : decode cX9_copy 11 = .ok (.iload_n 1, 1) := by decide +kernel
theorem dX9_copy_12 : decode cX9_copy 12 = .ok (.iload 4, 2) := by decide +kernel
theorem dX9_copy_14 : decode cX9_copy 14 = .ok (.iadd, 1) := by decide +kernel
theorem dX9_copy_15 : decode cX9_copy 15 = .ok (.aload_n 2, 1) := by decide +kernel
theorem dX9_copy_16 : decode cX9_copy 16 = .ok (.iload_n 3, 1) := by decide +kernel
theorem dX9_copy_17 : decode cX9_copy 17 = .ok (.iload 4, 2) := by decide +kernel
theorem dX9_copy_19 : decode cX9_copy 19 = .ok (.iadd, 1) := by decide +kernel
theorem dX9_copy_20 : decode cX9_copy 20 = .ok (.iaload, 1) := by decide +kernel
theorem dX9_copy_21 : decode cX9_copy 21 = .ok (.iastore, 1) := by decide +kernel
theorem dX9_copy_22 : decode cX9_copy 22 = .ok (.iinc 4 1, 3) := by decide +kernel
theorem dX9_copy_25 : decode cX9_copy 25 = .ok (.goto (-22), 3) := by decide +kernel
theorem dX9_copy_28 : decode cX9_copy 28 = .ok (.return_, 1) := by decide +kernel
set_option maxRecDepth 20000 in
theorem ggX9_type_X9_in : GoodIn wsX9_type wsX9_in := goodIn_r _ [6] (by decide +kernel) (by decide +kernel)
set_option maxRecDepth 20000 in
theorem gX9_type_X9_in : GoodIn wsX9_type (va_wsS RX9 60 yX9_in wsX9_in) := goodIn_app (goodIn_of _ (by decide +kernel)) ggX9_type_X9_in
theorem dX9_type_0 : decode cX9_type 0 = .ok (.iload_n 1, 1) := by decide +kernel
theorem dX9_type_1 : decode cX9_type 1 = .ok (.iconst 0, 1) := by decide +kernel
theorem dX9_type_2 : decode cX9_type 2 = .ok (.sipush 255, 3) := by decide +kernel
theorem dX9_type_5 : decode cX9_type 5 = .ok (.invokestatic 60, 3) := by decide +kernel
theorem dX9_type_8 : decode cX9_type 8 = .ok (.ifCond .ne 5, 3) := by decide +kernel
theorem dX9_type_11 : decode cX9_type 11 = .ok (.iconst (-1), 1) := by decide +kernel
theorem dX9_type_12 : decode cX9_type 12 = .ok (.ireturn, 1) := by decide +kernel
theorem dX9_type_13 : decode cX9_type 13 = .ok (.aload_n 0, 1) := by decide +kernel
theorem dX9_type_14 : decode cX9_type 14 = .ok (.getfield 64, 3) := by decide +kernel
theorem dX9_type_17 : decode cX9_type 17 = .ok (.sipush 200, 3) := by decide +kernel
theorem dX9_type_20 : decode cX9_type 20 = .ok (.if_icmp .ne 6, 3) := by decide +kernel
theorem dX9_type_23 : decode cX9_type 23 = .ok (.bipush (-3), 2) := by decide +kernel
theorem dX9_type_25 : decode cX9_type 25 = .ok (.ireturn, 1) := by decide +kernel
theorem dX9_type_26 : decode cX9_type 26 = .ok (.aload_n 0, 1) := by decide +kernel
theorem dX9_type_27 : decode cX9_type 27 = .ok (.getfield 42, 3) := by decide +kernel
theorem dX9_type_30 : decode cX9_type 30 = .ok (.aload_n 0, 1) := by decide +kernel
theorem dX9_type_31 : decode cX9_type 31 = .ok (.getfield 64, 3) := by decide +kernel
theorem dX9_type_34 : decode cX9_type 34 = .ok (.iload_n 1, 1) := by decide +kernel
theorem dX9_type_35 : decode cX9_type 35 = .ok (.iastore, 1) := by decide +kernel
theorem dX9_type_36 : decode cX9_type 36 = .ok (.aload_n 0, 1) := by decide +kernel
theorem dX9_type_37 : decode cX9_type 37 = .ok (.dup, 1) := by decide +kernel
theorem dX9_type_38 : decode cX9_type 38 = .ok (.getfield 64, 3) := by decide +kernel
theorem dX9_type_41 : decode cX9_type 41 = .ok (.iconst 1, 1) := by decide +kernel
theorem dX9_type_42 : decode cX9_type 42 = .ok (.iadd, 1) := by decide +kernel
theorem dX9_type_43 : decode cX9_type 43 = .ok (.putfield 64, 3) := by decide +kernel
theorem dX9_type_46 : decode cX9_type 46 = .ok (.aload_n 0, 1) := by decide +kernel
theorem dX9_type_47 : decode cX9_type 47 = .ok (.getfield 64, 3) := by decide +kernel
theorem dX9_type_50 : decode cX9_type 50 = .ok (.ireturn, 1) := by decide +kernel
theorem dX9_clear_0 : decode cX9_clear 0 = .ok (.aload_n 0, 1) := by decide +kernel
theorem dX9_clear_1 : decode cX9_clear 1 = .ok (.getfield 64, 3) := by decide +kernel
theorem dX9_clear_4 : decode cX9_clear 4 = .ok (.istore_n 1, 1) := by decide +kernel
theorem dX9_clear_5 : decode cX9_clear 5 = .ok (.aload_n 0, 1) := by decide +kernel
theorem dX9_clear_6 : decode cX9_clear 6 = .ok (.iconst 0, 1) := by decide +kernel
theorem dX9_clear_7 : decode cX9_clear 7 = .ok (.putfield 64, 3) := by decide +kernel
theorem dX9_clear_10 : decode cX9_clear 10 = .ok (.iload_n 1, 1) := by decide +kernel
theorem dX9_clear_11 : decode cX9_clear 11 = .ok (.ireturn, 1) := by decide +kernel
theorem dX9_letterAt_0 : decode cX9_letterAt 0 = .ok (.iload_n 1, 1) := by decide +kernel
theorem dX9_letterAt_1 : decode cX9_letterAt 1 = .ok (.aload_n 0, 1) := by decide +kernel
theorem dX9_letterAt_2 : decode cX9_letterAt 2 = .ok (.getfield 64, 3) := by decide +kernel
theorem dX9_letterAt_5 : decode cX9_letterAt 5 = .ok (.if_icmp .ge 12, 3) := by decide +kernel
theorem dX9_letterAt_8 : decode cX9_letterAt 8 = .ok (.aload_n 0, 1) := by decide +kernel
theorem dX9_letterAt_9 : decode cX9_letterAt 9 = .ok (.getfield 42, 3) := by decide +kernel
theorem dX9_letterAt_12 : decode cX9_letterAt 12 = .ok (.iload_n 1, 1) := by decide +kernel
theorem dX9_letterAt_13 : decode cX9_letterAt 13 = .ok (.iaload, 1) := by decide +kernel
theorem dX9_letterAt_14 : decode cX9_letterAt 14 = .ok (.goto 4, 3) := by decide +kernel
theorem dX9_letterAt_17 : decode cX9_letterAt 17 = .ok (.iconst (-1), 1) := by decide +kernel
theorem dX9_letterAt_18 : decode cX9_letterAt 18 = .ok (.ireturn, 1) := by decide +kernel
set_option maxRecDepth 20000 in
theorem ggX9_isFigure_X9_in : GoodIn wsX9_isFigure wsX9_in := goodIn_r _ [4] (by decide +kernel) (by decide +kernel)
set_option maxRecDepth 20000 in
theorem gX9_isFigure_X9_in : GoodIn wsX9_isFigure (va_wsS RX9 60 yX9_in wsX9_in) := goodIn_app (goodIn_of _ (by decide +kernel)) ggX9_isFigure_X9_in
theorem dX9_isFigure_0 : decode cX9_isFigure 0 = .ok (.iload_n 0, 1) := by decide +kernel
theorem dX9_isFigure_1 : decode cX9_isFigure 1 = .ok (.bipush 48, 2) := by decide +kernel
theorem dX9_isFigure_3 : decode cX9_isFigure 3 = .ok (.bipush 57, 2) := by decide +kernel
theorem dX9_isFigure_5 : decode cX9_isFigure 5 = .ok (.invokestatic 60, 3) := by decide +kernel
theorem dX9_isFigure_8 : decode cX9_isFigure 8 = .ok (.ireturn, 1) := by decide +kernel
set_option maxRecDepth 20000 in
theorem ggX9_next_X9_letterAt : GoodIn wsX9_next wsX9_letterAt := goodIn_r _ [9, 10, 11, 18, 19, 20, 21, 22, 23, 24, 25, 26, 27, 28, 29, 30, 31, 32, 33, 34, 35, 36, 37, 38, 39, 40, 41, 42, 43, 44, 45, 46, 47] (by decide +kernel) (by decide +kernel)
set_option maxRecDepth 20000 in
theorem gX9_next_X9_letterAt : GoodIn wsX9_next (wsV RX9 70 RX9 yX9_letterAt wsX9_letterAt) := goodIn_app (goodIn_of _ (by decide +kernel)) ggX9_next_X9_letterAt
set_option maxRecDepth 20000 in
theorem ggX9_next_X9_isFigure : GoodIn wsX9_next wsX9_isFigure := goodIn_r _ [14, 15, 16, 8, 17] (by decide +kernel) (by decide +kernel)
set_option maxRecDepth 20000 in
theorem gX9_next_X9_isFigure : GoodIn wsX9_next (va_wsS RX9 83 yX9_isFigure wsX9_isFigure) := goodIn_app (goodIn_of _ (by decide +kernel)) ggX9_next_X9_isFigure
theorem dX9_next_0 : decode cX9_next 0 = .ok (.aload_n 0, 1) := by decide +kernel
theorem dX9_next_1 : decode cX9_next 1 = .ok (.aload_n 0, 1) := by decide +kernel
theorem dX9_next_2 : decode cX9_next 2 = .ok (.getfield 67, 3) := by decide +kernel
theorem dX9_next_5 : decode cX9_next 5 = .ok (.invokevirtual 70, 3) := by decide +kernel
theorem dX9_next_8 : decode cX9_next 8 = .ok (.bipush 32, 2) := by decide +kernel
theorem dX9_next_10 : decode cX9_next 10 = .ok (.if_icmp .ne 16, 3) := by decide +kernel
theorem dX9_next_13 : decode cX9_next 13 = .ok (.aload_n 0, 1) := by decide +kernel
theorem dX9_next_14 : decode cX9_next 14 = .ok (.dup, 1) := by decide +kernel
theorem dX9_next_15 : decode cX9_next 15 = .ok (.getfield 67, 3) := by decide +kernel
theorem dX9_next_18 : decode cX9_next 18 = .ok (.iconst 1, 1) := by decide +kernel
theorem dX9_next_19 : decode cX9_next 19 = .ok (.iadd, 1) := by decide +kernel
theorem dX9_next_20 : decode cX9_next 20 = .ok (.putfield 67, 3) := by decide +kernel
theorem dX9_next_23 : decode cX9_next 23 = .ok (.goto (-23), 3) := by decide +kernel
theorem dX9_next_26 : decode cX9_next 26 = .ok (.aload_n 0, 1) := by decide +kernel
theorem dX9_next_27 : decode cX9_next 27 = .ok (.aload_n 0, 1) := by decide +kernel
theorem dX9_next_28 : decode cX9_next 28 = .ok (.getfield 67, 3) := by decide +kernel
theorem dX9_next_31 : decode cX9_next 31 = .ok (.putfield 74, 3) := by decide +kernel
theorem dX9_next_34 : decode cX9_next 34 = .ok (.aload_n 0, 1) := by decide +kernel
theorem dX9_next_35 : decode cX9_next 35 = .ok (.aload_n 0, 1) := by decide +kernel
theorem dX9_next_36 : decode cX9_next 36 = .ok (.getfield 67, 3) := by decide +kernel
theorem dX9_next_39 : decode cX9_next 39 = .ok (.invokevirtual 70, 3) := by decide +kernel
theorem dX9_next_42 : decode cX9_next 42 = .ok (.istore_n 1, 1) := by decide +kernel
theorem dX9_next_43 : decode cX9_next 43 = .ok (.aload_n 0, 1) := by decide +kernel
theorem dX9_next_44 : decode cX9_next 44 = .ok (.iconst 0, 1) := by decide +kernel
theorem dX9_next_45 : decode cX9_next 45 = .ok (.putfield 77, 3) := by decide +kernel
theorem dX9_next_48 : decode cX9_next 48 = .ok (.iload_n 1, 1) := by decide +kernel
theorem dX9_next_49 : decode cX9_next 49 = .ok (.ifCond .ge 11, 3) := by decide +kernel
theorem dX9_next_52 : decode cX9_next 52 = .ok (.aload_n 0, 1) := by decide +kernel
theorem dX9_next_53 : decode cX9_next 53 = .ok (.iconst 0, 1) := by decide +kernel
theorem dX9_next_54 : decode cX9_next 54 = .ok (.putfield 80, 3) := by decide +kernel
theorem dX9_next_57 : decode cX9_next 57 = .ok (.goto 174, 3) := by decide +kernel
theorem dX9_next_60 : decode cX9_next 60 = .ok (.iload_n 1, 1) := by decide +kernel
theorem dX9_next_61 : decode cX9_next 61 = .ok (.invokestatic 83, 3) := by decide +kernel
theorem dX9_next_64 : decode cX9_next 64 = .ok (.ifCond .eq 109, 3) := by decide +kernel
theorem dX9_next_67 : decode cX9_next 67 = .ok (.aload_n 0, 1) := by decide +kernel
theorem dX9_next_68 : decode cX9_next 68 = .ok (.aload_n 0, 1) := by decide +kernel
theorem dX9_next_69 : decode cX9_next 69 = .ok (.getfield 67, 3) := by decide +kernel
theorem dX9_next_72 : decode cX9_next 72 = .ok (.invokevirtual 70, 3) := by decide +kernel
theorem dX9_next_75 : decode cX9_next 75 = .ok (.invokestatic 83, 3) := by decide +kernel
theorem dX9_next_78 : decode cX9_next 78 = .ok (.ifCond .eq 55, 3) := by decide +kernel
theorem dX9_next_81 : decode cX9_next 81 = .ok (.aload_n 0, 1) := by decide +kernel
theorem dX9_next_82 : decode cX9_next 82 = .ok (.aload_n 0, 1) := by decide +kernel
theorem dX9_next_83 : decode cX9_next 83 = .ok (.getfield 77, 3) := by decide +kernel
theorem dX9_next_86 : decode cX9_next 86 = .ok (.bipush 99, 2) := by decide +kernel
theorem dX9_next_88 : decode cX9_next 88 = .ok (.if_icmp .le 10, 3) := by decide +kernel
theorem dX9_next_91 : decode cX9_next 91 = .ok (.aload_n 0, 1) := by decide +kernel
theorem dX9_next_92 : decode cX9_next 92 = .ok (.getfield 77, 3) := by decide +kernel
theorem dX9_next_95 : decode cX9_next 95 = .ok (.goto 22, 3) := by decide +kernel
theorem dX9_next_98 : decode cX9_next 98 = .ok (.bipush 10, 2) := by decide +kernel
theorem dX9_next_100 : decode cX9_next 100 = .ok (.aload_n 0, 1) := by decide +kernel
theorem dX9_next_101 : decode cX9_next 101 = .ok (.getfield 77, 3) := by decide +kernel
theorem dX9_next_104 : decode cX9_next 104 = .ok (.imul, 1) := by decide +kernel
theorem dX9_next_105 : decode cX9_next 105 = .ok (.aload_n 0, 1) := by decide +kernel
theorem dX9_next_106 : decode cX9_next 106 = .ok (.aload_n 0, 1) := by decide +kernel
theorem dX9_next_107 : decode cX9_next 107 = .ok (.getfield 67, 3) := by decide +kernel
theorem dX9_next_110 : decode cX9_next 110 = .ok (.invokevirtual 70, 3) := by decide +kernel
theorem dX9_next_113 : decode cX9_next 113 = .ok (.iadd, 1) := by decide +kernel
theorem dX9_next_114 : decode cX9_next 114 = .ok (.bipush 48, 2) := by decide +kernel
theorem dX9_next_116 : decode cX9_next 116 = .ok (.isub, 1) := by decide +kernel
theorem dX9_next_117 : decode cX9_next 117 = .ok (.putfield 77, 3) := by decide +kernel
theorem dX9_next_120 : decode cX9_next 120 = .ok (.aload_n 0, 1) := by decide +kernel
theorem dX9_next_121 : decode cX9_next 121 = .ok (.dup, 1) := by decide +kernel
theorem dX9_next_122 : decode cX9_next 122 = .ok (.getfield 67, 3) := by decide +kernel
theorem dX9_next_125 : decode cX9_next 125 = .ok (.iconst 1, 1) := by decide +kernel
theorem dX9_next_126 : decode cX9_next 126 = .ok (.iadd, 1) := by decide +kernel
theorem dX9_next_127 : decode cX9_next 127 = .ok (.putfield 67, 3) := by decide +kernel
theorem dX9_next_130 : decode cX9_next 130 = .ok (.goto (-63), 3) := by decide +kernel
theorem dX9_next_133 : decode cX9_next 133 = .ok (.aload_n 0, 1) := by decide +kernel
theorem dX9_next_134 : decode cX9_next 134 = .ok (.aload_n 0, 1) := by decide +kernel
theorem dX9_next_135 : decode cX9_next 135 = .ok (.getfield 77, 3) := by decide +kernel
theorem dX9_next_138 : decode cX9_next 138 = .ok (.bipush 99, 2) := by decide +kernel
theorem dX9_next_140 : decode cX9_next 140 = .ok (.if_icmp .gt 22, 3) := by decide +kernel
theorem dX9_next_143 : decode cX9_next 143 = .ok (.iload_n 1, 1) := by decide +kernel
theorem dX9_next_144 : decode cX9_next 144 = .ok (.bipush 48, 2) := by decide +kernel
theorem dX9_next_146 : decode cX9_next 146 = .ok (.if_icmp .ne 20, 3) := by decide +kernel
theorem dX9_next_149 : decode cX9_next 149 = .ok (.aload_n 0, 1) := by decide +kernel
theorem dX9_next_150 : decode cX9_next 150 = .ok (.getfield 67, 3) := by decide +kernel
theorem dX9_next_153 : decode cX9_next 153 = .ok (.aload_n 0, 1) := by decide +kernel
theorem dX9_next_154 : decode cX9_next 154 = .ok (.getfield 74, 3) := by decide +kernel
theorem dX9_next_157 : decode cX9_next 157 = .ok (.isub, 1) := by decide +kernel
theorem dX9_next_158 : decode cX9_next 158 = .ok (.iconst 1, 1) := by decide +kernel
theorem dX9_next_159 : decode cX9_next 159 = .ok (.if_icmp .le 7, 3) := by decide +kernel
theorem dX9_next_162 : decode cX9_next 162 = .ok (.iconst 4, 1) := by decide +kernel
theorem dX9_next_163 : decode cX9_next 163 = .ok (.goto 4, 3) := by decide +kernel
theorem dX9_next_166 : decode cX9_next 166 = .ok (.iconst 2, 1) := by decide +kernel
theorem dX9_next_167 : decode cX9_next 167 = .ok (.putfield 80, 3) := by decide +kernel
theorem dX9_next_170 : decode cX9_next 170 = .ok (.goto 61, 3) := by decide +kernel
theorem dX9_next_173 : decode cX9_next 173 = .ok (.aload_n 0, 1) := by decide +kernel
theorem dX9_next_174 : decode cX9_next 174 = .ok (.iload_n 1, 1) := by decide +kernel
theorem dX9_next_175 : decode cX9_next 175 = .ok (.bipush 115, 2) := by decide +kernel
theorem dX9_next_177 : decode cX9_next 177 = .ok (.if_icmp .eq 21, 3) := by decide +kernel
theorem dX9_next_180 : decode cX9_next 180 = .ok (.iload_n 1, 1) := by decide +kernel
theorem dX9_next_181 : decode cX9_next 181 = .ok (.bipush 108, 2) := by decide +kernel
theorem dX9_next_183 : decode cX9_next 183 = .ok (.if_icmp .eq 15, 3) := by decide +kernel
theorem dX9_next_186 : decode cX9_next 186 = .ok (.iload_n 1, 1) := by decide +kernel
theorem dX9_next_187 : decode cX9_next 187 = .ok (.bipush 109, 2) := by decide +kernel
theorem dX9_next_189 : decode cX9_next 189 = .ok (.if_icmp .eq 9, 3) := by decide +kernel
theorem dX9_next_192 : decode cX9_next 192 = .ok (.iload_n 1, 1) := by decide +kernel
theorem dX9_next_193 : decode cX9_next 193 = .ok (.bipush 98, 2) := by decide +kernel
theorem dX9_next_195 : decode cX9_next 195 = .ok (.if_icmp .ne 7, 3) := by decide +kernel
theorem dX9_next_198 : decode cX9_next 198 = .ok (.iconst 1, 1) := by decide +kernel
theorem dX9_next_199 : decode cX9_next 199 = .ok (.goto 14, 3) := by decide +kernel
theorem dX9_next_202 : decode cX9_next 202 = .ok (.iload_n 1, 1) := by decide +kernel
theorem dX9_next_203 : decode cX9_next 203 = .ok (.bipush 59, 2) := by decide +kernel
theorem dX9_next_205 : decode cX9_next 205 = .ok (.if_icmp .ne 7, 3) := by decide +kernel
theorem dX9_next_208 : decode cX9_next 208 = .ok (.iconst 3, 1) := by decide +kernel
theorem dX9_next_209 : decode cX9_next 209 = .ok (.goto 4, 3) := by decide +kernel
theorem dX9_next_212 : decode cX9_next 212 = .ok (.iconst 4, 1) := by decide +kernel
theorem dX9_next_213 : decode cX9_next 213 = .ok (.putfield 80, 3) := by decide +kernel
theorem dX9_next_216 : decode cX9_next 216 = .ok (.aload_n 0, 1) := by decide +kernel
theorem dX9_next_217 : decode cX9_next 217 = .ok (.iload_n 1, 1) := by decide +kernel
theorem dX9_next_218 : decode cX9_next 218 = .ok (.putfield 77, 3) := by decide +kernel
theorem dX9_next_221 : decode cX9_next 221 = .ok (.aload_n 0, 1) := by decide +kernel
theorem dX9_next_222 : decode cX9_next 222 = .ok (.dup, 1) := by decide +kernel
theorem dX9_next_223 : decode cX9_next 223 = .ok (.getfield 67, 3) := by decide +kernel
theorem dX9_next_226 : decode cX9_next 226 = .ok (.iconst 1, 1) := by decide +kernel
theorem dX9_next_227 : decode cX9_next 227 = .ok (.iadd, 1) := by decide +kernel
theorem dX9_next_228 : decode cX9_next 228 = .ok (.putfield 67, 3) := by decide +kernel
theorem dX9_next_231 : decode cX9_next 231 = .ok (.return_, 1) := by decide +kernel
set_option maxRecDepth 20000 in
theorem ggX9_takes_X9_in : GoodIn wsX9_takes wsX9_in := goodIn_r _ [7] (by decide +kernel) (by decide +kernel)
set_option maxRecDepth 20000 in
theorem gX9_takes_X9_in : GoodIn wsX9_takes (va_wsS RX9 60 yX9_in wsX9_in) := goodIn_app (goodIn_of _ (by decide +kernel)) ggX9_takes_X9_in
set_option maxRecDepth 20000 in
theorem ggX9_takes_X9_next : GoodIn wsX9_takes wsX9_next := goodIn_r _ [11, 12, 13, 3, 2, 14, 15, 16, 6, 17, 18, 19, 20, 21, 22, 4, 5, 7, 23, 24, 25, 26, 27, 28, 29, 30, 31, 32, 33, 34, 35, 36, 37, 38, 39, 40, 41, 42, 43, 44, 45, 46, 47, 48, 49, 50, 51, 52] (by decide +kernel) (by decide +kernel)
set_option maxRecDepth 20000 in
theorem gX9_takes_X9_next : GoodIn wsX9_takes (wsV RX9 91 RX9 yX9_next wsX9_next) := goodIn_app (goodIn_of _ (by decide +kernel)) ggX9_takes_X9_next
theorem dX9_takes_0 : decode cX9_takes 0 = .ok (.aload_n 0, 1) := by decide +kernel
theorem dX9_takes_1 : decode cX9_takes 1 = .ok (.getfield 87, 3) := by decide +kernel
theorem dX9_takes_4 : decode cX9_takes 4 = .ok (.ifCond .ne 27, 3) := by decide +kernel
theorem dX9_takes_7 : decode cX9_takes 7 = .ok (.aload_n 0, 1) := by decide +kernel
theorem dX9_takes_8 : decode cX9_takes 8 = .ok (.getfield 80, 3) := by decide +kernel
theorem dX9_takes_11 : decode cX9_takes 11 = .ok (.iconst 2, 1) := by decide +kernel
theorem dX9_takes_12 : decode cX9_takes 12 = .ok (.if_icmp .ne 19, 3) := by decide +kernel
theorem dX9_takes_15 : decode cX9_takes 15 = .ok (.aload_n 0, 1) := by decide +kernel
theorem dX9_takes_16 : decode cX9_takes 16 = .ok (.getfield 77, 3) := by decide +kernel
theorem dX9_takes_19 : decode cX9_takes 19 = .ok (.iload_n 1, 1) := by decide +kernel
theorem dX9_takes_20 : decode cX9_takes 20 = .ok (.iload_n 2, 1) := by decide +kernel
theorem dX9_takes_21 : decode cX9_takes 21 = .ok (.invokestatic 60, 3) := by decide +kernel
theorem dX9_takes_24 : decode cX9_takes 24 = .ok (.ifCond .eq 7, 3) := by decide +kernel
theorem dX9_takes_27 : decode cX9_takes 27 = .ok (.iconst 1, 1) := by decide +kernel
theorem dX9_takes_28 : decode cX9_takes 28 = .ok (.goto 4, 3) := by decide +kernel
theorem dX9_takes_31 : decode cX9_takes 31 = .ok (.iconst 0, 1) := by decide +kernel
theorem dX9_takes_32 : decode cX9_takes 32 = .ok (.istore_n 3, 1) := by decide +kernel
theorem dX9_takes_33 : decode cX9_takes 33 = .ok (.aload_n 0, 1) := by decide +kernel
theorem dX9_takes_34 : decode cX9_takes 34 = .ok (.iload_n 3, 1) := by decide +kernel
theorem dX9_takes_35 : decode cX9_takes 35 = .ok (.ifCond .ne 7, 3) := by decide +kernel
theorem dX9_takes_38 : decode cX9_takes 38 = .ok (.iconst 1, 1) := by decide +kernel
theorem dX9_takes_39 : decode cX9_takes 39 = .ok (.goto 4, 3) := by decide +kernel
theorem dX9_takes_42 : decode cX9_takes 42 = .ok (.iconst 0, 1) := by decide +kernel
theorem dX9_takes_43 : decode cX9_takes 43 = .ok (.putfield 87, 3) := by decide +kernel
theorem dX9_takes_46 : decode cX9_takes 46 = .ok (.aload_n 0, 1) := by decide +kernel
theorem dX9_takes_47 : decode cX9_takes 47 = .ok (.getfield 77, 3) := by decide +kernel
theorem dX9_takes_50 : decode cX9_takes 50 = .ok (.istore 4, 2) := by decide +kernel
theorem dX9_takes_52 : decode cX9_takes 52 = .ok (.iload_n 3, 1) := by decide +kernel
theorem dX9_takes_53 : decode cX9_takes 53 = .ok (.ifCond .eq 7, 3) := by decide +kernel
theorem dX9_takes_56 : decode cX9_takes 56 = .ok (.aload_n 0, 1) := by decide +kernel
theorem dX9_takes_57 : decode cX9_takes 57 = .ok (.invokevirtual 91, 3) := by decide +kernel
theorem dX9_takes_60 : decode cX9_takes 60 = .ok (.iload_n 3, 1) := by decide +kernel
theorem dX9_takes_61 : decode cX9_takes 61 = .ok (.ifCond .eq 8, 3) := by decide +kernel
theorem dX9_takes_64 : decode cX9_takes 64 = .ok (.iload 4, 2) := by decide +kernel
theorem dX9_takes_66 : decode cX9_takes 66 = .ok (.goto 4, 3) := by decide +kernel
theorem dX9_takes_69 : decode cX9_takes 69 = .ok (.iconst 0, 1) := by decide +kernel
theorem dX9_takes_70 : decode cX9_takes 70 = .ok (.ireturn, 1) := by decide +kernel
set_option maxRecDepth 20000 in
theorem ggX9_readLoad_X9_takes : GoodIn wsX9_readLoad wsX9_takes := goodIn_r _ [9, 3, 10, 11, 12, 13, 8, 14, 15, 16, 17, 18, 19, 20, 21, 22, 23, 24, 25, 26, 27, 28, 29, 30, 31, 32, 33, 34, 35, 36, 37, 38, 39, 40, 41, 42, 43, 44, 45, 46, 47, 48, 49, 50, 51, 52, 53, 54, 55, 56, 57, 58, 59] (by decide +kernel) (by decide +kernel)
set_option maxRecDepth 20000 in
theorem gX9_readLoad_X9_takes : GoodIn wsX9_readLoad (wsV RX9 100 RX9 yX9_takes wsX9_takes) := goodIn_app (goodIn_of _ (by decide +kernel)) ggX9_readLoad_X9_takes
theorem dX9_readLoad_0 : decode cX9_readLoad 0 = .ok (.aload_n 0, 1) := by decide +kernel
theorem dX9_readLoad_1 : decode cX9_readLoad 1 = .ok (.iconst 0, 1) := by decide +kernel
theorem dX9_readLoad_2 : decode cX9_readLoad 2 = .ok (.aload_n 0, 1) := by decide +kernel
theorem dX9_readLoad_3 : decode cX9_readLoad 3 = .ok (.getfield 94, 3) := by decide +kernel
theorem dX9_readLoad_6 : decode cX9_readLoad 6 = .ok (.aload_n 0, 1) := by decide +kernel
theorem dX9_readLoad_7 : decode cX9_readLoad 7 = .ok (.getfield 97, 3) := by decide +kernel
theorem dX9_readLoad_10 : decode cX9_readLoad 10 = .ok (.imul, 1) := by decide +kernel
theorem dX9_readLoad_11 : decode cX9_readLoad 11 = .ok (.iconst 1, 1) := by decide +kernel
theorem dX9_readLoad_12 : decode cX9_readLoad 12 = .ok (.isub, 1) := by decide +kernel
theorem dX9_readLoad_13 : decode cX9_readLoad 13 = .ok (.invokevirtual 100, 3) := by decide +kernel
theorem dX9_readLoad_16 : decode cX9_readLoad 16 = .ok (.istore_n 1, 1) := by decide +kernel
theorem dX9_readLoad_17 : decode cX9_readLoad 17 = .ok (.aload_n 0, 1) := by decide +kernel
theorem dX9_readLoad_18 : decode cX9_readLoad 18 = .ok (.iconst 1, 1) := by decide +kernel
theorem dX9_readLoad_19 : decode cX9_readLoad 19 = .ok (.bipush 9, 2) := by decide +kernel
theorem dX9_readLoad_21 : decode cX9_readLoad 21 = .ok (.invokevirtual 100, 3) := by decide +kernel
theorem dX9_readLoad_24 : decode cX9_readLoad 24 = .ok (.istore_n 2, 1) := by decide +kernel
theorem dX9_readLoad_25 : decode cX9_readLoad 25 = .ok (.aload_n 0, 1) := by decide +kernel
theorem dX9_readLoad_26 : decode cX9_readLoad 26 = .ok (.getfield 87, 3) := by decide +kernel
theorem dX9_readLoad_29 : decode cX9_readLoad 29 = .ok (.ifCond .ne 10, 3) := by decide +kernel
theorem dX9_readLoad_32 : decode cX9_readLoad 32 = .ok (.aload_n 0, 1) := by decide +kernel
theorem dX9_readLoad_33 : decode cX9_readLoad 33 = .ok (.getfield 45, 3) := by decide +kernel
theorem dX9_readLoad_36 : decode cX9_readLoad 36 = .ok (.iload_n 1, 1) := by decide +kernel
theorem dX9_readLoad_37 : decode cX9_readLoad 37 = .ok (.iload_n 2, 1) := by decide +kernel
theorem dX9_readLoad_38 : decode cX9_readLoad 38 = .ok (.iastore, 1) := by decide +kernel
theorem dX9_readLoad_39 : decode cX9_readLoad 39 = .ok (.return_, 1) := by decide +kernel
set_option maxRecDepth 20000 in
theorem ggX9_readItem_X9_next : GoodIn wsX9_readItem wsX9_next := goodIn_r _ [13, 14, 15, 1, 5, 16, 17, 18, 12, 19, 20, 21, 22, 23, 24, 25, 26, 27, 37, 38, 39, 40, 41, 42, 43, 44, 45, 46, 47, 48, 49, 50, 51, 52, 53, 54, 55, 56, 57, 58, 59, 60, 61, 62, 63, 64, 65, 66] (by decide +kernel) (by decide +kernel)
set_option maxRecDepth 20000 in
theorem gX9_readItem_X9_next : GoodIn wsX9_readItem (wsV RX9 91 RX9 yX9_next wsX9_next) := goodIn_app (goodIn_of _ (by decide +kernel)) ggX9_readItem_X9_next
set_option maxRecDepth 20000 in
theorem ggX9_readItem_X9_takes : GoodIn wsX9_readItem wsX9_takes := goodIn_r _ [31, 6, 5, 1, 25, 26, 12, 27, 9, 10, 11, 13, 14, 15, 16, 17, 18, 19, 20, 21, 22, 23, 24, 37, 38, 39, 40, 41, 42, 43, 44, 45, 46, 47, 48, 49, 50, 51, 52, 53, 54, 55, 56, 57, 58, 59, 60, 61, 62, 63, 64, 65, 66] (by decide +kernel) (by decide +kernel)
set_option maxRecDepth 20000 in
theorem gX9_readItem_X9_takes : GoodIn wsX9_readItem (wsV RX9 100 RX9 yX9_takes wsX9_takes) := goodIn_app (goodIn_of _ (by decide +kernel)) ggX9_readItem_X9_takes
set_option maxRecDepth 20000 in
theorem ggX9_readItem_X9_readLoad : GoodIn wsX9_readItem wsX9_readLoad := goodIn_r _ [35, 7, 8, 6, 36, 28, 29, 30, 12, 31, 5, 1, 25, 26, 27, 9, 10, 11, 13, 14, 15, 16, 17, 18, 19, 20, 21, 22, 23, 24, 37, 38, 39, 40, 41, 42, 43, 44, 45, 46, 47, 48, 49, 50, 51, 52, 53, 54, 55, 56, 57, 58, 59, 60, 61, 62, 63, 64, 65, 66] (by decide +kernel) (by decide +kernel)
set_option maxRecDepth 20000 in
theorem gX9_readItem_X9_readLoad : GoodIn wsX9_readItem (wsV RX9 113 RX9 yX9_readLoad wsX9_readLoad) := goodIn_app (goodIn_of _ (by decide +kernel)) ggX9_readItem_X9_readLoad
theorem dX9_readItem_0 : decode cX9_readItem 0 = .ok (.aload_n 0, 1) := by decide +kernel
theorem dX9_readItem_1 : decode cX9_readItem 1 = .ok (.getfield 77, 3) := by decide +kernel
theorem dX9_readItem_4 : decode cX9_readItem 4 = .ok (.istore_n 1, 1) := by decide +kernel
theorem dX9_readItem_5 : decode cX9_readItem 5 = .ok (.iload_n 1, 1) := by decide +kernel
theorem dX9_readItem_6 : decode cX9_readItem 6 = .ok (.bipush 115, 2) := by decide +kernel
theorem dX9_readItem_8 : decode cX9_readItem 8 = .ok (.if_icmp .ne 18, 3) := by decide +kernel
theorem dX9_readItem_11 : decode cX9_readItem 11 = .ok (.aload_n 0, 1) := by decide +kernel
theorem dX9_readItem_12 : decode cX9_readItem 12 = .ok (.getfield 104, 3) := by decide +kernel
theorem dX9_readItem_15 : decode cX9_readItem 15 = .ok (.ifCond .le 7, 3) := by decide +kernel
theorem dX9_readItem_18 : decode cX9_readItem 18 = .ok (.iconst 1, 1) := by decide +kernel
theorem dX9_readItem_19 : decode cX9_readItem 19 = .ok (.goto 46, 3) := by decide +kernel
theorem dX9_readItem_22 : decode cX9_readItem 22 = .ok (.iconst 0, 1) := by decide +kernel
theorem dX9_readItem_23 : decode cX9_readItem 23 = .ok (.goto 42, 3) := by decide +kernel
theorem dX9_readItem_26 : decode cX9_readItem 26 = .ok (.iload_n 1, 1) := by decide +kernel
theorem dX9_readItem_27 : decode cX9_readItem 27 = .ok (.bipush 109, 2) := by decide +kernel
theorem dX9_readItem_29 : decode cX9_readItem 29 = .ok (.if_icmp .ne 18, 3) := by decide +kernel
theorem dX9_readItem_32 : decode cX9_readItem 32 = .ok (.aload_n 0, 1) := by decide +kernel
theorem dX9_readItem_33 : decode cX9_readItem 33 = .ok (.getfield 107, 3) := by decide +kernel
theorem dX9_readItem_36 : decode cX9_readItem 36 = .ok (.ifCond .le 7, 3) := by decide +kernel
theorem dX9_readItem_39 : decode cX9_readItem 39 = .ok (.iconst 1, 1) := by decide +kernel
theorem dX9_readItem_40 : decode cX9_readItem 40 = .ok (.goto 25, 3) := by decide +kernel
theorem dX9_readItem_43 : decode cX9_readItem 43 = .ok (.iconst 0, 1) := by decide +kernel
theorem dX9_readItem_44 : decode cX9_readItem 44 = .ok (.goto 21, 3) := by decide +kernel
theorem dX9_readItem_47 : decode cX9_readItem 47 = .ok (.iload_n 1, 1) := by decide +kernel
theorem dX9_readItem_48 : decode cX9_readItem 48 = .ok (.bipush 98, 2) := by decide +kernel
theorem dX9_readItem_50 : decode cX9_readItem 50 = .ok (.if_icmp .ne 14, 3) := by decide +kernel
theorem dX9_readItem_53 : decode cX9_readItem 53 = .ok (.aload_n 0, 1) := by decide +kernel
theorem dX9_readItem_54 : decode cX9_readItem 54 = .ok (.getfield 110, 3) := by decide +kernel
theorem dX9_readItem_57 : decode cX9_readItem 57 = .ok (.ifCond .lt 7, 3) := by decide +kernel
theorem dX9_readItem_60 : decode cX9_readItem 60 = .ok (.iconst 1, 1) := by decide +kernel
theorem dX9_readItem_61 : decode cX9_readItem 61 = .ok (.goto 4, 3) := by decide +kernel
theorem dX9_readItem_64 : decode cX9_readItem 64 = .ok (.iconst 0, 1) := by decide +kernel
theorem dX9_readItem_65 : decode cX9_readItem 65 = .ok (.istore_n 2, 1) := by decide +kernel
theorem dX9_readItem_66 : decode cX9_readItem 66 = .ok (.aload_n 0, 1) := by decide +kernel
theorem dX9_readItem_67 : decode cX9_readItem 67 = .ok (.getfield 80, 3) := by decide +kernel
theorem dX9_readItem_70 : decode cX9_readItem 70 = .ok (.iconst 1, 1) := by decide +kernel
theorem dX9_readItem_71 : decode cX9_readItem 71 = .ok (.if_icmp .ne 7, 3) := by decide +kernel
theorem dX9_readItem_74 : decode cX9_readItem 74 = .ok (.iload_n 2, 1) := by decide +kernel
theorem dX9_readItem_75 : decode cX9_readItem 75 = .ok (.ifCond .eq 9, 3) := by decide +kernel
theorem dX9_readItem_78 : decode cX9_readItem 78 = .ok (.aload_n 0, 1) := by decide +kernel
theorem dX9_readItem_79 : decode cX9_readItem 79 = .ok (.iconst 1, 1) := by decide +kernel
theorem dX9_readItem_80 : decode cX9_readItem 80 = .ok (.putfield 87, 3) := by decide +kernel
theorem dX9_readItem_83 : decode cX9_readItem 83 = .ok (.return_, 1) := by decide +kernel
theorem dX9_readItem_84 : decode cX9_readItem 84 = .ok (.aload_n 0, 1) := by decide +kernel
theorem dX9_readItem_85 : decode cX9_readItem 85 = .ok (.invokevirtual 91, 3) := by decide +kernel
theorem dX9_readItem_88 : decode cX9_readItem 88 = .ok (.iload_n 1, 1) := by decide +kernel
theorem dX9_readItem_89 : decode cX9_readItem 89 = .ok (.bipush 115, 2) := by decide +kernel
theorem dX9_readItem_91 : decode cX9_readItem 91 = .ok (.if_icmp .ne 27, 3) := by decide +kernel
theorem dX9_readItem_94 : decode cX9_readItem 94 = .ok (.aload_n 0, 1) := by decide +kernel
theorem dX9_readItem_95 : decode cX9_readItem 95 = .ok (.aload_n 0, 1) := by decide +kernel
theorem dX9_readItem_96 : decode cX9_readItem 96 = .ok (.iconst 2, 1) := by decide +kernel
theorem dX9_readItem_97 : decode cX9_readItem 97 = .ok (.bipush 6, 2) := by decide +kernel
theorem dX9_readItem_99 : decode cX9_readItem 99 = .ok (.invokevirtual 100, 3) := by decide +kernel
theorem dX9_readItem_102 : decode cX9_readItem 102 = .ok (.putfield 94, 3) := by decide +kernel
theorem dX9_readItem_105 : decode cX9_readItem 105 = .ok (.aload_n 0, 1) := by decide +kernel
theorem dX9_readItem_106 : decode cX9_readItem 106 = .ok (.aload_n 0, 1) := by decide +kernel
theorem dX9_readItem_107 : decode cX9_readItem 107 = .ok (.iconst 1, 1) := by decide +kernel
theorem dX9_readItem_108 : decode cX9_readItem 108 = .ok (.iconst 2, 1) := by decide +kernel
theorem dX9_readItem_109 : decode cX9_readItem 109 = .ok (.invokevirtual 100, 3) := by decide +kernel
theorem dX9_readItem_112 : decode cX9_readItem 112 = .ok (.putfield 97, 3) := by decide +kernel
theorem dX9_readItem_115 : decode cX9_readItem 115 = .ok (.goto 56, 3) := by decide +kernel
theorem dX9_readItem_118 : decode cX9_readItem 118 = .ok (.iload_n 1, 1) := by decide +kernel
theorem dX9_readItem_119 : decode cX9_readItem 119 = .ok (.bipush 108, 2) := by decide +kernel
theorem dX9_readItem_121 : decode cX9_readItem 121 = .ok (.if_icmp .ne 10, 3) := by decide +kernel
theorem dX9_readItem_124 : decode cX9_readItem 124 = .ok (.aload_n 0, 1) := by decide +kernel
theorem dX9_readItem_125 : decode cX9_readItem 125 = .ok (.invokevirtual 113, 3) := by decide +kernel
theorem dX9_readItem_128 : decode cX9_readItem 128 = .ok (.goto 43, 3) := by decide +kernel
theorem dX9_readItem_131 : decode cX9_readItem 131 = .ok (.iload_n 1, 1) := by decide +kernel
theorem dX9_readItem_132 : decode cX9_readItem 132 = .ok (.bipush 109, 2) := by decide +kernel
theorem dX9_readItem_134 : decode cX9_readItem 134 = .ok (.if_icmp .ne 17, 3) := by decide +kernel
theorem dX9_readItem_137 : decode cX9_readItem 137 = .ok (.aload_n 0, 1) := by decide +kernel
