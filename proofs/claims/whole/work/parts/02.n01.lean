set_option maxRecDepth 20000 in
theorem ggX0_init_X0_reset : GoodIn wsX0_init wsX0_reset := goodIn_r _ [10, 11, 12, 5, 13, 14, 15, 9, 16, 17, 18, 19, 20, 21, 22, 23, 24, 25, 26, 27, 28, 29] (by decide +kernel) (by decide +kernel)
set_option maxRecDepth 20000 in
theorem gX0_init_X0_reset : GoodIn wsX0_init (wsV RX0 15 RX0 yX0_reset wsX0_reset) := goodIn_app (goodIn_of _ (by decide +kernel)) ggX0_init_X0_reset
theorem dX0_init_0 : decode cX0_init 0 = .ok (.aload_n 0, 1) := by decide +kernel
theorem dX0_init_1 : decode cX0_init 1 = .ok (.invokespecial 3, 3) := by decide +kernel
theorem dX0_init_4 : decode cX0_init 4 = .ok (.aload_n 0, 1) := by decide +kernel
theorem dX0_init_5 : decode cX0_init 5 = .ok (.bipush 12, 2) := by decide +kernel
theorem dX0_init_7 : decode cX0_init 7 = .ok (.newarray .int, 2) := by decide +kernel
theorem dX0_init_9 : decode cX0_init 9 = .ok (.putfield 9, 3) := by decide +kernel
theorem dX0_init_12 : decode cX0_init 12 = .ok (.aload_n 0, 1) := by decide +kernel
theorem dX0_init_13 : decode cX0_init 13 = .ok (.invokevirtual 15, 3) := by decide +kernel
theorem dX0_init_16 : decode cX0_init 16 = .ok (.return_, 1) := by decide +kernel
set_option maxRecDepth 20000 in
theorem ggX0_reset_X0_shape : GoodIn wsX0_reset wsX0_shape := goodIn_r _ [8, 9, 10, 11, 16, 17, 18, 19, 20, 21] (by decide +kernel) (by decide +kernel)
set_option maxRecDepth 20000 in
theorem gX0_reset_X0_shape : GoodIn wsX0_reset (wsV RX0 18 RX0 yX0_shape wsX0_shape) := goodIn_app (goodIn_of _ (by decide +kernel)) ggX0_reset_X0_shape
set_option maxRecDepth 20000 in
theorem ggX0_reset_J7_fill_53178 : GoodIn wsX0_reset wsJ7_fill_53178 := goodIn_r _ [15] (by decide +kernel) (by decide +kernel)
set_option maxRecDepth 20000 in
theorem gX0_reset_J7_fill_53178 : GoodIn wsX0_reset (va_wsS RX0 29 yJ7_fill_53178 wsJ7_fill_53178) := goodIn_app (goodIn_of _ (by decide +kernel)) ggX0_reset_J7_fill_53178
theorem dX0_reset_0 : decode cX0_reset 0 = .ok (.aload_n 0, 1) := by decide +kernel
theorem dX0_reset_1 : decode cX0_reset 1 = .ok (.iconst 2, 1) := by decide +kernel
theorem dX0_reset_2 : decode cX0_reset 2 = .ok (.iconst 2, 1) := by decide +kernel
theorem dX0_reset_3 : decode cX0_reset 3 = .ok (.invokevirtual 18, 3) := by decide +kernel
theorem dX0_reset_6 : decode cX0_reset 6 = .ok (.aload_n 0, 1) := by decide +kernel
theorem dX0_reset_7 : decode cX0_reset 7 = .ok (.bipush 20, 2) := by decide +kernel
theorem dX0_reset_9 : decode cX0_reset 9 = .ok (.putfield 22, 3) := by decide +kernel
theorem dX0_reset_12 : decode cX0_reset 12 = .ok (.aload_n 0, 1) := by decide +kernel
theorem dX0_reset_13 : decode cX0_reset 13 = .ok (.iconst 0, 1) := by decide +kernel
theorem dX0_reset_14 : decode cX0_reset 14 = .ok (.putfield 26, 3) := by decide +kernel
theorem dX0_reset_17 : decode cX0_reset 17 = .ok (.aload_n 0, 1) := by decide +kernel
theorem dX0_reset_18 : decode cX0_reset 18 = .ok (.getfield 9, 3) := by decide +kernel
theorem dX0_reset_21 : decode cX0_reset 21 = .ok (.iconst 1, 1) := by decide +kernel
theorem dX0_reset_22 : decode cX0_reset 22 = .ok (.invokestatic 29, 3) := by decide +kernel
theorem dX0_reset_25 : decode cX0_reset 25 = .ok (.return_, 1) := by decide +kernel
theorem dX0_shape_0 : decode cX0_shape 0 = .ok (.aload_n 0, 1) := by decide +kernel
theorem dX0_shape_1 : decode cX0_shape 1 = .ok (.iload_n 1, 1) := by decide +kernel
theorem dX0_shape_2 : decode cX0_shape 2 = .ok (.putfield 35, 3) := by decide +kernel
theorem dX0_shape_5 : decode cX0_shape 5 = .ok (.aload_n 0, 1) := by decide +kernel
theorem dX0_shape_6 : decode cX0_shape 6 = .ok (.iload_n 2, 1) := by decide +kernel
theorem dX0_shape_7 : decode cX0_shape 7 = .ok (.putfield 38, 3) := by decide +kernel
theorem dX0_shape_10 : decode cX0_shape 10 = .ok (.aload_n 0, 1) := by decide +kernel
theorem dX0_shape_11 : decode cX0_shape 11 = .ok (.iload_n 1, 1) := by decide +kernel
theorem dX0_shape_12 : decode cX0_shape 12 = .ok (.iload_n 2, 1) := by decide +kernel
theorem dX0_shape_13 : decode cX0_shape 13 = .ok (.imul, 1) := by decide +kernel
theorem dX0_shape_14 : decode cX0_shape 14 = .ok (.putfield 41, 3) := by decide +kernel
theorem dX0_shape_17 : decode cX0_shape 17 = .ok (.return_, 1) := by decide +kernel
set_option maxRecDepth 20000 in
theorem ggX0_copy_X0_shape : GoodIn wsX0_copy wsX0_shape := goodIn_r _ [14, 1, 2, 15, 16, 17, 18, 19, 20, 21] (by decide +kernel) (by decide +kernel)
set_option maxRecDepth 20000 in
theorem gX0_copy_X0_shape : GoodIn wsX0_copy (wsV RX0 18 RX0 yX0_shape wsX0_shape) := goodIn_app (goodIn_of _ (by decide +kernel)) ggX0_copy_X0_shape
theorem dX0_copy_0 : decode cX0_copy 0 = .ok (.aload_n 0, 1) := by decide +kernel
theorem dX0_copy_1 : decode cX0_copy 1 = .ok (.aload_n 1, 1) := by decide +kernel
theorem dX0_copy_2 : decode cX0_copy 2 = .ok (.getfield 35, 3) := by decide +kernel
theorem dX0_copy_5 : decode cX0_copy 5 = .ok (.aload_n 1, 1) := by decide +kernel
theorem dX0_copy_6 : decode cX0_copy 6 = .ok (.getfield 38, 3) := by decide +kernel
theorem dX0_copy_9 : decode cX0_copy 9 = .ok (.invokevirtual 18, 3) := by decide +kernel
theorem dX0_copy_12 : decode cX0_copy 12 = .ok (.aload_n 0, 1) := by decide +kernel
theorem dX0_copy_13 : decode cX0_copy 13 = .ok (.aload_n 1, 1) := by decide +kernel
theorem dX0_copy_14 : decode cX0_copy 14 = .ok (.getfield 22, 3) := by decide +kernel
theorem dX0_copy_17 : decode cX0_copy 17 = .ok (.putfield 22, 3) := by decide +kernel
theorem dX0_copy_20 : decode cX0_copy 20 = .ok (.aload_n 0, 1) := by decide +kernel
theorem dX0_copy_21 : decode cX0_copy 21 = .ok (.aload_n 1, 1) := by decide +kernel
theorem dX0_copy_22 : decode cX0_copy 22 = .ok (.getfield 26, 3) := by decide +kernel
theorem dX0_copy_25 : decode cX0_copy 25 = .ok (.putfield 26, 3) := by decide +kernel
theorem dX0_copy_28 : decode cX0_copy 28 = .ok (.aload_n 1, 1) := by decide +kernel
theorem dX0_copy_29 : decode cX0_copy 29 = .ok (.getfield 9, 3) := by decide +kernel
theorem dX0_copy_32 : decode cX0_copy 32 = .ok (.iconst 0, 1) := by decide +kernel
theorem dX0_copy_33 : decode cX0_copy 33 = .ok (.aload_n 0, 1) := by decide +kernel
theorem dX0_copy_34 : decode cX0_copy 34 = .ok (.getfield 9, 3) := by decide +kernel
theorem dX0_copy_37 : decode cX0_copy 37 = .ok (.iconst 0, 1) := by decide +kernel
theorem dX0_copy_38 : decode cX0_copy 38 = .ok (.bipush 12, 2) := by decide +kernel
theorem dX0_copy_40 : decode cX0_copy 40 = .ok (.invokestatic 44, 3) := by decide +kernel
theorem dX0_copy_43 : decode cX0_copy 43 = .ok (.return_, 1) := by decide +kernel
theorem dX0_has_0 : decode cX0_has 0 = .ok (.iload_n 1, 1) := by decide +kernel
theorem dX0_has_1 : decode cX0_has 1 = .ok (.ifCond .lt 15, 3) := by decide +kernel
theorem dX0_has_4 : decode cX0_has 4 = .ok (.iload_n 1, 1) := by decide +kernel
theorem dX0_has_5 : decode cX0_has 5 = .ok (.aload_n 0, 1) := by decide +kernel
theorem dX0_has_6 : decode cX0_has 6 = .ok (.getfield 41, 3) := by decide +kernel
theorem dX0_has_9 : decode cX0_has 9 = .ok (.if_icmp .ge 7, 3) := by decide +kernel
theorem dX0_has_12 : decode cX0_has 12 = .ok (.iconst 1, 1) := by decide +kernel
theorem dX0_has_13 : decode cX0_has 13 = .ok (.goto 4, 3) := by decide +kernel
theorem dX0_has_16 : decode cX0_has 16 = .ok (.iconst 0, 1) := by decide +kernel
theorem dX0_has_17 : decode cX0_has 17 = .ok (.ireturn, 1) := by decide +kernel
set_option maxRecDepth 20000 in
theorem ggX0_hasSet_X0_allBits : GoodIn wsX0_hasSet wsX0_allBits := goodIn_r _ [5, 6, 7, 8, 9, 10, 11, 12] (by decide +kernel) (by decide +kernel)
set_option maxRecDepth 20000 in
theorem gX0_hasSet_X0_allBits : GoodIn wsX0_hasSet (wsV RX0 50 RX0 yX0_allBits wsX0_allBits) := goodIn_app (goodIn_of _ (by decide +kernel)) ggX0_hasSet_X0_allBits
theorem dX0_hasSet_0 : decode cX0_hasSet 0 = .ok (.iload_n 1, 1) := by decide +kernel
theorem dX0_hasSet_1 : decode cX0_hasSet 1 = .ok (.ifCond .lt 15, 3) := by decide +kernel
theorem dX0_hasSet_4 : decode cX0_hasSet 4 = .ok (.iload_n 1, 1) := by decide +kernel
theorem dX0_hasSet_5 : decode cX0_hasSet 5 = .ok (.aload_n 0, 1) := by decide +kernel
theorem dX0_hasSet_6 : decode cX0_hasSet 6 = .ok (.invokevirtual 50, 3) := by decide +kernel
theorem dX0_hasSet_9 : decode cX0_hasSet 9 = .ok (.if_icmp .gt 7, 3) := by decide +kernel
theorem dX0_hasSet_12 : decode cX0_hasSet 12 = .ok (.iconst 1, 1) := by decide +kernel
theorem dX0_hasSet_13 : decode cX0_hasSet 13 = .ok (.goto 4, 3) := by decide +kernel
theorem dX0_hasSet_16 : decode cX0_hasSet 16 = .ok (.iconst 0, 1) := by decide +kernel
theorem dX0_hasSet_17 : decode cX0_hasSet 17 = .ok (.ireturn, 1) := by decide +kernel
theorem dX0_allBits_0 : decode cX0_allBits 0 = .ok (.iconst 1, 1) := by decide +kernel
theorem dX0_allBits_1 : decode cX0_allBits 1 = .ok (.aload_n 0, 1) := by decide +kernel
theorem dX0_allBits_2 : decode cX0_allBits 2 = .ok (.getfield 41, 3) := by decide +kernel
theorem dX0_allBits_5 : decode cX0_allBits 5 = .ok (.ishl, 1) := by decide +kernel
theorem dX0_allBits_6 : decode cX0_allBits 6 = .ok (.iconst 1, 1) := by decide +kernel
theorem dX0_allBits_7 : decode cX0_allBits 7 = .ok (.isub, 1) := by decide +kernel
theorem dX0_allBits_8 : decode cX0_allBits 8 = .ok (.ireturn, 1) := by decide +kernel
theorem dX0_stepOf_0 : decode cX0_stepOf 0 = .ok (.iload_n 1, 1) := by decide +kernel
theorem dX0_stepOf_1 : decode cX0_stepOf 1 = .ok (.aload_n 0, 1) := by decide +kernel
theorem dX0_stepOf_2 : decode cX0_stepOf 2 = .ok (.getfield 35, 3) := by decide +kernel
theorem dX0_stepOf_5 : decode cX0_stepOf 5 = .ok (.if_icmp .ge 7, 3) := by decide +kernel
theorem dX0_stepOf_8 : decode cX0_stepOf 8 = .ok (.iload_n 1, 1) := by decide +kernel
theorem dX0_stepOf_9 : decode cX0_stepOf 9 = .ok (.goto 9, 3) := by decide +kernel
theorem dX0_stepOf_12 : decode cX0_stepOf 12 = .ok (.iload_n 1, 1) := by decide +kernel
theorem dX0_stepOf_13 : decode cX0_stepOf 13 = .ok (.aload_n 0, 1) := by decide +kernel
theorem dX0_stepOf_14 : decode cX0_stepOf 14 = .ok (.getfield 35, 3) := by decide +kernel
theorem dX0_stepOf_17 : decode cX0_stepOf 17 = .ok (.isub, 1) := by decide +kernel
theorem dX0_stepOf_18 : decode cX0_stepOf 18 = .ok (.ireturn, 1) := by decide +kernel
theorem dX0_coverOf_0 : decode cX0_coverOf 0 = .ok (.iload_n 1, 1) := by decide +kernel
theorem dX0_coverOf_1 : decode cX0_coverOf 1 = .ok (.aload_n 0, 1) := by decide +kernel
theorem dX0_coverOf_2 : decode cX0_coverOf 2 = .ok (.getfield 35, 3) := by decide +kernel
theorem dX0_coverOf_5 : decode cX0_coverOf 5 = .ok (.if_icmp .ge 7, 3) := by decide +kernel
theorem dX0_coverOf_8 : decode cX0_coverOf 8 = .ok (.iconst 0, 1) := by decide +kernel
theorem dX0_coverOf_9 : decode cX0_coverOf 9 = .ok (.goto 4, 3) := by decide +kernel
theorem dX0_coverOf_12 : decode cX0_coverOf 12 = .ok (.iconst 1, 1) := by decide +kernel
theorem dX0_coverOf_13 : decode cX0_coverOf 13 = .ok (.ireturn, 1) := by decide +kernel
set_option maxRecDepth 20000 in
theorem ggX0_from_X0_stepOf : GoodIn wsX0_from wsX0_stepOf := goodIn_r _ [6, 1, 11, 12, 13, 14, 15, 16] (by decide +kernel) (by decide +kernel)
set_option maxRecDepth 20000 in
theorem gX0_from_X0_stepOf : GoodIn wsX0_from (wsV RX0 54 RX0 yX0_stepOf wsX0_stepOf) := goodIn_app (goodIn_of _ (by decide +kernel)) ggX0_from_X0_stepOf
set_option maxRecDepth 20000 in
theorem ggX0_from_X0_coverOf : GoodIn wsX0_from wsX0_coverOf := goodIn_r _ [10, 1, 11, 12, 13, 14, 15, 16] (by decide +kernel) (by decide +kernel)
set_option maxRecDepth 20000 in
theorem gX0_from_X0_coverOf : GoodIn wsX0_from (wsV RX0 58 RX0 yX0_coverOf wsX0_coverOf) := goodIn_app (goodIn_of _ (by decide +kernel)) ggX0_from_X0_coverOf
theorem dX0_from_0 : decode cX0_from 0 = .ok (.aload_n 0, 1) := by decide +kernel
theorem dX0_from_1 : decode cX0_from 1 = .ok (.iload_n 2, 1) := by decide +kernel
theorem dX0_from_2 : decode cX0_from 2 = .ok (.invokevirtual 54, 3) := by decide +kernel
theorem dX0_from_5 : decode cX0_from 5 = .ok (.istore_n 3, 1) := by decide +kernel
theorem dX0_from_6 : decode cX0_from 6 = .ok (.aload_n 0, 1) := by decide +kernel
theorem dX0_from_7 : decode cX0_from 7 = .ok (.iload_n 1, 1) := by decide +kernel
theorem dX0_from_8 : decode cX0_from 8 = .ok (.invokevirtual 58, 3) := by decide +kernel
theorem dX0_from_11 : decode cX0_from 11 = .ok (.ifCond .ne 13, 3) := by decide +kernel
theorem dX0_from_14 : decode cX0_from 14 = .ok (.aload_n 0, 1) := by decide +kernel
theorem dX0_from_15 : decode cX0_from 15 = .ok (.iload_n 1, 1) := by decide +kernel
theorem dX0_from_16 : decode cX0_from 16 = .ok (.invokevirtual 54, 3) := by decide +kernel
theorem dX0_from_19 : decode cX0_from 19 = .ok (.iload_n 3, 1) := by decide +kernel
theorem dX0_from_20 : decode cX0_from 20 = .ok (.iadd, 1) := by decide +kernel
theorem dX0_from_21 : decode cX0_from 21 = .ok (.goto 10, 3) := by decide +kernel
theorem dX0_from_24 : decode cX0_from 24 = .ok (.aload_n 0, 1) := by decide +kernel
theorem dX0_from_25 : decode cX0_from 25 = .ok (.iload_n 1, 1) := by decide +kernel
theorem dX0_from_26 : decode cX0_from 26 = .ok (.invokevirtual 54, 3) := by decide +kernel
theorem dX0_from_29 : decode cX0_from 29 = .ok (.iload_n 3, 1) := by decide +kernel
theorem dX0_from_30 : decode cX0_from 30 = .ok (.isub, 1) := by decide +kernel
theorem dX0_from_31 : decode cX0_from 31 = .ok (.istore 4, 2) := by decide +kernel
theorem dX0_from_33 : decode cX0_from 33 = .ok (.iload 4, 2) := by decide +kernel
theorem dX0_from_35 : decode cX0_from 35 = .ok (.aload_n 0, 1) := by decide +kernel
theorem dX0_from_36 : decode cX0_from 36 = .ok (.getfield 35, 3) := by decide +kernel
theorem dX0_from_39 : decode cX0_from 39 = .ok (.if_icmp .lt 15, 3) := by decide +kernel
theorem dX0_from_42 : decode cX0_from 42 = .ok (.iload 4, 2) := by decide +kernel
theorem dX0_from_44 : decode cX0_from 44 = .ok (.aload_n 0, 1) := by decide +kernel
theorem dX0_from_45 : decode cX0_from 45 = .ok (.getfield 35, 3) := by decide +kernel
theorem dX0_from_48 : decode cX0_from 48 = .ok (.isub, 1) := by decide +kernel
theorem dX0_from_49 : decode cX0_from 49 = .ok (.istore 4, 2) := by decide +kernel
theorem dX0_from_51 : decode cX0_from 51 = .ok (.goto 17, 3) := by decide +kernel
theorem dX0_from_54 : decode cX0_from 54 = .ok (.iload 4, 2) := by decide +kernel
theorem dX0_from_56 : decode cX0_from 56 = .ok (.ifCond .ge 12, 3) := by decide +kernel
theorem dX0_from_59 : decode cX0_from 59 = .ok (.iload 4, 2) := by decide +kernel
theorem dX0_from_61 : decode cX0_from 61 = .ok (.aload_n 0, 1) := by decide +kernel
theorem dX0_from_62 : decode cX0_from 62 = .ok (.getfield 35, 3) := by decide +kernel
theorem dX0_from_65 : decode cX0_from 65 = .ok (.iadd, 1) := by decide +kernel
theorem dX0_from_66 : decode cX0_from 66 = .ok (.istore 4, 2) := by decide +kernel
theorem dX0_from_68 : decode cX0_from 68 = .ok (.aload_n 0, 1) := by decide +kernel
theorem dX0_from_69 : decode cX0_from 69 = .ok (.iload_n 1, 1) := by decide +kernel
theorem dX0_from_70 : decode cX0_from 70 = .ok (.invokevirtual 58, 3) := by decide +kernel
theorem dX0_from_73 : decode cX0_from 73 = .ok (.aload_n 0, 1) := by decide +kernel
theorem dX0_from_74 : decode cX0_from 74 = .ok (.iload_n 2, 1) := by decide +kernel
theorem dX0_from_75 : decode cX0_from 75 = .ok (.invokevirtual 58, 3) := by decide +kernel
theorem dX0_from_78 : decode cX0_from 78 = .ok (.if_icmp .ne 8, 3) := by decide +kernel
theorem dX0_from_81 : decode cX0_from 81 = .ok (.iload 4, 2) := by decide +kernel
theorem dX0_from_83 : decode cX0_from 83 = .ok (.goto 10, 3) := by decide +kernel
theorem dX0_from_86 : decode cX0_from 86 = .ok (.aload_n 0, 1) := by decide +kernel
theorem dX0_from_87 : decode cX0_from 87 = .ok (.getfield 35, 3) := by decide +kernel
theorem dX0_from_90 : decode cX0_from 90 = .ok (.iload 4, 2) := by decide +kernel
theorem dX0_from_92 : decode cX0_from 92 = .ok (.iadd, 1) := by decide +kernel
theorem dX0_from_93 : decode cX0_from 93 = .ok (.ireturn, 1) := by decide +kernel
set_option maxRecDepth 20000 in
theorem ggX0_orderOf_X0_from : GoodIn wsX0_orderOf wsX0_from := goodIn_r _ [5, 6, 7, 8, 9, 4, 10, 11, 12, 13, 14, 15, 16, 17, 18, 19, 20] (by decide +kernel) (by decide +kernel)
set_option maxRecDepth 20000 in
theorem gX0_orderOf_X0_from : GoodIn wsX0_orderOf (wsV RX0 61 RX0 yX0_from wsX0_from) := goodIn_app (goodIn_of _ (by decide +kernel)) ggX0_orderOf_X0_from
theorem dX0_orderOf_0 : decode cX0_orderOf 0 = .ok (.aload_n 0, 1) := by decide +kernel
theorem dX0_orderOf_1 : decode cX0_orderOf 1 = .ok (.iconst 0, 1) := by decide +kernel
theorem dX0_orderOf_2 : decode cX0_orderOf 2 = .ok (.iload_n 1, 1) := by decide +kernel
theorem dX0_orderOf_3 : decode cX0_orderOf 3 = .ok (.invokevirtual 61, 3) := by decide +kernel
theorem dX0_orderOf_6 : decode cX0_orderOf 6 = .ok (.istore_n 2, 1) := by decide +kernel
theorem dX0_orderOf_7 : decode cX0_orderOf 7 = .ok (.iconst 1, 1) := by decide +kernel
theorem dX0_orderOf_8 : decode cX0_orderOf 8 = .ok (.istore_n 3, 1) := by decide +kernel
theorem dX0_orderOf_9 : decode cX0_orderOf 9 = .ok (.iload_n 2, 1) := by decide +kernel
theorem dX0_orderOf_10 : decode cX0_orderOf 10 = .ok (.ifCond .eq 22, 3) := by decide +kernel
theorem dX0_orderOf_13 : decode cX0_orderOf 13 = .ok (.iload_n 3, 1) := by decide +kernel
theorem dX0_orderOf_14 : decode cX0_orderOf 14 = .ok (.bipush 12, 2) := by decide +kernel
theorem dX0_orderOf_16 : decode cX0_orderOf 16 = .ok (.if_icmp .ge 16, 3) := by decide +kernel
theorem dX0_orderOf_19 : decode cX0_orderOf 19 = .ok (.aload_n 0, 1) := by decide +kernel
theorem dX0_orderOf_20 : decode cX0_orderOf 20 = .ok (.iload_n 2, 1) := by decide +kernel
theorem dX0_orderOf_21 : decode cX0_orderOf 21 = .ok (.iload_n 1, 1) := by decide +kernel
theorem dX0_orderOf_22 : decode cX0_orderOf 22 = .ok (.invokevirtual 61, 3) := by decide +kernel
theorem dX0_orderOf_25 : decode cX0_orderOf 25 = .ok (.istore_n 2, 1) := by decide +kernel
theorem dX0_orderOf_26 : decode cX0_orderOf 26 = .ok (.iinc 3 1, 3) := by decide +kernel
theorem dX0_orderOf_29 : decode cX0_orderOf 29 = .ok (.goto (-20), 3) := by decide +kernel
theorem dX0_orderOf_32 : decode cX0_orderOf 32 = .ok (.iload_n 3, 1) := by decide +kernel
theorem dX0_orderOf_33 : decode cX0_orderOf 33 = .ok (.ireturn, 1) := by decide +kernel
set_option maxRecDepth 20000 in
theorem ggX0_comesThroughAll_X0_from : GoodIn wsX0_comesThroughAll wsX0_from := goodIn_r _ [6, 7, 8, 9, 10, 5, 11, 12, 13, 14, 15, 20, 21, 22, 23, 24, 25] (by decide +kernel) (by decide +kernel)
set_option maxRecDepth 20000 in
theorem gX0_comesThroughAll_X0_from : GoodIn wsX0_comesThroughAll (wsV RX0 61 RX0 yX0_from wsX0_from) := goodIn_app (goodIn_of _ (by decide +kernel)) ggX0_comesThroughAll_X0_from
set_option maxRecDepth 20000 in
theorem ggX0_comesThroughAll_X0_allBits : GoodIn wsX0_comesThroughAll wsX0_allBits := goodIn_r _ [19, 1, 20, 21, 22, 23, 24, 25] (by decide +kernel) (by decide +kernel)
set_option maxRecDepth 20000 in
theorem gX0_comesThroughAll_X0_allBits : GoodIn wsX0_comesThroughAll (wsV RX0 50 RX0 yX0_allBits wsX0_allBits) := goodIn_app (goodIn_of _ (by decide +kernel)) ggX0_comesThroughAll_X0_allBits
theorem dX0_comesThroughAll_0 : decode cX0_comesThroughAll 0 = .ok (.iload_n 1, 1) := by decide +kernel
theorem dX0_comesThroughAll_1 : decode cX0_comesThroughAll 1 = .ok (.istore 4, 2) := by decide +kernel
theorem dX0_comesThroughAll_3 : decode cX0_comesThroughAll 3 = .ok (.iconst 1, 1) := by decide +kernel
theorem dX0_comesThroughAll_4 : decode cX0_comesThroughAll 4 = .ok (.iload_n 1, 1) := by decide +kernel
theorem dX0_comesThroughAll_5 : decode cX0_comesThroughAll 5 = .ok (.ishl, 1) := by decide +kernel
theorem dX0_comesThroughAll_6 : decode cX0_comesThroughAll 6 = .ok (.istore 5, 2) := by decide +kernel
theorem dX0_comesThroughAll_8 : decode cX0_comesThroughAll 8 = .ok (.iconst 0, 1) := by decide +kernel
theorem dX0_comesThroughAll_9 : decode cX0_comesThroughAll 9 = .ok (.istore 6, 2) := by decide +kernel
theorem dX0_comesThroughAll_11 : decode cX0_comesThroughAll 11 = .ok (.iload 6, 2) := by decide +kernel
theorem dX0_comesThroughAll_13 : decode cX0_comesThroughAll 13 = .ok (.iconst 2, 1) := by decide +kernel
theorem dX0_comesThroughAll_14 : decode cX0_comesThroughAll 14 = .ok (.aload_n 0, 1) := by decide +kernel
theorem dX0_comesThroughAll_15 : decode cX0_comesThroughAll 15 = .ok (.getfield 41, 3) := by decide +kernel
theorem dX0_comesThroughAll_18 : decode cX0_comesThroughAll 18 = .ok (.imul, 1) := by decide +kernel
theorem dX0_comesThroughAll_19 : decode cX0_comesThroughAll 19 = .ok (.if_icmp .ge 38, 3) := by decide +kernel
theorem dX0_comesThroughAll_22 : decode cX0_comesThroughAll 22 = .ok (.aload_n 0, 1) := by decide +kernel
theorem dX0_comesThroughAll_23 : decode cX0_comesThroughAll 23 = .ok (.iload 4, 2) := by decide +kernel
theorem dX0_comesThroughAll_25 : decode cX0_comesThroughAll 25 = .ok (.iload 6, 2) := by decide +kernel
theorem dX0_comesThroughAll_27 : decode cX0_comesThroughAll 27 = .ok (.iconst 1, 1) := by decide +kernel
theorem dX0_comesThroughAll_28 : decode cX0_comesThroughAll 28 = .ok (.iand, 1) := by decide +kernel
theorem dX0_comesThroughAll_29 : decode cX0_comesThroughAll 29 = .ok (.ifCond .ne 7, 3) := by decide +kernel
theorem dX0_comesThroughAll_32 : decode cX0_comesThroughAll 32 = .ok (.iload_n 2, 1) := by decide +kernel
theorem dX0_comesThroughAll_33 : decode cX0_comesThroughAll 33 = .ok (.goto 4, 3) := by decide +kernel
theorem dX0_comesThroughAll_36 : decode cX0_comesThroughAll 36 = .ok (.iload_n 3, 1) := by decide +kernel
theorem dX0_comesThroughAll_37 : decode cX0_comesThroughAll 37 = .ok (.invokevirtual 61, 3) := by decide +kernel
theorem dX0_comesThroughAll_40 : decode cX0_comesThroughAll 40 = .ok (.istore 4, 2) := by decide +kernel
theorem dX0_comesThroughAll_42 : decode cX0_comesThroughAll 42 = .ok (.iload 5, 2) := by decide +kernel
theorem dX0_comesThroughAll_44 : decode cX0_comesThroughAll 44 = .ok (.iconst 1, 1) := by decide +kernel
theorem dX0_comesThroughAll_45 : decode cX0_comesThroughAll 45 = .ok (.iload 4, 2) := by decide +kernel
theorem dX0_comesThroughAll_47 : decode cX0_comesThroughAll 47 = .ok (.ishl, 1) := by decide +kernel
theorem dX0_comesThroughAll_48 : decode cX0_comesThroughAll 48 = .ok (.ior, 1) := by decide +kernel
theorem dX0_comesThroughAll_49 : decode cX0_comesThroughAll 49 = .ok (.istore 5, 2) := by decide +kernel
theorem dX0_comesThroughAll_51 : decode cX0_comesThroughAll 51 = .ok (.iinc 6 1, 3) := by decide +kernel
theorem dX0_comesThroughAll_54 : decode cX0_comesThroughAll 54 = .ok (.goto (-43), 3) := by decide +kernel
theorem dX0_comesThroughAll_57 : decode cX0_comesThroughAll 57 = .ok (.iload 5, 2) := by decide +kernel
theorem dX0_comesThroughAll_59 : decode cX0_comesThroughAll 59 = .ok (.aload_n 0, 1) := by decide +kernel
theorem dX0_comesThroughAll_60 : decode cX0_comesThroughAll 60 = .ok (.invokevirtual 50, 3) := by decide +kernel
theorem dX0_comesThroughAll_63 : decode cX0_comesThroughAll 63 = .ok (.if_icmp .ne 7, 3) := by decide +kernel
theorem dX0_comesThroughAll_66 : decode cX0_comesThroughAll 66 = .ok (.iconst 1, 1) := by decide +kernel
theorem dX0_comesThroughAll_67 : decode cX0_comesThroughAll 67 = .ok (.goto 4, 3) := by decide +kernel
theorem dX0_comesThroughAll_70 : decode cX0_comesThroughAll 70 = .ok (.iconst 0, 1) := by decide +kernel
theorem dX0_comesThroughAll_71 : decode cX0_comesThroughAll 71 = .ok (.ireturn, 1) := by decide +kernel
set_option maxRecDepth 20000 in
theorem ggX0_reached_X0_oneTurnFrom : GoodIn wsX0_reached wsX0_oneTurnFrom := goodIn_r _ [6, 1, 7, 8, 9, 5, 10, 11, 12, 13, 14, 15, 16, 17, 18, 19, 20, 21, 22, 23, 24, 25] (by decide +kernel) (by decide +kernel)
set_option maxRecDepth 20000 in
theorem gX0_reached_X0_oneTurnFrom : GoodIn wsX0_reached (wsV RX0 65 RX0 yX0_oneTurnFrom wsX0_oneTurnFrom) := goodIn_app (goodIn_of _ (by decide +kernel)) ggX0_reached_X0_oneTurnFrom
theorem dX0_reached_0 : decode cX0_reached 0 = .ok (.iconst 1, 1) := by decide +kernel
theorem dX0_reached_1 : decode cX0_reached 1 = .ok (.iload_n 1, 1) := by decide +kernel
theorem dX0_reached_2 : decode cX0_reached 2 = .ok (.ishl, 1) := by decide +kernel
theorem dX0_reached_3 : decode cX0_reached 3 = .ok (.istore_n 3, 1) := by decide +kernel
theorem dX0_reached_4 : decode cX0_reached 4 = .ok (.iconst 0, 1) := by decide +kernel
theorem dX0_reached_5 : decode cX0_reached 5 = .ok (.istore 4, 2) := by decide +kernel
theorem dX0_reached_7 : decode cX0_reached 7 = .ok (.iconst 0, 1) := by decide +kernel
theorem dX0_reached_8 : decode cX0_reached 8 = .ok (.istore 5, 2) := by decide +kernel
theorem dX0_reached_10 : decode cX0_reached 10 = .ok (.iload 5, 2) := by decide +kernel
theorem dX0_reached_12 : decode cX0_reached 12 = .ok (.aload_n 0, 1) := by decide +kernel
theorem dX0_reached_13 : decode cX0_reached 13 = .ok (.getfield 41, 3) := by decide +kernel
theorem dX0_reached_16 : decode cX0_reached 16 = .ok (.if_icmp .ge 56, 3) := by decide +kernel
theorem dX0_reached_19 : decode cX0_reached 19 = .ok (.iload_n 3, 1) := by decide +kernel
theorem dX0_reached_20 : decode cX0_reached 20 = .ok (.iload 4, 2) := by decide +kernel
theorem dX0_reached_22 : decode cX0_reached 22 = .ok (.if_icmp .eq 50, 3) := by decide +kernel
theorem dX0_reached_25 : decode cX0_reached 25 = .ok (.iload_n 3, 1) := by decide +kernel
theorem dX0_reached_26 : decode cX0_reached 26 = .ok (.istore 4, 2) := by decide +kernel
theorem dX0_reached_28 : decode cX0_reached 28 = .ok (.iconst 0, 1) := by decide +kernel
theorem dX0_reached_29 : decode cX0_reached 29 = .ok (.istore 6, 2) := by decide +kernel
theorem dX0_reached_31 : decode cX0_reached 31 = .ok (.iload 6, 2) := by decide +kernel
theorem dX0_reached_33 : decode cX0_reached 33 = .ok (.aload_n 0, 1) := by decide +kernel
theorem dX0_reached_34 : decode cX0_reached 34 = .ok (.getfield 41, 3) := by decide +kernel
theorem dX0_reached_37 : decode cX0_reached 37 = .ok (.if_icmp .ge 29, 3) := by decide +kernel
theorem dX0_reached_40 : decode cX0_reached 40 = .ok (.iload 4, 2) := by decide +kernel
theorem dX0_reached_42 : decode cX0_reached 42 = .ok (.iload 6, 2) := by decide +kernel
theorem dX0_reached_44 : decode cX0_reached 44 = .ok (.ishr, 1) := by decide +kernel
theorem dX0_reached_45 : decode cX0_reached 45 = .ok (.iconst 1, 1) := by decide +kernel
theorem dX0_reached_46 : decode cX0_reached 46 = .ok (.iand, 1) := by decide +kernel
theorem dX0_reached_47 : decode cX0_reached 47 = .ok (.ifCond .eq 13, 3) := by decide +kernel
theorem dX0_reached_50 : decode cX0_reached 50 = .ok (.iload_n 3, 1) := by decide +kernel
theorem dX0_reached_51 : decode cX0_reached 51 = .ok (.aload_n 0, 1) := by decide +kernel
theorem dX0_reached_52 : decode cX0_reached 52 = .ok (.iload 6, 2) := by decide +kernel
theorem dX0_reached_54 : decode cX0_reached 54 = .ok (.iload_n 2, 1) := by decide +kernel
theorem dX0_reached_55 : decode cX0_reached 55 = .ok (.invokevirtual 65, 3) := by decide +kernel
theorem dX0_reached_58 : decode cX0_reached 58 = .ok (.ior, 1) := by decide +kernel
theorem dX0_reached_59 : decode cX0_reached 59 = .ok (.istore_n 3, 1) := by decide +kernel
theorem dX0_reached_60 : decode cX0_reached 60 = .ok (.iinc 6 1, 3) := by decide +kernel
theorem dX0_reached_63 : decode cX0_reached 63 = .ok (.goto (-32), 3) := by decide +kernel
theorem dX0_reached_66 : decode cX0_reached 66 = .ok (.iinc 5 1, 3) := by decide +kernel
theorem dX0_reached_69 : decode cX0_reached 69 = .ok (.goto (-59), 3) := by decide +kernel
theorem dX0_reached_72 : decode cX0_reached 72 = .ok (.iload_n 3, 1) := by decide +kernel
theorem dX0_reached_73 : decode cX0_reached 73 = .ok (.ireturn, 1) := by decide +kernel
set_option maxRecDepth 20000 in
theorem ggX0_oneTurnFrom_X0_from : GoodIn wsX0_oneTurnFrom wsX0_from := goodIn_r _ [6, 7, 8, 9, 10, 5, 11, 12, 13, 14, 15, 16, 17, 18, 19, 20, 21] (by decide +kernel) (by decide +kernel)
set_option maxRecDepth 20000 in
theorem gX0_oneTurnFrom_X0_from : GoodIn wsX0_oneTurnFrom (wsV RX0 61 RX0 yX0_from wsX0_from) := goodIn_app (goodIn_of _ (by decide +kernel)) ggX0_oneTurnFrom_X0_from
theorem dX0_oneTurnFrom_0 : decode cX0_oneTurnFrom 0 = .ok (.iconst 0, 1) := by decide +kernel
theorem dX0_oneTurnFrom_1 : decode cX0_oneTurnFrom 1 = .ok (.istore_n 3, 1) := by decide +kernel
theorem dX0_oneTurnFrom_2 : decode cX0_oneTurnFrom 2 = .ok (.iconst 0, 1) := by decide +kernel
theorem dX0_oneTurnFrom_3 : decode cX0_oneTurnFrom 3 = .ok (.istore 4, 2) := by decide +kernel
theorem dX0_oneTurnFrom_5 : decode cX0_oneTurnFrom 5 = .ok (.iload 4, 2) := by decide +kernel
theorem dX0_oneTurnFrom_7 : decode cX0_oneTurnFrom 7 = .ok (.aload_n 0, 1) := by decide +kernel
theorem dX0_oneTurnFrom_8 : decode cX0_oneTurnFrom 8 = .ok (.getfield 41, 3) := by decide +kernel
theorem dX0_oneTurnFrom_11 : decode cX0_oneTurnFrom 11 = .ok (.if_icmp .ge 30, 3) := by decide +kernel
theorem dX0_oneTurnFrom_14 : decode cX0_oneTurnFrom 14 = .ok (.iload_n 2, 1) := by decide +kernel
theorem dX0_oneTurnFrom_15 : decode cX0_oneTurnFrom 15 = .ok (.iload 4, 2) := by decide +kernel
theorem dX0_oneTurnFrom_17 : decode cX0_oneTurnFrom 17 = .ok (.ishr, 1) := by decide +kernel
theorem dX0_oneTurnFrom_18 : decode cX0_oneTurnFrom 18 = .ok (.iconst 1, 1) := by decide +kernel
theorem dX0_oneTurnFrom_19 : decode cX0_oneTurnFrom 19 = .ok (.iand, 1) := by decide +kernel
theorem dX0_oneTurnFrom_20 : decode cX0_oneTurnFrom 20 = .ok (.ifCond .eq 15, 3) := by decide +kernel
theorem dX0_oneTurnFrom_23 : decode cX0_oneTurnFrom 23 = .ok (.iload_n 3, 1) := by decide +kernel
theorem dX0_oneTurnFrom_24 : decode cX0_oneTurnFrom 24 = .ok (.iconst 1, 1) := by decide +kernel
theorem dX0_oneTurnFrom_25 : decode cX0_oneTurnFrom 25 = .ok (.aload_n 0, 1) := by decide +kernel
theorem dX0_oneTurnFrom_26 : decode cX0_oneTurnFrom 26 = .ok (.iload_n 1, 1) := by decide +kernel
theorem dX0_oneTurnFrom_27 : decode cX0_oneTurnFrom 27 = .ok (.iload 4, 2) := by decide +kernel
theorem dX0_oneTurnFrom_29 : decode cX0_oneTurnFrom 29 = .ok (.invokevirtual 61, 3) := by decide +kernel
theorem dX0_oneTurnFrom_32 : decode cX0_oneTurnFrom 32 = .ok (.ishl, 1) := by decide +kernel
theorem dX0_oneTurnFrom_33 : decode cX0_oneTurnFrom 33 = .ok (.ior, 1) := by decide +kernel
theorem dX0_oneTurnFrom_34 : decode cX0_oneTurnFrom 34 = .ok (.istore_n 3, 1) := by decide +kernel
theorem dX0_oneTurnFrom_35 : decode cX0_oneTurnFrom 35 = .ok (.iinc 4 1, 3) := by decide +kernel
theorem dX0_oneTurnFrom_38 : decode cX0_oneTurnFrom 38 = .ok (.goto (-33), 3) := by decide +kernel
theorem dX0_oneTurnFrom_41 : decode cX0_oneTurnFrom 41 = .ok (.iload_n 3, 1) := by decide +kernel
theorem dX0_oneTurnFrom_42 : decode cX0_oneTurnFrom 42 = .ok (.ireturn, 1) := by decide +kernel
theorem dX1_init_0 : decode cX1_init 0 = .ok (.aload_n 0, 1) := by decide +kernel
theorem dX1_init_1 : decode cX1_init 1 = .ok (.invokespecial 3, 3) := by decide +kernel
theorem dX1_init_4 : decode cX1_init 4 = .ok (.aload_n 0, 1) := by decide +kernel
theorem dX1_init_5 : decode cX1_init 5 = .ok (.iconst 5, 1) := by decide +kernel
theorem dX1_init_6 : decode cX1_init 6 = .ok (.newarray .int, 2) := by decide +kernel
theorem dX1_init_8 : decode cX1_init 8 = .ok (.putfield 9, 3) := by decide +kernel
theorem dX1_init_11 : decode cX1_init 11 = .ok (.aload_n 0, 1) := by decide +kernel
theorem dX1_init_12 : decode cX1_init 12 = .ok (.iconst 5, 1) := by decide +kernel
theorem dX1_init_13 : decode cX1_init 13 = .ok (.newarray .int, 2) := by decide +kernel
theorem dX1_init_15 : decode cX1_init 15 = .ok (.putfield 15, 3) := by decide +kernel
theorem dX1_init_18 : decode cX1_init 18 = .ok (.aload_n 0, 1) := by decide +kernel
theorem dX1_init_19 : decode cX1_init 19 = .ok (.iconst 5, 1) := by decide +kernel
theorem dX1_init_20 : decode cX1_init 20 = .ok (.newarray .int, 2) := by decide +kernel
theorem dX1_init_22 : decode cX1_init 22 = .ok (.putfield 18, 3) := by decide +kernel
theorem dX1_init_25 : decode cX1_init 25 = .ok (.return_, 1) := by decide +kernel
theorem dX1_add_0 : decode cX1_add 0 = .ok (.aload_n 0, 1) := by decide +kernel
theorem dX1_add_1 : decode cX1_add 1 = .ok (.getfield 21, 3) := by decide +kernel
theorem dX1_add_4 : decode cX1_add 4 = .ok (.iconst 5, 1) := by decide +kernel
theorem dX1_add_5 : decode cX1_add 5 = .ok (.if_icmp .lt 5, 3) := by decide +kernel
theorem dX1_add_8 : decode cX1_add 8 = .ok (.iconst 0, 1) := by decide +kernel
theorem dX1_add_9 : decode cX1_add 9 = .ok (.ireturn, 1) := by decide +kernel
theorem dX1_add_10 : decode cX1_add 10 = .ok (.aload_n 0, 1) := by decide +kernel
theorem dX1_add_11 : decode cX1_add 11 = .ok (.getfield 9, 3) := by decide +kernel
theorem dX1_add_14 : decode cX1_add 14 = .ok (.aload_n 0, 1) := by decide +kernel
theorem dX1_add_15 : decode cX1_add 15 = .ok (.getfield 21, 3) := by decide +kernel
theorem dX1_add_18 : decode cX1_add 18 = .ok (.iload_n 1, 1) := by decide +kernel
theorem dX1_add_19 : decode cX1_add 19 = .ok (.iastore, 1) := by decide +kernel
theorem dX1_add_20 : decode cX1_add 20 = .ok (.aload_n 0, 1) := by decide +kernel
theorem dX1_add_21 : decode cX1_add 21 = .ok (.getfield 15, 3) := by decide +kernel
theorem dX1_add_24 : decode cX1_add 24 = .ok (.aload_n 0, 1) := by decide +kernel
theorem dX1_add_25 : decode cX1_add 25 = .ok (.getfield 21, 3) := by decide +kernel
theorem dX1_add_28 : decode cX1_add 28 = .ok (.iload_n 2, 1) := by decide +kernel
theorem dX1_add_29 : decode cX1_add 29 = .ok (.iastore, 1) := by decide +kernel
theorem dX1_add_30 : decode cX1_add 30 = .ok (.aload_n 0, 1) := by decide +kernel
theorem dX1_add_31 : decode cX1_add 31 = .ok (.getfield 18, 3) := by decide +kernel
theorem dX1_add_34 : decode cX1_add 34 = .ok (.aload_n 0, 1) := by decide +kernel
theorem dX1_add_35 : decode cX1_add 35 = .ok (.getfield 21, 3) := by decide +kernel
theorem dX1_add_38 : decode cX1_add 38 = .ok (.iload_n 3, 1) := by decide +kernel
theorem dX1_add_39 : decode cX1_add 39 = .ok (.iastore, 1) := by decide +kernel
theorem dX1_add_40 : decode cX1_add 40 = .ok (.aload_n 0, 1) := by decide +kernel
theorem dX1_add_41 : decode cX1_add 41 = .ok (.dup, 1) := by decide +kernel
theorem dX1_add_42 : decode cX1_add 42 = .ok (.getfield 21, 3) := by decide +kernel
theorem dX1_add_45 : decode cX1_add 45 = .ok (.iconst 1, 1) := by decide +kernel
theorem dX1_add_46 : decode cX1_add 46 = .ok (.iadd, 1) := by decide +kernel
theorem dX1_add_47 : decode cX1_add 47 = .ok (.putfield 21, 3) := by decide +kernel
theorem dX1_add_50 : decode cX1_add 50 = .ok (.iconst 1, 1) := by decide +kernel
theorem dX1_add_51 : decode cX1_add 51 = .ok (.ireturn, 1) := by decide +kernel
set_option maxRecDepth 20000 in
theorem ggX1_allSoBy_X7_wornIn : GoodIn wsX1_allSoBy wsX7_wornIn := goodIn_r _ [9, 10, 11, 12, 13, 14, 15, 16, 17, 18, 19, 20, 21, 22, 23, 24, 25, 26, 27, 28, 29, 30, 31, 32, 33, 34, 35, 36, 37, 38, 39, 8, 40, 45, 46, 47, 48, 49, 50, 51, 52, 53, 54, 55, 56, 57] (by decide +kernel) (by decide +kernel)
set_option maxRecDepth 20000 in
theorem gX1_allSoBy_X7_wornIn : GoodIn wsX1_allSoBy (wsV RX1 25 RX7 yX7_wornIn wsX7_wornIn) := goodIn_app (goodIn_of _ (by decide +kernel)) ggX1_allSoBy_X7_wornIn
theorem dX1_allSoBy_0 : decode cX1_allSoBy 0 = .ok (.iconst 0, 1) := by decide +kernel
theorem dX1_allSoBy_1 : decode cX1_allSoBy 1 = .ok (.istore_n 3, 1) := by decide +kernel
theorem dX1_allSoBy_2 : decode cX1_allSoBy 2 = .ok (.iload_n 3, 1) := by decide +kernel
theorem dX1_allSoBy_3 : decode cX1_allSoBy 3 = .ok (.aload_n 0, 1) := by decide +kernel
theorem dX1_allSoBy_4 : decode cX1_allSoBy 4 = .ok (.getfield 21, 3) := by decide +kernel
theorem dX1_allSoBy_7 : decode cX1_allSoBy 7 = .ok (.if_icmp .ge 37, 3) := by decide +kernel
theorem dX1_allSoBy_10 : decode cX1_allSoBy 10 = .ok (.aload_n 2, 1) := by decide +kernel
theorem dX1_allSoBy_11 : decode cX1_allSoBy 11 = .ok (.aload_n 0, 1) := by decide +kernel
theorem dX1_allSoBy_12 : decode cX1_allSoBy 12 = .ok (.getfield 9, 3) := by decide +kernel
theorem dX1_allSoBy_15 : decode cX1_allSoBy 15 = .ok (.iload_n 3, 1) := by decide +kernel
theorem dX1_allSoBy_16 : decode cX1_allSoBy 16 = .ok (.iaload, 1) := by decide +kernel
theorem dX1_allSoBy_17 : decode cX1_allSoBy 17 = .ok (.aload_n 0, 1) := by decide +kernel
theorem dX1_allSoBy_18 : decode cX1_allSoBy 18 = .ok (.getfield 15, 3) := by decide +kernel
theorem dX1_allSoBy_21 : decode cX1_allSoBy 21 = .ok (.iload_n 3, 1) := by decide +kernel
theorem dX1_allSoBy_22 : decode cX1_allSoBy 22 = .ok (.iaload, 1) := by decide +kernel
theorem dX1_allSoBy_23 : decode cX1_allSoBy 23 = .ok (.iload_n 1, 1) := by decide +kernel
theorem dX1_allSoBy_24 : decode cX1_allSoBy 24 = .ok (.invokevirtual 25, 3) := by decide +kernel
theorem dX1_allSoBy_27 : decode cX1_allSoBy 27 = .ok (.aload_n 0, 1) := by decide +kernel
theorem dX1_allSoBy_28 : decode cX1_allSoBy 28 = .ok (.getfield 18, 3) := by decide +kernel
theorem dX1_allSoBy_31 : decode cX1_allSoBy 31 = .ok (.iload_n 3, 1) := by decide +kernel
theorem dX1_allSoBy_32 : decode cX1_allSoBy 32 = .ok (.iaload, 1) := by decide +kernel
theorem dX1_allSoBy_33 : decode cX1_allSoBy 33 = .ok (.if_icmp .eq 5, 3) := by decide +kernel
theorem dX1_allSoBy_36 : decode cX1_allSoBy 36 = .ok (.iconst 0, 1) := by decide +kernel
theorem dX1_allSoBy_37 : decode cX1_allSoBy 37 = .ok (.ireturn, 1) := by decide +kernel
theorem dX1_allSoBy_38 : decode cX1_allSoBy 38 = .ok (.iinc 3 1, 3) := by decide +kernel
theorem dX1_allSoBy_41 : decode cX1_allSoBy 41 = .ok (.goto (-39), 3) := by decide +kernel
theorem dX1_allSoBy_44 : decode cX1_allSoBy 44 = .ok (.iconst 1, 1) := by decide +kernel
theorem dX1_allSoBy_45 : decode cX1_allSoBy 45 = .ok (.ireturn, 1) := by decide +kernel
theorem dX2_init_0 : decode cX2_init 0 = .ok (.aload_n 0, 1) := by decide +kernel
theorem dX2_init_1 : decode cX2_init 1 = .ok (.invokespecial 3, 3) := by decide +kernel
theorem dX2_init_4 : decode cX2_init 4 = .ok (.aload_n 0, 1) := by decide +kernel
theorem dX2_init_5 : decode cX2_init 5 = .ok (.bipush 12, 2) := by decide +kernel
theorem dX2_init_7 : decode cX2_init 7 = .ok (.newarray .int, 2) := by decide +kernel
theorem dX2_init_9 : decode cX2_init 9 = .ok (.putfield 9, 3) := by decide +kernel
theorem dX2_init_12 : decode cX2_init 12 = .ok (.return_, 1) := by decide +kernel
set_option maxRecDepth 20000 in
theorem ggX2_restart_J7_fill_53178 : GoodIn wsX2_restart wsJ7_fill_53178 := goodIn_r _ [8] (by decide +kernel) (by decide +kernel)
set_option maxRecDepth 20000 in
theorem gX2_restart_J7_fill_53178 : GoodIn wsX2_restart (va_wsS RX2 25 yJ7_fill_53178 wsJ7_fill_53178) := goodIn_app (goodIn_of _ (by decide +kernel)) ggX2_restart_J7_fill_53178
theorem dX2_restart_0 : decode cX2_restart 0 = .ok (.aload_n 0, 1) := by decide +kernel
theorem dX2_restart_1 : decode cX2_restart 1 = .ok (.iload_n 1, 1) := by decide +kernel
theorem dX2_restart_2 : decode cX2_restart 2 = .ok (.putfield 15, 3) := by decide +kernel
theorem dX2_restart_5 : decode cX2_restart 5 = .ok (.aload_n 0, 1) := by decide +kernel
theorem dX2_restart_6 : decode cX2_restart 6 = .ok (.iconst 0, 1) := by decide +kernel
theorem dX2_restart_7 : decode cX2_restart 7 = .ok (.putfield 19, 3) := by decide +kernel
theorem dX2_restart_10 : decode cX2_restart 10 = .ok (.aload_n 0, 1) := by decide +kernel
theorem dX2_restart_11 : decode cX2_restart 11 = .ok (.iconst 0, 1) := by decide +kernel
theorem dX2_restart_12 : decode cX2_restart 12 = .ok (.putfield 22, 3) := by decide +kernel
theorem dX2_restart_15 : decode cX2_restart 15 = .ok (.aload_n 0, 1) := by decide +kernel
theorem dX2_restart_16 : decode cX2_restart 16 = .ok (.getfield 9, 3) := by decide +kernel
theorem dX2_restart_19 : decode cX2_restart 19 = .ok (.iconst 0, 1) := by decide +kernel
theorem dX2_restart_20 : decode cX2_restart 20 = .ok (.invokestatic 25, 3) := by decide +kernel
theorem dX2_restart_23 : decode cX2_restart 23 = .ok (.return_, 1) := by decide +kernel
theorem dX2_copy_0 : decode cX2_copy 0 = .ok (.aload_n 0, 1) := by decide +kernel
theorem dX2_copy_1 : decode cX2_copy 1 = .ok (.aload_n 1, 1) := by decide +kernel
theorem dX2_copy_2 : decode cX2_copy 2 = .ok (.getfield 15, 3) := by decide +kernel
theorem dX2_copy_5 : decode cX2_copy 5 = .ok (.putfield 15, 3) := by decide +kernel
theorem dX2_copy_8 : decode cX2_copy 8 = .ok (.aload_n 0, 1) := by decide +kernel
theorem dX2_copy_9 : decode cX2_copy 9 = .ok (.aload_n 1, 1) := by decide +kernel
theorem dX2_copy_10 : decode cX2_copy 10 = .ok (.getfield 19, 3) := by decide +kernel
theorem dX2_copy_13 : decode cX2_copy 13 = .ok (.putfield 19, 3) := by decide +kernel
theorem dX2_copy_16 : decode cX2_copy 16 = .ok (.aload_n 0, 1) := by decide +kernel
theorem dX2_copy_17 : decode cX2_copy 17 = .ok (.aload_n 1, 1) := by decide +kernel
theorem dX2_copy_18 : decode cX2_copy 18 = .ok (.getfield 22, 3) := by decide +kernel
theorem dX2_copy_21 : decode cX2_copy 21 = .ok (.putfield 22, 3) := by decide +kernel
theorem dX2_copy_24 : decode cX2_copy 24 = .ok (.aload_n 1, 1) := by decide +kernel
theorem dX2_copy_25 : decode cX2_copy 25 = .ok (.getfield 9, 3) := by decide +kernel
theorem dX2_copy_28 : decode cX2_copy 28 = .ok (.iconst 0, 1) := by decide +kernel
theorem dX2_copy_29 : decode cX2_copy 29 = .ok (.aload_n 0, 1) := by decide +kernel
theorem dX2_copy_30 : decode cX2_copy 30 = .ok (.getfield 9, 3) := by decide +kernel
theorem dX2_copy_33 : decode cX2_copy 33 = .ok (.iconst 0, 1) := by decide +kernel
theorem dX2_copy_34 : decode cX2_copy 34 = .ok (.bipush 12, 2) := by decide +kernel
theorem dX2_copy_36 : decode cX2_copy 36 = .ok (.invokestatic 31, 3) := by decide +kernel
theorem dX2_copy_39 : decode cX2_copy 39 = .ok (.return_, 1) := by decide +kernel
theorem dX2_greatest_0 : decode cX2_greatest 0 = .ok (.iconst 0, 1) := by decide +kernel
theorem dX2_greatest_1 : decode cX2_greatest 1 = .ok (.istore_n 1, 1) := by decide +kernel
theorem dX2_greatest_2 : decode cX2_greatest 2 = .ok (.iconst 0, 1) := by decide +kernel
theorem dX2_greatest_3 : decode cX2_greatest 3 = .ok (.istore_n 2, 1) := by decide +kernel
theorem dX2_greatest_4 : decode cX2_greatest 4 = .ok (.iload_n 2, 1) := by decide +kernel
theorem dX2_greatest_5 : decode cX2_greatest 5 = .ok (.bipush 12, 2) := by decide +kernel
theorem dX2_greatest_7 : decode cX2_greatest 7 = .ok (.if_icmp .ge 20, 3) := by decide +kernel
theorem dX2_greatest_10 : decode cX2_greatest 10 = .ok (.iload_n 1, 1) := by decide +kernel
theorem dX2_greatest_11 : decode cX2_greatest 11 = .ok (.aload_n 0, 1) := by decide +kernel
theorem dX2_greatest_12 : decode cX2_greatest 12 = .ok (.getfield 9, 3) := by decide +kernel
theorem dX2_greatest_15 : decode cX2_greatest 15 = .ok (.iload_n 2, 1) := by decide +kernel
theorem dX2_greatest_16 : decode cX2_greatest 16 = .ok (.iaload, 1) := by decide +kernel
theorem dX2_greatest_17 : decode cX2_greatest 17 = .ok (.invokestatic 37, 3) := by decide +kernel
theorem dX2_greatest_20 : decode cX2_greatest 20 = .ok (.istore_n 1, 1) := by decide +kernel
theorem dX2_greatest_21 : decode cX2_greatest 21 = .ok (.iinc 2 1, 3) := by decide +kernel
theorem dX2_greatest_24 : decode cX2_greatest 24 = .ok (.goto (-20), 3) := by decide +kernel
theorem dX2_greatest_27 : decode cX2_greatest 27 = .ok (.iload_n 1, 1) := by decide +kernel
theorem dX2_greatest_28 : decode cX2_greatest 28 = .ok (.ireturn, 1) := by decide +kernel
