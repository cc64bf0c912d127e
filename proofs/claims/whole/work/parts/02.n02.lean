theorem dX2_together_0 : decode cX2_together 0 = .ok (.iconst 0, 1) := by decide +kernel
theorem dX2_together_1 : decode cX2_together 1 = .ok (.istore_n 1, 1) := by decide +kernel
theorem dX2_together_2 : decode cX2_together 2 = .ok (.iconst 0, 1) := by decide +kernel
theorem dX2_together_3 : decode cX2_together 3 = .ok (.istore_n 2, 1) := by decide +kernel
theorem dX2_together_4 : decode cX2_together 4 = .ok (.iload_n 2, 1) := by decide +kernel
theorem dX2_together_5 : decode cX2_together 5 = .ok (.bipush 12, 2) := by decide +kernel
theorem dX2_together_7 : decode cX2_together 7 = .ok (.if_icmp .ge 18, 3) := by decide +kernel
theorem dX2_together_10 : decode cX2_together 10 = .ok (.iload_n 1, 1) := by decide +kernel
theorem dX2_together_11 : decode cX2_together 11 = .ok (.aload_n 0, 1) := by decide +kernel
theorem dX2_together_12 : decode cX2_together 12 = .ok (.getfield 9, 3) := by decide +kernel
theorem dX2_together_15 : decode cX2_together 15 = .ok (.iload_n 2, 1) := by decide +kernel
theorem dX2_together_16 : decode cX2_together 16 = .ok (.iaload, 1) := by decide +kernel
theorem dX2_together_17 : decode cX2_together 17 = .ok (.iadd, 1) := by decide +kernel
theorem dX2_together_18 : decode cX2_together 18 = .ok (.istore_n 1, 1) := by decide +kernel
theorem dX2_together_19 : decode cX2_together 19 = .ok (.iinc 2 1, 3) := by decide +kernel
theorem dX2_together_22 : decode cX2_together 22 = .ok (.goto (-18), 3) := by decide +kernel
theorem dX2_together_25 : decode cX2_together 25 = .ok (.iload_n 1, 1) := by decide +kernel
theorem dX2_together_26 : decode cX2_together 26 = .ok (.ireturn, 1) := by decide +kernel
set_option maxRecDepth 20000 in
theorem ggX3_init_X2_init : GoodIn wsX3_init wsX2_init := goodIn_r _ [9, 10, 2, 3, 11, 12, 16, 17, 18, 19] (by decide +kernel) (by decide +kernel)
set_option maxRecDepth 20000 in
theorem gX3_init_X2_init_n17 : GoodIn wsX3_init (wsX2_init) := ggX3_init_X2_init
theorem dX3_init_0 : decode cX3_init 0 = .ok (.aload_n 0, 1) := by decide +kernel
theorem dX3_init_1 : decode cX3_init 1 = .ok (.invokespecial 3, 3) := by decide +kernel
theorem dX3_init_4 : decode cX3_init 4 = .ok (.aload_n 0, 1) := by decide +kernel
theorem dX3_init_5 : decode cX3_init 5 = .ok (.bipush 10, 2) := by decide +kernel
theorem dX3_init_7 : decode cX3_init 7 = .ok (.anewarray 9, 3) := by decide +kernel
theorem dX3_init_10 : decode cX3_init 10 = .ok (.putfield 11, 3) := by decide +kernel
theorem dX3_init_13 : decode cX3_init 13 = .ok (.iconst 0, 1) := by decide +kernel
theorem dX3_init_14 : decode cX3_init 14 = .ok (.istore_n 1, 1) := by decide +kernel
theorem dX3_init_15 : decode cX3_init 15 = .ok (.iload_n 1, 1) := by decide +kernel
theorem dX3_init_16 : decode cX3_init 16 = .ok (.bipush 10, 2) := by decide +kernel
theorem dX3_init_18 : decode cX3_init 18 = .ok (.if_icmp .ge 22, 3) := by decide +kernel
theorem dX3_init_21 : decode cX3_init 21 = .ok (.aload_n 0, 1) := by decide +kernel
theorem dX3_init_22 : decode cX3_init 22 = .ok (.getfield 11, 3) := by decide +kernel
theorem dX3_init_25 : decode cX3_init 25 = .ok (.iload_n 1, 1) := by decide +kernel
theorem dX3_init_26 : decode cX3_init 26 = .ok (.new 9, 3) := by decide +kernel
theorem dX3_init_29 : decode cX3_init 29 = .ok (.dup, 1) := by decide +kernel
theorem dX3_init_30 : decode cX3_init 30 = .ok (.invokespecial 17, 3) := by decide +kernel
theorem dX3_init_33 : decode cX3_init 33 = .ok (.aastore, 1) := by decide +kernel
theorem dX3_init_34 : decode cX3_init 34 = .ok (.iinc 1 1, 3) := by decide +kernel
theorem dX3_init_37 : decode cX3_init 37 = .ok (.goto (-22), 3) := by decide +kernel
theorem dX3_init_40 : decode cX3_init 40 = .ok (.return_, 1) := by decide +kernel
set_option maxRecDepth 20000 in
theorem ggX3_remember_X2_copy : GoodIn wsX3_remember wsX2_copy := goodIn_r _ [12, 13, 14, 15, 16, 17, 18, 19, 20, 24, 25, 26, 27] (by decide +kernel) (by decide +kernel)
set_option maxRecDepth 20000 in
theorem gX3_remember_X2_copy : GoodIn wsX3_remember (wsV RX3 22 RX2 yX2_copy wsX2_copy) := goodIn_app (goodIn_of _ (by decide +kernel)) ggX3_remember_X2_copy
theorem dX3_remember_0 : decode cX3_remember 0 = .ok (.aload_n 0, 1) := by decide +kernel
theorem dX3_remember_1 : decode cX3_remember 1 = .ok (.getfield 11, 3) := by decide +kernel
theorem dX3_remember_4 : decode cX3_remember 4 = .ok (.aload_n 0, 1) := by decide +kernel
theorem dX3_remember_5 : decode cX3_remember 5 = .ok (.getfield 18, 3) := by decide +kernel
theorem dX3_remember_8 : decode cX3_remember 8 = .ok (.aaload, 1) := by decide +kernel
theorem dX3_remember_9 : decode cX3_remember 9 = .ok (.aload_n 1, 1) := by decide +kernel
theorem dX3_remember_10 : decode cX3_remember 10 = .ok (.invokevirtual 22, 3) := by decide +kernel
theorem dX3_remember_13 : decode cX3_remember 13 = .ok (.aload_n 0, 1) := by decide +kernel
theorem dX3_remember_14 : decode cX3_remember 14 = .ok (.aload_n 0, 1) := by decide +kernel
theorem dX3_remember_15 : decode cX3_remember 15 = .ok (.getfield 18, 3) := by decide +kernel
theorem dX3_remember_18 : decode cX3_remember 18 = .ok (.iconst 1, 1) := by decide +kernel
theorem dX3_remember_19 : decode cX3_remember 19 = .ok (.iadd, 1) := by decide +kernel
theorem dX3_remember_20 : decode cX3_remember 20 = .ok (.bipush 10, 2) := by decide +kernel
theorem dX3_remember_22 : decode cX3_remember 22 = .ok (.if_icmp .ge 12, 3) := by decide +kernel
theorem dX3_remember_25 : decode cX3_remember 25 = .ok (.aload_n 0, 1) := by decide +kernel
theorem dX3_remember_26 : decode cX3_remember 26 = .ok (.getfield 18, 3) := by decide +kernel
theorem dX3_remember_29 : decode cX3_remember 29 = .ok (.iconst 1, 1) := by decide +kernel
theorem dX3_remember_30 : decode cX3_remember 30 = .ok (.iadd, 1) := by decide +kernel
theorem dX3_remember_31 : decode cX3_remember 31 = .ok (.goto 4, 3) := by decide +kernel
theorem dX3_remember_34 : decode cX3_remember 34 = .ok (.iconst 0, 1) := by decide +kernel
theorem dX3_remember_35 : decode cX3_remember 35 = .ok (.putfield 18, 3) := by decide +kernel
theorem dX3_remember_38 : decode cX3_remember 38 = .ok (.aload_n 0, 1) := by decide +kernel
theorem dX3_remember_39 : decode cX3_remember 39 = .ok (.bipush 10, 2) := by decide +kernel
theorem dX3_remember_41 : decode cX3_remember 41 = .ok (.aload_n 0, 1) := by decide +kernel
theorem dX3_remember_42 : decode cX3_remember 42 = .ok (.getfield 26, 3) := by decide +kernel
theorem dX3_remember_45 : decode cX3_remember 45 = .ok (.iconst 1, 1) := by decide +kernel
theorem dX3_remember_46 : decode cX3_remember 46 = .ok (.iadd, 1) := by decide +kernel
theorem dX3_remember_47 : decode cX3_remember 47 = .ok (.invokestatic 29, 3) := by decide +kernel
theorem dX3_remember_50 : decode cX3_remember 50 = .ok (.putfield 26, 3) := by decide +kernel
theorem dX3_remember_53 : decode cX3_remember 53 = .ok (.return_, 1) := by decide +kernel
set_option maxRecDepth 20000 in
theorem ggX3_restore_X2_copy : GoodIn wsX3_restore wsX2_copy := goodIn_r _ [8, 9, 10, 11, 12, 13, 14, 15, 16, 20, 21, 22, 23] (by decide +kernel) (by decide +kernel)
set_option maxRecDepth 20000 in
theorem gX3_restore_X2_copy : GoodIn wsX3_restore (wsV RX3 22 RX2 yX2_copy wsX2_copy) := goodIn_app (goodIn_of _ (by decide +kernel)) ggX3_restore_X2_copy
theorem dX3_restore_0 : decode cX3_restore 0 = .ok (.aload_n 0, 1) := by decide +kernel
theorem dX3_restore_1 : decode cX3_restore 1 = .ok (.getfield 26, 3) := by decide +kernel
theorem dX3_restore_4 : decode cX3_restore 4 = .ok (.ifCond .ne 5, 3) := by decide +kernel
theorem dX3_restore_7 : decode cX3_restore 7 = .ok (.iconst 0, 1) := by decide +kernel
theorem dX3_restore_8 : decode cX3_restore 8 = .ok (.ireturn, 1) := by decide +kernel
theorem dX3_restore_9 : decode cX3_restore 9 = .ok (.aload_n 0, 1) := by decide +kernel
theorem dX3_restore_10 : decode cX3_restore 10 = .ok (.aload_n 0, 1) := by decide +kernel
theorem dX3_restore_11 : decode cX3_restore 11 = .ok (.getfield 18, 3) := by decide +kernel
theorem dX3_restore_14 : decode cX3_restore 14 = .ok (.ifCond .le 12, 3) := by decide +kernel
theorem dX3_restore_17 : decode cX3_restore 17 = .ok (.aload_n 0, 1) := by decide +kernel
theorem dX3_restore_18 : decode cX3_restore 18 = .ok (.getfield 18, 3) := by decide +kernel
theorem dX3_restore_21 : decode cX3_restore 21 = .ok (.iconst 1, 1) := by decide +kernel
theorem dX3_restore_22 : decode cX3_restore 22 = .ok (.isub, 1) := by decide +kernel
theorem dX3_restore_23 : decode cX3_restore 23 = .ok (.goto 5, 3) := by decide +kernel
theorem dX3_restore_26 : decode cX3_restore 26 = .ok (.bipush 9, 2) := by decide +kernel
theorem dX3_restore_28 : decode cX3_restore 28 = .ok (.putfield 18, 3) := by decide +kernel
theorem dX3_restore_31 : decode cX3_restore 31 = .ok (.aload_n 0, 1) := by decide +kernel
theorem dX3_restore_32 : decode cX3_restore 32 = .ok (.dup, 1) := by decide +kernel
theorem dX3_restore_33 : decode cX3_restore 33 = .ok (.getfield 26, 3) := by decide +kernel
theorem dX3_restore_36 : decode cX3_restore 36 = .ok (.iconst 1, 1) := by decide +kernel
theorem dX3_restore_37 : decode cX3_restore 37 = .ok (.isub, 1) := by decide +kernel
theorem dX3_restore_38 : decode cX3_restore 38 = .ok (.putfield 26, 3) := by decide +kernel
theorem dX3_restore_41 : decode cX3_restore 41 = .ok (.aload_n 1, 1) := by decide +kernel
theorem dX3_restore_42 : decode cX3_restore 42 = .ok (.aload_n 0, 1) := by decide +kernel
theorem dX3_restore_43 : decode cX3_restore 43 = .ok (.getfield 11, 3) := by decide +kernel
theorem dX3_restore_46 : decode cX3_restore 46 = .ok (.aload_n 0, 1) := by decide +kernel
theorem dX3_restore_47 : decode cX3_restore 47 = .ok (.getfield 18, 3) := by decide +kernel
theorem dX3_restore_50 : decode cX3_restore 50 = .ok (.aaload, 1) := by decide +kernel
theorem dX3_restore_51 : decode cX3_restore 51 = .ok (.invokevirtual 22, 3) := by decide +kernel
theorem dX3_restore_54 : decode cX3_restore 54 = .ok (.iconst 1, 1) := by decide +kernel
theorem dX3_restore_55 : decode cX3_restore 55 = .ok (.ireturn, 1) := by decide +kernel
set_option maxRecDepth 20000 in
theorem ggX4_init_X0_init : GoodIn wsX4_init wsX0_init := goodIn_r _ [11, 12, 2, 3, 13, 14, 15, 16, 17, 6, 18, 19, 20, 21, 22, 23, 24, 25, 26, 27, 28, 29, 30, 31, 32, 33, 34, 35, 36, 37] (by decide +kernel) (by decide +kernel)
set_option maxRecDepth 20000 in
theorem gX4_init_X0_init : GoodIn wsX4_init (wsX0_init) := ggX4_init_X0_init
theorem dX4_init_0 : decode cX4_init 0 = .ok (.aload_n 0, 1) := by decide +kernel
theorem dX4_init_1 : decode cX4_init 1 = .ok (.invokespecial 3, 3) := by decide +kernel
theorem dX4_init_4 : decode cX4_init 4 = .ok (.aload_n 0, 1) := by decide +kernel
theorem dX4_init_5 : decode cX4_init 5 = .ok (.new 9, 3) := by decide +kernel
theorem dX4_init_8 : decode cX4_init 8 = .ok (.dup, 1) := by decide +kernel
theorem dX4_init_9 : decode cX4_init 9 = .ok (.invokespecial 11, 3) := by decide +kernel
theorem dX4_init_12 : decode cX4_init 12 = .ok (.putfield 12, 3) := by decide +kernel
theorem dX4_init_15 : decode cX4_init 15 = .ok (.aload_n 0, 1) := by decide +kernel
theorem dX4_init_16 : decode cX4_init 16 = .ok (.aload_n 1, 1) := by decide +kernel
theorem dX4_init_17 : decode cX4_init 17 = .ok (.putfield 18, 3) := by decide +kernel
theorem dX4_init_20 : decode cX4_init 20 = .ok (.return_, 1) := by decide +kernel
set_option maxRecDepth 20000 in
theorem ggX4_read_X0_reset : GoodIn wsX4_read wsX0_reset := goodIn_r _ [12, 13, 14, 15, 16, 17, 18, 11, 19, 20, 21, 22, 23, 24, 25, 26, 89, 90, 91, 92, 93, 94] (by decide +kernel) (by decide +kernel)
set_option maxRecDepth 20000 in
theorem gX4_read_X0_reset : GoodIn wsX4_read (wsV RX4 22 RX0 yX0_reset wsX0_reset) := goodIn_app (goodIn_of _ (by decide +kernel)) ggX4_read_X0_reset
set_option maxRecDepth 20000 in
theorem ggX4_read_X4_step : GoodIn wsX4_read wsX4_step := goodIn_r _ [31, 2, 7, 32, 33, 34, 6, 35, 36, 37, 38, 39, 40, 41, 42, 43, 44, 30, 45, 46, 80, 81, 82, 83, 84, 85, 86, 87, 88, 95, 96] (by decide +kernel) (by decide +kernel)
set_option maxRecDepth 20000 in
theorem gX4_read_X4_step : GoodIn wsX4_read (wsV RX4 39 RX4 yX4_step wsX4_step) := goodIn_app (goodIn_of _ (by decide +kernel)) ggX4_read_X4_step
set_option maxRecDepth 20000 in
theorem ggX4_read_X4_readItem : GoodIn wsX4_read wsX4_readItem := goodIn_r _ [50, 6, 3, 4, 5, 51, 52, 53, 30, 54, 46, 1, 55, 56, 57, 58, 27, 28, 29, 31, 2, 7, 32, 33, 34, 35, 36, 37, 38, 39, 40, 41, 42, 43, 44, 45, 59, 17, 18, 11, 19, 20, 21, 22, 60, 61, 62, 63, 64, 65, 66, 67, 68, 69, 70, 71, 72, 73, 74, 75, 76, 77, 78, 79, 80, 81, 82, 83, 84, 85, 86, 87, 88, 95, 96, 89, 90, 91, 92, 93, 94] (by decide +kernel) (by decide +kernel)
set_option maxRecDepth 20000 in
theorem gX4_read_X4_readItem : GoodIn wsX4_read (wsV RX4 45 RX4 yX4_readItem wsX4_readItem) := goodIn_app (goodIn_of _ (by decide +kernel)) ggX4_read_X4_readItem
theorem dX4_read_0 : decode cX4_read 0 = .ok (.aload_n 0, 1) := by decide +kernel
theorem dX4_read_1 : decode cX4_read 1 = .ok (.getfield 12, 3) := by decide +kernel
theorem dX4_read_4 : decode cX4_read 4 = .ok (.invokevirtual 22, 3) := by decide +kernel
theorem dX4_read_7 : decode cX4_read 7 = .ok (.aload_n 0, 1) := by decide +kernel
theorem dX4_read_8 : decode cX4_read 8 = .ok (.iconst 0, 1) := by decide +kernel
theorem dX4_read_9 : decode cX4_read 9 = .ok (.putfield 25, 3) := by decide +kernel
theorem dX4_read_12 : decode cX4_read 12 = .ok (.aload_n 0, 1) := by decide +kernel
theorem dX4_read_13 : decode cX4_read 13 = .ok (.iconst 0, 1) := by decide +kernel
theorem dX4_read_14 : decode cX4_read 14 = .ok (.putfield 29, 3) := by decide +kernel
theorem dX4_read_17 : decode cX4_read 17 = .ok (.aload_n 0, 1) := by decide +kernel
theorem dX4_read_18 : decode cX4_read 18 = .ok (.iconst 0, 1) := by decide +kernel
theorem dX4_read_19 : decode cX4_read 19 = .ok (.putfield 32, 3) := by decide +kernel
theorem dX4_read_22 : decode cX4_read 22 = .ok (.aload_n 0, 1) := by decide +kernel
theorem dX4_read_23 : decode cX4_read 23 = .ok (.iconst 0, 1) := by decide +kernel
theorem dX4_read_24 : decode cX4_read 24 = .ok (.putfield 36, 3) := by decide +kernel
theorem dX4_read_27 : decode cX4_read 27 = .ok (.aload_n 0, 1) := by decide +kernel
theorem dX4_read_28 : decode cX4_read 28 = .ok (.invokevirtual 39, 3) := by decide +kernel
theorem dX4_read_31 : decode cX4_read 31 = .ok (.aload_n 0, 1) := by decide +kernel
theorem dX4_read_32 : decode cX4_read 32 = .ok (.getfield 42, 3) := by decide +kernel
theorem dX4_read_35 : decode cX4_read 35 = .ok (.iconst (-1), 1) := by decide +kernel
theorem dX4_read_36 : decode cX4_read 36 = .ok (.if_icmp .eq 45, 3) := by decide +kernel
theorem dX4_read_39 : decode cX4_read 39 = .ok (.aload_n 0, 1) := by decide +kernel
theorem dX4_read_40 : decode cX4_read 40 = .ok (.getfield 29, 3) := by decide +kernel
theorem dX4_read_43 : decode cX4_read 43 = .ok (.sipush 200, 3) := by decide +kernel
theorem dX4_read_46 : decode cX4_read 46 = .ok (.if_icmp .ge 35, 3) := by decide +kernel
theorem dX4_read_49 : decode cX4_read 49 = .ok (.aload_n 0, 1) := by decide +kernel
theorem dX4_read_50 : decode cX4_read 50 = .ok (.invokevirtual 45, 3) := by decide +kernel
theorem dX4_read_53 : decode cX4_read 53 = .ok (.ifCond .ne 11, 3) := by decide +kernel
theorem dX4_read_56 : decode cX4_read 56 = .ok (.bipush (-10), 2) := by decide +kernel
theorem dX4_read_58 : decode cX4_read 58 = .ok (.aload_n 0, 1) := by decide +kernel
theorem dX4_read_59 : decode cX4_read 59 = .ok (.getfield 49, 3) := by decide +kernel
theorem dX4_read_62 : decode cX4_read 62 = .ok (.isub, 1) := by decide +kernel
theorem dX4_read_63 : decode cX4_read 63 = .ok (.ireturn, 1) := by decide +kernel
theorem dX4_read_64 : decode cX4_read 64 = .ok (.aload_n 0, 1) := by decide +kernel
theorem dX4_read_65 : decode cX4_read 65 = .ok (.dup, 1) := by decide +kernel
theorem dX4_read_66 : decode cX4_read 66 = .ok (.getfield 29, 3) := by decide +kernel
theorem dX4_read_69 : decode cX4_read 69 = .ok (.iconst 1, 1) := by decide +kernel
theorem dX4_read_70 : decode cX4_read 70 = .ok (.iadd, 1) := by decide +kernel
theorem dX4_read_71 : decode cX4_read 71 = .ok (.putfield 29, 3) := by decide +kernel
theorem dX4_read_74 : decode cX4_read 74 = .ok (.aload_n 0, 1) := by decide +kernel
theorem dX4_read_75 : decode cX4_read 75 = .ok (.invokevirtual 39, 3) := by decide +kernel
theorem dX4_read_78 : decode cX4_read 78 = .ok (.goto (-47), 3) := by decide +kernel
theorem dX4_read_81 : decode cX4_read 81 = .ok (.aload_n 0, 1) := by decide +kernel
theorem dX4_read_82 : decode cX4_read 82 = .ok (.getfield 29, 3) := by decide +kernel
theorem dX4_read_85 : decode cX4_read 85 = .ok (.ireturn, 1) := by decide +kernel
set_option maxRecDepth 20000 in
theorem ggX4_step_X6_behindDigits : GoodIn wsX4_step wsX6_behindDigits := goodIn_r _ [11, 12, 13, 29, 30] (by decide +kernel) (by decide +kernel)
set_option maxRecDepth 20000 in
theorem gX4_step_X6_behindDigits : GoodIn wsX4_step (wsV RX4 61 RX6 yX6_behindDigits wsX6_behindDigits) := goodIn_app (goodIn_of _ (by decide +kernel)) ggX4_step_X6_behindDigits
set_option maxRecDepth 20000 in
theorem ggX4_step_X4_readNumber : GoodIn wsX4_step wsX4_readNumber := goodIn_r _ [18, 19, 2, 1, 3, 5, 6, 20, 21, 22, 23, 24, 25, 26, 27, 28, 29, 30] (by decide +kernel) (by decide +kernel)
set_option maxRecDepth 20000 in
theorem gX4_step_X4_readNumber : GoodIn wsX4_step (wsV RX4 65 RX4 yX4_readNumber wsX4_readNumber) := goodIn_app (goodIn_of _ (by decide +kernel)) ggX4_step_X4_readNumber
theorem dX4_step_0 : decode cX4_step 0 = .ok (.aload_n 0, 1) := by decide +kernel
theorem dX4_step_1 : decode cX4_step 1 = .ok (.aload_n 0, 1) := by decide +kernel
theorem dX4_step_2 : decode cX4_step 2 = .ok (.getfield 25, 3) := by decide +kernel
theorem dX4_step_5 : decode cX4_step 5 = .ok (.putfield 49, 3) := by decide +kernel
theorem dX4_step_8 : decode cX4_step 8 = .ok (.aload_n 0, 1) := by decide +kernel
theorem dX4_step_9 : decode cX4_step 9 = .ok (.getfield 49, 3) := by decide +kernel
theorem dX4_step_12 : decode cX4_step 12 = .ok (.aload_n 0, 1) := by decide +kernel
theorem dX4_step_13 : decode cX4_step 13 = .ok (.getfield 18, 3) := by decide +kernel
theorem dX4_step_16 : decode cX4_step 16 = .ok (.getfield 52, 3) := by decide +kernel
theorem dX4_step_19 : decode cX4_step 19 = .ok (.if_icmp .ge 33, 3) := by decide +kernel
theorem dX4_step_22 : decode cX4_step 22 = .ok (.aload_n 0, 1) := by decide +kernel
theorem dX4_step_23 : decode cX4_step 23 = .ok (.getfield 18, 3) := by decide +kernel
theorem dX4_step_26 : decode cX4_step 26 = .ok (.getfield 57, 3) := by decide +kernel
theorem dX4_step_29 : decode cX4_step 29 = .ok (.aload_n 0, 1) := by decide +kernel
theorem dX4_step_30 : decode cX4_step 30 = .ok (.getfield 49, 3) := by decide +kernel
theorem dX4_step_33 : decode cX4_step 33 = .ok (.iaload, 1) := by decide +kernel
theorem dX4_step_34 : decode cX4_step 34 = .ok (.bipush 32, 2) := by decide +kernel
theorem dX4_step_36 : decode cX4_step 36 = .ok (.if_icmp .ne 16, 3) := by decide +kernel
theorem dX4_step_39 : decode cX4_step 39 = .ok (.aload_n 0, 1) := by decide +kernel
theorem dX4_step_40 : decode cX4_step 40 = .ok (.dup, 1) := by decide +kernel
theorem dX4_step_41 : decode cX4_step 41 = .ok (.getfield 49, 3) := by decide +kernel
theorem dX4_step_44 : decode cX4_step 44 = .ok (.iconst 1, 1) := by decide +kernel
theorem dX4_step_45 : decode cX4_step 45 = .ok (.iadd, 1) := by decide +kernel
theorem dX4_step_46 : decode cX4_step 46 = .ok (.putfield 49, 3) := by decide +kernel
theorem dX4_step_49 : decode cX4_step 49 = .ok (.goto (-41), 3) := by decide +kernel
theorem dX4_step_52 : decode cX4_step 52 = .ok (.aload_n 0, 1) := by decide +kernel
theorem dX4_step_53 : decode cX4_step 53 = .ok (.aload_n 0, 1) := by decide +kernel
theorem dX4_step_54 : decode cX4_step 54 = .ok (.getfield 18, 3) := by decide +kernel
theorem dX4_step_57 : decode cX4_step 57 = .ok (.aload_n 0, 1) := by decide +kernel
theorem dX4_step_58 : decode cX4_step 58 = .ok (.getfield 49, 3) := by decide +kernel
theorem dX4_step_61 : decode cX4_step 61 = .ok (.invokevirtual 61, 3) := by decide +kernel
theorem dX4_step_64 : decode cX4_step 64 = .ok (.putfield 25, 3) := by decide +kernel
theorem dX4_step_67 : decode cX4_step 67 = .ok (.aload_n 0, 1) := by decide +kernel
theorem dX4_step_68 : decode cX4_step 68 = .ok (.getfield 49, 3) := by decide +kernel
theorem dX4_step_71 : decode cX4_step 71 = .ok (.aload_n 0, 1) := by decide +kernel
theorem dX4_step_72 : decode cX4_step 72 = .ok (.getfield 18, 3) := by decide +kernel
theorem dX4_step_75 : decode cX4_step 75 = .ok (.getfield 52, 3) := by decide +kernel
theorem dX4_step_78 : decode cX4_step 78 = .ok (.if_icmp .lt 11, 3) := by decide +kernel
theorem dX4_step_81 : decode cX4_step 81 = .ok (.aload_n 0, 1) := by decide +kernel
theorem dX4_step_82 : decode cX4_step 82 = .ok (.iconst (-1), 1) := by decide +kernel
theorem dX4_step_83 : decode cX4_step 83 = .ok (.putfield 42, 3) := by decide +kernel
theorem dX4_step_86 : decode cX4_step 86 = .ok (.goto 47, 3) := by decide +kernel
theorem dX4_step_89 : decode cX4_step 89 = .ok (.aload_n 0, 1) := by decide +kernel
theorem dX4_step_90 : decode cX4_step 90 = .ok (.getfield 25, 3) := by decide +kernel
theorem dX4_step_93 : decode cX4_step 93 = .ok (.aload_n 0, 1) := by decide +kernel
theorem dX4_step_94 : decode cX4_step 94 = .ok (.getfield 49, 3) := by decide +kernel
theorem dX4_step_97 : decode cX4_step 97 = .ok (.if_icmp .le 10, 3) := by decide +kernel
theorem dX4_step_100 : decode cX4_step 100 = .ok (.aload_n 0, 1) := by decide +kernel
theorem dX4_step_101 : decode cX4_step 101 = .ok (.invokevirtual 65, 3) := by decide +kernel
theorem dX4_step_104 : decode cX4_step 104 = .ok (.goto 29, 3) := by decide +kernel
theorem dX4_step_107 : decode cX4_step 107 = .ok (.aload_n 0, 1) := by decide +kernel
theorem dX4_step_108 : decode cX4_step 108 = .ok (.aload_n 0, 1) := by decide +kernel
theorem dX4_step_109 : decode cX4_step 109 = .ok (.getfield 18, 3) := by decide +kernel
theorem dX4_step_112 : decode cX4_step 112 = .ok (.getfield 57, 3) := by decide +kernel
theorem dX4_step_115 : decode cX4_step 115 = .ok (.aload_n 0, 1) := by decide +kernel
theorem dX4_step_116 : decode cX4_step 116 = .ok (.getfield 49, 3) := by decide +kernel
theorem dX4_step_119 : decode cX4_step 119 = .ok (.iaload, 1) := by decide +kernel
theorem dX4_step_120 : decode cX4_step 120 = .ok (.putfield 42, 3) := by decide +kernel
theorem dX4_step_123 : decode cX4_step 123 = .ok (.aload_n 0, 1) := by decide +kernel
theorem dX4_step_124 : decode cX4_step 124 = .ok (.dup, 1) := by decide +kernel
theorem dX4_step_125 : decode cX4_step 125 = .ok (.getfield 25, 3) := by decide +kernel
theorem dX4_step_128 : decode cX4_step 128 = .ok (.iconst 1, 1) := by decide +kernel
theorem dX4_step_129 : decode cX4_step 129 = .ok (.iadd, 1) := by decide +kernel
theorem dX4_step_130 : decode cX4_step 130 = .ok (.putfield 25, 3) := by decide +kernel
theorem dX4_step_133 : decode cX4_step 133 = .ok (.return_, 1) := by decide +kernel
theorem dX4_readNumber_0 : decode cX4_readNumber 0 = .ok (.aload_n 0, 1) := by decide +kernel
theorem dX4_readNumber_1 : decode cX4_readNumber 1 = .ok (.iconst 0, 1) := by decide +kernel
theorem dX4_readNumber_2 : decode cX4_readNumber 2 = .ok (.putfield 68, 3) := by decide +kernel
theorem dX4_readNumber_5 : decode cX4_readNumber 5 = .ok (.aload_n 0, 1) := by decide +kernel
theorem dX4_readNumber_6 : decode cX4_readNumber 6 = .ok (.getfield 49, 3) := by decide +kernel
theorem dX4_readNumber_9 : decode cX4_readNumber 9 = .ok (.istore_n 1, 1) := by decide +kernel
theorem dX4_readNumber_10 : decode cX4_readNumber 10 = .ok (.iload_n 1, 1) := by decide +kernel
theorem dX4_readNumber_11 : decode cX4_readNumber 11 = .ok (.aload_n 0, 1) := by decide +kernel
theorem dX4_readNumber_12 : decode cX4_readNumber 12 = .ok (.getfield 25, 3) := by decide +kernel
theorem dX4_readNumber_15 : decode cX4_readNumber 15 = .ok (.if_icmp .ge 42, 3) := by decide +kernel
theorem dX4_readNumber_18 : decode cX4_readNumber 18 = .ok (.aload_n 0, 1) := by decide +kernel
theorem dX4_readNumber_19 : decode cX4_readNumber 19 = .ok (.getfield 68, 3) := by decide +kernel
theorem dX4_readNumber_22 : decode cX4_readNumber 22 = .ok (.bipush 99, 2) := by decide +kernel
theorem dX4_readNumber_24 : decode cX4_readNumber 24 = .ok (.if_icmp .gt 33, 3) := by decide +kernel
theorem dX4_readNumber_27 : decode cX4_readNumber 27 = .ok (.aload_n 0, 1) := by decide +kernel
theorem dX4_readNumber_28 : decode cX4_readNumber 28 = .ok (.bipush 10, 2) := by decide +kernel
theorem dX4_readNumber_30 : decode cX4_readNumber 30 = .ok (.aload_n 0, 1) := by decide +kernel
theorem dX4_readNumber_31 : decode cX4_readNumber 31 = .ok (.getfield 68, 3) := by decide +kernel
theorem dX4_readNumber_34 : decode cX4_readNumber 34 = .ok (.imul, 1) := by decide +kernel
theorem dX4_readNumber_35 : decode cX4_readNumber 35 = .ok (.aload_n 0, 1) := by decide +kernel
theorem dX4_readNumber_36 : decode cX4_readNumber 36 = .ok (.getfield 18, 3) := by decide +kernel
theorem dX4_readNumber_39 : decode cX4_readNumber 39 = .ok (.getfield 57, 3) := by decide +kernel
theorem dX4_readNumber_42 : decode cX4_readNumber 42 = .ok (.iload_n 1, 1) := by decide +kernel
theorem dX4_readNumber_43 : decode cX4_readNumber 43 = .ok (.iaload, 1) := by decide +kernel
theorem dX4_readNumber_44 : decode cX4_readNumber 44 = .ok (.iadd, 1) := by decide +kernel
theorem dX4_readNumber_45 : decode cX4_readNumber 45 = .ok (.bipush 48, 2) := by decide +kernel
theorem dX4_readNumber_47 : decode cX4_readNumber 47 = .ok (.isub, 1) := by decide +kernel
theorem dX4_readNumber_48 : decode cX4_readNumber 48 = .ok (.putfield 68, 3) := by decide +kernel
theorem dX4_readNumber_51 : decode cX4_readNumber 51 = .ok (.iinc 1 1, 3) := by decide +kernel
theorem dX4_readNumber_54 : decode cX4_readNumber 54 = .ok (.goto (-44), 3) := by decide +kernel
theorem dX4_readNumber_57 : decode cX4_readNumber 57 = .ok (.aload_n 0, 1) := by decide +kernel
theorem dX4_readNumber_58 : decode cX4_readNumber 58 = .ok (.getfield 18, 3) := by decide +kernel
theorem dX4_readNumber_61 : decode cX4_readNumber 61 = .ok (.getfield 57, 3) := by decide +kernel
theorem dX4_readNumber_64 : decode cX4_readNumber 64 = .ok (.aload_n 0, 1) := by decide +kernel
theorem dX4_readNumber_65 : decode cX4_readNumber 65 = .ok (.getfield 49, 3) := by decide +kernel
theorem dX4_readNumber_68 : decode cX4_readNumber 68 = .ok (.iaload, 1) := by decide +kernel
theorem dX4_readNumber_69 : decode cX4_readNumber 69 = .ok (.bipush 48, 2) := by decide +kernel
theorem dX4_readNumber_71 : decode cX4_readNumber 71 = .ok (.if_icmp .ne 20, 3) := by decide +kernel
theorem dX4_readNumber_74 : decode cX4_readNumber 74 = .ok (.aload_n 0, 1) := by decide +kernel
theorem dX4_readNumber_75 : decode cX4_readNumber 75 = .ok (.getfield 25, 3) := by decide +kernel
theorem dX4_readNumber_78 : decode cX4_readNumber 78 = .ok (.aload_n 0, 1) := by decide +kernel
theorem dX4_readNumber_79 : decode cX4_readNumber 79 = .ok (.getfield 49, 3) := by decide +kernel
theorem dX4_readNumber_82 : decode cX4_readNumber 82 = .ok (.isub, 1) := by decide +kernel
theorem dX4_readNumber_83 : decode cX4_readNumber 83 = .ok (.iconst 1, 1) := by decide +kernel
theorem dX4_readNumber_84 : decode cX4_readNumber 84 = .ok (.if_icmp .le 7, 3) := by decide +kernel
theorem dX4_readNumber_87 : decode cX4_readNumber 87 = .ok (.iconst 1, 1) := by decide +kernel
theorem dX4_readNumber_88 : decode cX4_readNumber 88 = .ok (.goto 4, 3) := by decide +kernel
theorem dX4_readNumber_91 : decode cX4_readNumber 91 = .ok (.iconst 0, 1) := by decide +kernel
theorem dX4_readNumber_92 : decode cX4_readNumber 92 = .ok (.istore_n 1, 1) := by decide +kernel
theorem dX4_readNumber_93 : decode cX4_readNumber 93 = .ok (.aload_n 0, 1) := by decide +kernel
theorem dX4_readNumber_94 : decode cX4_readNumber 94 = .ok (.iload_n 1, 1) := by decide +kernel
theorem dX4_readNumber_95 : decode cX4_readNumber 95 = .ok (.ifCond .ne 12, 3) := by decide +kernel
theorem dX4_readNumber_98 : decode cX4_readNumber 98 = .ok (.aload_n 0, 1) := by decide +kernel
theorem dX4_readNumber_99 : decode cX4_readNumber 99 = .ok (.getfield 68, 3) := by decide +kernel
theorem dX4_readNumber_102 : decode cX4_readNumber 102 = .ok (.bipush 99, 2) := by decide +kernel
theorem dX4_readNumber_104 : decode cX4_readNumber 104 = .ok (.if_icmp .le 8, 3) := by decide +kernel
theorem dX4_readNumber_107 : decode cX4_readNumber 107 = .ok (.bipush (-3), 2) := by decide +kernel
theorem dX4_readNumber_109 : decode cX4_readNumber 109 = .ok (.goto 5, 3) := by decide +kernel
theorem dX4_readNumber_112 : decode cX4_readNumber 112 = .ok (.bipush (-2), 2) := by decide +kernel
theorem dX4_readNumber_114 : decode cX4_readNumber 114 = .ok (.putfield 42, 3) := by decide +kernel
theorem dX4_readNumber_117 : decode cX4_readNumber 117 = .ok (.return_, 1) := by decide +kernel
set_option maxRecDepth 20000 in
theorem ggX4_readItem_X4_readShape : GoodIn wsX4_readItem wsX4_readShape := goodIn_r _ [9, 10, 11, 12, 13, 14, 8, 15, 1, 16, 17, 18, 19, 20, 21, 22, 23, 24, 25, 26, 27, 28, 29, 30, 31, 32, 33, 34, 35, 36, 37, 38, 39, 40, 41, 42, 43, 64, 65, 66, 67, 68, 69, 70, 71, 72, 73, 74, 75, 76, 77, 78, 79, 80] (by decide +kernel) (by decide +kernel)
set_option maxRecDepth 20000 in
theorem gX4_readItem_X4_readShape : GoodIn wsX4_readItem (wsV RX4 71 RX4 yX4_readShape wsX4_readShape) := goodIn_app (goodIn_of _ (by decide +kernel)) ggX4_readItem_X4_readShape
set_option maxRecDepth 20000 in
theorem ggX4_readItem_X4_ends : GoodIn wsX4_readItem wsX4_ends := goodIn_r _ [47, 1, 16, 17, 18, 8, 19, 20, 21, 22, 23, 24, 25, 26, 27, 28, 29, 30, 31, 32, 33, 34, 35, 10, 64, 65, 66, 67, 68, 69, 70, 71, 72, 73, 74] (by decide +kernel) (by decide +kernel)
set_option maxRecDepth 20000 in
theorem gX4_readItem_X4_ends : GoodIn wsX4_readItem (wsV RX4 74 RX4 yX4_ends wsX4_ends) := goodIn_app (goodIn_of _ (by decide +kernel)) ggX4_readItem_X4_ends
set_option maxRecDepth 20000 in
theorem ggX4_readItem_X4_readLoad : GoodIn wsX4_readItem wsX4_readLoad := goodIn_r _ [51, 11, 52, 10, 53, 12, 13, 14, 8, 15, 1, 16, 17, 18, 19, 20, 21, 22, 23, 24, 25, 26, 27, 28, 29, 30, 31, 32, 33, 34, 35, 64, 65, 66, 67, 68, 69, 70, 71, 72, 75, 76, 77, 78, 79, 80, 73, 74] (by decide +kernel) (by decide +kernel)
set_option maxRecDepth 20000 in
theorem gX4_readItem_X4_readLoad : GoodIn wsX4_readItem (wsV RX4 77 RX4 yX4_readLoad wsX4_readLoad) := goodIn_app (goodIn_of _ (by decide +kernel)) ggX4_readItem_X4_readLoad
set_option maxRecDepth 20000 in
theorem ggX4_readItem_X4_readLimit : GoodIn wsX4_readItem wsX4_readLimit := goodIn_r _ [57, 11, 10, 58, 3, 12, 13, 14, 8, 15, 1, 16, 17, 18, 19, 20, 21, 22, 23, 24, 25, 26, 27, 28, 29, 30, 31, 32, 33, 34, 35, 64, 65, 66, 67, 68, 69, 70, 71, 72, 75, 76, 77, 78, 79, 80, 73, 74] (by decide +kernel) (by decide +kernel)
set_option maxRecDepth 20000 in
theorem gX4_readItem_X4_readLimit : GoodIn wsX4_readItem (wsV RX4 80 RX4 yX4_readLimit wsX4_readLimit) := goodIn_app (goodIn_of _ (by decide +kernel)) ggX4_readItem_X4_readLimit
set_option maxRecDepth 20000 in
theorem ggX4_readItem_X4_readStart : GoodIn wsX4_readItem wsX4_readStart := goodIn_r _ [62, 11, 52, 10, 63, 4, 12, 13, 14, 8, 15, 1, 16, 17, 18, 19, 20, 21, 22, 23, 24, 25, 26, 27, 28, 29, 30, 31, 32, 33, 34, 35, 64, 65, 66, 67, 68, 69, 70, 71, 72, 75, 76, 77, 78, 79, 80, 73, 74] (by decide +kernel) (by decide +kernel)
set_option maxRecDepth 20000 in
theorem gX4_readItem_X4_readStart : GoodIn wsX4_readItem (wsV RX4 83 RX4 yX4_readStart wsX4_readStart) := goodIn_app (goodIn_of _ (by decide +kernel)) ggX4_readItem_X4_readStart
theorem dX4_readItem_0 : decode cX4_readItem 0 = .ok (.aload_n 0, 1) := by decide +kernel
theorem dX4_readItem_1 : decode cX4_readItem 1 = .ok (.getfield 42, 3) := by decide +kernel
theorem dX4_readItem_4 : decode cX4_readItem 4 = .ok (.lookupswitch 145 #[(98, 118), (108, 71), (109, 91), (115, 44)], 44) := by decide +kernel
theorem dX4_readItem_48 : decode cX4_readItem 48 = .ok (.aload_n 0, 1) := by decide +kernel
theorem dX4_readItem_49 : decode cX4_readItem 49 = .ok (.getfield 29, 3) := by decide +kernel
theorem dX4_readItem_52 : decode cX4_readItem 52 = .ok (.ifCond .ne 21, 3) := by decide +kernel
theorem dX4_readItem_55 : decode cX4_readItem 55 = .ok (.aload_n 0, 1) := by decide +kernel
theorem dX4_readItem_56 : decode cX4_readItem 56 = .ok (.invokevirtual 71, 3) := by decide +kernel
theorem dX4_readItem_59 : decode cX4_readItem 59 = .ok (.ifCond .eq 14, 3) := by decide +kernel
theorem dX4_readItem_62 : decode cX4_readItem 62 = .ok (.aload_n 0, 1) := by decide +kernel
theorem dX4_readItem_63 : decode cX4_readItem 63 = .ok (.invokevirtual 74, 3) := by decide +kernel
theorem dX4_readItem_66 : decode cX4_readItem 66 = .ok (.ifCond .eq 7, 3) := by decide +kernel
theorem dX4_readItem_69 : decode cX4_readItem 69 = .ok (.iconst 1, 1) := by decide +kernel
theorem dX4_readItem_70 : decode cX4_readItem 70 = .ok (.goto 4, 3) := by decide +kernel
theorem dX4_readItem_73 : decode cX4_readItem 73 = .ok (.iconst 0, 1) := by decide +kernel
theorem dX4_readItem_74 : decode cX4_readItem 74 = .ok (.ireturn, 1) := by decide +kernel
theorem dX4_readItem_75 : decode cX4_readItem 75 = .ok (.aload_n 0, 1) := by decide +kernel
theorem dX4_readItem_76 : decode cX4_readItem 76 = .ok (.invokevirtual 77, 3) := by decide +kernel
theorem dX4_readItem_79 : decode cX4_readItem 79 = .ok (.ifCond .eq 14, 3) := by decide +kernel
theorem dX4_readItem_82 : decode cX4_readItem 82 = .ok (.aload_n 0, 1) := by decide +kernel
theorem dX4_readItem_83 : decode cX4_readItem 83 = .ok (.invokevirtual 74, 3) := by decide +kernel
theorem dX4_readItem_86 : decode cX4_readItem 86 = .ok (.ifCond .eq 7, 3) := by decide +kernel
theorem dX4_readItem_89 : decode cX4_readItem 89 = .ok (.iconst 1, 1) := by decide +kernel
theorem dX4_readItem_90 : decode cX4_readItem 90 = .ok (.goto 4, 3) := by decide +kernel
theorem dX4_readItem_93 : decode cX4_readItem 93 = .ok (.iconst 0, 1) := by decide +kernel
theorem dX4_readItem_94 : decode cX4_readItem 94 = .ok (.ireturn, 1) := by decide +kernel
theorem dX4_readItem_95 : decode cX4_readItem 95 = .ok (.aload_n 0, 1) := by decide +kernel
theorem dX4_readItem_96 : decode cX4_readItem 96 = .ok (.getfield 32, 3) := by decide +kernel
theorem dX4_readItem_99 : decode cX4_readItem 99 = .ok (.ifCond .ne 21, 3) := by decide +kernel
theorem dX4_readItem_102 : decode cX4_readItem 102 = .ok (.aload_n 0, 1) := by decide +kernel
theorem dX4_readItem_103 : decode cX4_readItem 103 = .ok (.invokevirtual 80, 3) := by decide +kernel
theorem dX4_readItem_106 : decode cX4_readItem 106 = .ok (.ifCond .eq 14, 3) := by decide +kernel
theorem dX4_readItem_109 : decode cX4_readItem 109 = .ok (.aload_n 0, 1) := by decide +kernel
theorem dX4_readItem_110 : decode cX4_readItem 110 = .ok (.invokevirtual 74, 3) := by decide +kernel
theorem dX4_readItem_113 : decode cX4_readItem 113 = .ok (.ifCond .eq 7, 3) := by decide +kernel
theorem dX4_readItem_116 : decode cX4_readItem 116 = .ok (.iconst 1, 1) := by decide +kernel
theorem dX4_readItem_117 : decode cX4_readItem 117 = .ok (.goto 4, 3) := by decide +kernel
theorem dX4_readItem_120 : decode cX4_readItem 120 = .ok (.iconst 0, 1) := by decide +kernel
theorem dX4_readItem_121 : decode cX4_readItem 121 = .ok (.ireturn, 1) := by decide +kernel
theorem dX4_readItem_122 : decode cX4_readItem 122 = .ok (.aload_n 0, 1) := by decide +kernel
theorem dX4_readItem_123 : decode cX4_readItem 123 = .ok (.getfield 36, 3) := by decide +kernel
theorem dX4_readItem_126 : decode cX4_readItem 126 = .ok (.ifCond .ne 21, 3) := by decide +kernel
theorem dX4_readItem_129 : decode cX4_readItem 129 = .ok (.aload_n 0, 1) := by decide +kernel
theorem dX4_readItem_130 : decode cX4_readItem 130 = .ok (.invokevirtual 83, 3) := by decide +kernel
theorem dX4_readItem_133 : decode cX4_readItem 133 = .ok (.ifCond .eq 14, 3) := by decide +kernel
theorem dX4_readItem_136 : decode cX4_readItem 136 = .ok (.aload_n 0, 1) := by decide +kernel
theorem dX4_readItem_137 : decode cX4_readItem 137 = .ok (.invokevirtual 74, 3) := by decide +kernel
theorem dX4_readItem_140 : decode cX4_readItem 140 = .ok (.ifCond .eq 7, 3) := by decide +kernel
theorem dX4_readItem_143 : decode cX4_readItem 143 = .ok (.iconst 1, 1) := by decide +kernel
theorem dX4_readItem_144 : decode cX4_readItem 144 = .ok (.goto 4, 3) := by decide +kernel
theorem dX4_readItem_147 : decode cX4_readItem 147 = .ok (.iconst 0, 1) := by decide +kernel
theorem dX4_readItem_148 : decode cX4_readItem 148 = .ok (.ireturn, 1) := by decide +kernel
theorem dX4_readItem_149 : decode cX4_readItem 149 = .ok (.iconst 0, 1) := by decide +kernel
theorem dX4_readItem_150 : decode cX4_readItem 150 = .ok (.ireturn, 1) := by decide +kernel
set_option maxRecDepth 20000 in
theorem ggX4_readShape_X4_isNumber : GoodIn wsX4_readShape wsX4_isNumber := goodIn_r _ [7, 8, 1, 9, 10, 11, 6, 12, 13, 14, 15, 16, 17, 18, 19, 20, 21, 22, 23, 24, 25, 26, 27, 28, 37, 38, 39, 40, 41, 42, 43, 44, 45, 46, 47] (by decide +kernel) (by decide +kernel)
set_option maxRecDepth 20000 in
theorem gX4_readShape_X4_isNumber : GoodIn wsX4_readShape (wsV RX4 86 RX4 yX4_isNumber wsX4_isNumber) := goodIn_app (goodIn_of _ (by decide +kernel)) ggX4_readShape_X4_isNumber
set_option maxRecDepth 20000 in
theorem ggX4_readShape_X0_shape : GoodIn wsX4_readShape wsX0_shape := goodIn_r _ [33, 34, 35, 36, 48, 49, 50, 51, 52, 53] (by decide +kernel) (by decide +kernel)
set_option maxRecDepth 20000 in
theorem gX4_readShape_X0_shape : GoodIn wsX4_readShape (wsV RX4 90 RX0 yX0_shape wsX0_shape) := goodIn_app (goodIn_of _ (by decide +kernel)) ggX4_readShape_X0_shape
theorem dX4_readShape_0 : decode cX4_readShape 0 = .ok (.aload_n 0, 1) := by decide +kernel
theorem dX4_readShape_1 : decode cX4_readShape 1 = .ok (.iconst 2, 1) := by decide +kernel
theorem dX4_readShape_2 : decode cX4_readShape 2 = .ok (.bipush 6, 2) := by decide +kernel
theorem dX4_readShape_4 : decode cX4_readShape 4 = .ok (.invokevirtual 86, 3) := by decide +kernel
theorem dX4_readShape_7 : decode cX4_readShape 7 = .ok (.ifCond .ne 5, 3) := by decide +kernel
theorem dX4_readShape_10 : decode cX4_readShape 10 = .ok (.iconst 0, 1) := by decide +kernel
theorem dX4_readShape_11 : decode cX4_readShape 11 = .ok (.ireturn, 1) := by decide +kernel
theorem dX4_readShape_12 : decode cX4_readShape 12 = .ok (.aload_n 0, 1) := by decide +kernel
theorem dX4_readShape_13 : decode cX4_readShape 13 = .ok (.getfield 68, 3) := by decide +kernel
theorem dX4_readShape_16 : decode cX4_readShape 16 = .ok (.istore_n 1, 1) := by decide +kernel
theorem dX4_readShape_17 : decode cX4_readShape 17 = .ok (.aload_n 0, 1) := by decide +kernel
theorem dX4_readShape_18 : decode cX4_readShape 18 = .ok (.iconst 1, 1) := by decide +kernel
theorem dX4_readShape_19 : decode cX4_readShape 19 = .ok (.iconst 2, 1) := by decide +kernel
theorem dX4_readShape_20 : decode cX4_readShape 20 = .ok (.invokevirtual 86, 3) := by decide +kernel
theorem dX4_readShape_23 : decode cX4_readShape 23 = .ok (.ifCond .ne 5, 3) := by decide +kernel
theorem dX4_readShape_26 : decode cX4_readShape 26 = .ok (.iconst 0, 1) := by decide +kernel
theorem dX4_readShape_27 : decode cX4_readShape 27 = .ok (.ireturn, 1) := by decide +kernel
theorem dX4_readShape_28 : decode cX4_readShape 28 = .ok (.aload_n 0, 1) := by decide +kernel
theorem dX4_readShape_29 : decode cX4_readShape 29 = .ok (.getfield 12, 3) := by decide +kernel
theorem dX4_readShape_32 : decode cX4_readShape 32 = .ok (.iload_n 1, 1) := by decide +kernel
theorem dX4_readShape_33 : decode cX4_readShape 33 = .ok (.aload_n 0, 1) := by decide +kernel
theorem dX4_readShape_34 : decode cX4_readShape 34 = .ok (.getfield 68, 3) := by decide +kernel
theorem dX4_readShape_37 : decode cX4_readShape 37 = .ok (.invokevirtual 90, 3) := by decide +kernel
theorem dX4_readShape_40 : decode cX4_readShape 40 = .ok (.iconst 1, 1) := by decide +kernel
theorem dX4_readShape_41 : decode cX4_readShape 41 = .ok (.ireturn, 1) := by decide +kernel
set_option maxRecDepth 20000 in
theorem ggX4_readLoad_X4_isNumber : GoodIn wsX4_readLoad wsX4_isNumber := goodIn_r _ [9, 10, 3, 11, 12, 13, 8, 14, 15, 16, 17, 18, 19, 20, 21, 22, 23, 24, 25, 26, 27, 28, 29, 30, 31, 32, 33, 34, 35, 36, 37, 38, 39, 46, 47] (by decide +kernel) (by decide +kernel)
set_option maxRecDepth 20000 in
theorem gX4_readLoad_X4_isNumber : GoodIn wsX4_readLoad (wsV RX4 86 RX4 yX4_isNumber wsX4_isNumber) := goodIn_app (goodIn_of _ (by decide +kernel)) ggX4_readLoad_X4_isNumber
theorem dX4_readLoad_0 : decode cX4_readLoad 0 = .ok (.aload_n 0, 1) := by decide +kernel
theorem dX4_readLoad_1 : decode cX4_readLoad 1 = .ok (.iconst 0, 1) := by decide +kernel
theorem dX4_readLoad_2 : decode cX4_readLoad 2 = .ok (.aload_n 0, 1) := by decide +kernel
theorem dX4_readLoad_3 : decode cX4_readLoad 3 = .ok (.getfield 12, 3) := by decide +kernel
theorem dX4_readLoad_6 : decode cX4_readLoad 6 = .ok (.getfield 94, 3) := by decide +kernel
theorem dX4_readLoad_9 : decode cX4_readLoad 9 = .ok (.iconst 1, 1) := by decide +kernel
theorem dX4_readLoad_10 : decode cX4_readLoad 10 = .ok (.isub, 1) := by decide +kernel
theorem dX4_readLoad_11 : decode cX4_readLoad 11 = .ok (.invokevirtual 86, 3) := by decide +kernel
theorem dX4_readLoad_14 : decode cX4_readLoad 14 = .ok (.ifCond .ne 5, 3) := by decide +kernel
theorem dX4_readLoad_17 : decode cX4_readLoad 17 = .ok (.iconst 0, 1) := by decide +kernel
theorem dX4_readLoad_18 : decode cX4_readLoad 18 = .ok (.ireturn, 1) := by decide +kernel
theorem dX4_readLoad_19 : decode cX4_readLoad 19 = .ok (.aload_n 0, 1) := by decide +kernel
theorem dX4_readLoad_20 : decode cX4_readLoad 20 = .ok (.getfield 68, 3) := by decide +kernel
theorem dX4_readLoad_23 : decode cX4_readLoad 23 = .ok (.istore_n 1, 1) := by decide +kernel
theorem dX4_readLoad_24 : decode cX4_readLoad 24 = .ok (.aload_n 0, 1) := by decide +kernel
theorem dX4_readLoad_25 : decode cX4_readLoad 25 = .ok (.iconst 1, 1) := by decide +kernel
theorem dX4_readLoad_26 : decode cX4_readLoad 26 = .ok (.bipush 9, 2) := by decide +kernel
theorem dX4_readLoad_28 : decode cX4_readLoad 28 = .ok (.invokevirtual 86, 3) := by decide +kernel
theorem dX4_readLoad_31 : decode cX4_readLoad 31 = .ok (.ifCond .ne 5, 3) := by decide +kernel
theorem dX4_readLoad_34 : decode cX4_readLoad 34 = .ok (.iconst 0, 1) := by decide +kernel
theorem dX4_readLoad_35 : decode cX4_readLoad 35 = .ok (.ireturn, 1) := by decide +kernel
theorem dX4_readLoad_36 : decode cX4_readLoad 36 = .ok (.aload_n 0, 1) := by decide +kernel
theorem dX4_readLoad_37 : decode cX4_readLoad 37 = .ok (.getfield 12, 3) := by decide +kernel
theorem dX4_readLoad_40 : decode cX4_readLoad 40 = .ok (.getfield 97, 3) := by decide +kernel
theorem dX4_readLoad_43 : decode cX4_readLoad 43 = .ok (.iload_n 1, 1) := by decide +kernel
theorem dX4_readLoad_44 : decode cX4_readLoad 44 = .ok (.aload_n 0, 1) := by decide +kernel
theorem dX4_readLoad_45 : decode cX4_readLoad 45 = .ok (.getfield 68, 3) := by decide +kernel
theorem dX4_readLoad_48 : decode cX4_readLoad 48 = .ok (.iastore, 1) := by decide +kernel
theorem dX4_readLoad_49 : decode cX4_readLoad 49 = .ok (.iconst 1, 1) := by decide +kernel
theorem dX4_readLoad_50 : decode cX4_readLoad 50 = .ok (.ireturn, 1) := by decide +kernel
set_option maxRecDepth 20000 in
theorem ggX4_readLimit_X4_isNumber : GoodIn wsX4_readLimit wsX4_isNumber := goodIn_r _ [9, 10, 2, 11, 12, 13, 8, 14, 15, 16, 17, 18, 19, 20, 21, 22, 23, 24, 25, 26, 27, 28, 29, 30, 31, 32, 33, 34, 35, 36, 37, 38, 39, 46, 47] (by decide +kernel) (by decide +kernel)
set_option maxRecDepth 20000 in
theorem gX4_readLimit_X4_isNumber : GoodIn wsX4_readLimit (wsV RX4 86 RX4 yX4_isNumber wsX4_isNumber) := goodIn_app (goodIn_of _ (by decide +kernel)) ggX4_readLimit_X4_isNumber
theorem dX4_readLimit_0 : decode cX4_readLimit 0 = .ok (.aload_n 0, 1) := by decide +kernel
theorem dX4_readLimit_1 : decode cX4_readLimit 1 = .ok (.iconst 5, 1) := by decide +kernel
theorem dX4_readLimit_2 : decode cX4_readLimit 2 = .ok (.bipush 99, 2) := by decide +kernel
theorem dX4_readLimit_4 : decode cX4_readLimit 4 = .ok (.invokevirtual 86, 3) := by decide +kernel
theorem dX4_readLimit_7 : decode cX4_readLimit 7 = .ok (.ifCond .ne 5, 3) := by decide +kernel
theorem dX4_readLimit_10 : decode cX4_readLimit 10 = .ok (.iconst 0, 1) := by decide +kernel
theorem dX4_readLimit_11 : decode cX4_readLimit 11 = .ok (.ireturn, 1) := by decide +kernel
theorem dX4_readLimit_12 : decode cX4_readLimit 12 = .ok (.aload_n 0, 1) := by decide +kernel
theorem dX4_readLimit_13 : decode cX4_readLimit 13 = .ok (.getfield 12, 3) := by decide +kernel
theorem dX4_readLimit_16 : decode cX4_readLimit 16 = .ok (.aload_n 0, 1) := by decide +kernel
theorem dX4_readLimit_17 : decode cX4_readLimit 17 = .ok (.getfield 68, 3) := by decide +kernel
theorem dX4_readLimit_20 : decode cX4_readLimit 20 = .ok (.putfield 100, 3) := by decide +kernel
theorem dX4_readLimit_23 : decode cX4_readLimit 23 = .ok (.aload_n 0, 1) := by decide +kernel
theorem dX4_readLimit_24 : decode cX4_readLimit 24 = .ok (.iconst 1, 1) := by decide +kernel
theorem dX4_readLimit_25 : decode cX4_readLimit 25 = .ok (.putfield 32, 3) := by decide +kernel
theorem dX4_readLimit_28 : decode cX4_readLimit 28 = .ok (.iconst 1, 1) := by decide +kernel
theorem dX4_readLimit_29 : decode cX4_readLimit 29 = .ok (.ireturn, 1) := by decide +kernel
set_option maxRecDepth 20000 in
theorem ggX4_readStart_X4_isNumber : GoodIn wsX4_readStart wsX4_isNumber := goodIn_r _ [10, 11, 3, 12, 13, 14, 9, 15, 16, 17, 18, 19, 20, 21, 22, 23, 24, 25, 26, 27, 28, 29, 30, 31, 32, 33, 34, 35, 36, 37, 38, 39, 40, 47, 48] (by decide +kernel) (by decide +kernel)
set_option maxRecDepth 20000 in
theorem gX4_readStart_X4_isNumber : GoodIn wsX4_readStart (wsV RX4 86 RX4 yX4_isNumber wsX4_isNumber) := goodIn_app (goodIn_of _ (by decide +kernel)) ggX4_readStart_X4_isNumber
theorem dX4_readStart_0 : decode cX4_readStart 0 = .ok (.aload_n 0, 1) := by decide +kernel
theorem dX4_readStart_1 : decode cX4_readStart 1 = .ok (.iconst 0, 1) := by decide +kernel
theorem dX4_readStart_2 : decode cX4_readStart 2 = .ok (.aload_n 0, 1) := by decide +kernel
theorem dX4_readStart_3 : decode cX4_readStart 3 = .ok (.getfield 12, 3) := by decide +kernel
