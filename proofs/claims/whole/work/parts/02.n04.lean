theorem dX7_plannedTurn_73 : decode cX7_plannedTurn 73 = .ok (.aload_n 0, 1) := by decide +kernel
theorem dX7_plannedTurn_74 : decode cX7_plannedTurn 74 = .ok (.getfield 15, 3) := by decide +kernel
theorem dX7_plannedTurn_77 : decode cX7_plannedTurn 77 = .ok (.getfield 61, 3) := by decide +kernel
theorem dX7_plannedTurn_80 : decode cX7_plannedTurn 80 = .ok (.iload_n 3, 1) := by decide +kernel
theorem dX7_plannedTurn_81 : decode cX7_plannedTurn 81 = .ok (.iaload, 1) := by decide +kernel
theorem dX7_plannedTurn_82 : decode cX7_plannedTurn 82 = .ok (.iadd, 1) := by decide +kernel
theorem dX7_plannedTurn_83 : decode cX7_plannedTurn 83 = .ok (.iastore, 1) := by decide +kernel
theorem dX7_plannedTurn_84 : decode cX7_plannedTurn 84 = .ok (.iinc 5 1, 3) := by decide +kernel
theorem dX7_plannedTurn_87 : decode cX7_plannedTurn 87 = .ok (.goto (-54), 3) := by decide +kernel
theorem dX7_plannedTurn_90 : decode cX7_plannedTurn 90 = .ok (.iload 4, 2) := by decide +kernel
theorem dX7_plannedTurn_92 : decode cX7_plannedTurn 92 = .ok (.ireturn, 1) := by decide +kernel
set_option maxRecDepth 20000 in
theorem ggX7_firstTurnUnder_X0_from : GoodIn wsX7_firstTurnUnder wsX0_from := goodIn_r _ [9, 10, 11, 12, 13, 8, 14, 15, 16, 17, 18, 22, 23, 24, 25, 26, 27] (by decide +kernel) (by decide +kernel)
set_option maxRecDepth 20000 in
theorem gX7_firstTurnUnder_X0_from : GoodIn wsX7_firstTurnUnder (wsV RX7 46 RX0 yX0_from wsX0_from) := goodIn_app (goodIn_of _ (by decide +kernel)) ggX7_firstTurnUnder_X0_from
theorem dX7_firstTurnUnder_0 : decode cX7_firstTurnUnder 0 = .ok (.iconst 0, 1) := by decide +kernel
theorem dX7_firstTurnUnder_1 : decode cX7_firstTurnUnder 1 = .ok (.istore_n 3, 1) := by decide +kernel
theorem dX7_firstTurnUnder_2 : decode cX7_firstTurnUnder 2 = .ok (.iload_n 3, 1) := by decide +kernel
theorem dX7_firstTurnUnder_3 : decode cX7_firstTurnUnder 3 = .ok (.aload_n 0, 1) := by decide +kernel
theorem dX7_firstTurnUnder_4 : decode cX7_firstTurnUnder 4 = .ok (.getfield 15, 3) := by decide +kernel
theorem dX7_firstTurnUnder_7 : decode cX7_firstTurnUnder 7 = .ok (.getfield 67, 3) := by decide +kernel
theorem dX7_firstTurnUnder_10 : decode cX7_firstTurnUnder 10 = .ok (.if_icmp .ge 44, 3) := by decide +kernel
theorem dX7_firstTurnUnder_13 : decode cX7_firstTurnUnder 13 = .ok (.aload_n 0, 1) := by decide +kernel
theorem dX7_firstTurnUnder_14 : decode cX7_firstTurnUnder 14 = .ok (.getfield 15, 3) := by decide +kernel
theorem dX7_firstTurnUnder_17 : decode cX7_firstTurnUnder 17 = .ok (.iload_n 2, 1) := by decide +kernel
theorem dX7_firstTurnUnder_18 : decode cX7_firstTurnUnder 18 = .ok (.iload_n 3, 1) := by decide +kernel
theorem dX7_firstTurnUnder_19 : decode cX7_firstTurnUnder 19 = .ok (.invokevirtual 46, 3) := by decide +kernel
theorem dX7_firstTurnUnder_22 : decode cX7_firstTurnUnder 22 = .ok (.istore 4, 2) := by decide +kernel
theorem dX7_firstTurnUnder_24 : decode cX7_firstTurnUnder 24 = .ok (.aload_n 0, 1) := by decide +kernel
theorem dX7_firstTurnUnder_25 : decode cX7_firstTurnUnder 25 = .ok (.getfield 9, 3) := by decide +kernel
theorem dX7_firstTurnUnder_28 : decode cX7_firstTurnUnder 28 = .ok (.iload 4, 2) := by decide +kernel
theorem dX7_firstTurnUnder_30 : decode cX7_firstTurnUnder 30 = .ok (.iaload, 1) := by decide +kernel
theorem dX7_firstTurnUnder_31 : decode cX7_firstTurnUnder 31 = .ok (.aload_n 0, 1) := by decide +kernel
theorem dX7_firstTurnUnder_32 : decode cX7_firstTurnUnder 32 = .ok (.getfield 15, 3) := by decide +kernel
theorem dX7_firstTurnUnder_35 : decode cX7_firstTurnUnder 35 = .ok (.getfield 61, 3) := by decide +kernel
theorem dX7_firstTurnUnder_38 : decode cX7_firstTurnUnder 38 = .ok (.iload 4, 2) := by decide +kernel
theorem dX7_firstTurnUnder_40 : decode cX7_firstTurnUnder 40 = .ok (.iaload, 1) := by decide +kernel
theorem dX7_firstTurnUnder_41 : decode cX7_firstTurnUnder 41 = .ok (.iadd, 1) := by decide +kernel
theorem dX7_firstTurnUnder_42 : decode cX7_firstTurnUnder 42 = .ok (.iload_n 1, 1) := by decide +kernel
theorem dX7_firstTurnUnder_43 : decode cX7_firstTurnUnder 43 = .ok (.if_icmp .gt 5, 3) := by decide +kernel
theorem dX7_firstTurnUnder_46 : decode cX7_firstTurnUnder 46 = .ok (.iload_n 3, 1) := by decide +kernel
theorem dX7_firstTurnUnder_47 : decode cX7_firstTurnUnder 47 = .ok (.ireturn, 1) := by decide +kernel
theorem dX7_firstTurnUnder_48 : decode cX7_firstTurnUnder 48 = .ok (.iinc 3 1, 3) := by decide +kernel
theorem dX7_firstTurnUnder_51 : decode cX7_firstTurnUnder 51 = .ok (.goto (-49), 3) := by decide +kernel
theorem dX7_firstTurnUnder_54 : decode cX7_firstTurnUnder 54 = .ok (.bipush (-9), 2) := by decide +kernel
theorem dX7_firstTurnUnder_56 : decode cX7_firstTurnUnder 56 = .ok (.ireturn, 1) := by decide +kernel
set_option maxRecDepth 20000 in
theorem ggX7_wornIn_X0_orderOf : GoodIn wsX7_wornIn wsX0_orderOf := goodIn_r _ [14, 15, 16, 17, 13, 18, 19, 20, 21, 22, 23, 24, 25, 26, 27, 40, 41, 42, 43, 44, 45] (by decide +kernel) (by decide +kernel)
set_option maxRecDepth 20000 in
theorem gX7_wornIn_X0_orderOf : GoodIn wsX7_wornIn (wsV RX7 39 RX0 yX0_orderOf wsX0_orderOf) := goodIn_app (goodIn_of _ (by decide +kernel)) ggX7_wornIn_X0_orderOf
set_option maxRecDepth 20000 in
theorem ggX7_wornIn_X0_from : GoodIn wsX7_wornIn wsX0_from := goodIn_r _ [18, 19, 20, 21, 22, 13, 23, 24, 25, 26, 27, 40, 41, 42, 43, 44, 45] (by decide +kernel) (by decide +kernel)
set_option maxRecDepth 20000 in
theorem gX7_wornIn_X0_from : GoodIn wsX7_wornIn (wsV RX7 46 RX0 yX0_from wsX0_from) := goodIn_app (goodIn_of _ (by decide +kernel)) ggX7_wornIn_X0_from
set_option maxRecDepth 20000 in
theorem ggX7_wornIn_X7_quotient : GoodIn wsX7_wornIn wsX7_quotient := goodIn_r _ [32] (by decide +kernel) (by decide +kernel)
set_option maxRecDepth 20000 in
theorem gX7_wornIn_X7_quotient : GoodIn wsX7_wornIn (va_wsS RX7 64 yX7_quotient wsX7_quotient) := goodIn_app (goodIn_of _ (by decide +kernel)) ggX7_wornIn_X7_quotient
theorem dX7_wornIn_0 : decode cX7_wornIn 0 = .ok (.aload_n 0, 1) := by decide +kernel
theorem dX7_wornIn_1 : decode cX7_wornIn 1 = .ok (.getfield 15, 3) := by decide +kernel
theorem dX7_wornIn_4 : decode cX7_wornIn 4 = .ok (.iload_n 3, 1) := by decide +kernel
theorem dX7_wornIn_5 : decode cX7_wornIn 5 = .ok (.invokevirtual 39, 3) := by decide +kernel
theorem dX7_wornIn_8 : decode cX7_wornIn 8 = .ok (.istore 4, 2) := by decide +kernel
theorem dX7_wornIn_10 : decode cX7_wornIn 10 = .ok (.aload_n 0, 1) := by decide +kernel
theorem dX7_wornIn_11 : decode cX7_wornIn 11 = .ok (.getfield 19, 3) := by decide +kernel
theorem dX7_wornIn_14 : decode cX7_wornIn 14 = .ok (.getfield 43, 3) := by decide +kernel
theorem dX7_wornIn_17 : decode cX7_wornIn 17 = .ok (.istore 5, 2) := by decide +kernel
theorem dX7_wornIn_19 : decode cX7_wornIn 19 = .ok (.iconst 0, 1) := by decide +kernel
theorem dX7_wornIn_20 : decode cX7_wornIn 20 = .ok (.istore 6, 2) := by decide +kernel
theorem dX7_wornIn_22 : decode cX7_wornIn 22 = .ok (.iconst 1, 1) := by decide +kernel
theorem dX7_wornIn_23 : decode cX7_wornIn 23 = .ok (.istore 7, 2) := by decide +kernel
theorem dX7_wornIn_25 : decode cX7_wornIn 25 = .ok (.iload 7, 2) := by decide +kernel
theorem dX7_wornIn_27 : decode cX7_wornIn 27 = .ok (.iload 4, 2) := by decide +kernel
theorem dX7_wornIn_29 : decode cX7_wornIn 29 = .ok (.if_icmp .gt 46, 3) := by decide +kernel
theorem dX7_wornIn_32 : decode cX7_wornIn 32 = .ok (.iload 7, 2) := by decide +kernel
theorem dX7_wornIn_34 : decode cX7_wornIn 34 = .ok (.iload_n 1, 1) := by decide +kernel
theorem dX7_wornIn_35 : decode cX7_wornIn 35 = .ok (.if_icmp .gt 40, 3) := by decide +kernel
theorem dX7_wornIn_38 : decode cX7_wornIn 38 = .ok (.aload_n 0, 1) := by decide +kernel
theorem dX7_wornIn_39 : decode cX7_wornIn 39 = .ok (.getfield 15, 3) := by decide +kernel
theorem dX7_wornIn_42 : decode cX7_wornIn 42 = .ok (.iload 5, 2) := by decide +kernel
theorem dX7_wornIn_44 : decode cX7_wornIn 44 = .ok (.iload_n 3, 1) := by decide +kernel
theorem dX7_wornIn_45 : decode cX7_wornIn 45 = .ok (.invokevirtual 46, 3) := by decide +kernel
theorem dX7_wornIn_48 : decode cX7_wornIn 48 = .ok (.istore 5, 2) := by decide +kernel
theorem dX7_wornIn_50 : decode cX7_wornIn 50 = .ok (.iload 5, 2) := by decide +kernel
theorem dX7_wornIn_52 : decode cX7_wornIn 52 = .ok (.iload_n 2, 1) := by decide +kernel
theorem dX7_wornIn_53 : decode cX7_wornIn 53 = .ok (.if_icmp .ne 16, 3) := by decide +kernel
theorem dX7_wornIn_56 : decode cX7_wornIn 56 = .ok (.iload_n 1, 1) := by decide +kernel
theorem dX7_wornIn_57 : decode cX7_wornIn 57 = .ok (.iload 7, 2) := by decide +kernel
theorem dX7_wornIn_59 : decode cX7_wornIn 59 = .ok (.isub, 1) := by decide +kernel
theorem dX7_wornIn_60 : decode cX7_wornIn 60 = .ok (.iload 4, 2) := by decide +kernel
theorem dX7_wornIn_62 : decode cX7_wornIn 62 = .ok (.invokestatic 64, 3) := by decide +kernel
theorem dX7_wornIn_65 : decode cX7_wornIn 65 = .ok (.iconst 1, 1) := by decide +kernel
theorem dX7_wornIn_66 : decode cX7_wornIn 66 = .ok (.iadd, 1) := by decide +kernel
theorem dX7_wornIn_67 : decode cX7_wornIn 67 = .ok (.istore 6, 2) := by decide +kernel
theorem dX7_wornIn_69 : decode cX7_wornIn 69 = .ok (.iinc 7 1, 3) := by decide +kernel
theorem dX7_wornIn_72 : decode cX7_wornIn 72 = .ok (.goto (-47), 3) := by decide +kernel
theorem dX7_wornIn_75 : decode cX7_wornIn 75 = .ok (.sipush 999, 3) := by decide +kernel
theorem dX7_wornIn_78 : decode cX7_wornIn 78 = .ok (.aload_n 0, 1) := by decide +kernel
theorem dX7_wornIn_79 : decode cX7_wornIn 79 = .ok (.getfield 19, 3) := by decide +kernel
theorem dX7_wornIn_82 : decode cX7_wornIn 82 = .ok (.getfield 58, 3) := by decide +kernel
theorem dX7_wornIn_85 : decode cX7_wornIn 85 = .ok (.iload_n 2, 1) := by decide +kernel
theorem dX7_wornIn_86 : decode cX7_wornIn 86 = .ok (.iaload, 1) := by decide +kernel
theorem dX7_wornIn_87 : decode cX7_wornIn 87 = .ok (.iload 6, 2) := by decide +kernel
theorem dX7_wornIn_89 : decode cX7_wornIn 89 = .ok (.aload_n 0, 1) := by decide +kernel
theorem dX7_wornIn_90 : decode cX7_wornIn 90 = .ok (.getfield 15, 3) := by decide +kernel
theorem dX7_wornIn_93 : decode cX7_wornIn 93 = .ok (.getfield 61, 3) := by decide +kernel
theorem dX7_wornIn_96 : decode cX7_wornIn 96 = .ok (.iload_n 2, 1) := by decide +kernel
theorem dX7_wornIn_97 : decode cX7_wornIn 97 = .ok (.iaload, 1) := by decide +kernel
theorem dX7_wornIn_98 : decode cX7_wornIn 98 = .ok (.imul, 1) := by decide +kernel
theorem dX7_wornIn_99 : decode cX7_wornIn 99 = .ok (.iadd, 1) := by decide +kernel
theorem dX7_wornIn_100 : decode cX7_wornIn 100 = .ok (.invokestatic 53, 3) := by decide +kernel
theorem dX7_wornIn_103 : decode cX7_wornIn 103 = .ok (.ireturn, 1) := by decide +kernel
theorem dX7_quotient_0 : decode cX7_quotient 0 = .ok (.iload_n 1, 1) := by decide +kernel
theorem dX7_quotient_1 : decode cX7_quotient 1 = .ok (.ifCond .le 9, 3) := by decide +kernel
theorem dX7_quotient_4 : decode cX7_quotient 4 = .ok (.iload_n 0, 1) := by decide +kernel
theorem dX7_quotient_5 : decode cX7_quotient 5 = .ok (.iload_n 1, 1) := by decide +kernel
theorem dX7_quotient_6 : decode cX7_quotient 6 = .ok (.idiv, 1) := by decide +kernel
theorem dX7_quotient_7 : decode cX7_quotient 7 = .ok (.goto 4, 3) := by decide +kernel
theorem dX7_quotient_10 : decode cX7_quotient 10 = .ok (.iconst 0, 1) := by decide +kernel
theorem dX7_quotient_11 : decode cX7_quotient 11 = .ok (.ireturn, 1) := by decide +kernel
set_option maxRecDepth 20000 in
theorem ggX8_init_X6_init : GoodIn wsX8_init wsX6_init := goodIn_r _ [41, 42, 2, 3, 43, 44, 104, 105] (by decide +kernel) (by decide +kernel)
set_option maxRecDepth 20000 in
theorem gX8_init_X6_init_n9 : GoodIn wsX8_init (wsX6_init) := ggX8_init_X6_init
set_option maxRecDepth 20000 in
theorem ggX8_init_X4_init : GoodIn wsX8_init wsX4_init := goodIn_r _ [47, 48, 2, 3, 49, 13, 14, 50, 51, 52, 53, 54, 55, 43, 56, 57, 58, 59, 60, 61, 62, 63, 64, 65, 66, 67, 68, 69, 70, 71, 72, 73, 126, 127, 128, 129, 130, 131, 117, 118, 119, 120, 121, 122, 123, 124, 125] (by decide +kernel) (by decide +kernel)
set_option maxRecDepth 20000 in
theorem gX8_init_X4_init : GoodIn wsX8_init (wsX4_init) := ggX8_init_X4_init
set_option maxRecDepth 20000 in
theorem ggX8_init_X0_init : GoodIn wsX8_init wsX0_init := goodIn_r _ [54, 55, 2, 3, 43, 56, 57, 58, 59, 14, 60, 61, 62, 63, 64, 65, 66, 67, 68, 69, 70, 71, 72, 73, 126, 127, 128, 129, 130, 131] (by decide +kernel) (by decide +kernel)
set_option maxRecDepth 20000 in
theorem gX8_init_X0_init : GoodIn wsX8_init (wsX0_init) := ggX8_init_X0_init
set_option maxRecDepth 20000 in
theorem ggX8_init_X2_init : GoodIn wsX8_init wsX2_init := goodIn_r _ [76, 77, 2, 3, 43, 78, 132, 133, 134, 135] (by decide +kernel) (by decide +kernel)
set_option maxRecDepth 20000 in
theorem gX8_init_X2_init_n34 : GoodIn wsX8_init (wsX2_init) := ggX8_init_X2_init
set_option maxRecDepth 20000 in
theorem ggX8_init_X3_init : GoodIn wsX8_init wsX3_init := goodIn_r _ [81, 82, 2, 3, 83, 84, 17, 18, 75, 76, 77, 43, 78, 136, 137, 138, 132, 133, 134, 135] (by decide +kernel) (by decide +kernel)
set_option maxRecDepth 20000 in
theorem gX8_init_X3_init : GoodIn wsX8_init (wsX3_init) := ggX8_init_X3_init
set_option maxRecDepth 20000 in
theorem ggX8_init_X5_init : GoodIn wsX8_init wsX5_init := goodIn_r _ [87, 88, 2, 3, 43, 89, 90, 139, 140, 141, 142] (by decide +kernel) (by decide +kernel)
set_option maxRecDepth 20000 in
theorem gX8_init_X5_init : GoodIn wsX8_init (wsX5_init) := ggX8_init_X5_init
set_option maxRecDepth 20000 in
theorem ggX8_init_X7_init : GoodIn wsX8_init wsX7_init := goodIn_r _ [93, 94, 2, 3, 43, 95, 96, 97, 143, 144, 145] (by decide +kernel) (by decide +kernel)
set_option maxRecDepth 20000 in
theorem gX8_init_X7_init : GoodIn wsX8_init (wsX7_init) := ggX8_init_X7_init
set_option maxRecDepth 20000 in
theorem ggX8_init_X1_init : GoodIn wsX8_init wsX1_init := goodIn_r _ [99, 100, 2, 3, 43, 101, 102, 103, 146, 147, 148, 149] (by decide +kernel) (by decide +kernel)
set_option maxRecDepth 20000 in
theorem gX8_init_X1_init_n66 : GoodIn wsX8_init (wsX1_init) := ggX8_init_X1_init
theorem dX8_init_0 : decode cX8_init 0 = .ok (.aload_n 0, 1) := by decide +kernel
theorem dX8_init_1 : decode cX8_init 1 = .ok (.invokespecial 1, 3) := by decide +kernel
theorem dX8_init_4 : decode cX8_init 4 = .ok (.aload_n 0, 1) := by decide +kernel
theorem dX8_init_5 : decode cX8_init 5 = .ok (.new 7, 3) := by decide +kernel
theorem dX8_init_8 : decode cX8_init 8 = .ok (.dup, 1) := by decide +kernel
theorem dX8_init_9 : decode cX8_init 9 = .ok (.invokespecial 9, 3) := by decide +kernel
theorem dX8_init_12 : decode cX8_init 12 = .ok (.putfield 10, 3) := by decide +kernel
theorem dX8_init_15 : decode cX8_init 15 = .ok (.aload_n 0, 1) := by decide +kernel
theorem dX8_init_16 : decode cX8_init 16 = .ok (.new 16, 3) := by decide +kernel
theorem dX8_init_19 : decode cX8_init 19 = .ok (.dup, 1) := by decide +kernel
theorem dX8_init_20 : decode cX8_init 20 = .ok (.aload_n 0, 1) := by decide +kernel
theorem dX8_init_21 : decode cX8_init 21 = .ok (.getfield 10, 3) := by decide +kernel
theorem dX8_init_24 : decode cX8_init 24 = .ok (.invokespecial 18, 3) := by decide +kernel
theorem dX8_init_27 : decode cX8_init 27 = .ok (.putfield 21, 3) := by decide +kernel
theorem dX8_init_30 : decode cX8_init 30 = .ok (.aload_n 0, 1) := by decide +kernel
theorem dX8_init_31 : decode cX8_init 31 = .ok (.new 25, 3) := by decide +kernel
theorem dX8_init_34 : decode cX8_init 34 = .ok (.dup, 1) := by decide +kernel
theorem dX8_init_35 : decode cX8_init 35 = .ok (.invokespecial 27, 3) := by decide +kernel
theorem dX8_init_38 : decode cX8_init 38 = .ok (.putfield 28, 3) := by decide +kernel
theorem dX8_init_41 : decode cX8_init 41 = .ok (.aload_n 0, 1) := by decide +kernel
theorem dX8_init_42 : decode cX8_init 42 = .ok (.new 32, 3) := by decide +kernel
theorem dX8_init_45 : decode cX8_init 45 = .ok (.dup, 1) := by decide +kernel
theorem dX8_init_46 : decode cX8_init 46 = .ok (.invokespecial 34, 3) := by decide +kernel
theorem dX8_init_49 : decode cX8_init 49 = .ok (.putfield 35, 3) := by decide +kernel
theorem dX8_init_52 : decode cX8_init 52 = .ok (.aload_n 0, 1) := by decide +kernel
theorem dX8_init_53 : decode cX8_init 53 = .ok (.new 39, 3) := by decide +kernel
theorem dX8_init_56 : decode cX8_init 56 = .ok (.dup, 1) := by decide +kernel
theorem dX8_init_57 : decode cX8_init 57 = .ok (.invokespecial 41, 3) := by decide +kernel
theorem dX8_init_60 : decode cX8_init 60 = .ok (.putfield 42, 3) := by decide +kernel
theorem dX8_init_63 : decode cX8_init 63 = .ok (.aload_n 0, 1) := by decide +kernel
theorem dX8_init_64 : decode cX8_init 64 = .ok (.new 46, 3) := by decide +kernel
theorem dX8_init_67 : decode cX8_init 67 = .ok (.dup, 1) := by decide +kernel
theorem dX8_init_68 : decode cX8_init 68 = .ok (.aload_n 0, 1) := by decide +kernel
theorem dX8_init_69 : decode cX8_init 69 = .ok (.getfield 28, 3) := by decide +kernel
theorem dX8_init_72 : decode cX8_init 72 = .ok (.invokespecial 48, 3) := by decide +kernel
theorem dX8_init_75 : decode cX8_init 75 = .ok (.putfield 51, 3) := by decide +kernel
theorem dX8_init_78 : decode cX8_init 78 = .ok (.aload_n 0, 1) := by decide +kernel
theorem dX8_init_79 : decode cX8_init 79 = .ok (.new 55, 3) := by decide +kernel
theorem dX8_init_82 : decode cX8_init 82 = .ok (.dup, 1) := by decide +kernel
theorem dX8_init_83 : decode cX8_init 83 = .ok (.aload_n 0, 1) := by decide +kernel
theorem dX8_init_84 : decode cX8_init 84 = .ok (.getfield 28, 3) := by decide +kernel
theorem dX8_init_87 : decode cX8_init 87 = .ok (.aload_n 0, 1) := by decide +kernel
theorem dX8_init_88 : decode cX8_init 88 = .ok (.getfield 35, 3) := by decide +kernel
theorem dX8_init_91 : decode cX8_init 91 = .ok (.invokespecial 57, 3) := by decide +kernel
theorem dX8_init_94 : decode cX8_init 94 = .ok (.putfield 60, 3) := by decide +kernel
theorem dX8_init_97 : decode cX8_init 97 = .ok (.aload_n 0, 1) := by decide +kernel
theorem dX8_init_98 : decode cX8_init 98 = .ok (.new 64, 3) := by decide +kernel
theorem dX8_init_101 : decode cX8_init 101 = .ok (.dup, 1) := by decide +kernel
theorem dX8_init_102 : decode cX8_init 102 = .ok (.invokespecial 66, 3) := by decide +kernel
theorem dX8_init_105 : decode cX8_init 105 = .ok (.putfield 67, 3) := by decide +kernel
theorem dX8_init_108 : decode cX8_init 108 = .ok (.aload_n 0, 1) := by decide +kernel
theorem dX8_init_109 : decode cX8_init 109 = .ok (.iconst 2, 1) := by decide +kernel
theorem dX8_init_110 : decode cX8_init 110 = .ok (.anewarray 32, 3) := by decide +kernel
theorem dX8_init_113 : decode cX8_init 113 = .ok (.putfield 71, 3) := by decide +kernel
theorem dX8_init_116 : decode cX8_init 116 = .ok (.iconst 0, 1) := by decide +kernel
theorem dX8_init_117 : decode cX8_init 117 = .ok (.istore_n 1, 1) := by decide +kernel
theorem dX8_init_118 : decode cX8_init 118 = .ok (.iload_n 1, 1) := by decide +kernel
theorem dX8_init_119 : decode cX8_init 119 = .ok (.iconst 2, 1) := by decide +kernel
theorem dX8_init_120 : decode cX8_init 120 = .ok (.if_icmp .ge 22, 3) := by decide +kernel
theorem dX8_init_123 : decode cX8_init 123 = .ok (.aload_n 0, 1) := by decide +kernel
theorem dX8_init_124 : decode cX8_init 124 = .ok (.getfield 71, 3) := by decide +kernel
theorem dX8_init_127 : decode cX8_init 127 = .ok (.iload_n 1, 1) := by decide +kernel
theorem dX8_init_128 : decode cX8_init 128 = .ok (.new 32, 3) := by decide +kernel
theorem dX8_init_131 : decode cX8_init 131 = .ok (.dup, 1) := by decide +kernel
theorem dX8_init_132 : decode cX8_init 132 = .ok (.invokespecial 34, 3) := by decide +kernel
theorem dX8_init_135 : decode cX8_init 135 = .ok (.aastore, 1) := by decide +kernel
theorem dX8_init_136 : decode cX8_init 136 = .ok (.iinc 1 1, 3) := by decide +kernel
theorem dX8_init_139 : decode cX8_init 139 = .ok (.goto (-21), 3) := by decide +kernel
theorem dX8_init_142 : decode cX8_init 142 = .ok (.aload_n 0, 1) := by decide +kernel
theorem dX8_init_143 : decode cX8_init 143 = .ok (.iconst 2, 1) := by decide +kernel
theorem dX8_init_144 : decode cX8_init 144 = .ok (.newarray .boolean, 2) := by decide +kernel
theorem dX8_init_146 : decode cX8_init 146 = .ok (.putfield 75, 3) := by decide +kernel
theorem dX8_init_149 : decode cX8_init 149 = .ok (.aload_n 0, 1) := by decide +kernel
theorem dX8_init_150 : decode cX8_init 150 = .ok (.lconst 0, 1) := by decide +kernel
theorem dX8_init_151 : decode cX8_init 151 = .ok (.putfield 79, 3) := by decide +kernel
theorem dX8_init_154 : decode cX8_init 154 = .ok (.return_, 1) := by decide +kernel
set_option maxRecDepth 20000 in
theorem ggX8_type_X6_add : GoodIn wsX8_type wsX6_add := goodIn_r _ [7, 8, 9, 21, 22] (by decide +kernel) (by decide +kernel)
set_option maxRecDepth 20000 in
theorem gX8_type_X6_add : GoodIn wsX8_type (wsV RX8 83 RX6 yX6_add wsX6_add) := goodIn_app (goodIn_of _ (by decide +kernel)) ggX8_type_X6_add
theorem dX8_type_0 : decode cX8_type 0 = .ok (.iload_n 1, 1) := by decide +kernel
theorem dX8_type_1 : decode cX8_type 1 = .ok (.ifCond .lt 10, 3) := by decide +kernel
theorem dX8_type_4 : decode cX8_type 4 = .ok (.iload_n 1, 1) := by decide +kernel
theorem dX8_type_5 : decode cX8_type 5 = .ok (.sipush 255, 3) := by decide +kernel
theorem dX8_type_8 : decode cX8_type 8 = .ok (.if_icmp .le 5, 3) := by decide +kernel
theorem dX8_type_11 : decode cX8_type 11 = .ok (.iconst (-1), 1) := by decide +kernel
theorem dX8_type_12 : decode cX8_type 12 = .ok (.ireturn, 1) := by decide +kernel
theorem dX8_type_13 : decode cX8_type 13 = .ok (.aload_n 0, 1) := by decide +kernel
theorem dX8_type_14 : decode cX8_type 14 = .ok (.getfield 10, 3) := by decide +kernel
theorem dX8_type_17 : decode cX8_type 17 = .ok (.iload_n 1, 1) := by decide +kernel
theorem dX8_type_18 : decode cX8_type 18 = .ok (.invokevirtual 83, 3) := by decide +kernel
theorem dX8_type_21 : decode cX8_type 21 = .ok (.ifCond .eq 13, 3) := by decide +kernel
theorem dX8_type_24 : decode cX8_type 24 = .ok (.aload_n 0, 1) := by decide +kernel
theorem dX8_type_25 : decode cX8_type 25 = .ok (.getfield 10, 3) := by decide +kernel
theorem dX8_type_28 : decode cX8_type 28 = .ok (.getfield 87, 3) := by decide +kernel
theorem dX8_type_31 : decode cX8_type 31 = .ok (.goto 5, 3) := by decide +kernel
theorem dX8_type_34 : decode cX8_type 34 = .ok (.bipush (-3), 2) := by decide +kernel
theorem dX8_type_36 : decode cX8_type 36 = .ok (.ireturn, 1) := by decide +kernel
set_option maxRecDepth 20000 in
theorem ggX8_clear_X6_empty : GoodIn wsX8_clear wsX6_empty := goodIn_r _ [6, 7, 19, 20] (by decide +kernel) (by decide +kernel)
set_option maxRecDepth 20000 in
theorem gX8_clear_X6_empty : GoodIn wsX8_clear (wsV RX8 91 RX6 yX6_empty wsX6_empty) := goodIn_app (goodIn_of _ (by decide +kernel)) ggX8_clear_X6_empty
theorem dX8_clear_0 : decode cX8_clear 0 = .ok (.aload_n 0, 1) := by decide +kernel
theorem dX8_clear_1 : decode cX8_clear 1 = .ok (.getfield 10, 3) := by decide +kernel
theorem dX8_clear_4 : decode cX8_clear 4 = .ok (.invokevirtual 91, 3) := by decide +kernel
theorem dX8_clear_7 : decode cX8_clear 7 = .ok (.ireturn, 1) := by decide +kernel
set_option maxRecDepth 20000 in
theorem ggX8_bed_X4_read : GoodIn wsX8_bed wsX4_read := goodIn_r _ [9, 10, 11, 12, 13, 14, 15, 16, 17, 18, 19, 20, 21, 22, 23, 24, 25, 26, 27, 28, 29, 30, 31, 32, 33, 34, 35, 36, 37, 38, 8, 39, 40, 41, 42, 43, 44, 45, 46, 47, 48, 49, 50, 51, 52, 53, 54, 55, 56, 57, 58, 59, 60, 61, 62, 63, 64, 65, 66, 67, 68, 69, 70, 71, 72, 73, 74, 75, 76, 77, 78, 79, 80, 81, 82, 83, 84, 85, 86, 87, 133, 134, 135, 136, 137, 138, 139, 140, 141, 142, 143, 144, 145, 146, 147, 148, 149] (by decide +kernel) (by decide +kernel)
set_option maxRecDepth 20000 in
theorem gX8_bed_X4_read : GoodIn wsX8_bed (wsV RX8 95 RX4 yX4_read wsX4_read) := goodIn_app (goodIn_of _ (by decide +kernel)) ggX8_bed_X4_read
set_option maxRecDepth 20000 in
theorem ggX8_bed_X0_copy : GoodIn wsX8_bed wsX0_copy := goodIn_r _ [91, 29, 30, 22, 23, 24, 92, 93, 94, 95, 25, 26, 27, 20, 28, 31, 142, 143, 144, 145, 146, 147] (by decide +kernel) (by decide +kernel)
set_option maxRecDepth 20000 in
theorem gX8_bed_X0_copy : GoodIn wsX8_bed (wsV RX8 101 RX0 yX0_copy wsX0_copy) := goodIn_app (goodIn_of _ (by decide +kernel)) ggX8_bed_X0_copy
set_option maxRecDepth 20000 in
theorem ggX8_bed_X6_empty : GoodIn wsX8_bed wsX6_empty := goodIn_r _ [99, 48, 148, 149] (by decide +kernel) (by decide +kernel)
set_option maxRecDepth 20000 in
theorem gX8_bed_X6_empty : GoodIn wsX8_bed (wsV RX8 91 RX6 yX6_empty wsX6_empty) := goodIn_app (goodIn_of _ (by decide +kernel)) ggX8_bed_X6_empty
set_option maxRecDepth 20000 in
theorem ggX8_bed_X8_startAnew : GoodIn wsX8_bed wsX8_startAnew := goodIn_r _ [104, 105, 2, 106, 107, 108, 109, 110, 111, 112, 113, 114, 115, 116, 117, 118, 119, 120, 121, 33, 34, 35, 122, 123, 124, 125, 126, 127, 128, 129, 130, 131, 132, 142, 143, 144, 145, 146, 147, 150, 151, 152, 153, 154, 155, 156, 157, 158, 159, 160] (by decide +kernel) (by decide +kernel)
set_option maxRecDepth 20000 in
theorem gX8_bed_X8_startAnew : GoodIn wsX8_bed (wsV RX8 104 RX8 yX8_startAnew wsX8_startAnew) := goodIn_app (goodIn_of _ (by decide +kernel)) ggX8_bed_X8_startAnew
theorem dX8_bed_0 : decode cX8_bed 0 = .ok (.aload_n 0, 1) := by decide +kernel
theorem dX8_bed_1 : decode cX8_bed 1 = .ok (.getfield 21, 3) := by decide +kernel
theorem dX8_bed_4 : decode cX8_bed 4 = .ok (.invokevirtual 95, 3) := by decide +kernel
theorem dX8_bed_7 : decode cX8_bed 7 = .ok (.istore_n 1, 1) := by decide +kernel
theorem dX8_bed_8 : decode cX8_bed 8 = .ok (.iload_n 1, 1) := by decide +kernel
theorem dX8_bed_9 : decode cX8_bed 9 = .ok (.ifCond .lt 29, 3) := by decide +kernel
theorem dX8_bed_12 : decode cX8_bed 12 = .ok (.aload_n 0, 1) := by decide +kernel
theorem dX8_bed_13 : decode cX8_bed 13 = .ok (.getfield 28, 3) := by decide +kernel
theorem dX8_bed_16 : decode cX8_bed 16 = .ok (.aload_n 0, 1) := by decide +kernel
theorem dX8_bed_17 : decode cX8_bed 17 = .ok (.getfield 21, 3) := by decide +kernel
theorem dX8_bed_20 : decode cX8_bed 20 = .ok (.getfield 98, 3) := by decide +kernel
theorem dX8_bed_23 : decode cX8_bed 23 = .ok (.invokevirtual 101, 3) := by decide +kernel
theorem dX8_bed_26 : decode cX8_bed 26 = .ok (.aload_n 0, 1) := by decide +kernel
theorem dX8_bed_27 : decode cX8_bed 27 = .ok (.getfield 10, 3) := by decide +kernel
theorem dX8_bed_30 : decode cX8_bed 30 = .ok (.invokevirtual 91, 3) := by decide +kernel
theorem dX8_bed_33 : decode cX8_bed 33 = .ok (.pop, 1) := by decide +kernel
theorem dX8_bed_34 : decode cX8_bed 34 = .ok (.aload_n 0, 1) := by decide +kernel
theorem dX8_bed_35 : decode cX8_bed 35 = .ok (.invokevirtual 104, 3) := by decide +kernel
theorem dX8_bed_38 : decode cX8_bed 38 = .ok (.iload_n 1, 1) := by decide +kernel
theorem dX8_bed_39 : decode cX8_bed 39 = .ok (.ireturn, 1) := by decide +kernel
set_option maxRecDepth 20000 in
theorem ggX8_lie_X0_has : GoodIn wsX8_lie wsX0_has := goodIn_r _ [9, 10, 31, 32, 33, 34, 35, 36] (by decide +kernel) (by decide +kernel)
set_option maxRecDepth 20000 in
theorem gX8_lie_X0_has : GoodIn wsX8_lie (wsV RX8 107 RX0 yX0_has wsX0_has) := goodIn_app (goodIn_of _ (by decide +kernel)) ggX8_lie_X0_has
set_option maxRecDepth 20000 in
theorem ggX8_lie_X0_stepOf : GoodIn wsX8_lie wsX0_stepOf := goodIn_r _ [14, 15, 31, 32, 33, 34, 35, 36] (by decide +kernel) (by decide +kernel)
set_option maxRecDepth 20000 in
theorem gX8_lie_X0_stepOf : GoodIn wsX8_lie (wsV RX8 110 RX0 yX0_stepOf wsX0_stepOf) := goodIn_app (goodIn_of _ (by decide +kernel)) ggX8_lie_X0_stepOf
set_option maxRecDepth 20000 in
theorem ggX8_lie_X0_coverOf : GoodIn wsX8_lie wsX0_coverOf := goodIn_r _ [19, 15, 31, 32, 33, 34, 35, 36] (by decide +kernel) (by decide +kernel)
set_option maxRecDepth 20000 in
theorem gX8_lie_X0_coverOf : GoodIn wsX8_lie (wsV RX8 114 RX0 yX0_coverOf wsX0_coverOf) := goodIn_app (goodIn_of _ (by decide +kernel)) ggX8_lie_X0_coverOf
theorem dX8_lie_0 : decode cX8_lie 0 = .ok (.aload_n 0, 1) := by decide +kernel
theorem dX8_lie_1 : decode cX8_lie 1 = .ok (.getfield 28, 3) := by decide +kernel
theorem dX8_lie_4 : decode cX8_lie 4 = .ok (.iload_n 1, 1) := by decide +kernel
theorem dX8_lie_5 : decode cX8_lie 5 = .ok (.invokevirtual 107, 3) := by decide +kernel
theorem dX8_lie_8 : decode cX8_lie 8 = .ok (.ifCond .ne 5, 3) := by decide +kernel
theorem dX8_lie_11 : decode cX8_lie 11 = .ok (.iconst (-1), 1) := by decide +kernel
theorem dX8_lie_12 : decode cX8_lie 12 = .ok (.ireturn, 1) := by decide +kernel
theorem dX8_lie_13 : decode cX8_lie 13 = .ok (.iload_n 2, 1) := by decide +kernel
theorem dX8_lie_14 : decode cX8_lie 14 = .ok (.tableswitch 68 0 3 #[30, 39, 48, 58], 30) := by decide +kernel
theorem dX8_lie_44 : decode cX8_lie 44 = .ok (.aload_n 0, 1) := by decide +kernel
theorem dX8_lie_45 : decode cX8_lie 45 = .ok (.getfield 28, 3) := by decide +kernel
theorem dX8_lie_48 : decode cX8_lie 48 = .ok (.iload_n 1, 1) := by decide +kernel
theorem dX8_lie_49 : decode cX8_lie 49 = .ok (.invokevirtual 110, 3) := by decide +kernel
theorem dX8_lie_52 : decode cX8_lie 52 = .ok (.ireturn, 1) := by decide +kernel
theorem dX8_lie_53 : decode cX8_lie 53 = .ok (.aload_n 0, 1) := by decide +kernel
theorem dX8_lie_54 : decode cX8_lie 54 = .ok (.getfield 28, 3) := by decide +kernel
theorem dX8_lie_57 : decode cX8_lie 57 = .ok (.iload_n 1, 1) := by decide +kernel
theorem dX8_lie_58 : decode cX8_lie 58 = .ok (.invokevirtual 114, 3) := by decide +kernel
theorem dX8_lie_61 : decode cX8_lie 61 = .ok (.ireturn, 1) := by decide +kernel
theorem dX8_lie_62 : decode cX8_lie 62 = .ok (.aload_n 0, 1) := by decide +kernel
theorem dX8_lie_63 : decode cX8_lie 63 = .ok (.getfield 28, 3) := by decide +kernel
theorem dX8_lie_66 : decode cX8_lie 66 = .ok (.getfield 117, 3) := by decide +kernel
theorem dX8_lie_69 : decode cX8_lie 69 = .ok (.iload_n 1, 1) := by decide +kernel
theorem dX8_lie_70 : decode cX8_lie 70 = .ok (.iaload, 1) := by decide +kernel
theorem dX8_lie_71 : decode cX8_lie 71 = .ok (.ireturn, 1) := by decide +kernel
theorem dX8_lie_72 : decode cX8_lie 72 = .ok (.aload_n 0, 1) := by decide +kernel
theorem dX8_lie_73 : decode cX8_lie 73 = .ok (.getfield 35, 3) := by decide +kernel
theorem dX8_lie_76 : decode cX8_lie 76 = .ok (.getfield 121, 3) := by decide +kernel
theorem dX8_lie_79 : decode cX8_lie 79 = .ok (.iload_n 1, 1) := by decide +kernel
theorem dX8_lie_80 : decode cX8_lie 80 = .ok (.iaload, 1) := by decide +kernel
theorem dX8_lie_81 : decode cX8_lie 81 = .ok (.ireturn, 1) := by decide +kernel
theorem dX8_lie_82 : decode cX8_lie 82 = .ok (.iconst (-1), 1) := by decide +kernel
theorem dX8_lie_83 : decode cX8_lie 83 = .ok (.ireturn, 1) := by decide +kernel
set_option maxRecDepth 20000 in
theorem ggX8_turned_X0_has : GoodIn wsX8_turned wsX0_has := goodIn_r _ [6, 7, 32, 33, 34, 35, 36, 37] (by decide +kernel) (by decide +kernel)
set_option maxRecDepth 20000 in
theorem gX8_turned_X0_has : GoodIn wsX8_turned (wsV RX8 107 RX0 yX0_has wsX0_has) := goodIn_app (goodIn_of _ (by decide +kernel)) ggX8_turned_X0_has
set_option maxRecDepth 20000 in
theorem ggX8_turned_X0_from : GoodIn wsX8_turned wsX0_from := goodIn_r _ [11, 12, 13, 14, 15, 5, 16, 17, 18, 19, 20, 32, 33, 34, 35, 36, 37] (by decide +kernel) (by decide +kernel)
set_option maxRecDepth 20000 in
theorem gX8_turned_X0_from : GoodIn wsX8_turned (wsV RX8 124 RX0 yX0_from wsX0_from) := goodIn_app (goodIn_of _ (by decide +kernel)) ggX8_turned_X0_from
theorem dX8_turned_0 : decode cX8_turned 0 = .ok (.aload_n 0, 1) := by decide +kernel
theorem dX8_turned_1 : decode cX8_turned 1 = .ok (.getfield 28, 3) := by decide +kernel
theorem dX8_turned_4 : decode cX8_turned 4 = .ok (.iload_n 1, 1) := by decide +kernel
theorem dX8_turned_5 : decode cX8_turned 5 = .ok (.invokevirtual 107, 3) := by decide +kernel
theorem dX8_turned_8 : decode cX8_turned 8 = .ok (.ifCond .eq 26, 3) := by decide +kernel
theorem dX8_turned_11 : decode cX8_turned 11 = .ok (.aload_n 0, 1) := by decide +kernel
theorem dX8_turned_12 : decode cX8_turned 12 = .ok (.getfield 28, 3) := by decide +kernel
theorem dX8_turned_15 : decode cX8_turned 15 = .ok (.iload_n 2, 1) := by decide +kernel
theorem dX8_turned_16 : decode cX8_turned 16 = .ok (.invokevirtual 107, 3) := by decide +kernel
theorem dX8_turned_19 : decode cX8_turned 19 = .ok (.ifCond .eq 15, 3) := by decide +kernel
theorem dX8_turned_22 : decode cX8_turned 22 = .ok (.aload_n 0, 1) := by decide +kernel
theorem dX8_turned_23 : decode cX8_turned 23 = .ok (.getfield 28, 3) := by decide +kernel
theorem dX8_turned_26 : decode cX8_turned 26 = .ok (.iload_n 1, 1) := by decide +kernel
theorem dX8_turned_27 : decode cX8_turned 27 = .ok (.iload_n 2, 1) := by decide +kernel
theorem dX8_turned_28 : decode cX8_turned 28 = .ok (.invokevirtual 124, 3) := by decide +kernel
theorem dX8_turned_31 : decode cX8_turned 31 = .ok (.goto 4, 3) := by decide +kernel
theorem dX8_turned_34 : decode cX8_turned 34 = .ok (.iconst (-1), 1) := by decide +kernel
theorem dX8_turned_35 : decode cX8_turned 35 = .ok (.ireturn, 1) := by decide +kernel
set_option maxRecDepth 20000 in
theorem ggX8_now_X7_isOut : GoodIn wsX8_now wsX7_isOut := goodIn_r _ [12, 13, 14, 15, 16, 17, 18, 19, 20, 21, 22, 23, 24, 25, 49, 50, 51, 52, 53, 54, 55, 56, 57, 42, 43, 44, 45] (by decide +kernel) (by decide +kernel)
set_option maxRecDepth 20000 in
theorem gX8_now_X7_isOut : GoodIn wsX8_now (wsV RX8 137 RX7 yX7_isOut wsX7_isOut) := goodIn_app (goodIn_of _ (by decide +kernel)) ggX8_now_X7_isOut
set_option maxRecDepth 20000 in
theorem ggX8_now_X2_greatest : GoodIn wsX8_now wsX2_greatest := goodIn_r _ [20, 21, 22, 23, 24, 25, 42, 43, 44, 45] (by decide +kernel) (by decide +kernel)
set_option maxRecDepth 20000 in
theorem gX8_now_X2_greatest : GoodIn wsX8_now (wsV RX8 141 RX2 yX2_greatest wsX2_greatest) := goodIn_app (goodIn_of _ (by decide +kernel)) ggX8_now_X2_greatest
set_option maxRecDepth 20000 in
theorem ggX8_now_X2_together : GoodIn wsX8_now wsX2_together := goodIn_r _ [30, 21, 42, 43, 44, 45] (by decide +kernel) (by decide +kernel)
set_option maxRecDepth 20000 in
theorem gX8_now_X2_together : GoodIn wsX8_now (wsV RX8 144 RX2 yX2_together wsX2_together) := goodIn_app (goodIn_of _ (by decide +kernel)) ggX8_now_X2_together
theorem dX8_now_0 : decode cX8_now 0 = .ok (.iload_n 1, 1) := by decide +kernel
theorem dX8_now_1 : decode cX8_now 1 = .ok (.tableswitch 107 0 6 #[43, 51, 59, 67, 83, 91, 99], 43) := by decide +kernel
theorem dX8_now_44 : decode cX8_now 44 = .ok (.aload_n 0, 1) := by decide +kernel
theorem dX8_now_45 : decode cX8_now 45 = .ok (.getfield 35, 3) := by decide +kernel
theorem dX8_now_48 : decode cX8_now 48 = .ok (.getfield 128, 3) := by decide +kernel
theorem dX8_now_51 : decode cX8_now 51 = .ok (.ireturn, 1) := by decide +kernel
theorem dX8_now_52 : decode cX8_now 52 = .ok (.aload_n 0, 1) := by decide +kernel
theorem dX8_now_53 : decode cX8_now 53 = .ok (.getfield 35, 3) := by decide +kernel
theorem dX8_now_56 : decode cX8_now 56 = .ok (.getfield 131, 3) := by decide +kernel
theorem dX8_now_59 : decode cX8_now 59 = .ok (.ireturn, 1) := by decide +kernel
theorem dX8_now_60 : decode cX8_now 60 = .ok (.aload_n 0, 1) := by decide +kernel
theorem dX8_now_61 : decode cX8_now 61 = .ok (.getfield 35, 3) := by decide +kernel
theorem dX8_now_64 : decode cX8_now 64 = .ok (.getfield 134, 3) := by decide +kernel
theorem dX8_now_67 : decode cX8_now 67 = .ok (.ireturn, 1) := by decide +kernel
theorem dX8_now_68 : decode cX8_now 68 = .ok (.aload_n 0, 1) := by decide +kernel
theorem dX8_now_69 : decode cX8_now 69 = .ok (.getfield 60, 3) := by decide +kernel
theorem dX8_now_72 : decode cX8_now 72 = .ok (.invokevirtual 137, 3) := by decide +kernel
theorem dX8_now_75 : decode cX8_now 75 = .ok (.ifCond .eq 7, 3) := by decide +kernel
theorem dX8_now_78 : decode cX8_now 78 = .ok (.iconst 1, 1) := by decide +kernel
theorem dX8_now_79 : decode cX8_now 79 = .ok (.goto 4, 3) := by decide +kernel
theorem dX8_now_82 : decode cX8_now 82 = .ok (.iconst 0, 1) := by decide +kernel
theorem dX8_now_83 : decode cX8_now 83 = .ok (.ireturn, 1) := by decide +kernel
theorem dX8_now_84 : decode cX8_now 84 = .ok (.aload_n 0, 1) := by decide +kernel
theorem dX8_now_85 : decode cX8_now 85 = .ok (.getfield 35, 3) := by decide +kernel
theorem dX8_now_88 : decode cX8_now 88 = .ok (.invokevirtual 141, 3) := by decide +kernel
theorem dX8_now_91 : decode cX8_now 91 = .ok (.ireturn, 1) := by decide +kernel
theorem dX8_now_92 : decode cX8_now 92 = .ok (.aload_n 0, 1) := by decide +kernel
theorem dX8_now_93 : decode cX8_now 93 = .ok (.getfield 35, 3) := by decide +kernel
theorem dX8_now_96 : decode cX8_now 96 = .ok (.invokevirtual 144, 3) := by decide +kernel
theorem dX8_now_99 : decode cX8_now 99 = .ok (.ireturn, 1) := by decide +kernel
theorem dX8_now_100 : decode cX8_now 100 = .ok (.aload_n 0, 1) := by decide +kernel
theorem dX8_now_101 : decode cX8_now 101 = .ok (.getfield 42, 3) := by decide +kernel
theorem dX8_now_104 : decode cX8_now 104 = .ok (.getfield 147, 3) := by decide +kernel
theorem dX8_now_107 : decode cX8_now 107 = .ok (.ireturn, 1) := by decide +kernel
theorem dX8_now_108 : decode cX8_now 108 = .ok (.iconst (-1), 1) := by decide +kernel
theorem dX8_now_109 : decode cX8_now 109 = .ok (.ireturn, 1) := by decide +kernel
set_option maxRecDepth 20000 in
theorem ggX8_season_X7_isOut : GoodIn wsX8_season wsX7_isOut := goodIn_r _ [17, 18, 19, 20, 21, 22, 23, 24, 25, 26, 27, 28, 11, 29, 71, 72, 73, 65, 66, 67, 68, 69, 70, 61, 62, 63, 64] (by decide +kernel) (by decide +kernel)
set_option maxRecDepth 20000 in
theorem gX8_season_X7_isOut : GoodIn wsX8_season (wsV RX8 137 RX7 yX7_isOut wsX7_isOut) := goodIn_app (goodIn_of _ (by decide +kernel)) ggX8_season_X7_isOut
set_option maxRecDepth 20000 in
theorem ggX8_season_X3_remember : GoodIn wsX8_season wsX3_remember := goodIn_r _ [34, 35, 36, 37, 38, 10, 11, 12, 39, 40, 41, 24, 42, 43, 44, 45, 26, 46, 47, 48, 49, 74, 75, 76, 61, 62, 63, 64] (by decide +kernel) (by decide +kernel)
set_option maxRecDepth 20000 in
theorem gX8_season_X3_remember : GoodIn wsX8_season (wsV RX8 150 RX3 yX3_remember wsX3_remember) := goodIn_app (goodIn_of _ (by decide +kernel)) ggX8_season_X3_remember
theorem dX8_season_0 : decode cX8_season 0 = .ok (.aload_n 0, 1) := by decide +kernel
theorem dX8_season_1 : decode cX8_season 1 = .ok (.getfield 60, 3) := by decide +kernel
theorem dX8_season_4 : decode cX8_season 4 = .ok (.invokevirtual 137, 3) := by decide +kernel
theorem dX8_season_7 : decode cX8_season 7 = .ok (.ifCond .ne 16, 3) := by decide +kernel
theorem dX8_season_10 : decode cX8_season 10 = .ok (.aload_n 0, 1) := by decide +kernel
theorem dX8_season_11 : decode cX8_season 11 = .ok (.getfield 35, 3) := by decide +kernel
theorem dX8_season_14 : decode cX8_season 14 = .ok (.getfield 128, 3) := by decide +kernel
theorem dX8_season_17 : decode cX8_season 17 = .ok (.sipush 999, 3) := by decide +kernel
theorem dX8_season_20 : decode cX8_season 20 = .ok (.if_icmp .lt 6, 3) := by decide +kernel
theorem dX8_season_23 : decode cX8_season 23 = .ok (.bipush (-2), 2) := by decide +kernel
theorem dX8_season_25 : decode cX8_season 25 = .ok (.ireturn, 1) := by decide +kernel
theorem dX8_season_26 : decode cX8_season 26 = .ok (.aload_n 0, 1) := by decide +kernel
theorem dX8_season_27 : decode cX8_season 27 = .ok (.getfield 42, 3) := by decide +kernel
theorem dX8_season_30 : decode cX8_season 30 = .ok (.aload_n 0, 1) := by decide +kernel
theorem dX8_season_31 : decode cX8_season 31 = .ok (.getfield 35, 3) := by decide +kernel
theorem dX8_season_34 : decode cX8_season 34 = .ok (.invokevirtual 150, 3) := by decide +kernel
theorem dX8_season_37 : decode cX8_season 37 = .ok (.aload_n 0, 1) := by decide +kernel
theorem dX8_season_38 : decode cX8_season 38 = .ok (.getfield 35, 3) := by decide +kernel
theorem dX8_season_41 : decode cX8_season 41 = .ok (.getfield 131, 3) := by decide +kernel
theorem dX8_season_44 : decode cX8_season 44 = .ok (.istore_n 1, 1) := by decide +kernel
theorem dX8_season_45 : decode cX8_season 45 = .ok (.aload_n 0, 1) := by decide +kernel
theorem dX8_season_46 : decode cX8_season 46 = .ok (.getfield 35, 3) := by decide +kernel
theorem dX8_season_49 : decode cX8_season 49 = .ok (.getfield 121, 3) := by decide +kernel
theorem dX8_season_52 : decode cX8_season 52 = .ok (.iload_n 1, 1) := by decide +kernel
theorem dX8_season_53 : decode cX8_season 53 = .ok (.sipush 999, 3) := by decide +kernel
theorem dX8_season_56 : decode cX8_season 56 = .ok (.aload_n 0, 1) := by decide +kernel
theorem dX8_season_57 : decode cX8_season 57 = .ok (.getfield 35, 3) := by decide +kernel
theorem dX8_season_60 : decode cX8_season 60 = .ok (.getfield 121, 3) := by decide +kernel
theorem dX8_season_63 : decode cX8_season 63 = .ok (.iload_n 1, 1) := by decide +kernel
theorem dX8_season_64 : decode cX8_season 64 = .ok (.iaload, 1) := by decide +kernel
theorem dX8_season_65 : decode cX8_season 65 = .ok (.aload_n 0, 1) := by decide +kernel
theorem dX8_season_66 : decode cX8_season 66 = .ok (.getfield 28, 3) := by decide +kernel
theorem dX8_season_69 : decode cX8_season 69 = .ok (.getfield 117, 3) := by decide +kernel
theorem dX8_season_72 : decode cX8_season 72 = .ok (.iload_n 1, 1) := by decide +kernel
theorem dX8_season_73 : decode cX8_season 73 = .ok (.iaload, 1) := by decide +kernel
theorem dX8_season_74 : decode cX8_season 74 = .ok (.iadd, 1) := by decide +kernel
theorem dX8_season_75 : decode cX8_season 75 = .ok (.invokestatic 154, 3) := by decide +kernel
theorem dX8_season_78 : decode cX8_season 78 = .ok (.iastore, 1) := by decide +kernel
theorem dX8_season_79 : decode cX8_season 79 = .ok (.aload_n 0, 1) := by decide +kernel
theorem dX8_season_80 : decode cX8_season 80 = .ok (.getfield 35, 3) := by decide +kernel
theorem dX8_season_83 : decode cX8_season 83 = .ok (.dup, 1) := by decide +kernel
theorem dX8_season_84 : decode cX8_season 84 = .ok (.getfield 128, 3) := by decide +kernel
theorem dX8_season_87 : decode cX8_season 87 = .ok (.iconst 1, 1) := by decide +kernel
theorem dX8_season_88 : decode cX8_season 88 = .ok (.iadd, 1) := by decide +kernel
theorem dX8_season_89 : decode cX8_season 89 = .ok (.putfield 128, 3) := by decide +kernel
theorem dX8_season_92 : decode cX8_season 92 = .ok (.aload_n 0, 1) := by decide +kernel
theorem dX8_season_93 : decode cX8_season 93 = .ok (.getfield 35, 3) := by decide +kernel
theorem dX8_season_96 : decode cX8_season 96 = .ok (.getfield 121, 3) := by decide +kernel
theorem dX8_season_99 : decode cX8_season 99 = .ok (.iload_n 1, 1) := by decide +kernel
theorem dX8_season_100 : decode cX8_season 100 = .ok (.iaload, 1) := by decide +kernel
theorem dX8_season_101 : decode cX8_season 101 = .ok (.ireturn, 1) := by decide +kernel
set_option maxRecDepth 20000 in
theorem ggX8_makes_X0_has : GoodIn wsX8_makes wsX0_has := goodIn_r _ [14, 15, 66, 67, 68, 69, 70, 71] (by decide +kernel) (by decide +kernel)
set_option maxRecDepth 20000 in
theorem gX8_makes_X0_has : GoodIn wsX8_makes (wsV RX8 107 RX0 yX0_has wsX0_has) := goodIn_app (goodIn_of _ (by decide +kernel)) ggX8_makes_X0_has
set_option maxRecDepth 20000 in
theorem ggX8_makes_X3_remember : GoodIn wsX8_makes wsX3_remember := goodIn_r _ [20, 21, 22, 23, 24, 7, 8, 9, 25, 26, 27, 28, 29, 30, 31, 32, 33, 34, 35, 36, 37, 72, 73, 74, 62, 63, 64, 65] (by decide +kernel) (by decide +kernel)
set_option maxRecDepth 20000 in
theorem gX8_makes_X3_remember : GoodIn wsX8_makes (wsV RX8 150 RX3 yX3_remember wsX3_remember) := goodIn_app (goodIn_of _ (by decide +kernel)) ggX8_makes_X3_remember
set_option maxRecDepth 20000 in
theorem ggX8_makes_X0_from : GoodIn wsX8_makes wsX0_from := goodIn_r _ [41, 42, 43, 44, 45, 13, 46, 47, 48, 49, 50, 66, 67, 68, 69, 70, 71] (by decide +kernel) (by decide +kernel)
set_option maxRecDepth 20000 in
theorem gX8_makes_X0_from : GoodIn wsX8_makes (wsV RX8 124 RX0 yX0_from wsX0_from) := goodIn_app (goodIn_of _ (by decide +kernel)) ggX8_makes_X0_from
theorem dX8_makes_0 : decode cX8_makes 0 = .ok (.aload_n 0, 1) := by decide +kernel
theorem dX8_makes_1 : decode cX8_makes 1 = .ok (.getfield 28, 3) := by decide +kernel
theorem dX8_makes_4 : decode cX8_makes 4 = .ok (.iload_n 1, 1) := by decide +kernel
theorem dX8_makes_5 : decode cX8_makes 5 = .ok (.invokevirtual 107, 3) := by decide +kernel
theorem dX8_makes_8 : decode cX8_makes 8 = .ok (.ifCond .ne 5, 3) := by decide +kernel
theorem dX8_makes_11 : decode cX8_makes 11 = .ok (.iconst (-1), 1) := by decide +kernel
theorem dX8_makes_12 : decode cX8_makes 12 = .ok (.ireturn, 1) := by decide +kernel
theorem dX8_makes_13 : decode cX8_makes 13 = .ok (.aload_n 0, 1) := by decide +kernel
theorem dX8_makes_14 : decode cX8_makes 14 = .ok (.getfield 42, 3) := by decide +kernel
theorem dX8_makes_17 : decode cX8_makes 17 = .ok (.aload_n 0, 1) := by decide +kernel
theorem dX8_makes_18 : decode cX8_makes 18 = .ok (.getfield 35, 3) := by decide +kernel
theorem dX8_makes_21 : decode cX8_makes 21 = .ok (.invokevirtual 150, 3) := by decide +kernel
theorem dX8_makes_24 : decode cX8_makes 24 = .ok (.aload_n 0, 1) := by decide +kernel
theorem dX8_makes_25 : decode cX8_makes 25 = .ok (.getfield 35, 3) := by decide +kernel
theorem dX8_makes_28 : decode cX8_makes 28 = .ok (.aload_n 0, 1) := by decide +kernel
theorem dX8_makes_29 : decode cX8_makes 29 = .ok (.getfield 28, 3) := by decide +kernel
theorem dX8_makes_32 : decode cX8_makes 32 = .ok (.aload_n 0, 1) := by decide +kernel
theorem dX8_makes_33 : decode cX8_makes 33 = .ok (.getfield 35, 3) := by decide +kernel
theorem dX8_makes_36 : decode cX8_makes 36 = .ok (.getfield 131, 3) := by decide +kernel
theorem dX8_makes_39 : decode cX8_makes 39 = .ok (.iload_n 1, 1) := by decide +kernel
theorem dX8_makes_40 : decode cX8_makes 40 = .ok (.invokevirtual 124, 3) := by decide +kernel
theorem dX8_makes_43 : decode cX8_makes 43 = .ok (.putfield 131, 3) := by decide +kernel
theorem dX8_makes_46 : decode cX8_makes 46 = .ok (.aload_n 0, 1) := by decide +kernel
theorem dX8_makes_47 : decode cX8_makes 47 = .ok (.getfield 35, 3) := by decide +kernel
theorem dX8_makes_50 : decode cX8_makes 50 = .ok (.sipush 9999, 3) := by decide +kernel
theorem dX8_makes_53 : decode cX8_makes 53 = .ok (.aload_n 0, 1) := by decide +kernel
theorem dX8_makes_54 : decode cX8_makes 54 = .ok (.getfield 35, 3) := by decide +kernel
theorem dX8_makes_57 : decode cX8_makes 57 = .ok (.getfield 134, 3) := by decide +kernel
