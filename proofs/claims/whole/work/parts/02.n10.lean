theorem dX9_reach_81 : decode cX9_reach 81 = .ok (.ishl, 1) := by decide +kernel
theorem dX9_reach_82 : decode cX9_reach 82 = .ok (.goto 4, 3) := by decide +kernel
theorem dX9_reach_85 : decode cX9_reach 85 = .ok (.iconst 0, 1) := by decide +kernel
theorem dX9_reach_86 : decode cX9_reach 86 = .ok (.ior, 1) := by decide +kernel
theorem dX9_reach_87 : decode cX9_reach 87 = .ok (.istore_n 2, 1) := by decide +kernel
theorem dX9_reach_88 : decode cX9_reach 88 = .ok (.iinc 5 1, 3) := by decide +kernel
theorem dX9_reach_91 : decode cX9_reach 91 = .ok (.goto (-47), 3) := by decide +kernel
theorem dX9_reach_94 : decode cX9_reach 94 = .ok (.iinc 4 1, 3) := by decide +kernel
theorem dX9_reach_97 : decode cX9_reach 97 = .ok (.goto (-65), 3) := by decide +kernel
theorem dX9_reach_100 : decode cX9_reach 100 = .ok (.iinc 3 1, 3) := by decide +kernel
theorem dX9_reach_103 : decode cX9_reach 103 = .ok (.goto (-82), 3) := by decide +kernel
theorem dX9_reach_106 : decode cX9_reach 106 = .ok (.iload_n 2, 1) := by decide +kernel
theorem dX9_reach_107 : decode cX9_reach 107 = .ok (.ireturn, 1) := by decide +kernel
set_option maxRecDepth 20000 in
theorem ggX9_goesOn_X9_from : GoodIn wsX9_goesOn wsX9_from := goodIn_r _ [8, 9, 13, 14, 15, 16, 17, 18, 19, 20, 21, 22, 23, 24, 25, 26, 27, 28, 29, 30, 31, 32, 33, 34, 35, 36, 37, 38, 39, 40, 41, 42] (by decide +kernel) (by decide +kernel)
set_option maxRecDepth 20000 in
theorem gX9_goesOn_X9_from : GoodIn wsX9_goesOn (wsV RX9 136 RX9 yX9_from wsX9_from) := goodIn_app (goodIn_of _ (by decide +kernel)) ggX9_goesOn_X9_from
set_option maxRecDepth 20000 in
theorem ggX9_goesOn_X9_has : GoodIn wsX9_goesOn wsX9_has := goodIn_r _ [12] (by decide +kernel) (by decide +kernel)
set_option maxRecDepth 20000 in
theorem gX9_goesOn_X9_has : GoodIn wsX9_goesOn (va_wsS RX9 165 yX9_has wsX9_has) := goodIn_app (goodIn_of _ (by decide +kernel)) ggX9_goesOn_X9_has
theorem dX9_goesOn_0 : decode cX9_goesOn 0 = .ok (.aload_n 0, 1) := by decide +kernel
theorem dX9_goesOn_1 : decode cX9_goesOn 1 = .ok (.iload_n 3, 1) := by decide +kernel
theorem dX9_goesOn_2 : decode cX9_goesOn 2 = .ok (.iload 4, 2) := by decide +kernel
theorem dX9_goesOn_4 : decode cX9_goesOn 4 = .ok (.invokevirtual 136, 3) := by decide +kernel
theorem dX9_goesOn_7 : decode cX9_goesOn 7 = .ok (.istore 5, 2) := by decide +kernel
theorem dX9_goesOn_9 : decode cX9_goesOn 9 = .ok (.iload_n 2, 1) := by decide +kernel
theorem dX9_goesOn_10 : decode cX9_goesOn 10 = .ok (.iconst 1, 1) := by decide +kernel
theorem dX9_goesOn_11 : decode cX9_goesOn 11 = .ok (.aload_n 0, 1) := by decide +kernel
theorem dX9_goesOn_12 : decode cX9_goesOn 12 = .ok (.getfield 16, 3) := by decide +kernel
theorem dX9_goesOn_15 : decode cX9_goesOn 15 = .ok (.ishl, 1) := by decide +kernel
theorem dX9_goesOn_16 : decode cX9_goesOn 16 = .ok (.iconst 1, 1) := by decide +kernel
theorem dX9_goesOn_17 : decode cX9_goesOn 17 = .ok (.isub, 1) := by decide +kernel
theorem dX9_goesOn_18 : decode cX9_goesOn 18 = .ok (.if_icmp .ne 18, 3) := by decide +kernel
theorem dX9_goesOn_21 : decode cX9_goesOn 21 = .ok (.iload 5, 2) := by decide +kernel
theorem dX9_goesOn_23 : decode cX9_goesOn 23 = .ok (.aload_n 0, 1) := by decide +kernel
theorem dX9_goesOn_24 : decode cX9_goesOn 24 = .ok (.getfield 26, 3) := by decide +kernel
theorem dX9_goesOn_27 : decode cX9_goesOn 27 = .ok (.iconst 1, 1) := by decide +kernel
theorem dX9_goesOn_28 : decode cX9_goesOn 28 = .ok (.iaload, 1) := by decide +kernel
theorem dX9_goesOn_29 : decode cX9_goesOn 29 = .ok (.if_icmp .ne 7, 3) := by decide +kernel
theorem dX9_goesOn_32 : decode cX9_goesOn 32 = .ok (.iconst 1, 1) := by decide +kernel
theorem dX9_goesOn_33 : decode cX9_goesOn 33 = .ok (.goto 4, 3) := by decide +kernel
theorem dX9_goesOn_36 : decode cX9_goesOn 36 = .ok (.iconst 0, 1) := by decide +kernel
theorem dX9_goesOn_37 : decode cX9_goesOn 37 = .ok (.istore 6, 2) := by decide +kernel
theorem dX9_goesOn_39 : decode cX9_goesOn 39 = .ok (.iload_n 1, 1) := by decide +kernel
theorem dX9_goesOn_40 : decode cX9_goesOn 40 = .ok (.iload 4, 2) := by decide +kernel
theorem dX9_goesOn_42 : decode cX9_goesOn 42 = .ok (.invokestatic 165, 3) := by decide +kernel
theorem dX9_goesOn_45 : decode cX9_goesOn 45 = .ok (.ifCond .eq 40, 3) := by decide +kernel
theorem dX9_goesOn_48 : decode cX9_goesOn 48 = .ok (.iload 6, 2) := by decide +kernel
theorem dX9_goesOn_50 : decode cX9_goesOn 50 = .ok (.ifCond .ne 31, 3) := by decide +kernel
theorem dX9_goesOn_53 : decode cX9_goesOn 53 = .ok (.iload_n 2, 1) := by decide +kernel
theorem dX9_goesOn_54 : decode cX9_goesOn 54 = .ok (.iload 5, 2) := by decide +kernel
theorem dX9_goesOn_56 : decode cX9_goesOn 56 = .ok (.invokestatic 165, 3) := by decide +kernel
theorem dX9_goesOn_59 : decode cX9_goesOn 59 = .ok (.ifCond .ne 26, 3) := by decide +kernel
theorem dX9_goesOn_62 : decode cX9_goesOn 62 = .ok (.aload_n 0, 1) := by decide +kernel
theorem dX9_goesOn_63 : decode cX9_goesOn 63 = .ok (.getfield 51, 3) := by decide +kernel
theorem dX9_goesOn_66 : decode cX9_goesOn 66 = .ok (.iload_n 2, 1) := by decide +kernel
theorem dX9_goesOn_67 : decode cX9_goesOn 67 = .ok (.iconst 1, 1) := by decide +kernel
theorem dX9_goesOn_68 : decode cX9_goesOn 68 = .ok (.iload 5, 2) := by decide +kernel
theorem dX9_goesOn_70 : decode cX9_goesOn 70 = .ok (.ishl, 1) := by decide +kernel
theorem dX9_goesOn_71 : decode cX9_goesOn 71 = .ok (.ior, 1) := by decide +kernel
theorem dX9_goesOn_72 : decode cX9_goesOn 72 = .ok (.iaload, 1) := by decide +kernel
theorem dX9_goesOn_73 : decode cX9_goesOn 73 = .ok (.iload 5, 2) := by decide +kernel
theorem dX9_goesOn_75 : decode cX9_goesOn 75 = .ok (.invokestatic 165, 3) := by decide +kernel
theorem dX9_goesOn_78 : decode cX9_goesOn 78 = .ok (.ifCond .eq 7, 3) := by decide +kernel
theorem dX9_goesOn_81 : decode cX9_goesOn 81 = .ok (.iconst 1, 1) := by decide +kernel
theorem dX9_goesOn_82 : decode cX9_goesOn 82 = .ok (.goto 4, 3) := by decide +kernel
theorem dX9_goesOn_85 : decode cX9_goesOn 85 = .ok (.iconst 0, 1) := by decide +kernel
theorem dX9_goesOn_86 : decode cX9_goesOn 86 = .ok (.ireturn, 1) := by decide +kernel
set_option maxRecDepth 20000 in
theorem ggX9_findRounds_X9_has : GoodIn wsX9_findRounds wsX9_has := goodIn_r _ [7] (by decide +kernel) (by decide +kernel)
set_option maxRecDepth 20000 in
theorem gX9_findRounds_X9_has : GoodIn wsX9_findRounds (va_wsS RX9 165 yX9_has wsX9_has) := goodIn_app (goodIn_of _ (by decide +kernel)) ggX9_findRounds_X9_has
set_option maxRecDepth 20000 in
theorem ggX9_findRounds_X9_goesOn : GoodIn wsX9_findRounds wsX9_goesOn := goodIn_r _ [11, 1, 3, 2, 12, 13, 14, 6, 15, 16, 4, 5, 7, 17, 18, 19, 20, 21, 22, 23, 24, 25, 26, 27, 28, 29, 30, 31, 32, 33, 34, 35, 36, 37, 38, 39, 40, 41, 42, 43, 44, 45, 46] (by decide +kernel) (by decide +kernel)
set_option maxRecDepth 20000 in
theorem gX9_findRounds_X9_goesOn : GoodIn wsX9_findRounds (wsV RX9 169 RX9 yX9_goesOn wsX9_goesOn) := goodIn_app (goodIn_of _ (by decide +kernel)) ggX9_findRounds_X9_goesOn
theorem dX9_findRounds_0 : decode cX9_findRounds 0 = .ok (.iconst 1, 1) := by decide +kernel
theorem dX9_findRounds_1 : decode cX9_findRounds 1 = .ok (.aload_n 0, 1) := by decide +kernel
theorem dX9_findRounds_2 : decode cX9_findRounds 2 = .ok (.getfield 16, 3) := by decide +kernel
theorem dX9_findRounds_5 : decode cX9_findRounds 5 = .ok (.ishl, 1) := by decide +kernel
theorem dX9_findRounds_6 : decode cX9_findRounds 6 = .ok (.iconst 1, 1) := by decide +kernel
theorem dX9_findRounds_7 : decode cX9_findRounds 7 = .ok (.isub, 1) := by decide +kernel
theorem dX9_findRounds_8 : decode cX9_findRounds 8 = .ok (.istore_n 2, 1) := by decide +kernel
theorem dX9_findRounds_9 : decode cX9_findRounds 9 = .ok (.iload_n 2, 1) := by decide +kernel
theorem dX9_findRounds_10 : decode cX9_findRounds 10 = .ok (.ifCond .le 111, 3) := by decide +kernel
theorem dX9_findRounds_13 : decode cX9_findRounds 13 = .ok (.aload_n 0, 1) := by decide +kernel
theorem dX9_findRounds_14 : decode cX9_findRounds 14 = .ok (.getfield 51, 3) := by decide +kernel
theorem dX9_findRounds_17 : decode cX9_findRounds 17 = .ok (.iload_n 2, 1) := by decide +kernel
theorem dX9_findRounds_18 : decode cX9_findRounds 18 = .ok (.iconst 0, 1) := by decide +kernel
theorem dX9_findRounds_19 : decode cX9_findRounds 19 = .ok (.iastore, 1) := by decide +kernel
theorem dX9_findRounds_20 : decode cX9_findRounds 20 = .ok (.iconst 0, 1) := by decide +kernel
theorem dX9_findRounds_21 : decode cX9_findRounds 21 = .ok (.istore_n 3, 1) := by decide +kernel
theorem dX9_findRounds_22 : decode cX9_findRounds 22 = .ok (.iload_n 3, 1) := by decide +kernel
theorem dX9_findRounds_23 : decode cX9_findRounds 23 = .ok (.aload_n 0, 1) := by decide +kernel
theorem dX9_findRounds_24 : decode cX9_findRounds 24 = .ok (.getfield 16, 3) := by decide +kernel
theorem dX9_findRounds_27 : decode cX9_findRounds 27 = .ok (.if_icmp .ge 88, 3) := by decide +kernel
theorem dX9_findRounds_30 : decode cX9_findRounds 30 = .ok (.iload_n 2, 1) := by decide +kernel
theorem dX9_findRounds_31 : decode cX9_findRounds 31 = .ok (.aload_n 0, 1) := by decide +kernel
theorem dX9_findRounds_32 : decode cX9_findRounds 32 = .ok (.getfield 26, 3) := by decide +kernel
theorem dX9_findRounds_35 : decode cX9_findRounds 35 = .ok (.iconst 1, 1) := by decide +kernel
theorem dX9_findRounds_36 : decode cX9_findRounds 36 = .ok (.iaload, 1) := by decide +kernel
theorem dX9_findRounds_37 : decode cX9_findRounds 37 = .ok (.invokestatic 165, 3) := by decide +kernel
theorem dX9_findRounds_40 : decode cX9_findRounds 40 = .ok (.ifCond .eq 75, 3) := by decide +kernel
theorem dX9_findRounds_43 : decode cX9_findRounds 43 = .ok (.iconst 0, 1) := by decide +kernel
theorem dX9_findRounds_44 : decode cX9_findRounds 44 = .ok (.istore 4, 2) := by decide +kernel
theorem dX9_findRounds_46 : decode cX9_findRounds 46 = .ok (.iconst 0, 1) := by decide +kernel
theorem dX9_findRounds_47 : decode cX9_findRounds 47 = .ok (.istore 5, 2) := by decide +kernel
theorem dX9_findRounds_49 : decode cX9_findRounds 49 = .ok (.iload 5, 2) := by decide +kernel
theorem dX9_findRounds_51 : decode cX9_findRounds 51 = .ok (.aload_n 0, 1) := by decide +kernel
theorem dX9_findRounds_52 : decode cX9_findRounds 52 = .ok (.getfield 16, 3) := by decide +kernel
theorem dX9_findRounds_55 : decode cX9_findRounds 55 = .ok (.if_icmp .ge 33, 3) := by decide +kernel
theorem dX9_findRounds_58 : decode cX9_findRounds 58 = .ok (.iload_n 2, 1) := by decide +kernel
theorem dX9_findRounds_59 : decode cX9_findRounds 59 = .ok (.iload_n 3, 1) := by decide +kernel
theorem dX9_findRounds_60 : decode cX9_findRounds 60 = .ok (.invokestatic 165, 3) := by decide +kernel
theorem dX9_findRounds_63 : decode cX9_findRounds 63 = .ok (.ifCond .eq 25, 3) := by decide +kernel
theorem dX9_findRounds_66 : decode cX9_findRounds 66 = .ok (.iload 4, 2) := by decide +kernel
theorem dX9_findRounds_68 : decode cX9_findRounds 68 = .ok (.ifCond .ne 20, 3) := by decide +kernel
theorem dX9_findRounds_71 : decode cX9_findRounds 71 = .ok (.aload_n 0, 1) := by decide +kernel
theorem dX9_findRounds_72 : decode cX9_findRounds 72 = .ok (.iload_n 1, 1) := by decide +kernel
theorem dX9_findRounds_73 : decode cX9_findRounds 73 = .ok (.iload_n 2, 1) := by decide +kernel
theorem dX9_findRounds_74 : decode cX9_findRounds 74 = .ok (.iload_n 3, 1) := by decide +kernel
theorem dX9_findRounds_75 : decode cX9_findRounds 75 = .ok (.iload 5, 2) := by decide +kernel
theorem dX9_findRounds_77 : decode cX9_findRounds 77 = .ok (.invokevirtual 169, 3) := by decide +kernel
theorem dX9_findRounds_80 : decode cX9_findRounds 80 = .ok (.istore 4, 2) := by decide +kernel
theorem dX9_findRounds_82 : decode cX9_findRounds 82 = .ok (.iinc 5 1, 3) := by decide +kernel
theorem dX9_findRounds_85 : decode cX9_findRounds 85 = .ok (.goto (-36), 3) := by decide +kernel
theorem dX9_findRounds_88 : decode cX9_findRounds 88 = .ok (.aload_n 0, 1) := by decide +kernel
theorem dX9_findRounds_89 : decode cX9_findRounds 89 = .ok (.getfield 51, 3) := by decide +kernel
theorem dX9_findRounds_92 : decode cX9_findRounds 92 = .ok (.iload_n 2, 1) := by decide +kernel
theorem dX9_findRounds_93 : decode cX9_findRounds 93 = .ok (.dup2, 1) := by decide +kernel
theorem dX9_findRounds_94 : decode cX9_findRounds 94 = .ok (.iaload, 1) := by decide +kernel
theorem dX9_findRounds_95 : decode cX9_findRounds 95 = .ok (.iload 4, 2) := by decide +kernel
theorem dX9_findRounds_97 : decode cX9_findRounds 97 = .ok (.ifCond .eq 9, 3) := by decide +kernel
theorem dX9_findRounds_100 : decode cX9_findRounds 100 = .ok (.iconst 1, 1) := by decide +kernel
theorem dX9_findRounds_101 : decode cX9_findRounds 101 = .ok (.iload_n 3, 1) := by decide +kernel
theorem dX9_findRounds_102 : decode cX9_findRounds 102 = .ok (.ishl, 1) := by decide +kernel
theorem dX9_findRounds_103 : decode cX9_findRounds 103 = .ok (.goto 4, 3) := by decide +kernel
theorem dX9_findRounds_106 : decode cX9_findRounds 106 = .ok (.iconst 0, 1) := by decide +kernel
theorem dX9_findRounds_107 : decode cX9_findRounds 107 = .ok (.ior, 1) := by decide +kernel
theorem dX9_findRounds_108 : decode cX9_findRounds 108 = .ok (.iastore, 1) := by decide +kernel
theorem dX9_findRounds_109 : decode cX9_findRounds 109 = .ok (.iinc 3 1, 3) := by decide +kernel
theorem dX9_findRounds_112 : decode cX9_findRounds 112 = .ok (.goto (-90), 3) := by decide +kernel
theorem dX9_findRounds_115 : decode cX9_findRounds 115 = .ok (.iinc 2 (-1), 3) := by decide +kernel
theorem dX9_findRounds_118 : decode cX9_findRounds 118 = .ok (.goto (-109), 3) := by decide +kernel
theorem dX9_findRounds_121 : decode cX9_findRounds 121 = .ok (.return_, 1) := by decide +kernel
set_option maxRecDepth 20000 in
theorem ggX9_round_X9_isSet : GoodIn wsX9_round wsX9_isSet := goodIn_r _ [8, 3, 9, 10, 7, 11, 28, 29, 30, 31, 32, 33, 34, 35, 36, 37, 38, 39, 40, 41, 42, 43, 44, 45, 46, 47, 48, 49, 50, 51, 52, 53, 54, 55, 56, 57] (by decide +kernel) (by decide +kernel)
set_option maxRecDepth 20000 in
theorem gX9_round_X9_isSet : GoodIn wsX9_round (wsV RX9 162 RX9 yX9_isSet wsX9_isSet) := goodIn_app (goodIn_of _ (by decide +kernel)) ggX9_round_X9_isSet
set_option maxRecDepth 20000 in
theorem ggX9_round_X9_findRounds : GoodIn wsX9_round wsX9_findRounds := goodIn_r _ [15, 3, 2, 1, 16, 17, 7, 18, 19, 20, 21, 22, 23, 24, 25, 26, 27, 28, 29, 30, 31, 32, 33, 34, 35, 36, 37, 38, 39, 40, 41, 42, 43, 44, 45, 46, 47, 48, 49, 50, 51, 52, 53, 54, 55, 56, 57] (by decide +kernel) (by decide +kernel)
set_option maxRecDepth 20000 in
theorem gX9_round_X9_findRounds : GoodIn wsX9_round (wsV RX9 173 RX9 yX9_findRounds wsX9_findRounds) := goodIn_app (goodIn_of _ (by decide +kernel)) ggX9_round_X9_findRounds
set_option maxRecDepth 20000 in
theorem ggX9_round_X9_has : GoodIn wsX9_round wsX9_has := goodIn_r _ [18] (by decide +kernel) (by decide +kernel)
set_option maxRecDepth 20000 in
theorem gX9_round_X9_has : GoodIn wsX9_round (va_wsS RX9 165 yX9_has wsX9_has) := goodIn_app (goodIn_of _ (by decide +kernel)) ggX9_round_X9_has
set_option maxRecDepth 20000 in
theorem ggX9_round_X9_goesOn : GoodIn wsX9_round wsX9_goesOn := goodIn_r _ [22, 3, 1, 2, 23, 24, 25, 7, 26, 27, 16, 17, 18, 28, 29, 30, 31, 32, 33, 34, 35, 36, 37, 38, 39, 40, 41, 42, 43, 44, 45, 46, 47, 48, 49, 50, 51, 52, 53, 54, 55, 56, 57] (by decide +kernel) (by decide +kernel)
set_option maxRecDepth 20000 in
theorem gX9_round_X9_goesOn : GoodIn wsX9_round (wsV RX9 169 RX9 yX9_goesOn wsX9_goesOn) := goodIn_app (goodIn_of _ (by decide +kernel)) ggX9_round_X9_goesOn
set_option maxRecDepth 20000 in
theorem ggX9_round_X9_from : GoodIn wsX9_round wsX9_from := goodIn_r _ [26, 27, 28, 29, 30, 31, 32, 33, 34, 35, 36, 37, 38, 39, 40, 41, 42, 43, 44, 45, 46, 47, 48, 49, 50, 51, 52, 53, 54, 55, 56, 57] (by decide +kernel) (by decide +kernel)
set_option maxRecDepth 20000 in
theorem gX9_round_X9_from : GoodIn wsX9_round (wsV RX9 136 RX9 yX9_from wsX9_from) := goodIn_app (goodIn_of _ (by decide +kernel)) ggX9_round_X9_from
theorem dX9_round_0 : decode cX9_round 0 = .ok (.aload_n 0, 1) := by decide +kernel
theorem dX9_round_1 : decode cX9_round 1 = .ok (.iload_n 1, 1) := by decide +kernel
theorem dX9_round_2 : decode cX9_round 2 = .ok (.invokevirtual 162, 3) := by decide +kernel
theorem dX9_round_5 : decode cX9_round 5 = .ok (.ifCond .eq 7, 3) := by decide +kernel
theorem dX9_round_8 : decode cX9_round 8 = .ok (.iload_n 2, 1) := by decide +kernel
theorem dX9_round_9 : decode cX9_round 9 = .ok (.ifCond .ge 5, 3) := by decide +kernel
theorem dX9_round_12 : decode cX9_round 12 = .ok (.iconst (-1), 1) := by decide +kernel
theorem dX9_round_13 : decode cX9_round 13 = .ok (.ireturn, 1) := by decide +kernel
theorem dX9_round_14 : decode cX9_round 14 = .ok (.aload_n 0, 1) := by decide +kernel
theorem dX9_round_15 : decode cX9_round 15 = .ok (.iload_n 1, 1) := by decide +kernel
theorem dX9_round_16 : decode cX9_round 16 = .ok (.invokevirtual 173, 3) := by decide +kernel
theorem dX9_round_19 : decode cX9_round 19 = .ok (.aload_n 0, 1) := by decide +kernel
theorem dX9_round_20 : decode cX9_round 20 = .ok (.getfield 26, 3) := by decide +kernel
theorem dX9_round_23 : decode cX9_round 23 = .ok (.iconst 1, 1) := by decide +kernel
theorem dX9_round_24 : decode cX9_round 24 = .ok (.iaload, 1) := by decide +kernel
theorem dX9_round_25 : decode cX9_round 25 = .ok (.istore_n 3, 1) := by decide +kernel
theorem dX9_round_26 : decode cX9_round 26 = .ok (.iconst 1, 1) := by decide +kernel
theorem dX9_round_27 : decode cX9_round 27 = .ok (.iload_n 3, 1) := by decide +kernel
theorem dX9_round_28 : decode cX9_round 28 = .ok (.ishl, 1) := by decide +kernel
theorem dX9_round_29 : decode cX9_round 29 = .ok (.istore 4, 2) := by decide +kernel
theorem dX9_round_31 : decode cX9_round 31 = .ok (.aload_n 0, 1) := by decide +kernel
theorem dX9_round_32 : decode cX9_round 32 = .ok (.getfield 51, 3) := by decide +kernel
theorem dX9_round_35 : decode cX9_round 35 = .ok (.iload 4, 2) := by decide +kernel
theorem dX9_round_37 : decode cX9_round 37 = .ok (.iaload, 1) := by decide +kernel
theorem dX9_round_38 : decode cX9_round 38 = .ok (.iload_n 3, 1) := by decide +kernel
theorem dX9_round_39 : decode cX9_round 39 = .ok (.invokestatic 165, 3) := by decide +kernel
theorem dX9_round_42 : decode cX9_round 42 = .ok (.ifCond .ne 6, 3) := by decide +kernel
theorem dX9_round_45 : decode cX9_round 45 = .ok (.bipush (-9), 2) := by decide +kernel
theorem dX9_round_47 : decode cX9_round 47 = .ok (.ireturn, 1) := by decide +kernel
theorem dX9_round_48 : decode cX9_round 48 = .ok (.iload_n 2, 1) := by decide +kernel
theorem dX9_round_49 : decode cX9_round 49 = .ok (.aload_n 0, 1) := by decide +kernel
theorem dX9_round_50 : decode cX9_round 50 = .ok (.getfield 16, 3) := by decide +kernel
theorem dX9_round_53 : decode cX9_round 53 = .ok (.if_icmp .lt 6, 3) := by decide +kernel
theorem dX9_round_56 : decode cX9_round 56 = .ok (.bipush (-5), 2) := by decide +kernel
theorem dX9_round_58 : decode cX9_round 58 = .ok (.ireturn, 1) := by decide +kernel
theorem dX9_round_59 : decode cX9_round 59 = .ok (.iconst 0, 1) := by decide +kernel
theorem dX9_round_60 : decode cX9_round 60 = .ok (.istore 5, 2) := by decide +kernel
theorem dX9_round_62 : decode cX9_round 62 = .ok (.iconst 0, 1) := by decide +kernel
theorem dX9_round_63 : decode cX9_round 63 = .ok (.istore 6, 2) := by decide +kernel
theorem dX9_round_65 : decode cX9_round 65 = .ok (.iload 6, 2) := by decide +kernel
theorem dX9_round_67 : decode cX9_round 67 = .ok (.iload_n 2, 1) := by decide +kernel
theorem dX9_round_68 : decode cX9_round 68 = .ok (.if_icmp .gt 47, 3) := by decide +kernel
theorem dX9_round_71 : decode cX9_round 71 = .ok (.iconst 0, 1) := by decide +kernel
theorem dX9_round_72 : decode cX9_round 72 = .ok (.istore 5, 2) := by decide +kernel
theorem dX9_round_74 : decode cX9_round 74 = .ok (.aload_n 0, 1) := by decide +kernel
theorem dX9_round_75 : decode cX9_round 75 = .ok (.iload_n 1, 1) := by decide +kernel
theorem dX9_round_76 : decode cX9_round 76 = .ok (.iload 4, 2) := by decide +kernel
theorem dX9_round_78 : decode cX9_round 78 = .ok (.iload_n 3, 1) := by decide +kernel
theorem dX9_round_79 : decode cX9_round 79 = .ok (.iload 5, 2) := by decide +kernel
theorem dX9_round_81 : decode cX9_round 81 = .ok (.invokevirtual 169, 3) := by decide +kernel
theorem dX9_round_84 : decode cX9_round 84 = .ok (.ifCond .ne 9, 3) := by decide +kernel
theorem dX9_round_87 : decode cX9_round 87 = .ok (.iinc 5 1, 3) := by decide +kernel
theorem dX9_round_90 : decode cX9_round 90 = .ok (.goto (-16), 3) := by decide +kernel
theorem dX9_round_93 : decode cX9_round 93 = .ok (.aload_n 0, 1) := by decide +kernel
theorem dX9_round_94 : decode cX9_round 94 = .ok (.iload_n 3, 1) := by decide +kernel
theorem dX9_round_95 : decode cX9_round 95 = .ok (.iload 5, 2) := by decide +kernel
theorem dX9_round_97 : decode cX9_round 97 = .ok (.invokevirtual 136, 3) := by decide +kernel
theorem dX9_round_100 : decode cX9_round 100 = .ok (.istore_n 3, 1) := by decide +kernel
theorem dX9_round_101 : decode cX9_round 101 = .ok (.iload 4, 2) := by decide +kernel
theorem dX9_round_103 : decode cX9_round 103 = .ok (.iconst 1, 1) := by decide +kernel
theorem dX9_round_104 : decode cX9_round 104 = .ok (.iload_n 3, 1) := by decide +kernel
theorem dX9_round_105 : decode cX9_round 105 = .ok (.ishl, 1) := by decide +kernel
theorem dX9_round_106 : decode cX9_round 106 = .ok (.ior, 1) := by decide +kernel
theorem dX9_round_107 : decode cX9_round 107 = .ok (.istore 4, 2) := by decide +kernel
theorem dX9_round_109 : decode cX9_round 109 = .ok (.iinc 6 1, 3) := by decide +kernel
theorem dX9_round_112 : decode cX9_round 112 = .ok (.goto (-47), 3) := by decide +kernel
theorem dX9_round_115 : decode cX9_round 115 = .ok (.iload 5, 2) := by decide +kernel
theorem dX9_round_117 : decode cX9_round 117 = .ok (.ireturn, 1) := by decide +kernel
set_option maxRecDepth 20000 in
theorem ggX9_same_X9_from : GoodIn wsX9_same wsX9_from := goodIn_r _ [6, 7, 8, 9, 10, 11, 12, 13, 14, 15, 16, 17, 18, 19, 20, 21, 22, 23, 24, 25, 26, 27, 28, 29, 30, 31, 32, 33, 34, 35, 36, 37] (by decide +kernel) (by decide +kernel)
set_option maxRecDepth 20000 in
theorem gX9_same_X9_from : GoodIn wsX9_same (wsV RX9 136 RX9 yX9_from wsX9_from) := goodIn_app (goodIn_of _ (by decide +kernel)) ggX9_same_X9_from
theorem dX9_same_0 : decode cX9_same 0 = .ok (.iconst 0, 1) := by decide +kernel
theorem dX9_same_1 : decode cX9_same 1 = .ok (.istore_n 1, 1) := by decide +kernel
theorem dX9_same_2 : decode cX9_same 2 = .ok (.iconst 0, 1) := by decide +kernel
theorem dX9_same_3 : decode cX9_same 3 = .ok (.istore_n 2, 1) := by decide +kernel
theorem dX9_same_4 : decode cX9_same 4 = .ok (.iload_n 2, 1) := by decide +kernel
theorem dX9_same_5 : decode cX9_same 5 = .ok (.aload_n 0, 1) := by decide +kernel
theorem dX9_same_6 : decode cX9_same 6 = .ok (.getfield 16, 3) := by decide +kernel
theorem dX9_same_9 : decode cX9_same 9 = .ok (.if_icmp .ge 100, 3) := by decide +kernel
theorem dX9_same_12 : decode cX9_same 12 = .ok (.iload_n 2, 1) := by decide +kernel
theorem dX9_same_13 : decode cX9_same 13 = .ok (.iconst 1, 1) := by decide +kernel
theorem dX9_same_14 : decode cX9_same 14 = .ok (.iadd, 1) := by decide +kernel
theorem dX9_same_15 : decode cX9_same 15 = .ok (.istore_n 3, 1) := by decide +kernel
theorem dX9_same_16 : decode cX9_same 16 = .ok (.iload_n 3, 1) := by decide +kernel
theorem dX9_same_17 : decode cX9_same 17 = .ok (.aload_n 0, 1) := by decide +kernel
theorem dX9_same_18 : decode cX9_same 18 = .ok (.getfield 16, 3) := by decide +kernel
theorem dX9_same_21 : decode cX9_same 21 = .ok (.if_icmp .ge 82, 3) := by decide +kernel
theorem dX9_same_24 : decode cX9_same 24 = .ok (.iconst 1, 1) := by decide +kernel
theorem dX9_same_25 : decode cX9_same 25 = .ok (.istore 4, 2) := by decide +kernel
theorem dX9_same_27 : decode cX9_same 27 = .ok (.iconst 0, 1) := by decide +kernel
theorem dX9_same_28 : decode cX9_same 28 = .ok (.istore 5, 2) := by decide +kernel
theorem dX9_same_30 : decode cX9_same 30 = .ok (.iload 5, 2) := by decide +kernel
theorem dX9_same_32 : decode cX9_same 32 = .ok (.aload_n 0, 1) := by decide +kernel
theorem dX9_same_33 : decode cX9_same 33 = .ok (.getfield 16, 3) := by decide +kernel
theorem dX9_same_36 : decode cX9_same 36 = .ok (.if_icmp .ge 48, 3) := by decide +kernel
theorem dX9_same_39 : decode cX9_same 39 = .ok (.iload 4, 2) := by decide +kernel
theorem dX9_same_41 : decode cX9_same 41 = .ok (.ifCond .eq 34, 3) := by decide +kernel
theorem dX9_same_44 : decode cX9_same 44 = .ok (.aload_n 0, 1) := by decide +kernel
theorem dX9_same_45 : decode cX9_same 45 = .ok (.aload_n 0, 1) := by decide +kernel
theorem dX9_same_46 : decode cX9_same 46 = .ok (.iload 5, 2) := by decide +kernel
theorem dX9_same_48 : decode cX9_same 48 = .ok (.iload_n 2, 1) := by decide +kernel
theorem dX9_same_49 : decode cX9_same 49 = .ok (.invokevirtual 136, 3) := by decide +kernel
theorem dX9_same_52 : decode cX9_same 52 = .ok (.iload_n 3, 1) := by decide +kernel
theorem dX9_same_53 : decode cX9_same 53 = .ok (.invokevirtual 136, 3) := by decide +kernel
theorem dX9_same_56 : decode cX9_same 56 = .ok (.aload_n 0, 1) := by decide +kernel
theorem dX9_same_57 : decode cX9_same 57 = .ok (.aload_n 0, 1) := by decide +kernel
theorem dX9_same_58 : decode cX9_same 58 = .ok (.iload 5, 2) := by decide +kernel
theorem dX9_same_60 : decode cX9_same 60 = .ok (.iload_n 3, 1) := by decide +kernel
theorem dX9_same_61 : decode cX9_same 61 = .ok (.invokevirtual 136, 3) := by decide +kernel
theorem dX9_same_64 : decode cX9_same 64 = .ok (.iload_n 2, 1) := by decide +kernel
theorem dX9_same_65 : decode cX9_same 65 = .ok (.invokevirtual 136, 3) := by decide +kernel
theorem dX9_same_68 : decode cX9_same 68 = .ok (.if_icmp .ne 7, 3) := by decide +kernel
theorem dX9_same_71 : decode cX9_same 71 = .ok (.iconst 1, 1) := by decide +kernel
theorem dX9_same_72 : decode cX9_same 72 = .ok (.goto 4, 3) := by decide +kernel
theorem dX9_same_75 : decode cX9_same 75 = .ok (.iconst 0, 1) := by decide +kernel
theorem dX9_same_76 : decode cX9_same 76 = .ok (.istore 4, 2) := by decide +kernel
theorem dX9_same_78 : decode cX9_same 78 = .ok (.iinc 5 1, 3) := by decide +kernel
theorem dX9_same_81 : decode cX9_same 81 = .ok (.goto (-51), 3) := by decide +kernel
theorem dX9_same_84 : decode cX9_same 84 = .ok (.iload_n 1, 1) := by decide +kernel
theorem dX9_same_85 : decode cX9_same 85 = .ok (.iload 4, 2) := by decide +kernel
theorem dX9_same_87 : decode cX9_same 87 = .ok (.ifCond .eq 7, 3) := by decide +kernel
theorem dX9_same_90 : decode cX9_same 90 = .ok (.iconst 1, 1) := by decide +kernel
theorem dX9_same_91 : decode cX9_same 91 = .ok (.goto 4, 3) := by decide +kernel
theorem dX9_same_94 : decode cX9_same 94 = .ok (.iconst 0, 1) := by decide +kernel
theorem dX9_same_95 : decode cX9_same 95 = .ok (.iadd, 1) := by decide +kernel
theorem dX9_same_96 : decode cX9_same 96 = .ok (.istore_n 1, 1) := by decide +kernel
theorem dX9_same_97 : decode cX9_same 97 = .ok (.iinc 3 1, 3) := by decide +kernel
theorem dX9_same_100 : decode cX9_same 100 = .ok (.goto (-84), 3) := by decide +kernel
theorem dX9_same_103 : decode cX9_same 103 = .ok (.iinc 2 1, 3) := by decide +kernel
theorem dX9_same_106 : decode cX9_same 106 = .ok (.goto (-102), 3) := by decide +kernel
theorem dX9_same_109 : decode cX9_same 109 = .ok (.iload_n 1, 1) := by decide +kernel
theorem dX9_same_110 : decode cX9_same 110 = .ok (.ireturn, 1) := by decide +kernel
set_option maxRecDepth 20000 in
theorem ggX9_lastsBy_X9_asItIs : GoodIn wsX9_lastsBy wsX9_asItIs := goodIn_r _ [5, 6, 7, 8, 9, 4, 10, 35, 36, 37, 38, 39, 40, 41, 42, 43, 44, 45, 46, 47, 48, 49, 50, 51, 52, 53, 54, 55, 56, 57, 58, 59, 60, 61, 62, 63, 64] (by decide +kernel) (by decide +kernel)
set_option maxRecDepth 20000 in
theorem gX9_lastsBy_X9_asItIs : GoodIn wsX9_lastsBy (wsV RX9 142 RX9 yX9_asItIs wsX9_asItIs) := goodIn_app (goodIn_of _ (by decide +kernel)) ggX9_lastsBy_X9_asItIs
set_option maxRecDepth 20000 in
theorem ggX9_lastsBy_X9_isOut : GoodIn wsX9_lastsBy wsX9_isOut := goodIn_r _ [14, 15, 16, 17, 18, 4, 19, 20, 6, 35, 36, 37, 38, 39, 40, 41, 42, 43, 44, 45, 46, 47, 48, 49, 50, 51, 52, 53, 54, 55, 56, 57, 58, 59, 60, 61, 62, 63, 64] (by decide +kernel) (by decide +kernel)
set_option maxRecDepth 20000 in
theorem gX9_lastsBy_X9_isOut : GoodIn wsX9_lastsBy (wsV RX9 145 RX9 yX9_isOut wsX9_isOut) := goodIn_app (goodIn_of _ (by decide +kernel)) ggX9_lastsBy_X9_isOut
set_option maxRecDepth 20000 in
theorem ggX9_lastsBy_X9_turns : GoodIn wsX9_lastsBy wsX9_turns := goodIn_r _ [24, 6, 25, 26, 27, 4, 28, 29, 35, 36, 37, 38, 39, 40, 41, 42, 43, 44, 45, 46, 47, 48, 49, 50, 51, 52, 53, 54, 55, 56, 57, 58, 59, 60, 61, 62, 63, 64] (by decide +kernel) (by decide +kernel)
set_option maxRecDepth 20000 in
theorem gX9_lastsBy_X9_turns : GoodIn wsX9_lastsBy (wsV RX9 177 RX9 yX9_turns wsX9_turns) := goodIn_app (goodIn_of _ (by decide +kernel)) ggX9_lastsBy_X9_turns
set_option maxRecDepth 20000 in
theorem ggX9_lastsBy_X9_goes : GoodIn wsX9_lastsBy wsX9_goes := goodIn_r _ [33, 6, 34, 35, 36, 37, 38, 39, 40, 41, 42, 43, 44, 45, 46, 47, 48, 49, 50, 51, 52, 53, 54, 55, 56, 57, 58, 59, 60, 61, 62, 63, 64] (by decide +kernel) (by decide +kernel)
set_option maxRecDepth 20000 in
theorem gX9_lastsBy_X9_goes : GoodIn wsX9_lastsBy (wsV RX9 152 RX9 yX9_goes wsX9_goes) := goodIn_app (goodIn_of _ (by decide +kernel)) ggX9_lastsBy_X9_goes
theorem dX9_lastsBy_0 : decode cX9_lastsBy 0 = .ok (.aload_n 0, 1) := by decide +kernel
theorem dX9_lastsBy_1 : decode cX9_lastsBy 1 = .ok (.invokevirtual 142, 3) := by decide +kernel
theorem dX9_lastsBy_4 : decode cX9_lastsBy 4 = .ok (.iconst 0, 1) := by decide +kernel
theorem dX9_lastsBy_5 : decode cX9_lastsBy 5 = .ok (.istore_n 2, 1) := by decide +kernel
theorem dX9_lastsBy_6 : decode cX9_lastsBy 6 = .ok (.aload_n 0, 1) := by decide +kernel
theorem dX9_lastsBy_7 : decode cX9_lastsBy 7 = .ok (.invokevirtual 145, 3) := by decide +kernel
theorem dX9_lastsBy_10 : decode cX9_lastsBy 10 = .ok (.ifCond .ne 26, 3) := by decide +kernel
theorem dX9_lastsBy_13 : decode cX9_lastsBy 13 = .ok (.aload_n 0, 1) := by decide +kernel
theorem dX9_lastsBy_14 : decode cX9_lastsBy 14 = .ok (.iload_n 1, 1) := by decide +kernel
theorem dX9_lastsBy_15 : decode cX9_lastsBy 15 = .ok (.invokevirtual 177, 3) := by decide +kernel
theorem dX9_lastsBy_18 : decode cX9_lastsBy 18 = .ok (.iload_n 2, 1) := by decide +kernel
theorem dX9_lastsBy_19 : decode cX9_lastsBy 19 = .ok (.aload_n 0, 1) := by decide +kernel
theorem dX9_lastsBy_20 : decode cX9_lastsBy 20 = .ok (.invokevirtual 152, 3) := by decide +kernel
theorem dX9_lastsBy_23 : decode cX9_lastsBy 23 = .ok (.ifCond .lt 7, 3) := by decide +kernel
theorem dX9_lastsBy_26 : decode cX9_lastsBy 26 = .ok (.iconst 1, 1) := by decide +kernel
theorem dX9_lastsBy_27 : decode cX9_lastsBy 27 = .ok (.goto 4, 3) := by decide +kernel
theorem dX9_lastsBy_30 : decode cX9_lastsBy 30 = .ok (.iconst 0, 1) := by decide +kernel
theorem dX9_lastsBy_31 : decode cX9_lastsBy 31 = .ok (.iadd, 1) := by decide +kernel
theorem dX9_lastsBy_32 : decode cX9_lastsBy 32 = .ok (.istore_n 2, 1) := by decide +kernel
theorem dX9_lastsBy_33 : decode cX9_lastsBy 33 = .ok (.goto (-27), 3) := by decide +kernel
theorem dX9_lastsBy_36 : decode cX9_lastsBy 36 = .ok (.iload_n 2, 1) := by decide +kernel
theorem dX9_lastsBy_37 : decode cX9_lastsBy 37 = .ok (.ireturn, 1) := by decide +kernel
set_option maxRecDepth 20000 in
theorem ggX9_lasts_X9_isWay : GoodIn wsX9_lasts wsX9_isWay := goodIn_r _ [5, 6, 7, 8, 4, 9, 46, 47, 48, 49, 50, 51, 52, 53, 54, 55, 56, 57, 58, 59, 60, 61, 62, 63, 64, 65, 66, 67, 68, 69, 70, 71, 72, 73, 74, 75] (by decide +kernel) (by decide +kernel)
set_option maxRecDepth 20000 in
theorem gX9_lasts_X9_isWay : GoodIn wsX9_lasts (wsV RX9 139 RX9 yX9_isWay wsX9_isWay) := goodIn_app (goodIn_of _ (by decide +kernel)) ggX9_lasts_X9_isWay
set_option maxRecDepth 20000 in
theorem ggX9_lasts_X9_lastsBy : GoodIn wsX9_lasts wsX9_lastsBy := goodIn_r _ [13, 14, 15, 16, 4, 17, 18, 19, 20, 21, 22, 23, 24, 25, 26, 27, 28, 29, 30, 31, 6, 32, 33, 34, 35, 36, 37, 38, 39, 40, 41, 42, 43, 44, 45, 46, 47, 48, 49, 50, 51, 52, 53, 54, 55, 56, 57, 58, 59, 60, 61, 62, 63, 64, 65, 66, 67, 68, 69, 70, 71, 72, 73, 74, 75] (by decide +kernel) (by decide +kernel)
set_option maxRecDepth 20000 in
theorem gX9_lasts_X9_lastsBy : GoodIn wsX9_lasts (wsV RX9 180 RX9 yX9_lastsBy wsX9_lastsBy) := goodIn_app (goodIn_of _ (by decide +kernel)) ggX9_lasts_X9_lastsBy
theorem dX9_lasts_0 : decode cX9_lasts 0 = .ok (.aload_n 0, 1) := by decide +kernel
theorem dX9_lasts_1 : decode cX9_lasts 1 = .ok (.iload_n 1, 1) := by decide +kernel
theorem dX9_lasts_2 : decode cX9_lasts 2 = .ok (.invokevirtual 139, 3) := by decide +kernel
theorem dX9_lasts_5 : decode cX9_lasts 5 = .ok (.ifCond .eq 11, 3) := by decide +kernel
theorem dX9_lasts_8 : decode cX9_lasts 8 = .ok (.aload_n 0, 1) := by decide +kernel
theorem dX9_lasts_9 : decode cX9_lasts 9 = .ok (.iload_n 1, 1) := by decide +kernel
theorem dX9_lasts_10 : decode cX9_lasts 10 = .ok (.invokevirtual 180, 3) := by decide +kernel
theorem dX9_lasts_13 : decode cX9_lasts 13 = .ok (.goto 4, 3) := by decide +kernel
theorem dX9_lasts_16 : decode cX9_lasts 16 = .ok (.iconst (-1), 1) := by decide +kernel
theorem dX9_lasts_17 : decode cX9_lasts 17 = .ok (.ireturn, 1) := by decide +kernel
set_option maxRecDepth 20000 in
theorem ggX9_latest_X9_lastsBy : GoodIn wsX9_latest wsX9_lastsBy := goodIn_r _ [6, 7, 8, 9, 5, 10, 11, 12, 13, 14, 15, 16, 17, 18, 19, 20, 21, 22, 23, 24, 1, 25, 26, 27, 28, 29, 30, 31, 32, 33, 34, 35, 36, 37, 38, 39, 40, 41, 42, 43, 44, 45, 46, 47, 48, 49, 50, 51, 52, 53, 54, 55, 56, 57, 58, 59, 60, 61, 62, 63, 64, 65, 66, 67, 68] (by decide +kernel) (by decide +kernel)
set_option maxRecDepth 20000 in
theorem gX9_latest_X9_lastsBy : GoodIn wsX9_latest (wsV RX9 180 RX9 yX9_lastsBy wsX9_lastsBy) := goodIn_app (goodIn_of _ (by decide +kernel)) ggX9_latest_X9_lastsBy
theorem dX9_latest_0 : decode cX9_latest 0 = .ok (.iconst 0, 1) := by decide +kernel
theorem dX9_latest_1 : decode cX9_latest 1 = .ok (.istore_n 1, 1) := by decide +kernel
theorem dX9_latest_2 : decode cX9_latest 2 = .ok (.iconst (-1), 1) := by decide +kernel
theorem dX9_latest_3 : decode cX9_latest 3 = .ok (.istore_n 2, 1) := by decide +kernel
theorem dX9_latest_4 : decode cX9_latest 4 = .ok (.iconst 0, 1) := by decide +kernel
theorem dX9_latest_5 : decode cX9_latest 5 = .ok (.istore_n 3, 1) := by decide +kernel
theorem dX9_latest_6 : decode cX9_latest 6 = .ok (.iload_n 3, 1) := by decide +kernel
theorem dX9_latest_7 : decode cX9_latest 7 = .ok (.aload_n 0, 1) := by decide +kernel
theorem dX9_latest_8 : decode cX9_latest 8 = .ok (.getfield 16, 3) := by decide +kernel
theorem dX9_latest_11 : decode cX9_latest 11 = .ok (.if_icmp .ge 41, 3) := by decide +kernel
theorem dX9_latest_14 : decode cX9_latest 14 = .ok (.aload_n 0, 1) := by decide +kernel
theorem dX9_latest_15 : decode cX9_latest 15 = .ok (.iload_n 3, 1) := by decide +kernel
theorem dX9_latest_16 : decode cX9_latest 16 = .ok (.invokevirtual 180, 3) := by decide +kernel
theorem dX9_latest_19 : decode cX9_latest 19 = .ok (.istore 4, 2) := by decide +kernel
theorem dX9_latest_21 : decode cX9_latest 21 = .ok (.iload 4, 2) := by decide +kernel
theorem dX9_latest_23 : decode cX9_latest 23 = .ok (.iload_n 2, 1) := by decide +kernel
theorem dX9_latest_24 : decode cX9_latest 24 = .ok (.if_icmp .le 7, 3) := by decide +kernel
theorem dX9_latest_27 : decode cX9_latest 27 = .ok (.iload_n 3, 1) := by decide +kernel
theorem dX9_latest_28 : decode cX9_latest 28 = .ok (.goto 4, 3) := by decide +kernel
theorem dX9_latest_31 : decode cX9_latest 31 = .ok (.iload_n 1, 1) := by decide +kernel
theorem dX9_latest_32 : decode cX9_latest 32 = .ok (.istore_n 1, 1) := by decide +kernel
theorem dX9_latest_33 : decode cX9_latest 33 = .ok (.iload 4, 2) := by decide +kernel
theorem dX9_latest_35 : decode cX9_latest 35 = .ok (.iload_n 2, 1) := by decide +kernel
theorem dX9_latest_36 : decode cX9_latest 36 = .ok (.if_icmp .le 8, 3) := by decide +kernel
theorem dX9_latest_39 : decode cX9_latest 39 = .ok (.iload 4, 2) := by decide +kernel
theorem dX9_latest_41 : decode cX9_latest 41 = .ok (.goto 4, 3) := by decide +kernel
theorem dX9_latest_44 : decode cX9_latest 44 = .ok (.iload_n 2, 1) := by decide +kernel
theorem dX9_latest_45 : decode cX9_latest 45 = .ok (.istore_n 2, 1) := by decide +kernel
theorem dX9_latest_46 : decode cX9_latest 46 = .ok (.iinc 3 1, 3) := by decide +kernel
theorem dX9_latest_49 : decode cX9_latest 49 = .ok (.goto (-43), 3) := by decide +kernel
theorem dX9_latest_52 : decode cX9_latest 52 = .ok (.iload_n 1, 1) := by decide +kernel
theorem dX9_latest_53 : decode cX9_latest 53 = .ok (.ireturn, 1) := by decide +kernel
set_option maxRecDepth 20000 in
theorem ggX9_plan_X9_in : GoodIn wsX9_plan wsX9_in := goodIn_r _ [8] (by decide +kernel) (by decide +kernel)
set_option maxRecDepth 20000 in
theorem gX9_plan_X9_in : GoodIn wsX9_plan (va_wsS RX9 60 yX9_in wsX9_in) := goodIn_app (goodIn_of _ (by decide +kernel)) ggX9_plan_X9_in
set_option maxRecDepth 20000 in
theorem ggX9_plan_X9_asItIs : GoodIn wsX9_plan wsX9_asItIs := goodIn_r _ [12, 13, 14, 15, 16, 7, 17, 36, 37, 38, 39, 40, 41, 42, 43, 44, 45, 46, 47, 48, 49, 50, 51, 52, 53, 54, 55, 56, 57, 58, 59, 60, 61, 62, 63, 64, 65] (by decide +kernel) (by decide +kernel)
set_option maxRecDepth 20000 in
theorem gX9_plan_X9_asItIs : GoodIn wsX9_plan (wsV RX9 142 RX9 yX9_asItIs wsX9_asItIs) := goodIn_app (goodIn_of _ (by decide +kernel)) ggX9_plan_X9_asItIs
set_option maxRecDepth 20000 in
theorem ggX9_plan_X9_turns : GoodIn wsX9_plan wsX9_turns := goodIn_r _ [21, 13, 22, 23, 24, 7, 25, 26, 36, 37, 38, 39, 40, 41, 42, 43, 44, 45, 46, 47, 48, 49, 50, 51, 52, 53, 54, 55, 56, 57, 58, 59, 60, 61, 62, 63, 64, 65] (by decide +kernel) (by decide +kernel)
set_option maxRecDepth 20000 in
theorem gX9_plan_X9_turns : GoodIn wsX9_plan (wsV RX9 177 RX9 yX9_turns wsX9_turns) := goodIn_app (goodIn_of _ (by decide +kernel)) ggX9_plan_X9_turns
set_option maxRecDepth 20000 in
theorem ggX9_plan_X9_goes : GoodIn wsX9_plan wsX9_goes := goodIn_r _ [30, 13, 31, 36, 37, 38, 39, 40, 41, 42, 43, 44, 45, 46, 47, 48, 49, 50, 51, 52, 53, 54, 55, 56, 57, 58, 59, 60, 61, 62, 63, 64, 65] (by decide +kernel) (by decide +kernel)
set_option maxRecDepth 20000 in
theorem gX9_plan_X9_goes : GoodIn wsX9_plan (wsV RX9 152 RX9 yX9_goes wsX9_goes) := goodIn_app (goodIn_of _ (by decide +kernel)) ggX9_plan_X9_goes
set_option maxRecDepth 20000 in
theorem ggX9_plan_X9_greatest : GoodIn wsX9_plan wsX9_greatest := goodIn_r _ [35, 1, 13, 36, 37, 38, 39, 40, 41, 42, 43, 44, 45, 46, 47, 48, 49, 50, 51, 52, 53, 54, 55, 56, 57, 58, 59, 60, 61, 62, 63, 64, 65] (by decide +kernel) (by decide +kernel)
set_option maxRecDepth 20000 in
theorem gX9_plan_X9_greatest : GoodIn wsX9_plan (wsV RX9 132 RX9 yX9_greatest wsX9_greatest) := goodIn_app (goodIn_of _ (by decide +kernel)) ggX9_plan_X9_greatest
theorem dX9_plan_0 : decode cX9_plan 0 = .ok (.iload_n 1, 1) := by decide +kernel
theorem dX9_plan_1 : decode cX9_plan 1 = .ok (.iconst 1, 1) := by decide +kernel
theorem dX9_plan_2 : decode cX9_plan 2 = .ok (.iconst 4, 1) := by decide +kernel
theorem dX9_plan_3 : decode cX9_plan 3 = .ok (.invokestatic 60, 3) := by decide +kernel
theorem dX9_plan_6 : decode cX9_plan 6 = .ok (.ifCond .eq 12, 3) := by decide +kernel
theorem dX9_plan_9 : decode cX9_plan 9 = .ok (.iload_n 2, 1) := by decide +kernel
theorem dX9_plan_10 : decode cX9_plan 10 = .ok (.iconst (-1), 1) := by decide +kernel
theorem dX9_plan_11 : decode cX9_plan 11 = .ok (.iconst 3, 1) := by decide +kernel
theorem dX9_plan_12 : decode cX9_plan 12 = .ok (.invokestatic 60, 3) := by decide +kernel
theorem dX9_plan_15 : decode cX9_plan 15 = .ok (.ifCond .ne 5, 3) := by decide +kernel
theorem dX9_plan_18 : decode cX9_plan 18 = .ok (.iconst (-1), 1) := by decide +kernel
theorem dX9_plan_19 : decode cX9_plan 19 = .ok (.ireturn, 1) := by decide +kernel
theorem dX9_plan_20 : decode cX9_plan 20 = .ok (.iconst 1, 1) := by decide +kernel
theorem dX9_plan_21 : decode cX9_plan 21 = .ok (.istore_n 3, 1) := by decide +kernel
theorem dX9_plan_22 : decode cX9_plan 22 = .ok (.iconst 0, 1) := by decide +kernel
theorem dX9_plan_23 : decode cX9_plan 23 = .ok (.istore 4, 2) := by decide +kernel
theorem dX9_plan_25 : decode cX9_plan 25 = .ok (.iload 4, 2) := by decide +kernel
theorem dX9_plan_27 : decode cX9_plan 27 = .ok (.iload_n 1, 1) := by decide +kernel
theorem dX9_plan_28 : decode cX9_plan 28 = .ok (.if_icmp .ge 16, 3) := by decide +kernel
theorem dX9_plan_31 : decode cX9_plan 31 = .ok (.iload_n 3, 1) := by decide +kernel
theorem dX9_plan_32 : decode cX9_plan 32 = .ok (.aload_n 0, 1) := by decide +kernel
theorem dX9_plan_33 : decode cX9_plan 33 = .ok (.getfield 16, 3) := by decide +kernel
theorem dX9_plan_36 : decode cX9_plan 36 = .ok (.imul, 1) := by decide +kernel
theorem dX9_plan_37 : decode cX9_plan 37 = .ok (.istore_n 3, 1) := by decide +kernel
theorem dX9_plan_38 : decode cX9_plan 38 = .ok (.iinc 4 1, 3) := by decide +kernel
theorem dX9_plan_41 : decode cX9_plan 41 = .ok (.goto (-16), 3) := by decide +kernel
theorem dX9_plan_44 : decode cX9_plan 44 = .ok (.ldc 183, 2) := by decide +kernel
theorem dX9_plan_46 : decode cX9_plan 46 = .ok (.istore 4, 2) := by decide +kernel
theorem dX9_plan_48 : decode cX9_plan 48 = .ok (.iconst 0, 1) := by decide +kernel
theorem dX9_plan_49 : decode cX9_plan 49 = .ok (.istore 5, 2) := by decide +kernel
theorem dX9_plan_51 : decode cX9_plan 51 = .ok (.iload 5, 2) := by decide +kernel
theorem dX9_plan_53 : decode cX9_plan 53 = .ok (.iload_n 3, 1) := by decide +kernel
theorem dX9_plan_54 : decode cX9_plan 54 = .ok (.if_icmp .ge 145, 3) := by decide +kernel
theorem dX9_plan_57 : decode cX9_plan 57 = .ok (.iload 5, 2) := by decide +kernel
theorem dX9_plan_59 : decode cX9_plan 59 = .ok (.istore 6, 2) := by decide +kernel
theorem dX9_plan_61 : decode cX9_plan 61 = .ok (.iload_n 1, 1) := by decide +kernel
theorem dX9_plan_62 : decode cX9_plan 62 = .ok (.iconst 1, 1) := by decide +kernel
theorem dX9_plan_63 : decode cX9_plan 63 = .ok (.isub, 1) := by decide +kernel
theorem dX9_plan_64 : decode cX9_plan 64 = .ok (.istore 7, 2) := by decide +kernel
theorem dX9_plan_66 : decode cX9_plan 66 = .ok (.iload 7, 2) := by decide +kernel
theorem dX9_plan_68 : decode cX9_plan 68 = .ok (.ifCond .lt 32, 3) := by decide +kernel
theorem dX9_plan_71 : decode cX9_plan 71 = .ok (.aload_n 0, 1) := by decide +kernel
theorem dX9_plan_72 : decode cX9_plan 72 = .ok (.getfield 54, 3) := by decide +kernel
theorem dX9_plan_75 : decode cX9_plan 75 = .ok (.iload 7, 2) := by decide +kernel
theorem dX9_plan_77 : decode cX9_plan 77 = .ok (.iload 6, 2) := by decide +kernel
theorem dX9_plan_79 : decode cX9_plan 79 = .ok (.aload_n 0, 1) := by decide +kernel
theorem dX9_plan_80 : decode cX9_plan 80 = .ok (.getfield 16, 3) := by decide +kernel
theorem dX9_plan_83 : decode cX9_plan 83 = .ok (.irem, 1) := by decide +kernel
theorem dX9_plan_84 : decode cX9_plan 84 = .ok (.iastore, 1) := by decide +kernel
theorem dX9_plan_85 : decode cX9_plan 85 = .ok (.iload 6, 2) := by decide +kernel
theorem dX9_plan_87 : decode cX9_plan 87 = .ok (.aload_n 0, 1) := by decide +kernel
theorem dX9_plan_88 : decode cX9_plan 88 = .ok (.getfield 16, 3) := by decide +kernel
theorem dX9_plan_91 : decode cX9_plan 91 = .ok (.idiv, 1) := by decide +kernel
theorem dX9_plan_92 : decode cX9_plan 92 = .ok (.istore 6, 2) := by decide +kernel
theorem dX9_plan_94 : decode cX9_plan 94 = .ok (.iinc 7 (-1), 3) := by decide +kernel
theorem dX9_plan_97 : decode cX9_plan 97 = .ok (.goto (-31), 3) := by decide +kernel
theorem dX9_plan_100 : decode cX9_plan 100 = .ok (.aload_n 0, 1) := by decide +kernel
theorem dX9_plan_101 : decode cX9_plan 101 = .ok (.invokevirtual 142, 3) := by decide +kernel
theorem dX9_plan_104 : decode cX9_plan 104 = .ok (.iconst 0, 1) := by decide +kernel
theorem dX9_plan_105 : decode cX9_plan 105 = .ok (.istore 7, 2) := by decide +kernel
theorem dX9_plan_107 : decode cX9_plan 107 = .ok (.iload 7, 2) := by decide +kernel
theorem dX9_plan_109 : decode cX9_plan 109 = .ok (.iload_n 1, 1) := by decide +kernel
theorem dX9_plan_110 : decode cX9_plan 110 = .ok (.if_icmp .ge 25, 3) := by decide +kernel
theorem dX9_plan_113 : decode cX9_plan 113 = .ok (.aload_n 0, 1) := by decide +kernel
theorem dX9_plan_114 : decode cX9_plan 114 = .ok (.aload_n 0, 1) := by decide +kernel
theorem dX9_plan_115 : decode cX9_plan 115 = .ok (.getfield 54, 3) := by decide +kernel
theorem dX9_plan_118 : decode cX9_plan 118 = .ok (.iload 7, 2) := by decide +kernel
theorem dX9_plan_120 : decode cX9_plan 120 = .ok (.iaload, 1) := by decide +kernel
theorem dX9_plan_121 : decode cX9_plan 121 = .ok (.invokevirtual 177, 3) := by decide +kernel
theorem dX9_plan_124 : decode cX9_plan 124 = .ok (.aload_n 0, 1) := by decide +kernel
theorem dX9_plan_125 : decode cX9_plan 125 = .ok (.invokevirtual 152, 3) := by decide +kernel
theorem dX9_plan_128 : decode cX9_plan 128 = .ok (.pop, 1) := by decide +kernel
theorem dX9_plan_129 : decode cX9_plan 129 = .ok (.iinc 7 1, 3) := by decide +kernel
theorem dX9_plan_132 : decode cX9_plan 132 = .ok (.goto (-25), 3) := by decide +kernel
theorem dX9_plan_135 : decode cX9_plan 135 = .ok (.aload_n 0, 1) := by decide +kernel
theorem dX9_plan_136 : decode cX9_plan 136 = .ok (.invokevirtual 132, 3) := by decide +kernel
theorem dX9_plan_139 : decode cX9_plan 139 = .ok (.istore 7, 2) := by decide +kernel
theorem dX9_plan_141 : decode cX9_plan 141 = .ok (.iconst 0, 1) := by decide +kernel
theorem dX9_plan_142 : decode cX9_plan 142 = .ok (.istore 8, 2) := by decide +kernel
theorem dX9_plan_144 : decode cX9_plan 144 = .ok (.iload 8, 2) := by decide +kernel
theorem dX9_plan_146 : decode cX9_plan 146 = .ok (.iload_n 1, 1) := by decide +kernel
theorem dX9_plan_147 : decode cX9_plan 147 = .ok (.if_icmp .ge 30, 3) := by decide +kernel
theorem dX9_plan_150 : decode cX9_plan 150 = .ok (.iload 7, 2) := by decide +kernel
