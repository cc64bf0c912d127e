theorem dX8_odds_11 : decode cX8_odds 11 = .ok (.aload_n 0, 1) := by decide +kernel
theorem dX8_odds_12 : decode cX8_odds 12 = .ok (.getfield 28, 3) := by decide +kernel
theorem dX8_odds_15 : decode cX8_odds 15 = .ok (.iload 4, 2) := by decide +kernel
theorem dX8_odds_17 : decode cX8_odds 17 = .ok (.invokevirtual 107, 3) := by decide +kernel
theorem dX8_odds_20 : decode cX8_odds 20 = .ok (.ifCond .eq 23, 3) := by decide +kernel
theorem dX8_odds_23 : decode cX8_odds 23 = .ok (.iload_n 2, 1) := by decide +kernel
theorem dX8_odds_24 : decode cX8_odds 24 = .ok (.ifCond .lt 19, 3) := by decide +kernel
theorem dX8_odds_27 : decode cX8_odds 27 = .ok (.iload_n 2, 1) := by decide +kernel
theorem dX8_odds_28 : decode cX8_odds 28 = .ok (.bipush 10, 2) := by decide +kernel
theorem dX8_odds_30 : decode cX8_odds 30 = .ok (.if_icmp .gt 13, 3) := by decide +kernel
theorem dX8_odds_33 : decode cX8_odds 33 = .ok (.iload_n 3, 1) := by decide +kernel
theorem dX8_odds_34 : decode cX8_odds 34 = .ok (.ifCond .lt 9, 3) := by decide +kernel
theorem dX8_odds_37 : decode cX8_odds 37 = .ok (.iload_n 3, 1) := by decide +kernel
theorem dX8_odds_38 : decode cX8_odds 38 = .ok (.bipush 6, 2) := by decide +kernel
theorem dX8_odds_40 : decode cX8_odds 40 = .ok (.if_icmp .le 5, 3) := by decide +kernel
theorem dX8_odds_43 : decode cX8_odds 43 = .ok (.iconst (-1), 1) := by decide +kernel
theorem dX8_odds_44 : decode cX8_odds 44 = .ok (.ireturn, 1) := by decide +kernel
theorem dX8_odds_45 : decode cX8_odds 45 = .ok (.iload 5, 2) := by decide +kernel
theorem dX8_odds_47 : decode cX8_odds 47 = .ok (.ifCond .eq 11, 3) := by decide +kernel
theorem dX8_odds_50 : decode cX8_odds 50 = .ok (.iload 5, 2) := by decide +kernel
theorem dX8_odds_52 : decode cX8_odds 52 = .ok (.iconst 1, 1) := by decide +kernel
theorem dX8_odds_53 : decode cX8_odds 53 = .ok (.if_icmp .eq 5, 3) := by decide +kernel
theorem dX8_odds_56 : decode cX8_odds 56 = .ok (.iconst (-1), 1) := by decide +kernel
theorem dX8_odds_57 : decode cX8_odds 57 = .ok (.ireturn, 1) := by decide +kernel
theorem dX8_odds_58 : decode cX8_odds 58 = .ok (.aload_n 0, 1) := by decide +kernel
theorem dX8_odds_59 : decode cX8_odds 59 = .ok (.iload_n 1, 1) := by decide +kernel
theorem dX8_odds_60 : decode cX8_odds 60 = .ok (.iload_n 2, 1) := by decide +kernel
theorem dX8_odds_61 : decode cX8_odds 61 = .ok (.iload_n 3, 1) := by decide +kernel
theorem dX8_odds_62 : decode cX8_odds 62 = .ok (.iload 4, 2) := by decide +kernel
theorem dX8_odds_64 : decode cX8_odds 64 = .ok (.invokevirtual 208, 3) := by decide +kernel
theorem dX8_odds_67 : decode cX8_odds 67 = .ok (.istore 6, 2) := by decide +kernel
theorem dX8_odds_69 : decode cX8_odds 69 = .ok (.bipush 10, 2) := by decide +kernel
theorem dX8_odds_71 : decode cX8_odds 71 = .ok (.iload_n 3, 1) := by decide +kernel
theorem dX8_odds_72 : decode cX8_odds 72 = .ok (.invokestatic 212, 3) := by decide +kernel
theorem dX8_odds_75 : decode cX8_odds 75 = .ok (.istore 7, 2) := by decide +kernel
theorem dX8_odds_77 : decode cX8_odds 77 = .ok (.iload 6, 2) := by decide +kernel
theorem dX8_odds_79 : decode cX8_odds 79 = .ok (.iload 7, 2) := by decide +kernel
theorem dX8_odds_81 : decode cX8_odds 81 = .ok (.invokestatic 215, 3) := by decide +kernel
theorem dX8_odds_84 : decode cX8_odds 84 = .ok (.istore 8, 2) := by decide +kernel
theorem dX8_odds_86 : decode cX8_odds 86 = .ok (.iload 8, 2) := by decide +kernel
theorem dX8_odds_88 : decode cX8_odds 88 = .ok (.iconst 1, 1) := by decide +kernel
theorem dX8_odds_89 : decode cX8_odds 89 = .ok (.if_icmp .ge 5, 3) := by decide +kernel
theorem dX8_odds_92 : decode cX8_odds 92 = .ok (.iconst (-1), 1) := by decide +kernel
theorem dX8_odds_93 : decode cX8_odds 93 = .ok (.ireturn, 1) := by decide +kernel
theorem dX8_odds_94 : decode cX8_odds 94 = .ok (.iload 5, 2) := by decide +kernel
theorem dX8_odds_96 : decode cX8_odds 96 = .ok (.ifCond .ne 8, 3) := by decide +kernel
theorem dX8_odds_99 : decode cX8_odds 99 = .ok (.iload 6, 2) := by decide +kernel
theorem dX8_odds_101 : decode cX8_odds 101 = .ok (.goto 5, 3) := by decide +kernel
theorem dX8_odds_104 : decode cX8_odds 104 = .ok (.iload 7, 2) := by decide +kernel
theorem dX8_odds_106 : decode cX8_odds 106 = .ok (.iload 8, 2) := by decide +kernel
theorem dX8_odds_108 : decode cX8_odds 108 = .ok (.idiv, 1) := by decide +kernel
theorem dX8_odds_109 : decode cX8_odds 109 = .ok (.ireturn, 1) := by decide +kernel
set_option maxRecDepth 20000 in
theorem ggX8_rate_X0_has : GoodIn wsX8_rate wsX0_has := goodIn_r _ [7, 8, 72, 73, 74, 75, 76, 77] (by decide +kernel) (by decide +kernel)
set_option maxRecDepth 20000 in
theorem gX8_rate_X0_has : GoodIn wsX8_rate (wsV RX8 107 RX0 yX0_has wsX0_has) := goodIn_app (goodIn_of _ (by decide +kernel)) ggX8_rate_X0_has
set_option maxRecDepth 20000 in
theorem ggX8_rate_X8_asWay : GoodIn wsX8_rate wsX8_asWay := goodIn_r _ [13, 14, 15, 16, 61, 62, 63, 64, 65, 66, 67, 68, 69, 70, 71, 78, 79, 80, 81] (by decide +kernel) (by decide +kernel)
set_option maxRecDepth 20000 in
theorem gX8_rate_X8_asWay : GoodIn wsX8_rate (wsV RX8 219 RX8 yX8_asWay wsX8_asWay) := goodIn_app (goodIn_of _ (by decide +kernel)) ggX8_rate_X8_asWay
set_option maxRecDepth 20000 in
theorem ggX8_rate_X8_asEnd : GoodIn wsX8_rate wsX8_asEnd := goodIn_r _ [20, 14, 21, 1, 22, 9, 10, 11, 12, 13, 15, 16, 61, 62, 63, 64, 65, 66, 67, 68, 69, 70, 71, 72, 73, 74, 75, 76, 77, 78, 79, 80, 81] (by decide +kernel) (by decide +kernel)
set_option maxRecDepth 20000 in
theorem gX8_rate_X8_asEnd : GoodIn wsX8_rate (wsV RX8 222 RX8 yX8_asEnd wsX8_asEnd) := goodIn_app (goodIn_of _ (by decide +kernel)) ggX8_rate_X8_asEnd
set_option maxRecDepth 20000 in
theorem ggX8_rate_X8_asSide : GoodIn wsX8_rate wsX8_asSide := goodIn_r _ [26, 14, 27, 1, 9, 10, 11, 12, 13, 15, 16, 28, 29, 30, 6, 31, 32, 33, 34, 35, 36, 37, 38, 39, 40, 41, 42, 43, 44, 61, 62, 63, 64, 65, 66, 67, 68, 69, 70, 71, 78, 79, 80, 81, 72, 73, 74, 75, 76, 77] (by decide +kernel) (by decide +kernel)
set_option maxRecDepth 20000 in
theorem gX8_rate_X8_asSide : GoodIn wsX8_rate (wsV RX8 225 RX8 yX8_asSide wsX8_asSide) := goodIn_app (goodIn_of _ (by decide +kernel)) ggX8_rate_X8_asSide
set_option maxRecDepth 20000 in
theorem ggX8_rate_X8_asHead : GoodIn wsX8_rate wsX8_asHead := goodIn_r _ [48, 14, 49, 17, 18, 19, 12, 20, 21, 1, 22, 9, 10, 11, 13, 15, 16, 61, 62, 63, 64, 65, 66, 67, 68, 69, 70, 71, 72, 73, 74, 75, 76, 77, 78, 79, 80, 81] (by decide +kernel) (by decide +kernel)
set_option maxRecDepth 20000 in
theorem gX8_rate_X8_asHead : GoodIn wsX8_rate (wsV RX8 228 RX8 yX8_asHead wsX8_asHead) := goodIn_app (goodIn_of _ (by decide +kernel)) ggX8_rate_X8_asHead
set_option maxRecDepth 20000 in
theorem ggX8_rate_X8_asFoot : GoodIn wsX8_rate wsX8_asFoot := goodIn_r _ [53, 14, 54, 23, 24, 25, 12, 26, 27, 1, 9, 10, 11, 13, 15, 16, 28, 29, 30, 6, 31, 32, 33, 34, 35, 36, 37, 38, 39, 40, 41, 42, 43, 44, 61, 62, 63, 64, 65, 66, 67, 68, 69, 70, 71, 78, 79, 80, 81, 72, 73, 74, 75, 76, 77] (by decide +kernel) (by decide +kernel)
set_option maxRecDepth 20000 in
theorem gX8_rate_X8_asFoot : GoodIn wsX8_rate (wsV RX8 231 RX8 yX8_asFoot wsX8_asFoot) := goodIn_app (goodIn_of _ (by decide +kernel)) ggX8_rate_X8_asFoot
set_option maxRecDepth 20000 in
theorem ggX8_rate_X8_asHollow : GoodIn wsX8_rate wsX8_asHollow := goodIn_r _ [58, 14, 59, 15, 60, 9, 10, 11, 12, 13, 16, 61, 62, 63, 64, 65, 66, 67, 68, 69, 70, 71, 78, 79, 80, 81] (by decide +kernel) (by decide +kernel)
set_option maxRecDepth 20000 in
theorem gX8_rate_X8_asHollow : GoodIn wsX8_rate (wsV RX8 234 RX8 yX8_asHollow wsX8_asHollow) := goodIn_app (goodIn_of _ (by decide +kernel)) ggX8_rate_X8_asHollow
theorem dX8_rate_0 : decode cX8_rate 0 = .ok (.aload_n 0, 1) := by decide +kernel
theorem dX8_rate_1 : decode cX8_rate 1 = .ok (.getfield 28, 3) := by decide +kernel
theorem dX8_rate_4 : decode cX8_rate 4 = .ok (.iload_n 2, 1) := by decide +kernel
theorem dX8_rate_5 : decode cX8_rate 5 = .ok (.invokevirtual 107, 3) := by decide +kernel
theorem dX8_rate_8 : decode cX8_rate 8 = .ok (.ifCond .ne 6, 3) := by decide +kernel
theorem dX8_rate_11 : decode cX8_rate 11 = .ok (.ldc 218, 2) := by decide +kernel
theorem dX8_rate_13 : decode cX8_rate 13 = .ok (.ireturn, 1) := by decide +kernel
theorem dX8_rate_14 : decode cX8_rate 14 = .ok (.iload_n 1, 1) := by decide +kernel
theorem dX8_rate_15 : decode cX8_rate 15 = .ok (.tableswitch 73 0 5 #[37, 43, 49, 55, 61, 67], 37) := by decide +kernel
theorem dX8_rate_52 : decode cX8_rate 52 = .ok (.aload_n 0, 1) := by decide +kernel
theorem dX8_rate_53 : decode cX8_rate 53 = .ok (.iload_n 2, 1) := by decide +kernel
theorem dX8_rate_54 : decode cX8_rate 54 = .ok (.invokevirtual 219, 3) := by decide +kernel
theorem dX8_rate_57 : decode cX8_rate 57 = .ok (.ireturn, 1) := by decide +kernel
theorem dX8_rate_58 : decode cX8_rate 58 = .ok (.aload_n 0, 1) := by decide +kernel
theorem dX8_rate_59 : decode cX8_rate 59 = .ok (.iload_n 2, 1) := by decide +kernel
theorem dX8_rate_60 : decode cX8_rate 60 = .ok (.invokevirtual 222, 3) := by decide +kernel
theorem dX8_rate_63 : decode cX8_rate 63 = .ok (.ireturn, 1) := by decide +kernel
theorem dX8_rate_64 : decode cX8_rate 64 = .ok (.aload_n 0, 1) := by decide +kernel
theorem dX8_rate_65 : decode cX8_rate 65 = .ok (.iload_n 2, 1) := by decide +kernel
theorem dX8_rate_66 : decode cX8_rate 66 = .ok (.invokevirtual 225, 3) := by decide +kernel
theorem dX8_rate_69 : decode cX8_rate 69 = .ok (.ireturn, 1) := by decide +kernel
theorem dX8_rate_70 : decode cX8_rate 70 = .ok (.aload_n 0, 1) := by decide +kernel
theorem dX8_rate_71 : decode cX8_rate 71 = .ok (.iload_n 2, 1) := by decide +kernel
theorem dX8_rate_72 : decode cX8_rate 72 = .ok (.invokevirtual 228, 3) := by decide +kernel
theorem dX8_rate_75 : decode cX8_rate 75 = .ok (.ireturn, 1) := by decide +kernel
theorem dX8_rate_76 : decode cX8_rate 76 = .ok (.aload_n 0, 1) := by decide +kernel
theorem dX8_rate_77 : decode cX8_rate 77 = .ok (.iload_n 2, 1) := by decide +kernel
theorem dX8_rate_78 : decode cX8_rate 78 = .ok (.invokevirtual 231, 3) := by decide +kernel
theorem dX8_rate_81 : decode cX8_rate 81 = .ok (.ireturn, 1) := by decide +kernel
theorem dX8_rate_82 : decode cX8_rate 82 = .ok (.aload_n 0, 1) := by decide +kernel
theorem dX8_rate_83 : decode cX8_rate 83 = .ok (.iload_n 2, 1) := by decide +kernel
theorem dX8_rate_84 : decode cX8_rate 84 = .ok (.invokevirtual 234, 3) := by decide +kernel
theorem dX8_rate_87 : decode cX8_rate 87 = .ok (.ireturn, 1) := by decide +kernel
theorem dX8_rate_88 : decode cX8_rate 88 = .ok (.ldc 218, 2) := by decide +kernel
theorem dX8_rate_90 : decode cX8_rate 90 = .ok (.ireturn, 1) := by decide +kernel
set_option maxRecDepth 20000 in
theorem ggX8_keep_X2_copy : GoodIn wsX8_keep wsX2_copy := goodIn_r _ [9, 10, 11, 12, 13, 14, 15, 16, 17, 29, 30, 31, 32] (by decide +kernel) (by decide +kernel)
set_option maxRecDepth 20000 in
theorem gX8_keep_X2_copy : GoodIn wsX8_keep (wsV RX8 237 RX2 yX2_copy wsX2_copy) := goodIn_app (goodIn_of _ (by decide +kernel)) ggX8_keep_X2_copy
theorem dX8_keep_0 : decode cX8_keep 0 = .ok (.iload_n 1, 1) := by decide +kernel
theorem dX8_keep_1 : decode cX8_keep 1 = .ok (.ifCond .lt 8, 3) := by decide +kernel
theorem dX8_keep_4 : decode cX8_keep 4 = .ok (.iload_n 1, 1) := by decide +kernel
theorem dX8_keep_5 : decode cX8_keep 5 = .ok (.iconst 2, 1) := by decide +kernel
theorem dX8_keep_6 : decode cX8_keep 6 = .ok (.if_icmp .lt 5, 3) := by decide +kernel
theorem dX8_keep_9 : decode cX8_keep 9 = .ok (.iconst (-1), 1) := by decide +kernel
theorem dX8_keep_10 : decode cX8_keep 10 = .ok (.ireturn, 1) := by decide +kernel
theorem dX8_keep_11 : decode cX8_keep 11 = .ok (.aload_n 0, 1) := by decide +kernel
theorem dX8_keep_12 : decode cX8_keep 12 = .ok (.getfield 71, 3) := by decide +kernel
theorem dX8_keep_15 : decode cX8_keep 15 = .ok (.iload_n 1, 1) := by decide +kernel
theorem dX8_keep_16 : decode cX8_keep 16 = .ok (.aaload, 1) := by decide +kernel
theorem dX8_keep_17 : decode cX8_keep 17 = .ok (.aload_n 0, 1) := by decide +kernel
theorem dX8_keep_18 : decode cX8_keep 18 = .ok (.getfield 35, 3) := by decide +kernel
theorem dX8_keep_21 : decode cX8_keep 21 = .ok (.invokevirtual 237, 3) := by decide +kernel
theorem dX8_keep_24 : decode cX8_keep 24 = .ok (.aload_n 0, 1) := by decide +kernel
theorem dX8_keep_25 : decode cX8_keep 25 = .ok (.getfield 75, 3) := by decide +kernel
theorem dX8_keep_28 : decode cX8_keep 28 = .ok (.iload_n 1, 1) := by decide +kernel
theorem dX8_keep_29 : decode cX8_keep 29 = .ok (.iconst 1, 1) := by decide +kernel
theorem dX8_keep_30 : decode cX8_keep 30 = .ok (.bastore, 1) := by decide +kernel
theorem dX8_keep_31 : decode cX8_keep 31 = .ok (.aload_n 0, 1) := by decide +kernel
theorem dX8_keep_32 : decode cX8_keep 32 = .ok (.getfield 35, 3) := by decide +kernel
theorem dX8_keep_35 : decode cX8_keep 35 = .ok (.getfield 128, 3) := by decide +kernel
theorem dX8_keep_38 : decode cX8_keep 38 = .ok (.ireturn, 1) := by decide +kernel
set_option maxRecDepth 20000 in
theorem ggX8_back_X2_copy : GoodIn wsX8_back wsX2_copy := goodIn_r _ [11, 12, 13, 14, 15, 16, 17, 18, 19, 34, 35, 36, 37] (by decide +kernel) (by decide +kernel)
set_option maxRecDepth 20000 in
theorem gX8_back_X2_copy : GoodIn wsX8_back (wsV RX8 237 RX2 yX2_copy wsX2_copy) := goodIn_app (goodIn_of _ (by decide +kernel)) ggX8_back_X2_copy
theorem dX8_back_0 : decode cX8_back 0 = .ok (.iload_n 1, 1) := by decide +kernel
theorem dX8_back_1 : decode cX8_back 1 = .ok (.ifCond .lt 8, 3) := by decide +kernel
theorem dX8_back_4 : decode cX8_back 4 = .ok (.iload_n 1, 1) := by decide +kernel
theorem dX8_back_5 : decode cX8_back 5 = .ok (.iconst 2, 1) := by decide +kernel
theorem dX8_back_6 : decode cX8_back 6 = .ok (.if_icmp .lt 5, 3) := by decide +kernel
theorem dX8_back_9 : decode cX8_back 9 = .ok (.iconst (-1), 1) := by decide +kernel
theorem dX8_back_10 : decode cX8_back 10 = .ok (.ireturn, 1) := by decide +kernel
theorem dX8_back_11 : decode cX8_back 11 = .ok (.aload_n 0, 1) := by decide +kernel
theorem dX8_back_12 : decode cX8_back 12 = .ok (.getfield 75, 3) := by decide +kernel
theorem dX8_back_15 : decode cX8_back 15 = .ok (.iload_n 1, 1) := by decide +kernel
theorem dX8_back_16 : decode cX8_back 16 = .ok (.baload, 1) := by decide +kernel
theorem dX8_back_17 : decode cX8_back 17 = .ok (.ifCond .ne 6, 3) := by decide +kernel
theorem dX8_back_20 : decode cX8_back 20 = .ok (.bipush (-2), 2) := by decide +kernel
theorem dX8_back_22 : decode cX8_back 22 = .ok (.ireturn, 1) := by decide +kernel
theorem dX8_back_23 : decode cX8_back 23 = .ok (.aload_n 0, 1) := by decide +kernel
theorem dX8_back_24 : decode cX8_back 24 = .ok (.getfield 35, 3) := by decide +kernel
theorem dX8_back_27 : decode cX8_back 27 = .ok (.aload_n 0, 1) := by decide +kernel
theorem dX8_back_28 : decode cX8_back 28 = .ok (.getfield 71, 3) := by decide +kernel
theorem dX8_back_31 : decode cX8_back 31 = .ok (.iload_n 1, 1) := by decide +kernel
theorem dX8_back_32 : decode cX8_back 32 = .ok (.aaload, 1) := by decide +kernel
theorem dX8_back_33 : decode cX8_back 33 = .ok (.invokevirtual 237, 3) := by decide +kernel
theorem dX8_back_36 : decode cX8_back 36 = .ok (.aload_n 0, 1) := by decide +kernel
theorem dX8_back_37 : decode cX8_back 37 = .ok (.getfield 42, 3) := by decide +kernel
theorem dX8_back_40 : decode cX8_back 40 = .ok (.iconst 0, 1) := by decide +kernel
theorem dX8_back_41 : decode cX8_back 41 = .ok (.putfield 147, 3) := by decide +kernel
theorem dX8_back_44 : decode cX8_back 44 = .ok (.aload_n 0, 1) := by decide +kernel
theorem dX8_back_45 : decode cX8_back 45 = .ok (.getfield 35, 3) := by decide +kernel
theorem dX8_back_48 : decode cX8_back 48 = .ok (.getfield 128, 3) := by decide +kernel
theorem dX8_back_51 : decode cX8_back 51 = .ok (.ireturn, 1) := by decide +kernel
theorem dX8_count_0 : decode cX8_count 0 = .ok (.iload_n 1, 1) := by decide +kernel
theorem dX8_count_1 : decode cX8_count 1 = .ok (.tableswitch 87 0 5 #[39, 47, 55, 63, 71, 79], 39) := by decide +kernel
theorem dX8_count_40 : decode cX8_count 40 = .ok (.aload_n 0, 1) := by decide +kernel
theorem dX8_count_41 : decode cX8_count 41 = .ok (.getfield 28, 3) := by decide +kernel
theorem dX8_count_44 : decode cX8_count 44 = .ok (.getfield 239, 3) := by decide +kernel
theorem dX8_count_47 : decode cX8_count 47 = .ok (.ireturn, 1) := by decide +kernel
theorem dX8_count_48 : decode cX8_count 48 = .ok (.aload_n 0, 1) := by decide +kernel
theorem dX8_count_49 : decode cX8_count 49 = .ok (.getfield 28, 3) := by decide +kernel
theorem dX8_count_52 : decode cX8_count 52 = .ok (.getfield 242, 3) := by decide +kernel
theorem dX8_count_55 : decode cX8_count 55 = .ok (.ireturn, 1) := by decide +kernel
theorem dX8_count_56 : decode cX8_count 56 = .ok (.aload_n 0, 1) := by decide +kernel
theorem dX8_count_57 : decode cX8_count 57 = .ok (.getfield 28, 3) := by decide +kernel
theorem dX8_count_60 : decode cX8_count 60 = .ok (.getfield 166, 3) := by decide +kernel
theorem dX8_count_63 : decode cX8_count 63 = .ok (.ireturn, 1) := by decide +kernel
theorem dX8_count_64 : decode cX8_count 64 = .ok (.aload_n 0, 1) := by decide +kernel
theorem dX8_count_65 : decode cX8_count 65 = .ok (.getfield 28, 3) := by decide +kernel
theorem dX8_count_68 : decode cX8_count 68 = .ok (.getfield 195, 3) := by decide +kernel
theorem dX8_count_71 : decode cX8_count 71 = .ok (.ireturn, 1) := by decide +kernel
theorem dX8_count_72 : decode cX8_count 72 = .ok (.aload_n 0, 1) := by decide +kernel
theorem dX8_count_73 : decode cX8_count 73 = .ok (.getfield 67, 3) := by decide +kernel
theorem dX8_count_76 : decode cX8_count 76 = .ok (.getfield 203, 3) := by decide +kernel
theorem dX8_count_79 : decode cX8_count 79 = .ok (.ireturn, 1) := by decide +kernel
theorem dX8_count_80 : decode cX8_count 80 = .ok (.aload_n 0, 1) := by decide +kernel
theorem dX8_count_81 : decode cX8_count 81 = .ok (.getfield 10, 3) := by decide +kernel
theorem dX8_count_84 : decode cX8_count 84 = .ok (.getfield 87, 3) := by decide +kernel
theorem dX8_count_87 : decode cX8_count 87 = .ok (.ireturn, 1) := by decide +kernel
theorem dX8_count_88 : decode cX8_count 88 = .ok (.iconst (-1), 1) := by decide +kernel
theorem dX8_count_89 : decode cX8_count 89 = .ok (.ireturn, 1) := by decide +kernel
theorem dX8_trace_0 : decode cX8_trace 0 = .ok (.aload_n 0, 1) := by decide +kernel
theorem dX8_trace_1 : decode cX8_trace 1 = .ok (.getfield 79, 3) := by decide +kernel
theorem dX8_trace_4 : decode cX8_trace 4 = .ok (.lreturn, 1) := by decide +kernel
set_option maxRecDepth 20000 in
theorem ggX8_startAnew_X2_restart : GoodIn wsX8_startAnew wsX2_restart := goodIn_r _ [13, 14, 15, 16, 17, 18, 19, 20, 21, 46, 47, 48, 49] (by decide +kernel) (by decide +kernel)
set_option maxRecDepth 20000 in
theorem gX8_startAnew_X2_restart : GoodIn wsX8_startAnew (wsV RX8 248 RX2 yX2_restart wsX2_restart) := goodIn_app (goodIn_of _ (by decide +kernel)) ggX8_startAnew_X2_restart
theorem dX8_startAnew_0 : decode cX8_startAnew 0 = .ok (.aload_n 0, 1) := by decide +kernel
theorem dX8_startAnew_1 : decode cX8_startAnew 1 = .ok (.getfield 35, 3) := by decide +kernel
theorem dX8_startAnew_4 : decode cX8_startAnew 4 = .ok (.aload_n 0, 1) := by decide +kernel
theorem dX8_startAnew_5 : decode cX8_startAnew 5 = .ok (.getfield 28, 3) := by decide +kernel
theorem dX8_startAnew_8 : decode cX8_startAnew 8 = .ok (.getfield 245, 3) := by decide +kernel
theorem dX8_startAnew_11 : decode cX8_startAnew 11 = .ok (.invokevirtual 248, 3) := by decide +kernel
theorem dX8_startAnew_14 : decode cX8_startAnew 14 = .ok (.aload_n 0, 1) := by decide +kernel
theorem dX8_startAnew_15 : decode cX8_startAnew 15 = .ok (.getfield 42, 3) := by decide +kernel
theorem dX8_startAnew_18 : decode cX8_startAnew 18 = .ok (.iconst 0, 1) := by decide +kernel
theorem dX8_startAnew_19 : decode cX8_startAnew 19 = .ok (.putfield 147, 3) := by decide +kernel
theorem dX8_startAnew_22 : decode cX8_startAnew 22 = .ok (.aload_n 0, 1) := by decide +kernel
theorem dX8_startAnew_23 : decode cX8_startAnew 23 = .ok (.getfield 67, 3) := by decide +kernel
theorem dX8_startAnew_26 : decode cX8_startAnew 26 = .ok (.iconst 0, 1) := by decide +kernel
theorem dX8_startAnew_27 : decode cX8_startAnew 27 = .ok (.putfield 203, 3) := by decide +kernel
theorem dX8_startAnew_30 : decode cX8_startAnew 30 = .ok (.iconst 0, 1) := by decide +kernel
theorem dX8_startAnew_31 : decode cX8_startAnew 31 = .ok (.istore_n 1, 1) := by decide +kernel
theorem dX8_startAnew_32 : decode cX8_startAnew 32 = .ok (.iload_n 1, 1) := by decide +kernel
theorem dX8_startAnew_33 : decode cX8_startAnew 33 = .ok (.iconst 2, 1) := by decide +kernel
theorem dX8_startAnew_34 : decode cX8_startAnew 34 = .ok (.if_icmp .ge 16, 3) := by decide +kernel
theorem dX8_startAnew_37 : decode cX8_startAnew 37 = .ok (.aload_n 0, 1) := by decide +kernel
theorem dX8_startAnew_38 : decode cX8_startAnew 38 = .ok (.getfield 75, 3) := by decide +kernel
theorem dX8_startAnew_41 : decode cX8_startAnew 41 = .ok (.iload_n 1, 1) := by decide +kernel
theorem dX8_startAnew_42 : decode cX8_startAnew 42 = .ok (.iconst 0, 1) := by decide +kernel
theorem dX8_startAnew_43 : decode cX8_startAnew 43 = .ok (.bastore, 1) := by decide +kernel
theorem dX8_startAnew_44 : decode cX8_startAnew 44 = .ok (.iinc 1 1, 3) := by decide +kernel
theorem dX8_startAnew_47 : decode cX8_startAnew 47 = .ok (.goto (-15), 3) := by decide +kernel
theorem dX8_startAnew_50 : decode cX8_startAnew 50 = .ok (.return_, 1) := by decide +kernel
theorem dX8_asWay_0 : decode cX8_asWay 0 = .ok (.aload_n 0, 1) := by decide +kernel
theorem dX8_asWay_1 : decode cX8_asWay 1 = .ok (.dup, 1) := by decide +kernel
theorem dX8_asWay_2 : decode cX8_asWay 2 = .ok (.getfield 79, 3) := by decide +kernel
theorem dX8_asWay_5 : decode cX8_asWay 5 = .ok (.lconst 1, 1) := by decide +kernel
theorem dX8_asWay_6 : decode cX8_asWay 6 = .ok (.ladd, 1) := by decide +kernel
theorem dX8_asWay_7 : decode cX8_asWay 7 = .ok (.putfield 79, 3) := by decide +kernel
theorem dX8_asWay_10 : decode cX8_asWay 10 = .ok (.aload_n 0, 1) := by decide +kernel
theorem dX8_asWay_11 : decode cX8_asWay 11 = .ok (.getfield 35, 3) := by decide +kernel
theorem dX8_asWay_14 : decode cX8_asWay 14 = .ok (.getfield 121, 3) := by decide +kernel
theorem dX8_asWay_17 : decode cX8_asWay 17 = .ok (.iload_n 1, 1) := by decide +kernel
theorem dX8_asWay_18 : decode cX8_asWay 18 = .ok (.iaload, 1) := by decide +kernel
theorem dX8_asWay_19 : decode cX8_asWay 19 = .ok (.ireturn, 1) := by decide +kernel
set_option maxRecDepth 20000 in
theorem ggX8_asEnd_X8_asWay : GoodIn wsX8_asEnd wsX8_asWay := goodIn_r _ [9, 1, 10, 11, 12, 13, 14, 15, 16, 17, 18, 19, 20, 21, 22, 29, 30, 31, 32] (by decide +kernel) (by decide +kernel)
set_option maxRecDepth 20000 in
theorem gX8_asEnd_X8_asWay : GoodIn wsX8_asEnd (wsV RX8 219 RX8 yX8_asWay wsX8_asWay) := goodIn_app (goodIn_of _ (by decide +kernel)) ggX8_asEnd_X8_asWay
theorem dX8_asEnd_0 : decode cX8_asEnd 0 = .ok (.aload_n 0, 1) := by decide +kernel
theorem dX8_asEnd_1 : decode cX8_asEnd 1 = .ok (.dup, 1) := by decide +kernel
theorem dX8_asEnd_2 : decode cX8_asEnd 2 = .ok (.getfield 79, 3) := by decide +kernel
theorem dX8_asEnd_5 : decode cX8_asEnd 5 = .ok (.ldc2_w 252, 3) := by decide +kernel
theorem dX8_asEnd_8 : decode cX8_asEnd 8 = .ok (.ladd, 1) := by decide +kernel
theorem dX8_asEnd_9 : decode cX8_asEnd 9 = .ok (.putfield 79, 3) := by decide +kernel
theorem dX8_asEnd_12 : decode cX8_asEnd 12 = .ok (.aload_n 0, 1) := by decide +kernel
theorem dX8_asEnd_13 : decode cX8_asEnd 13 = .ok (.iload_n 1, 1) := by decide +kernel
theorem dX8_asEnd_14 : decode cX8_asEnd 14 = .ok (.invokevirtual 219, 3) := by decide +kernel
theorem dX8_asEnd_17 : decode cX8_asEnd 17 = .ok (.aload_n 0, 1) := by decide +kernel
theorem dX8_asEnd_18 : decode cX8_asEnd 18 = .ok (.getfield 28, 3) := by decide +kernel
theorem dX8_asEnd_21 : decode cX8_asEnd 21 = .ok (.getfield 117, 3) := by decide +kernel
theorem dX8_asEnd_24 : decode cX8_asEnd 24 = .ok (.iload_n 1, 1) := by decide +kernel
theorem dX8_asEnd_25 : decode cX8_asEnd 25 = .ok (.iaload, 1) := by decide +kernel
theorem dX8_asEnd_26 : decode cX8_asEnd 26 = .ok (.iadd, 1) := by decide +kernel
theorem dX8_asEnd_27 : decode cX8_asEnd 27 = .ok (.ireturn, 1) := by decide +kernel
set_option maxRecDepth 20000 in
theorem ggX8_asSide_X8_asWay : GoodIn wsX8_asSide wsX8_asWay := goodIn_r _ [8, 1, 9, 10, 29, 30, 31, 32, 33, 34, 35, 36, 37, 38, 39, 40, 41, 42, 43] (by decide +kernel) (by decide +kernel)
set_option maxRecDepth 20000 in
theorem gX8_asSide_X8_asWay : GoodIn wsX8_asSide (wsV RX8 219 RX8 yX8_asWay wsX8_asWay) := goodIn_app (goodIn_of _ (by decide +kernel)) ggX8_asSide_X8_asWay
set_option maxRecDepth 20000 in
theorem ggX8_asSide_X0_orderOf : GoodIn wsX8_asSide wsX0_orderOf := goodIn_r _ [15, 16, 17, 18, 14, 19, 20, 21, 22, 23, 24, 25, 26, 27, 28, 44, 45, 46, 47, 48, 49] (by decide +kernel) (by decide +kernel)
set_option maxRecDepth 20000 in
theorem gX8_asSide_X0_orderOf : GoodIn wsX8_asSide (wsV RX8 163 RX0 yX0_orderOf wsX0_orderOf) := goodIn_app (goodIn_of _ (by decide +kernel)) ggX8_asSide_X0_orderOf
theorem dX8_asSide_0 : decode cX8_asSide 0 = .ok (.aload_n 0, 1) := by decide +kernel
theorem dX8_asSide_1 : decode cX8_asSide 1 = .ok (.dup, 1) := by decide +kernel
theorem dX8_asSide_2 : decode cX8_asSide 2 = .ok (.getfield 79, 3) := by decide +kernel
theorem dX8_asSide_5 : decode cX8_asSide 5 = .ok (.ldc2_w 254, 3) := by decide +kernel
theorem dX8_asSide_8 : decode cX8_asSide 8 = .ok (.ladd, 1) := by decide +kernel
theorem dX8_asSide_9 : decode cX8_asSide 9 = .ok (.putfield 79, 3) := by decide +kernel
theorem dX8_asSide_12 : decode cX8_asSide 12 = .ok (.aload_n 0, 1) := by decide +kernel
theorem dX8_asSide_13 : decode cX8_asSide 13 = .ok (.iload_n 1, 1) := by decide +kernel
theorem dX8_asSide_14 : decode cX8_asSide 14 = .ok (.invokevirtual 219, 3) := by decide +kernel
theorem dX8_asSide_17 : decode cX8_asSide 17 = .ok (.aload_n 0, 1) := by decide +kernel
theorem dX8_asSide_18 : decode cX8_asSide 18 = .ok (.getfield 28, 3) := by decide +kernel
theorem dX8_asSide_21 : decode cX8_asSide 21 = .ok (.iload_n 1, 1) := by decide +kernel
theorem dX8_asSide_22 : decode cX8_asSide 22 = .ok (.invokevirtual 163, 3) := by decide +kernel
theorem dX8_asSide_25 : decode cX8_asSide 25 = .ok (.isub, 1) := by decide +kernel
theorem dX8_asSide_26 : decode cX8_asSide 26 = .ok (.ireturn, 1) := by decide +kernel
set_option maxRecDepth 20000 in
theorem ggX8_asHead_X8_asEnd : GoodIn wsX8_asHead wsX8_asEnd := goodIn_r _ [7, 1, 8, 9, 10, 11, 12, 13, 6, 14, 15, 16, 17, 18, 19, 20, 21, 22, 23, 24, 25, 26, 27, 28, 29, 30, 31, 32, 33, 34, 35, 36, 37] (by decide +kernel) (by decide +kernel)
set_option maxRecDepth 20000 in
theorem gX8_asHead_X8_asEnd : GoodIn wsX8_asHead (wsV RX8 222 RX8 yX8_asEnd wsX8_asEnd) := goodIn_app (goodIn_of _ (by decide +kernel)) ggX8_asHead_X8_asEnd
theorem dX8_asHead_0 : decode cX8_asHead 0 = .ok (.aload_n 0, 1) := by decide +kernel
theorem dX8_asHead_1 : decode cX8_asHead 1 = .ok (.dup, 1) := by decide +kernel
theorem dX8_asHead_2 : decode cX8_asHead 2 = .ok (.getfield 79, 3) := by decide +kernel
theorem dX8_asHead_5 : decode cX8_asHead 5 = .ok (.ldc2_w 256, 3) := by decide +kernel
theorem dX8_asHead_8 : decode cX8_asHead 8 = .ok (.ladd, 1) := by decide +kernel
theorem dX8_asHead_9 : decode cX8_asHead 9 = .ok (.putfield 79, 3) := by decide +kernel
theorem dX8_asHead_12 : decode cX8_asHead 12 = .ok (.iconst 2, 1) := by decide +kernel
theorem dX8_asHead_13 : decode cX8_asHead 13 = .ok (.aload_n 0, 1) := by decide +kernel
theorem dX8_asHead_14 : decode cX8_asHead 14 = .ok (.iload_n 1, 1) := by decide +kernel
theorem dX8_asHead_15 : decode cX8_asHead 15 = .ok (.invokevirtual 222, 3) := by decide +kernel
theorem dX8_asHead_18 : decode cX8_asHead 18 = .ok (.imul, 1) := by decide +kernel
theorem dX8_asHead_19 : decode cX8_asHead 19 = .ok (.ireturn, 1) := by decide +kernel
set_option maxRecDepth 20000 in
theorem ggX8_asFoot_X8_asSide : GoodIn wsX8_asFoot wsX8_asSide := goodIn_r _ [7, 1, 8, 9, 10, 11, 12, 6, 13, 14, 15, 16, 17, 18, 19, 20, 21, 22, 23, 24, 25, 26, 27, 28, 29, 30, 31, 32, 33, 34, 35, 36, 37, 38, 39, 40, 41, 42, 43, 44, 45, 46, 47, 48, 49, 50, 51, 52, 53, 54] (by decide +kernel) (by decide +kernel)
set_option maxRecDepth 20000 in
theorem gX8_asFoot_X8_asSide : GoodIn wsX8_asFoot (wsV RX8 225 RX8 yX8_asSide wsX8_asSide) := goodIn_app (goodIn_of _ (by decide +kernel)) ggX8_asFoot_X8_asSide
theorem dX8_asFoot_0 : decode cX8_asFoot 0 = .ok (.aload_n 0, 1) := by decide +kernel
theorem dX8_asFoot_1 : decode cX8_asFoot 1 = .ok (.dup, 1) := by decide +kernel
theorem dX8_asFoot_2 : decode cX8_asFoot 2 = .ok (.getfield 79, 3) := by decide +kernel
theorem dX8_asFoot_5 : decode cX8_asFoot 5 = .ok (.ldc2_w 258, 3) := by decide +kernel
theorem dX8_asFoot_8 : decode cX8_asFoot 8 = .ok (.ladd, 1) := by decide +kernel
theorem dX8_asFoot_9 : decode cX8_asFoot 9 = .ok (.putfield 79, 3) := by decide +kernel
theorem dX8_asFoot_12 : decode cX8_asFoot 12 = .ok (.aload_n 0, 1) := by decide +kernel
theorem dX8_asFoot_13 : decode cX8_asFoot 13 = .ok (.iload_n 1, 1) := by decide +kernel
theorem dX8_asFoot_14 : decode cX8_asFoot 14 = .ok (.invokevirtual 225, 3) := by decide +kernel
theorem dX8_asFoot_17 : decode cX8_asFoot 17 = .ok (.iload_n 1, 1) := by decide +kernel
theorem dX8_asFoot_18 : decode cX8_asFoot 18 = .ok (.iadd, 1) := by decide +kernel
theorem dX8_asFoot_19 : decode cX8_asFoot 19 = .ok (.ireturn, 1) := by decide +kernel
set_option maxRecDepth 20000 in
theorem ggX8_asHollow_X8_asWay : GoodIn wsX8_asHollow wsX8_asWay := goodIn_r _ [9, 1, 3, 10, 11, 12, 13, 14, 15, 16, 17, 18, 19, 20, 21, 22, 23, 24, 25] (by decide +kernel) (by decide +kernel)
set_option maxRecDepth 20000 in
theorem gX8_asHollow_X8_asWay : GoodIn wsX8_asHollow (wsV RX8 219 RX8 yX8_asWay wsX8_asWay) := goodIn_app (goodIn_of _ (by decide +kernel)) ggX8_asHollow_X8_asWay
theorem dX8_asHollow_0 : decode cX8_asHollow 0 = .ok (.aload_n 0, 1) := by decide +kernel
theorem dX8_asHollow_1 : decode cX8_asHollow 1 = .ok (.dup, 1) := by decide +kernel
theorem dX8_asHollow_2 : decode cX8_asHollow 2 = .ok (.getfield 79, 3) := by decide +kernel
theorem dX8_asHollow_5 : decode cX8_asHollow 5 = .ok (.ldc2_w 260, 3) := by decide +kernel
theorem dX8_asHollow_8 : decode cX8_asHollow 8 = .ok (.ladd, 1) := by decide +kernel
theorem dX8_asHollow_9 : decode cX8_asHollow 9 = .ok (.putfield 79, 3) := by decide +kernel
theorem dX8_asHollow_12 : decode cX8_asHollow 12 = .ok (.aload_n 0, 1) := by decide +kernel
theorem dX8_asHollow_13 : decode cX8_asHollow 13 = .ok (.iload_n 1, 1) := by decide +kernel
theorem dX8_asHollow_14 : decode cX8_asHollow 14 = .ok (.invokevirtual 219, 3) := by decide +kernel
theorem dX8_asHollow_17 : decode cX8_asHollow 17 = .ok (.aload_n 0, 1) := by decide +kernel
theorem dX8_asHollow_18 : decode cX8_asHollow 18 = .ok (.getfield 35, 3) := by decide +kernel
theorem dX8_asHollow_21 : decode cX8_asHollow 21 = .ok (.getfield 128, 3) := by decide +kernel
theorem dX8_asHollow_24 : decode cX8_asHollow 24 = .ok (.iadd, 1) := by decide +kernel
theorem dX8_asHollow_25 : decode cX8_asHollow 25 = .ok (.ireturn, 1) := by decide +kernel
set_option maxRecDepth 20000 in
theorem ggX8_chances_X8_power : GoodIn wsX8_chances wsX8_power := goodIn_r _ [7] (by decide +kernel) (by decide +kernel)
set_option maxRecDepth 20000 in
theorem gX8_chances_X8_power : GoodIn wsX8_chances (va_wsS RX8 212 yX8_power wsX8_power) := goodIn_app (goodIn_of _ (by decide +kernel)) ggX8_chances_X8_power
set_option maxRecDepth 20000 in
theorem ggX8_chances_X0_from : GoodIn wsX8_chances wsX0_from := goodIn_r _ [12, 13, 14, 15, 16, 11, 17, 18, 19, 20, 21, 37, 38, 39, 40, 41, 42] (by decide +kernel) (by decide +kernel)
set_option maxRecDepth 20000 in
theorem gX8_chances_X0_from : GoodIn wsX8_chances (wsV RX8 124 RX0 yX0_from wsX0_from) := goodIn_app (goodIn_of _ (by decide +kernel)) ggX8_chances_X0_from
theorem dX8_chances_0 : decode cX8_chances 0 = .ok (.iconst 0, 1) := by decide +kernel
theorem dX8_chances_1 : decode cX8_chances 1 = .ok (.istore 5, 2) := by decide +kernel
theorem dX8_chances_3 : decode cX8_chances 3 = .ok (.iconst 1, 1) := by decide +kernel
theorem dX8_chances_4 : decode cX8_chances 4 = .ok (.istore 6, 2) := by decide +kernel
theorem dX8_chances_6 : decode cX8_chances 6 = .ok (.aload_n 0, 1) := by decide +kernel
theorem dX8_chances_7 : decode cX8_chances 7 = .ok (.getfield 35, 3) := by decide +kernel
theorem dX8_chances_10 : decode cX8_chances 10 = .ok (.getfield 131, 3) := by decide +kernel
theorem dX8_chances_13 : decode cX8_chances 13 = .ok (.istore 7, 2) := by decide +kernel
theorem dX8_chances_15 : decode cX8_chances 15 = .ok (.iconst 0, 1) := by decide +kernel
theorem dX8_chances_16 : decode cX8_chances 16 = .ok (.istore 8, 2) := by decide +kernel
theorem dX8_chances_18 : decode cX8_chances 18 = .ok (.iload 8, 2) := by decide +kernel
theorem dX8_chances_20 : decode cX8_chances 20 = .ok (.iload_n 3, 1) := by decide +kernel
theorem dX8_chances_21 : decode cX8_chances 21 = .ok (.if_icmp .gt 68, 3) := by decide +kernel
theorem dX8_chances_24 : decode cX8_chances 24 = .ok (.iload 7, 2) := by decide +kernel
theorem dX8_chances_26 : decode cX8_chances 26 = .ok (.iload 4, 2) := by decide +kernel
theorem dX8_chances_28 : decode cX8_chances 28 = .ok (.if_icmp .ne 29, 3) := by decide +kernel
theorem dX8_chances_31 : decode cX8_chances 31 = .ok (.iload 5, 2) := by decide +kernel
theorem dX8_chances_33 : decode cX8_chances 33 = .ok (.iload 6, 2) := by decide +kernel
theorem dX8_chances_35 : decode cX8_chances 35 = .ok (.bipush 10, 2) := by decide +kernel
theorem dX8_chances_37 : decode cX8_chances 37 = .ok (.iload_n 2, 1) := by decide +kernel
theorem dX8_chances_38 : decode cX8_chances 38 = .ok (.isub, 1) := by decide +kernel
theorem dX8_chances_39 : decode cX8_chances 39 = .ok (.iload 8, 2) := by decide +kernel
theorem dX8_chances_41 : decode cX8_chances 41 = .ok (.invokestatic 212, 3) := by decide +kernel
theorem dX8_chances_44 : decode cX8_chances 44 = .ok (.imul, 1) := by decide +kernel
theorem dX8_chances_45 : decode cX8_chances 45 = .ok (.iload_n 2, 1) := by decide +kernel
theorem dX8_chances_46 : decode cX8_chances 46 = .ok (.iload_n 3, 1) := by decide +kernel
theorem dX8_chances_47 : decode cX8_chances 47 = .ok (.iload 8, 2) := by decide +kernel
theorem dX8_chances_49 : decode cX8_chances 49 = .ok (.isub, 1) := by decide +kernel
theorem dX8_chances_50 : decode cX8_chances 50 = .ok (.invokestatic 212, 3) := by decide +kernel
theorem dX8_chances_53 : decode cX8_chances 53 = .ok (.imul, 1) := by decide +kernel
theorem dX8_chances_54 : decode cX8_chances 54 = .ok (.iadd, 1) := by decide +kernel
theorem dX8_chances_55 : decode cX8_chances 55 = .ok (.istore 5, 2) := by decide +kernel
theorem dX8_chances_57 : decode cX8_chances 57 = .ok (.aload_n 0, 1) := by decide +kernel
theorem dX8_chances_58 : decode cX8_chances 58 = .ok (.getfield 28, 3) := by decide +kernel
theorem dX8_chances_61 : decode cX8_chances 61 = .ok (.iload 7, 2) := by decide +kernel
theorem dX8_chances_63 : decode cX8_chances 63 = .ok (.iload_n 1, 1) := by decide +kernel
theorem dX8_chances_64 : decode cX8_chances 64 = .ok (.invokevirtual 124, 3) := by decide +kernel
theorem dX8_chances_67 : decode cX8_chances 67 = .ok (.istore 7, 2) := by decide +kernel
theorem dX8_chances_69 : decode cX8_chances 69 = .ok (.iload 6, 2) := by decide +kernel
theorem dX8_chances_71 : decode cX8_chances 71 = .ok (.iload_n 3, 1) := by decide +kernel
theorem dX8_chances_72 : decode cX8_chances 72 = .ok (.iload 8, 2) := by decide +kernel
theorem dX8_chances_74 : decode cX8_chances 74 = .ok (.isub, 1) := by decide +kernel
theorem dX8_chances_75 : decode cX8_chances 75 = .ok (.imul, 1) := by decide +kernel
theorem dX8_chances_76 : decode cX8_chances 76 = .ok (.iload 8, 2) := by decide +kernel
theorem dX8_chances_78 : decode cX8_chances 78 = .ok (.iconst 1, 1) := by decide +kernel
theorem dX8_chances_79 : decode cX8_chances 79 = .ok (.iadd, 1) := by decide +kernel
theorem dX8_chances_80 : decode cX8_chances 80 = .ok (.idiv, 1) := by decide +kernel
theorem dX8_chances_81 : decode cX8_chances 81 = .ok (.istore 6, 2) := by decide +kernel
theorem dX8_chances_83 : decode cX8_chances 83 = .ok (.iinc 8 1, 3) := by decide +kernel
theorem dX8_chances_86 : decode cX8_chances 86 = .ok (.goto (-68), 3) := by decide +kernel
theorem dX8_chances_89 : decode cX8_chances 89 = .ok (.iload 5, 2) := by decide +kernel
theorem dX8_chances_91 : decode cX8_chances 91 = .ok (.ireturn, 1) := by decide +kernel
theorem dX8_power_0 : decode cX8_power 0 = .ok (.iconst 1, 1) := by decide +kernel
theorem dX8_power_1 : decode cX8_power 1 = .ok (.istore_n 2, 1) := by decide +kernel
theorem dX8_power_2 : decode cX8_power 2 = .ok (.iconst 0, 1) := by decide +kernel
theorem dX8_power_3 : decode cX8_power 3 = .ok (.istore_n 3, 1) := by decide +kernel
theorem dX8_power_4 : decode cX8_power 4 = .ok (.iload_n 3, 1) := by decide +kernel
theorem dX8_power_5 : decode cX8_power 5 = .ok (.iload_n 1, 1) := by decide +kernel
theorem dX8_power_6 : decode cX8_power 6 = .ok (.if_icmp .ge 13, 3) := by decide +kernel
theorem dX8_power_9 : decode cX8_power 9 = .ok (.iload_n 2, 1) := by decide +kernel
theorem dX8_power_10 : decode cX8_power 10 = .ok (.iload_n 0, 1) := by decide +kernel
theorem dX8_power_11 : decode cX8_power 11 = .ok (.imul, 1) := by decide +kernel
theorem dX8_power_12 : decode cX8_power 12 = .ok (.istore_n 2, 1) := by decide +kernel
theorem dX8_power_13 : decode cX8_power 13 = .ok (.iinc 3 1, 3) := by decide +kernel
theorem dX8_power_16 : decode cX8_power 16 = .ok (.goto (-12), 3) := by decide +kernel
theorem dX8_power_19 : decode cX8_power 19 = .ok (.iload_n 2, 1) := by decide +kernel
theorem dX8_power_20 : decode cX8_power 20 = .ok (.ireturn, 1) := by decide +kernel
theorem dX8_commonDivisor_0 : decode cX8_commonDivisor 0 = .ok (.iload_n 0, 1) := by decide +kernel
theorem dX8_commonDivisor_1 : decode cX8_commonDivisor 1 = .ok (.istore_n 2, 1) := by decide +kernel
theorem dX8_commonDivisor_2 : decode cX8_commonDivisor 2 = .ok (.iload_n 1, 1) := by decide +kernel
theorem dX8_commonDivisor_3 : decode cX8_commonDivisor 3 = .ok (.istore_n 3, 1) := by decide +kernel
theorem dX8_commonDivisor_4 : decode cX8_commonDivisor 4 = .ok (.iconst 0, 1) := by decide +kernel
theorem dX8_commonDivisor_5 : decode cX8_commonDivisor 5 = .ok (.istore 4, 2) := by decide +kernel
theorem dX8_commonDivisor_7 : decode cX8_commonDivisor 7 = .ok (.iload 4, 2) := by decide +kernel
theorem dX8_commonDivisor_9 : decode cX8_commonDivisor 9 = .ok (.bipush 64, 2) := by decide +kernel
theorem dX8_commonDivisor_11 : decode cX8_commonDivisor 11 = .ok (.if_icmp .ge 23, 3) := by decide +kernel
theorem dX8_commonDivisor_14 : decode cX8_commonDivisor 14 = .ok (.iload_n 3, 1) := by decide +kernel
theorem dX8_commonDivisor_15 : decode cX8_commonDivisor 15 = .ok (.ifCond .eq 19, 3) := by decide +kernel
theorem dX8_commonDivisor_18 : decode cX8_commonDivisor 18 = .ok (.iload_n 2, 1) := by decide +kernel
theorem dX8_commonDivisor_19 : decode cX8_commonDivisor 19 = .ok (.iload_n 3, 1) := by decide +kernel
theorem dX8_commonDivisor_20 : decode cX8_commonDivisor 20 = .ok (.irem, 1) := by decide +kernel
theorem dX8_commonDivisor_21 : decode cX8_commonDivisor 21 = .ok (.istore 5, 2) := by decide +kernel
theorem dX8_commonDivisor_23 : decode cX8_commonDivisor 23 = .ok (.iload_n 3, 1) := by decide +kernel
theorem dX8_commonDivisor_24 : decode cX8_commonDivisor 24 = .ok (.istore_n 2, 1) := by decide +kernel
theorem dX8_commonDivisor_25 : decode cX8_commonDivisor 25 = .ok (.iload 5, 2) := by decide +kernel
theorem dX8_commonDivisor_27 : decode cX8_commonDivisor 27 = .ok (.istore_n 3, 1) := by decide +kernel
theorem dX8_commonDivisor_28 : decode cX8_commonDivisor 28 = .ok (.iinc 4 1, 3) := by decide +kernel
theorem dX8_commonDivisor_31 : decode cX8_commonDivisor 31 = .ok (.goto (-24), 3) := by decide +kernel
theorem dX8_commonDivisor_34 : decode cX8_commonDivisor 34 = .ok (.iload_n 2, 1) := by decide +kernel
theorem dX8_commonDivisor_35 : decode cX8_commonDivisor 35 = .ok (.ireturn, 1) := by decide +kernel
theorem dX9_init_0 : decode cX9_init 0 = .ok (.aload_n 0, 1) := by decide +kernel
theorem dX9_init_1 : decode cX9_init 1 = .ok (.invokespecial 1, 3) := by decide +kernel
theorem dX9_init_4 : decode cX9_init 4 = .ok (.aload_n 0, 1) := by decide +kernel
theorem dX9_init_5 : decode cX9_init 5 = .ok (.iconst 2, 1) := by decide +kernel
theorem dX9_init_6 : decode cX9_init 6 = .ok (.putfield 7, 3) := by decide +kernel
theorem dX9_init_9 : decode cX9_init 9 = .ok (.aload_n 0, 1) := by decide +kernel
theorem dX9_init_10 : decode cX9_init 10 = .ok (.iconst 2, 1) := by decide +kernel
theorem dX9_init_11 : decode cX9_init 11 = .ok (.putfield 13, 3) := by decide +kernel
theorem dX9_init_14 : decode cX9_init 14 = .ok (.aload_n 0, 1) := by decide +kernel
theorem dX9_init_15 : decode cX9_init 15 = .ok (.iconst 4, 1) := by decide +kernel
theorem dX9_init_16 : decode cX9_init 16 = .ok (.putfield 16, 3) := by decide +kernel
theorem dX9_init_19 : decode cX9_init 19 = .ok (.aload_n 0, 1) := by decide +kernel
theorem dX9_init_20 : decode cX9_init 20 = .ok (.bipush 20, 2) := by decide +kernel
theorem dX9_init_22 : decode cX9_init 22 = .ok (.putfield 19, 3) := by decide +kernel
theorem dX9_init_25 : decode cX9_init 25 = .ok (.aload_n 0, 1) := by decide +kernel
theorem dX9_init_26 : decode cX9_init 26 = .ok (.bipush 12, 2) := by decide +kernel
theorem dX9_init_28 : decode cX9_init 28 = .ok (.newarray .int, 2) := by decide +kernel
theorem dX9_init_30 : decode cX9_init 30 = .ok (.dup, 1) := by decide +kernel
theorem dX9_init_31 : decode cX9_init 31 = .ok (.iconst 0, 1) := by decide +kernel
theorem dX9_init_32 : decode cX9_init 32 = .ok (.iconst 1, 1) := by decide +kernel
theorem dX9_init_33 : decode cX9_init 33 = .ok (.iastore, 1) := by decide +kernel
theorem dX9_init_34 : decode cX9_init 34 = .ok (.dup, 1) := by decide +kernel
theorem dX9_init_35 : decode cX9_init 35 = .ok (.iconst 1, 1) := by decide +kernel
theorem dX9_init_36 : decode cX9_init 36 = .ok (.iconst 1, 1) := by decide +kernel
theorem dX9_init_37 : decode cX9_init 37 = .ok (.iastore, 1) := by decide +kernel
theorem dX9_init_38 : decode cX9_init 38 = .ok (.dup, 1) := by decide +kernel
theorem dX9_init_39 : decode cX9_init 39 = .ok (.iconst 2, 1) := by decide +kernel
theorem dX9_init_40 : decode cX9_init 40 = .ok (.iconst 1, 1) := by decide +kernel
theorem dX9_init_41 : decode cX9_init 41 = .ok (.iastore, 1) := by decide +kernel
theorem dX9_init_42 : decode cX9_init 42 = .ok (.dup, 1) := by decide +kernel
theorem dX9_init_43 : decode cX9_init 43 = .ok (.iconst 3, 1) := by decide +kernel
theorem dX9_init_44 : decode cX9_init 44 = .ok (.iconst 1, 1) := by decide +kernel
theorem dX9_init_45 : decode cX9_init 45 = .ok (.iastore, 1) := by decide +kernel
theorem dX9_init_46 : decode cX9_init 46 = .ok (.dup, 1) := by decide +kernel
theorem dX9_init_47 : decode cX9_init 47 = .ok (.iconst 4, 1) := by decide +kernel
theorem dX9_init_48 : decode cX9_init 48 = .ok (.iconst 1, 1) := by decide +kernel
theorem dX9_init_49 : decode cX9_init 49 = .ok (.iastore, 1) := by decide +kernel
theorem dX9_init_50 : decode cX9_init 50 = .ok (.dup, 1) := by decide +kernel
theorem dX9_init_51 : decode cX9_init 51 = .ok (.iconst 5, 1) := by decide +kernel
theorem dX9_init_52 : decode cX9_init 52 = .ok (.iconst 1, 1) := by decide +kernel
theorem dX9_init_53 : decode cX9_init 53 = .ok (.iastore, 1) := by decide +kernel
theorem dX9_init_54 : decode cX9_init 54 = .ok (.dup, 1) := by decide +kernel
theorem dX9_init_55 : decode cX9_init 55 = .ok (.bipush 6, 2) := by decide +kernel
theorem dX9_init_57 : decode cX9_init 57 = .ok (.iconst 1, 1) := by decide +kernel
theorem dX9_init_58 : decode cX9_init 58 = .ok (.iastore, 1) := by decide +kernel
theorem dX9_init_59 : decode cX9_init 59 = .ok (.dup, 1) := by decide +kernel
