theorem dX8_makes_60 : decode cX8_makes 60 = .ok (.iconst 1, 1) := by decide +kernel
theorem dX8_makes_61 : decode cX8_makes 61 = .ok (.iadd, 1) := by decide +kernel
theorem dX8_makes_62 : decode cX8_makes 62 = .ok (.invokestatic 154, 3) := by decide +kernel
theorem dX8_makes_65 : decode cX8_makes 65 = .ok (.putfield 134, 3) := by decide +kernel
theorem dX8_makes_68 : decode cX8_makes 68 = .ok (.aload_n 0, 1) := by decide +kernel
theorem dX8_makes_69 : decode cX8_makes 69 = .ok (.getfield 35, 3) := by decide +kernel
theorem dX8_makes_72 : decode cX8_makes 72 = .ok (.getfield 131, 3) := by decide +kernel
theorem dX8_makes_75 : decode cX8_makes 75 = .ok (.ireturn, 1) := by decide +kernel
set_option maxRecDepth 20000 in
theorem ggX8_stuffs_X0_has : GoodIn wsX8_stuffs wsX0_has := goodIn_r _ [9, 10, 51, 52, 53, 54, 55, 56] (by decide +kernel) (by decide +kernel)
set_option maxRecDepth 20000 in
theorem gX8_stuffs_X0_has : GoodIn wsX8_stuffs (wsV RX8 107 RX0 yX0_has wsX0_has) := goodIn_app (goodIn_of _ (by decide +kernel)) ggX8_stuffs_X0_has
set_option maxRecDepth 20000 in
theorem ggX8_stuffs_X3_remember : GoodIn wsX8_stuffs wsX3_remember := goodIn_r _ [15, 16, 17, 18, 19, 20, 21, 22, 23, 24, 25, 26, 27, 28, 29, 30, 31, 32, 33, 34, 35, 57, 58, 59, 47, 48, 49, 50] (by decide +kernel) (by decide +kernel)
set_option maxRecDepth 20000 in
theorem gX8_stuffs_X3_remember : GoodIn wsX8_stuffs (wsV RX8 150 RX3 yX3_remember wsX3_remember) := goodIn_app (goodIn_of _ (by decide +kernel)) ggX8_stuffs_X3_remember
theorem dX8_stuffs_0 : decode cX8_stuffs 0 = .ok (.aload_n 0, 1) := by decide +kernel
theorem dX8_stuffs_1 : decode cX8_stuffs 1 = .ok (.getfield 28, 3) := by decide +kernel
theorem dX8_stuffs_4 : decode cX8_stuffs 4 = .ok (.iload_n 1, 1) := by decide +kernel
theorem dX8_stuffs_5 : decode cX8_stuffs 5 = .ok (.invokevirtual 107, 3) := by decide +kernel
theorem dX8_stuffs_8 : decode cX8_stuffs 8 = .ok (.ifCond .ne 5, 3) := by decide +kernel
theorem dX8_stuffs_11 : decode cX8_stuffs 11 = .ok (.iconst (-1), 1) := by decide +kernel
theorem dX8_stuffs_12 : decode cX8_stuffs 12 = .ok (.ireturn, 1) := by decide +kernel
theorem dX8_stuffs_13 : decode cX8_stuffs 13 = .ok (.aload_n 0, 1) := by decide +kernel
theorem dX8_stuffs_14 : decode cX8_stuffs 14 = .ok (.getfield 42, 3) := by decide +kernel
theorem dX8_stuffs_17 : decode cX8_stuffs 17 = .ok (.aload_n 0, 1) := by decide +kernel
theorem dX8_stuffs_18 : decode cX8_stuffs 18 = .ok (.getfield 35, 3) := by decide +kernel
theorem dX8_stuffs_21 : decode cX8_stuffs 21 = .ok (.invokevirtual 150, 3) := by decide +kernel
theorem dX8_stuffs_24 : decode cX8_stuffs 24 = .ok (.aload_n 0, 1) := by decide +kernel
theorem dX8_stuffs_25 : decode cX8_stuffs 25 = .ok (.getfield 35, 3) := by decide +kernel
theorem dX8_stuffs_28 : decode cX8_stuffs 28 = .ok (.getfield 121, 3) := by decide +kernel
theorem dX8_stuffs_31 : decode cX8_stuffs 31 = .ok (.iload_n 1, 1) := by decide +kernel
theorem dX8_stuffs_32 : decode cX8_stuffs 32 = .ok (.iaload, 1) := by decide +kernel
theorem dX8_stuffs_33 : decode cX8_stuffs 33 = .ok (.istore_n 2, 1) := by decide +kernel
theorem dX8_stuffs_34 : decode cX8_stuffs 34 = .ok (.aload_n 0, 1) := by decide +kernel
theorem dX8_stuffs_35 : decode cX8_stuffs 35 = .ok (.getfield 35, 3) := by decide +kernel
theorem dX8_stuffs_38 : decode cX8_stuffs 38 = .ok (.getfield 121, 3) := by decide +kernel
theorem dX8_stuffs_41 : decode cX8_stuffs 41 = .ok (.iload_n 1, 1) := by decide +kernel
theorem dX8_stuffs_42 : decode cX8_stuffs 42 = .ok (.iconst 0, 1) := by decide +kernel
theorem dX8_stuffs_43 : decode cX8_stuffs 43 = .ok (.iastore, 1) := by decide +kernel
theorem dX8_stuffs_44 : decode cX8_stuffs 44 = .ok (.iload_n 2, 1) := by decide +kernel
theorem dX8_stuffs_45 : decode cX8_stuffs 45 = .ok (.ireturn, 1) := by decide +kernel
set_option maxRecDepth 20000 in
theorem ggX8_undo_X3_restore : GoodIn wsX8_undo wsX3_restore := goodIn_r _ [8, 9, 10, 11, 12, 13, 14, 15, 16, 17, 18, 19, 20, 21, 22, 23, 24, 36, 37, 38, 39, 40, 41, 42] (by decide +kernel) (by decide +kernel)
set_option maxRecDepth 20000 in
theorem gX8_undo_X3_restore : GoodIn wsX8_undo (wsV RX8 159 RX3 yX3_restore wsX3_restore) := goodIn_app (goodIn_of _ (by decide +kernel)) ggX8_undo_X3_restore
theorem dX8_undo_0 : decode cX8_undo 0 = .ok (.aload_n 0, 1) := by decide +kernel
theorem dX8_undo_1 : decode cX8_undo 1 = .ok (.getfield 42, 3) := by decide +kernel
theorem dX8_undo_4 : decode cX8_undo 4 = .ok (.aload_n 0, 1) := by decide +kernel
theorem dX8_undo_5 : decode cX8_undo 5 = .ok (.getfield 35, 3) := by decide +kernel
theorem dX8_undo_8 : decode cX8_undo 8 = .ok (.invokevirtual 159, 3) := by decide +kernel
theorem dX8_undo_11 : decode cX8_undo 11 = .ok (.ifCond .eq 13, 3) := by decide +kernel
theorem dX8_undo_14 : decode cX8_undo 14 = .ok (.aload_n 0, 1) := by decide +kernel
theorem dX8_undo_15 : decode cX8_undo 15 = .ok (.getfield 42, 3) := by decide +kernel
theorem dX8_undo_18 : decode cX8_undo 18 = .ok (.getfield 147, 3) := by decide +kernel
theorem dX8_undo_21 : decode cX8_undo 21 = .ok (.goto 5, 3) := by decide +kernel
theorem dX8_undo_24 : decode cX8_undo 24 = .ok (.bipush (-2), 2) := by decide +kernel
theorem dX8_undo_26 : decode cX8_undo 26 = .ok (.ireturn, 1) := by decide +kernel
set_option maxRecDepth 20000 in
theorem ggX8_again_X0_has : GoodIn wsX8_again wsX0_has := goodIn_r _ [6, 7, 36, 37, 38, 39, 40, 41] (by decide +kernel) (by decide +kernel)
set_option maxRecDepth 20000 in
theorem gX8_again_X0_has : GoodIn wsX8_again (wsV RX8 107 RX0 yX0_has wsX0_has) := goodIn_app (goodIn_of _ (by decide +kernel)) ggX8_again_X0_has
set_option maxRecDepth 20000 in
theorem ggX8_again_X0_orderOf : GoodIn wsX8_again wsX0_orderOf := goodIn_r _ [11, 12, 13, 14, 5, 15, 16, 17, 18, 19, 20, 21, 22, 23, 24, 36, 37, 38, 39, 40, 41] (by decide +kernel) (by decide +kernel)
set_option maxRecDepth 20000 in
theorem gX8_again_X0_orderOf : GoodIn wsX8_again (wsV RX8 163 RX0 yX0_orderOf wsX0_orderOf) := goodIn_app (goodIn_of _ (by decide +kernel)) ggX8_again_X0_orderOf
theorem dX8_again_0 : decode cX8_again 0 = .ok (.aload_n 0, 1) := by decide +kernel
theorem dX8_again_1 : decode cX8_again 1 = .ok (.getfield 28, 3) := by decide +kernel
theorem dX8_again_4 : decode cX8_again 4 = .ok (.iload_n 1, 1) := by decide +kernel
theorem dX8_again_5 : decode cX8_again 5 = .ok (.invokevirtual 107, 3) := by decide +kernel
theorem dX8_again_8 : decode cX8_again 8 = .ok (.ifCond .eq 14, 3) := by decide +kernel
theorem dX8_again_11 : decode cX8_again 11 = .ok (.aload_n 0, 1) := by decide +kernel
theorem dX8_again_12 : decode cX8_again 12 = .ok (.getfield 28, 3) := by decide +kernel
theorem dX8_again_15 : decode cX8_again 15 = .ok (.iload_n 1, 1) := by decide +kernel
theorem dX8_again_16 : decode cX8_again 16 = .ok (.invokevirtual 163, 3) := by decide +kernel
theorem dX8_again_19 : decode cX8_again 19 = .ok (.goto 4, 3) := by decide +kernel
theorem dX8_again_22 : decode cX8_again 22 = .ok (.iconst (-1), 1) := by decide +kernel
theorem dX8_again_23 : decode cX8_again 23 = .ok (.ireturn, 1) := by decide +kernel
set_option maxRecDepth 20000 in
theorem ggX8_all_X0_orderOf : GoodIn wsX8_all wsX0_orderOf := goodIn_r _ [7, 8, 9, 10, 6, 11, 12, 13, 14, 15, 16, 17, 18, 19, 20, 32, 33, 34, 35, 36, 37] (by decide +kernel) (by decide +kernel)
set_option maxRecDepth 20000 in
theorem gX8_all_X0_orderOf : GoodIn wsX8_all (wsV RX8 163 RX0 yX0_orderOf wsX0_orderOf) := goodIn_app (goodIn_of _ (by decide +kernel)) ggX8_all_X0_orderOf
theorem dX8_all_0 : decode cX8_all 0 = .ok (.iconst 0, 1) := by decide +kernel
theorem dX8_all_1 : decode cX8_all 1 = .ok (.istore_n 1, 1) := by decide +kernel
theorem dX8_all_2 : decode cX8_all 2 = .ok (.iconst 0, 1) := by decide +kernel
theorem dX8_all_3 : decode cX8_all 3 = .ok (.istore_n 2, 1) := by decide +kernel
theorem dX8_all_4 : decode cX8_all 4 = .ok (.iload_n 2, 1) := by decide +kernel
theorem dX8_all_5 : decode cX8_all 5 = .ok (.aload_n 0, 1) := by decide +kernel
theorem dX8_all_6 : decode cX8_all 6 = .ok (.getfield 28, 3) := by decide +kernel
theorem dX8_all_9 : decode cX8_all 9 = .ok (.getfield 166, 3) := by decide +kernel
theorem dX8_all_12 : decode cX8_all 12 = .ok (.if_icmp .ge 33, 3) := by decide +kernel
theorem dX8_all_15 : decode cX8_all 15 = .ok (.aload_n 0, 1) := by decide +kernel
theorem dX8_all_16 : decode cX8_all 16 = .ok (.getfield 28, 3) := by decide +kernel
theorem dX8_all_19 : decode cX8_all 19 = .ok (.iload_n 2, 1) := by decide +kernel
theorem dX8_all_20 : decode cX8_all 20 = .ok (.invokevirtual 163, 3) := by decide +kernel
theorem dX8_all_23 : decode cX8_all 23 = .ok (.aload_n 0, 1) := by decide +kernel
theorem dX8_all_24 : decode cX8_all 24 = .ok (.getfield 28, 3) := by decide +kernel
theorem dX8_all_27 : decode cX8_all 27 = .ok (.getfield 166, 3) := by decide +kernel
theorem dX8_all_30 : decode cX8_all 30 = .ok (.if_icmp .ne 9, 3) := by decide +kernel
theorem dX8_all_33 : decode cX8_all 33 = .ok (.iload_n 1, 1) := by decide +kernel
theorem dX8_all_34 : decode cX8_all 34 = .ok (.iconst 1, 1) := by decide +kernel
theorem dX8_all_35 : decode cX8_all 35 = .ok (.iload_n 2, 1) := by decide +kernel
theorem dX8_all_36 : decode cX8_all 36 = .ok (.ishl, 1) := by decide +kernel
theorem dX8_all_37 : decode cX8_all 37 = .ok (.ior, 1) := by decide +kernel
theorem dX8_all_38 : decode cX8_all 38 = .ok (.istore_n 1, 1) := by decide +kernel
theorem dX8_all_39 : decode cX8_all 39 = .ok (.iinc 2 1, 3) := by decide +kernel
theorem dX8_all_42 : decode cX8_all 42 = .ok (.goto (-38), 3) := by decide +kernel
theorem dX8_all_45 : decode cX8_all 45 = .ok (.iload_n 1, 1) := by decide +kernel
theorem dX8_all_46 : decode cX8_all 46 = .ok (.ireturn, 1) := by decide +kernel
set_option maxRecDepth 20000 in
theorem ggX8_byTurns_X0_comesThroughAll : GoodIn wsX8_byTurns wsX0_comesThroughAll := goodIn_r _ [9, 10, 11, 12, 13, 8, 14, 15, 16, 17, 18, 19, 20, 21, 22, 23, 24, 25, 26, 27, 39, 40, 41, 42, 43, 44] (by decide +kernel) (by decide +kernel)
set_option maxRecDepth 20000 in
theorem gX8_byTurns_X0_comesThroughAll : GoodIn wsX8_byTurns (wsV RX8 169 RX0 yX0_comesThroughAll wsX0_comesThroughAll) := goodIn_app (goodIn_of _ (by decide +kernel)) ggX8_byTurns_X0_comesThroughAll
theorem dX8_byTurns_0 : decode cX8_byTurns 0 = .ok (.iload_n 1, 1) := by decide +kernel
theorem dX8_byTurns_1 : decode cX8_byTurns 1 = .ok (.ifCond .eq 10, 3) := by decide +kernel
theorem dX8_byTurns_4 : decode cX8_byTurns 4 = .ok (.iload_n 1, 1) := by decide +kernel
theorem dX8_byTurns_5 : decode cX8_byTurns 5 = .ok (.iconst 1, 1) := by decide +kernel
theorem dX8_byTurns_6 : decode cX8_byTurns 6 = .ok (.if_icmp .eq 5, 3) := by decide +kernel
theorem dX8_byTurns_9 : decode cX8_byTurns 9 = .ok (.iconst (-1), 1) := by decide +kernel
theorem dX8_byTurns_10 : decode cX8_byTurns 10 = .ok (.ireturn, 1) := by decide +kernel
theorem dX8_byTurns_11 : decode cX8_byTurns 11 = .ok (.iconst 0, 1) := by decide +kernel
theorem dX8_byTurns_12 : decode cX8_byTurns 12 = .ok (.istore_n 2, 1) := by decide +kernel
theorem dX8_byTurns_13 : decode cX8_byTurns 13 = .ok (.bipush (-9), 2) := by decide +kernel
theorem dX8_byTurns_15 : decode cX8_byTurns 15 = .ok (.istore_n 3, 1) := by decide +kernel
theorem dX8_byTurns_16 : decode cX8_byTurns 16 = .ok (.iconst 0, 1) := by decide +kernel
theorem dX8_byTurns_17 : decode cX8_byTurns 17 = .ok (.istore 4, 2) := by decide +kernel
theorem dX8_byTurns_19 : decode cX8_byTurns 19 = .ok (.iload 4, 2) := by decide +kernel
theorem dX8_byTurns_21 : decode cX8_byTurns 21 = .ok (.aload_n 0, 1) := by decide +kernel
theorem dX8_byTurns_22 : decode cX8_byTurns 22 = .ok (.getfield 28, 3) := by decide +kernel
theorem dX8_byTurns_25 : decode cX8_byTurns 25 = .ok (.getfield 166, 3) := by decide +kernel
theorem dX8_byTurns_28 : decode cX8_byTurns 28 = .ok (.if_icmp .ge 78, 3) := by decide +kernel
theorem dX8_byTurns_31 : decode cX8_byTurns 31 = .ok (.iconst 0, 1) := by decide +kernel
theorem dX8_byTurns_32 : decode cX8_byTurns 32 = .ok (.istore 5, 2) := by decide +kernel
theorem dX8_byTurns_34 : decode cX8_byTurns 34 = .ok (.iload 5, 2) := by decide +kernel
theorem dX8_byTurns_36 : decode cX8_byTurns 36 = .ok (.aload_n 0, 1) := by decide +kernel
theorem dX8_byTurns_37 : decode cX8_byTurns 37 = .ok (.getfield 28, 3) := by decide +kernel
theorem dX8_byTurns_40 : decode cX8_byTurns 40 = .ok (.getfield 166, 3) := by decide +kernel
theorem dX8_byTurns_43 : decode cX8_byTurns 43 = .ok (.if_icmp .ge 57, 3) := by decide +kernel
theorem dX8_byTurns_46 : decode cX8_byTurns 46 = .ok (.iload 4, 2) := by decide +kernel
theorem dX8_byTurns_48 : decode cX8_byTurns 48 = .ok (.iload 5, 2) := by decide +kernel
theorem dX8_byTurns_50 : decode cX8_byTurns 50 = .ok (.if_icmp .eq 44, 3) := by decide +kernel
theorem dX8_byTurns_53 : decode cX8_byTurns 53 = .ok (.aload_n 0, 1) := by decide +kernel
theorem dX8_byTurns_54 : decode cX8_byTurns 54 = .ok (.getfield 28, 3) := by decide +kernel
theorem dX8_byTurns_57 : decode cX8_byTurns 57 = .ok (.aload_n 0, 1) := by decide +kernel
theorem dX8_byTurns_58 : decode cX8_byTurns 58 = .ok (.getfield 35, 3) := by decide +kernel
theorem dX8_byTurns_61 : decode cX8_byTurns 61 = .ok (.getfield 131, 3) := by decide +kernel
theorem dX8_byTurns_64 : decode cX8_byTurns 64 = .ok (.iload 4, 2) := by decide +kernel
theorem dX8_byTurns_66 : decode cX8_byTurns 66 = .ok (.iload 5, 2) := by decide +kernel
theorem dX8_byTurns_68 : decode cX8_byTurns 68 = .ok (.invokevirtual 169, 3) := by decide +kernel
theorem dX8_byTurns_71 : decode cX8_byTurns 71 = .ok (.ifCond .eq 23, 3) := by decide +kernel
theorem dX8_byTurns_74 : decode cX8_byTurns 74 = .ok (.iload_n 2, 1) := by decide +kernel
theorem dX8_byTurns_75 : decode cX8_byTurns 75 = .ok (.ifCond .ne 14, 3) := by decide +kernel
theorem dX8_byTurns_78 : decode cX8_byTurns 78 = .ok (.bipush 100, 2) := by decide +kernel
theorem dX8_byTurns_80 : decode cX8_byTurns 80 = .ok (.iload 4, 2) := by decide +kernel
theorem dX8_byTurns_82 : decode cX8_byTurns 82 = .ok (.imul, 1) := by decide +kernel
theorem dX8_byTurns_83 : decode cX8_byTurns 83 = .ok (.iload 5, 2) := by decide +kernel
theorem dX8_byTurns_85 : decode cX8_byTurns 85 = .ok (.iadd, 1) := by decide +kernel
theorem dX8_byTurns_86 : decode cX8_byTurns 86 = .ok (.goto 4, 3) := by decide +kernel
theorem dX8_byTurns_89 : decode cX8_byTurns 89 = .ok (.iload_n 3, 1) := by decide +kernel
theorem dX8_byTurns_90 : decode cX8_byTurns 90 = .ok (.istore_n 3, 1) := by decide +kernel
theorem dX8_byTurns_91 : decode cX8_byTurns 91 = .ok (.iinc 2 1, 3) := by decide +kernel
theorem dX8_byTurns_94 : decode cX8_byTurns 94 = .ok (.iinc 5 1, 3) := by decide +kernel
theorem dX8_byTurns_97 : decode cX8_byTurns 97 = .ok (.goto (-63), 3) := by decide +kernel
theorem dX8_byTurns_100 : decode cX8_byTurns 100 = .ok (.iinc 4 1, 3) := by decide +kernel
theorem dX8_byTurns_103 : decode cX8_byTurns 103 = .ok (.goto (-84), 3) := by decide +kernel
theorem dX8_byTurns_106 : decode cX8_byTurns 106 = .ok (.iload_n 1, 1) := by decide +kernel
theorem dX8_byTurns_107 : decode cX8_byTurns 107 = .ok (.ifCond .ne 7, 3) := by decide +kernel
theorem dX8_byTurns_110 : decode cX8_byTurns 110 = .ok (.iload_n 2, 1) := by decide +kernel
theorem dX8_byTurns_111 : decode cX8_byTurns 111 = .ok (.goto 4, 3) := by decide +kernel
theorem dX8_byTurns_114 : decode cX8_byTurns 114 = .ok (.iload_n 3, 1) := by decide +kernel
theorem dX8_byTurns_115 : decode cX8_byTurns 115 = .ok (.ireturn, 1) := by decide +kernel
set_option maxRecDepth 20000 in
theorem ggX8_reach_X0_hasSet : GoodIn wsX8_reach wsX0_hasSet := goodIn_r _ [8, 9, 10, 11, 7, 12, 13, 50, 51, 52, 53, 54, 55] (by decide +kernel) (by decide +kernel)
set_option maxRecDepth 20000 in
theorem gX8_reach_X0_hasSet : GoodIn wsX8_reach (wsV RX8 173 RX0 yX0_hasSet wsX0_hasSet) := goodIn_app (goodIn_of _ (by decide +kernel)) ggX8_reach_X0_hasSet
set_option maxRecDepth 20000 in
theorem ggX8_reach_X0_reached : GoodIn wsX8_reach wsX0_reached := goodIn_r _ [17, 13, 18, 19, 20, 7, 21, 22, 23, 24, 25, 26, 27, 28, 29, 30, 31, 32, 33, 34, 50, 51, 52, 53, 54, 55] (by decide +kernel) (by decide +kernel)
set_option maxRecDepth 20000 in
theorem gX8_reach_X0_reached : GoodIn wsX8_reach (wsV RX8 176 RX0 yX0_reached wsX0_reached) := goodIn_app (goodIn_of _ (by decide +kernel)) ggX8_reach_X0_reached
theorem dX8_reach_0 : decode cX8_reach 0 = .ok (.aload_n 0, 1) := by decide +kernel
theorem dX8_reach_1 : decode cX8_reach 1 = .ok (.getfield 28, 3) := by decide +kernel
theorem dX8_reach_4 : decode cX8_reach 4 = .ok (.iload_n 1, 1) := by decide +kernel
theorem dX8_reach_5 : decode cX8_reach 5 = .ok (.invokevirtual 173, 3) := by decide +kernel
theorem dX8_reach_8 : decode cX8_reach 8 = .ok (.ifCond .eq 21, 3) := by decide +kernel
theorem dX8_reach_11 : decode cX8_reach 11 = .ok (.aload_n 0, 1) := by decide +kernel
theorem dX8_reach_12 : decode cX8_reach 12 = .ok (.getfield 28, 3) := by decide +kernel
theorem dX8_reach_15 : decode cX8_reach 15 = .ok (.aload_n 0, 1) := by decide +kernel
theorem dX8_reach_16 : decode cX8_reach 16 = .ok (.getfield 35, 3) := by decide +kernel
theorem dX8_reach_19 : decode cX8_reach 19 = .ok (.getfield 131, 3) := by decide +kernel
theorem dX8_reach_22 : decode cX8_reach 22 = .ok (.iload_n 1, 1) := by decide +kernel
theorem dX8_reach_23 : decode cX8_reach 23 = .ok (.invokevirtual 176, 3) := by decide +kernel
theorem dX8_reach_26 : decode cX8_reach 26 = .ok (.goto 4, 3) := by decide +kernel
theorem dX8_reach_29 : decode cX8_reach 29 = .ok (.iconst (-1), 1) := by decide +kernel
theorem dX8_reach_30 : decode cX8_reach 30 = .ok (.ireturn, 1) := by decide +kernel
set_option maxRecDepth 20000 in
theorem ggX8_round_X0_hasSet : GoodIn wsX8_round wsX0_hasSet := goodIn_r _ [11, 12, 13, 14, 10, 15, 16, 69, 70, 71, 72, 73, 74] (by decide +kernel) (by decide +kernel)
set_option maxRecDepth 20000 in
theorem gX8_round_X0_hasSet : GoodIn wsX8_round (wsV RX8 173 RX0 yX0_hasSet wsX0_hasSet) := goodIn_app (goodIn_of _ (by decide +kernel)) ggX8_round_X0_hasSet
set_option maxRecDepth 20000 in
theorem ggX8_round_X5_find : GoodIn wsX8_round wsX5_find := goodIn_r _ [21, 22, 23, 24, 25, 26, 27, 10, 28, 16, 29, 30, 31, 32, 33, 34, 35, 36, 37, 38, 39, 40, 41, 42, 43, 44, 45, 46, 13, 14, 15, 47, 48, 49, 20, 50, 51, 52, 53, 75, 76, 77, 78, 69, 70, 71, 72, 73, 74] (by decide +kernel) (by decide +kernel)
set_option maxRecDepth 20000 in
theorem gX8_round_X5_find : GoodIn wsX8_round (wsV RX8 179 RX5 yX5_find wsX5_find) := goodIn_app (goodIn_of _ (by decide +kernel)) ggX8_round_X5_find
theorem dX8_round_0 : decode cX8_round 0 = .ok (.aload_n 0, 1) := by decide +kernel
theorem dX8_round_1 : decode cX8_round 1 = .ok (.getfield 28, 3) := by decide +kernel
theorem dX8_round_4 : decode cX8_round 4 = .ok (.iload_n 1, 1) := by decide +kernel
theorem dX8_round_5 : decode cX8_round 5 = .ok (.invokevirtual 173, 3) := by decide +kernel
theorem dX8_round_8 : decode cX8_round 8 = .ok (.ifCond .eq 7, 3) := by decide +kernel
theorem dX8_round_11 : decode cX8_round 11 = .ok (.iload_n 2, 1) := by decide +kernel
theorem dX8_round_12 : decode cX8_round 12 = .ok (.ifCond .ge 5, 3) := by decide +kernel
theorem dX8_round_15 : decode cX8_round 15 = .ok (.iconst (-1), 1) := by decide +kernel
theorem dX8_round_16 : decode cX8_round 16 = .ok (.ireturn, 1) := by decide +kernel
theorem dX8_round_17 : decode cX8_round 17 = .ok (.aload_n 0, 1) := by decide +kernel
theorem dX8_round_18 : decode cX8_round 18 = .ok (.getfield 51, 3) := by decide +kernel
theorem dX8_round_21 : decode cX8_round 21 = .ok (.aload_n 0, 1) := by decide +kernel
theorem dX8_round_22 : decode cX8_round 22 = .ok (.getfield 35, 3) := by decide +kernel
theorem dX8_round_25 : decode cX8_round 25 = .ok (.getfield 131, 3) := by decide +kernel
theorem dX8_round_28 : decode cX8_round 28 = .ok (.iload_n 1, 1) := by decide +kernel
theorem dX8_round_29 : decode cX8_round 29 = .ok (.invokevirtual 179, 3) := by decide +kernel
theorem dX8_round_32 : decode cX8_round 32 = .ok (.ifCond .ne 6, 3) := by decide +kernel
theorem dX8_round_35 : decode cX8_round 35 = .ok (.bipush (-9), 2) := by decide +kernel
theorem dX8_round_37 : decode cX8_round 37 = .ok (.ireturn, 1) := by decide +kernel
theorem dX8_round_38 : decode cX8_round 38 = .ok (.iload_n 2, 1) := by decide +kernel
theorem dX8_round_39 : decode cX8_round 39 = .ok (.aload_n 0, 1) := by decide +kernel
theorem dX8_round_40 : decode cX8_round 40 = .ok (.getfield 28, 3) := by decide +kernel
theorem dX8_round_43 : decode cX8_round 43 = .ok (.getfield 166, 3) := by decide +kernel
theorem dX8_round_46 : decode cX8_round 46 = .ok (.if_icmp .ge 15, 3) := by decide +kernel
theorem dX8_round_49 : decode cX8_round 49 = .ok (.aload_n 0, 1) := by decide +kernel
theorem dX8_round_50 : decode cX8_round 50 = .ok (.getfield 51, 3) := by decide +kernel
theorem dX8_round_53 : decode cX8_round 53 = .ok (.getfield 183, 3) := by decide +kernel
theorem dX8_round_56 : decode cX8_round 56 = .ok (.iload_n 2, 1) := by decide +kernel
theorem dX8_round_57 : decode cX8_round 57 = .ok (.iaload, 1) := by decide +kernel
theorem dX8_round_58 : decode cX8_round 58 = .ok (.goto 5, 3) := by decide +kernel
theorem dX8_round_61 : decode cX8_round 61 = .ok (.bipush (-5), 2) := by decide +kernel
theorem dX8_round_63 : decode cX8_round 63 = .ok (.ireturn, 1) := by decide +kernel
set_option maxRecDepth 20000 in
theorem ggX8_same_X0_from : GoodIn wsX8_same wsX0_from := goodIn_r _ [7, 8, 9, 10, 11, 6, 12, 13, 14, 15, 16, 28, 29, 30, 31, 32, 33] (by decide +kernel) (by decide +kernel)
set_option maxRecDepth 20000 in
theorem gX8_same_X0_from : GoodIn wsX8_same (wsV RX8 124 RX0 yX0_from wsX0_from) := goodIn_app (goodIn_of _ (by decide +kernel)) ggX8_same_X0_from
theorem dX8_same_0 : decode cX8_same 0 = .ok (.iconst 0, 1) := by decide +kernel
theorem dX8_same_1 : decode cX8_same 1 = .ok (.istore_n 1, 1) := by decide +kernel
theorem dX8_same_2 : decode cX8_same 2 = .ok (.iconst 0, 1) := by decide +kernel
theorem dX8_same_3 : decode cX8_same 3 = .ok (.istore_n 2, 1) := by decide +kernel
theorem dX8_same_4 : decode cX8_same 4 = .ok (.iload_n 2, 1) := by decide +kernel
theorem dX8_same_5 : decode cX8_same 5 = .ok (.aload_n 0, 1) := by decide +kernel
theorem dX8_same_6 : decode cX8_same 6 = .ok (.getfield 28, 3) := by decide +kernel
theorem dX8_same_9 : decode cX8_same 9 = .ok (.getfield 166, 3) := by decide +kernel
theorem dX8_same_12 : decode cX8_same 12 = .ok (.if_icmp .ge 70, 3) := by decide +kernel
theorem dX8_same_15 : decode cX8_same 15 = .ok (.iload_n 2, 1) := by decide +kernel
theorem dX8_same_16 : decode cX8_same 16 = .ok (.iconst 1, 1) := by decide +kernel
theorem dX8_same_17 : decode cX8_same 17 = .ok (.iadd, 1) := by decide +kernel
theorem dX8_same_18 : decode cX8_same 18 = .ok (.istore_n 3, 1) := by decide +kernel
theorem dX8_same_19 : decode cX8_same 19 = .ok (.iload_n 3, 1) := by decide +kernel
theorem dX8_same_20 : decode cX8_same 20 = .ok (.aload_n 0, 1) := by decide +kernel
theorem dX8_same_21 : decode cX8_same 21 = .ok (.getfield 28, 3) := by decide +kernel
theorem dX8_same_24 : decode cX8_same 24 = .ok (.getfield 166, 3) := by decide +kernel
theorem dX8_same_27 : decode cX8_same 27 = .ok (.if_icmp .ge 49, 3) := by decide +kernel
theorem dX8_same_30 : decode cX8_same 30 = .ok (.aload_n 0, 1) := by decide +kernel
theorem dX8_same_31 : decode cX8_same 31 = .ok (.getfield 28, 3) := by decide +kernel
theorem dX8_same_34 : decode cX8_same 34 = .ok (.aload_n 0, 1) := by decide +kernel
theorem dX8_same_35 : decode cX8_same 35 = .ok (.getfield 28, 3) := by decide +kernel
theorem dX8_same_38 : decode cX8_same 38 = .ok (.iconst 0, 1) := by decide +kernel
theorem dX8_same_39 : decode cX8_same 39 = .ok (.iload_n 2, 1) := by decide +kernel
theorem dX8_same_40 : decode cX8_same 40 = .ok (.invokevirtual 124, 3) := by decide +kernel
theorem dX8_same_43 : decode cX8_same 43 = .ok (.iload_n 3, 1) := by decide +kernel
theorem dX8_same_44 : decode cX8_same 44 = .ok (.invokevirtual 124, 3) := by decide +kernel
theorem dX8_same_47 : decode cX8_same 47 = .ok (.aload_n 0, 1) := by decide +kernel
theorem dX8_same_48 : decode cX8_same 48 = .ok (.getfield 28, 3) := by decide +kernel
theorem dX8_same_51 : decode cX8_same 51 = .ok (.aload_n 0, 1) := by decide +kernel
theorem dX8_same_52 : decode cX8_same 52 = .ok (.getfield 28, 3) := by decide +kernel
theorem dX8_same_55 : decode cX8_same 55 = .ok (.iconst 0, 1) := by decide +kernel
theorem dX8_same_56 : decode cX8_same 56 = .ok (.iload_n 3, 1) := by decide +kernel
theorem dX8_same_57 : decode cX8_same 57 = .ok (.invokevirtual 124, 3) := by decide +kernel
theorem dX8_same_60 : decode cX8_same 60 = .ok (.iload_n 2, 1) := by decide +kernel
theorem dX8_same_61 : decode cX8_same 61 = .ok (.invokevirtual 124, 3) := by decide +kernel
theorem dX8_same_64 : decode cX8_same 64 = .ok (.if_icmp .ne 6, 3) := by decide +kernel
theorem dX8_same_67 : decode cX8_same 67 = .ok (.iinc 1 1, 3) := by decide +kernel
theorem dX8_same_70 : decode cX8_same 70 = .ok (.iinc 3 1, 3) := by decide +kernel
theorem dX8_same_73 : decode cX8_same 73 = .ok (.goto (-54), 3) := by decide +kernel
theorem dX8_same_76 : decode cX8_same 76 = .ok (.iinc 2 1, 3) := by decide +kernel
theorem dX8_same_79 : decode cX8_same 79 = .ok (.goto (-75), 3) := by decide +kernel
theorem dX8_same_82 : decode cX8_same 82 = .ok (.iload_n 1, 1) := by decide +kernel
theorem dX8_same_83 : decode cX8_same 83 = .ok (.ireturn, 1) := by decide +kernel
set_option maxRecDepth 20000 in
theorem ggX8_lasts_X0_has : GoodIn wsX8_lasts wsX0_has := goodIn_r _ [7, 8, 73, 74, 75, 76, 77, 78] (by decide +kernel) (by decide +kernel)
set_option maxRecDepth 20000 in
theorem gX8_lasts_X0_has : GoodIn wsX8_lasts (wsV RX8 107 RX0 yX0_has wsX0_has) := goodIn_app (goodIn_of _ (by decide +kernel)) ggX8_lasts_X0_has
set_option maxRecDepth 20000 in
theorem ggX8_lasts_X7_seasonsBy : GoodIn wsX8_lasts wsX7_seasonsBy := goodIn_r _ [13, 14, 15, 16, 17, 18, 19, 20, 21, 22, 23, 12, 24, 25, 26, 27, 28, 29, 30, 31, 32, 33, 34, 35, 36, 37, 6, 38, 39, 40, 41, 42, 43, 44, 45, 46, 47, 48, 49, 50, 51, 52, 53, 54, 55, 56, 57, 58, 59, 60, 61, 79, 80, 81, 82, 83, 84, 85, 73, 74, 75, 76, 77, 78] (by decide +kernel) (by decide +kernel)
set_option maxRecDepth 20000 in
theorem gX8_lasts_X7_seasonsBy : GoodIn wsX8_lasts (wsV RX8 186 RX7 yX7_seasonsBy wsX7_seasonsBy) := goodIn_app (goodIn_of _ (by decide +kernel)) ggX8_lasts_X7_seasonsBy
theorem dX8_lasts_0 : decode cX8_lasts 0 = .ok (.aload_n 0, 1) := by decide +kernel
theorem dX8_lasts_1 : decode cX8_lasts 1 = .ok (.getfield 28, 3) := by decide +kernel
theorem dX8_lasts_4 : decode cX8_lasts 4 = .ok (.iload_n 1, 1) := by decide +kernel
theorem dX8_lasts_5 : decode cX8_lasts 5 = .ok (.invokevirtual 107, 3) := by decide +kernel
theorem dX8_lasts_8 : decode cX8_lasts 8 = .ok (.ifCond .eq 14, 3) := by decide +kernel
theorem dX8_lasts_11 : decode cX8_lasts 11 = .ok (.aload_n 0, 1) := by decide +kernel
theorem dX8_lasts_12 : decode cX8_lasts 12 = .ok (.getfield 60, 3) := by decide +kernel
theorem dX8_lasts_15 : decode cX8_lasts 15 = .ok (.iload_n 1, 1) := by decide +kernel
theorem dX8_lasts_16 : decode cX8_lasts 16 = .ok (.invokevirtual 186, 3) := by decide +kernel
theorem dX8_lasts_19 : decode cX8_lasts 19 = .ok (.goto 4, 3) := by decide +kernel
theorem dX8_lasts_22 : decode cX8_lasts 22 = .ok (.iconst (-1), 1) := by decide +kernel
theorem dX8_lasts_23 : decode cX8_lasts 23 = .ok (.ireturn, 1) := by decide +kernel
set_option maxRecDepth 20000 in
theorem ggX8_latest_X7_seasonsBy : GoodIn wsX8_latest wsX7_seasonsBy := goodIn_r _ [8, 9, 10, 11, 12, 13, 14, 15, 16, 17, 18, 7, 19, 20, 21, 22, 23, 24, 25, 26, 27, 28, 29, 30, 31, 32, 33, 34, 35, 36, 37, 38, 39, 40, 41, 42, 43, 44, 45, 46, 47, 48, 49, 50, 51, 52, 53, 54, 55, 56, 57, 75, 76, 77, 78, 79, 80, 81, 69, 70, 71, 72, 73, 74] (by decide +kernel) (by decide +kernel)
set_option maxRecDepth 20000 in
theorem gX8_latest_X7_seasonsBy : GoodIn wsX8_latest (wsV RX8 186 RX7 yX7_seasonsBy wsX7_seasonsBy) := goodIn_app (goodIn_of _ (by decide +kernel)) ggX8_latest_X7_seasonsBy
theorem dX8_latest_0 : decode cX8_latest 0 = .ok (.iconst 0, 1) := by decide +kernel
theorem dX8_latest_1 : decode cX8_latest 1 = .ok (.istore_n 1, 1) := by decide +kernel
theorem dX8_latest_2 : decode cX8_latest 2 = .ok (.aload_n 0, 1) := by decide +kernel
theorem dX8_latest_3 : decode cX8_latest 3 = .ok (.getfield 60, 3) := by decide +kernel
theorem dX8_latest_6 : decode cX8_latest 6 = .ok (.iconst 0, 1) := by decide +kernel
theorem dX8_latest_7 : decode cX8_latest 7 = .ok (.invokevirtual 186, 3) := by decide +kernel
theorem dX8_latest_10 : decode cX8_latest 10 = .ok (.istore_n 2, 1) := by decide +kernel
theorem dX8_latest_11 : decode cX8_latest 11 = .ok (.iconst 1, 1) := by decide +kernel
theorem dX8_latest_12 : decode cX8_latest 12 = .ok (.istore_n 3, 1) := by decide +kernel
theorem dX8_latest_13 : decode cX8_latest 13 = .ok (.iload_n 3, 1) := by decide +kernel
theorem dX8_latest_14 : decode cX8_latest 14 = .ok (.aload_n 0, 1) := by decide +kernel
theorem dX8_latest_15 : decode cX8_latest 15 = .ok (.getfield 28, 3) := by decide +kernel
theorem dX8_latest_18 : decode cX8_latest 18 = .ok (.getfield 166, 3) := by decide +kernel
theorem dX8_latest_21 : decode cX8_latest 21 = .ok (.if_icmp .ge 30, 3) := by decide +kernel
theorem dX8_latest_24 : decode cX8_latest 24 = .ok (.aload_n 0, 1) := by decide +kernel
theorem dX8_latest_25 : decode cX8_latest 25 = .ok (.getfield 60, 3) := by decide +kernel
theorem dX8_latest_28 : decode cX8_latest 28 = .ok (.iload_n 3, 1) := by decide +kernel
theorem dX8_latest_29 : decode cX8_latest 29 = .ok (.invokevirtual 186, 3) := by decide +kernel
theorem dX8_latest_32 : decode cX8_latest 32 = .ok (.istore 4, 2) := by decide +kernel
theorem dX8_latest_34 : decode cX8_latest 34 = .ok (.iload 4, 2) := by decide +kernel
theorem dX8_latest_36 : decode cX8_latest 36 = .ok (.iload_n 2, 1) := by decide +kernel
theorem dX8_latest_37 : decode cX8_latest 37 = .ok (.if_icmp .le 8, 3) := by decide +kernel
theorem dX8_latest_40 : decode cX8_latest 40 = .ok (.iload 4, 2) := by decide +kernel
theorem dX8_latest_42 : decode cX8_latest 42 = .ok (.istore_n 2, 1) := by decide +kernel
theorem dX8_latest_43 : decode cX8_latest 43 = .ok (.iload_n 3, 1) := by decide +kernel
theorem dX8_latest_44 : decode cX8_latest 44 = .ok (.istore_n 1, 1) := by decide +kernel
theorem dX8_latest_45 : decode cX8_latest 45 = .ok (.iinc 3 1, 3) := by decide +kernel
theorem dX8_latest_48 : decode cX8_latest 48 = .ok (.goto (-35), 3) := by decide +kernel
theorem dX8_latest_51 : decode cX8_latest 51 = .ok (.iload_n 1, 1) := by decide +kernel
theorem dX8_latest_52 : decode cX8_latest 52 = .ok (.ireturn, 1) := by decide +kernel
set_option maxRecDepth 20000 in
theorem ggX8_plan_X7_leastGreatest : GoodIn wsX8_plan wsX7_leastGreatest := goodIn_r _ [6, 7, 8, 9, 10, 11, 12, 13, 14, 15, 16, 17, 18, 19, 20, 5, 21, 22, 23, 24, 25, 26, 27, 28, 68, 69, 70, 71, 72, 73, 74, 75, 76, 77, 78, 79, 80] (by decide +kernel) (by decide +kernel)
set_option maxRecDepth 20000 in
theorem gX8_plan_X7_leastGreatest : GoodIn wsX8_plan (wsV RX8 189 RX7 yX7_leastGreatest wsX7_leastGreatest) := goodIn_app (goodIn_of _ (by decide +kernel)) ggX8_plan_X7_leastGreatest
set_option maxRecDepth 20000 in
theorem ggX8_plan_X7_plannedTurn : GoodIn wsX8_plan wsX7_plannedTurn := goodIn_r _ [32, 7, 24, 33, 34, 35, 36, 37, 38, 22, 25, 39, 40, 41, 5, 42, 23, 43, 44, 45, 46, 47, 48, 49, 50, 51, 52, 53, 54, 55, 56, 68, 69, 70, 71, 72, 73, 74, 75, 76, 77, 78, 79, 80] (by decide +kernel) (by decide +kernel)
set_option maxRecDepth 20000 in
theorem gX8_plan_X7_plannedTurn : GoodIn wsX8_plan (wsV RX8 192 RX7 yX7_plannedTurn wsX7_plannedTurn) := goodIn_app (goodIn_of _ (by decide +kernel)) ggX8_plan_X7_plannedTurn
theorem dX8_plan_0 : decode cX8_plan 0 = .ok (.iload_n 1, 1) := by decide +kernel
theorem dX8_plan_1 : decode cX8_plan 1 = .ok (.iconst 1, 1) := by decide +kernel
theorem dX8_plan_2 : decode cX8_plan 2 = .ok (.if_icmp .lt 18, 3) := by decide +kernel
theorem dX8_plan_5 : decode cX8_plan 5 = .ok (.iload_n 1, 1) := by decide +kernel
theorem dX8_plan_6 : decode cX8_plan 6 = .ok (.iconst 4, 1) := by decide +kernel
theorem dX8_plan_7 : decode cX8_plan 7 = .ok (.if_icmp .gt 13, 3) := by decide +kernel
theorem dX8_plan_10 : decode cX8_plan 10 = .ok (.iload_n 2, 1) := by decide +kernel
theorem dX8_plan_11 : decode cX8_plan 11 = .ok (.iconst (-1), 1) := by decide +kernel
theorem dX8_plan_12 : decode cX8_plan 12 = .ok (.if_icmp .lt 8, 3) := by decide +kernel
theorem dX8_plan_15 : decode cX8_plan 15 = .ok (.iload_n 2, 1) := by decide +kernel
theorem dX8_plan_16 : decode cX8_plan 16 = .ok (.iconst 4, 1) := by decide +kernel
theorem dX8_plan_17 : decode cX8_plan 17 = .ok (.if_icmp .lt 5, 3) := by decide +kernel
theorem dX8_plan_20 : decode cX8_plan 20 = .ok (.iconst (-1), 1) := by decide +kernel
theorem dX8_plan_21 : decode cX8_plan 21 = .ok (.ireturn, 1) := by decide +kernel
theorem dX8_plan_22 : decode cX8_plan 22 = .ok (.aload_n 0, 1) := by decide +kernel
theorem dX8_plan_23 : decode cX8_plan 23 = .ok (.getfield 60, 3) := by decide +kernel
theorem dX8_plan_26 : decode cX8_plan 26 = .ok (.iload_n 1, 1) := by decide +kernel
theorem dX8_plan_27 : decode cX8_plan 27 = .ok (.invokevirtual 189, 3) := by decide +kernel
theorem dX8_plan_30 : decode cX8_plan 30 = .ok (.istore_n 3, 1) := by decide +kernel
theorem dX8_plan_31 : decode cX8_plan 31 = .ok (.iload_n 2, 1) := by decide +kernel
theorem dX8_plan_32 : decode cX8_plan 32 = .ok (.ifCond .ge 5, 3) := by decide +kernel
theorem dX8_plan_35 : decode cX8_plan 35 = .ok (.iload_n 3, 1) := by decide +kernel
theorem dX8_plan_36 : decode cX8_plan 36 = .ok (.ireturn, 1) := by decide +kernel
theorem dX8_plan_37 : decode cX8_plan 37 = .ok (.iload_n 2, 1) := by decide +kernel
theorem dX8_plan_38 : decode cX8_plan 38 = .ok (.iload_n 1, 1) := by decide +kernel
theorem dX8_plan_39 : decode cX8_plan 39 = .ok (.if_icmp .ge 15, 3) := by decide +kernel
theorem dX8_plan_42 : decode cX8_plan 42 = .ok (.aload_n 0, 1) := by decide +kernel
theorem dX8_plan_43 : decode cX8_plan 43 = .ok (.getfield 60, 3) := by decide +kernel
theorem dX8_plan_46 : decode cX8_plan 46 = .ok (.iload_n 3, 1) := by decide +kernel
theorem dX8_plan_47 : decode cX8_plan 47 = .ok (.iload_n 2, 1) := by decide +kernel
theorem dX8_plan_48 : decode cX8_plan 48 = .ok (.invokevirtual 192, 3) := by decide +kernel
theorem dX8_plan_51 : decode cX8_plan 51 = .ok (.goto 5, 3) := by decide +kernel
theorem dX8_plan_54 : decode cX8_plan 54 = .ok (.bipush (-9), 2) := by decide +kernel
theorem dX8_plan_56 : decode cX8_plan 56 = .ok (.ireturn, 1) := by decide +kernel
set_option maxRecDepth 20000 in
theorem ggX8_most_X7_isOut : GoodIn wsX8_most wsX7_isOut := goodIn_r _ [8, 9, 10, 11, 12, 13, 14, 15, 16, 17, 18, 19, 20, 21, 49, 50, 51, 43, 44, 45, 46, 47, 48, 52, 53, 54, 55] (by decide +kernel) (by decide +kernel)
set_option maxRecDepth 20000 in
theorem gX8_most_X7_isOut : GoodIn wsX8_most (wsV RX8 137 RX7 yX7_isOut wsX7_isOut) := goodIn_app (goodIn_of _ (by decide +kernel)) ggX8_most_X7_isOut
set_option maxRecDepth 20000 in
theorem ggX8_most_X7_room : GoodIn wsX8_most wsX7_room := goodIn_r _ [25, 10, 26, 9, 27, 28, 29, 30, 7, 31, 49, 50, 51, 43, 44, 45, 46, 47, 48, 52, 53, 54, 55] (by decide +kernel) (by decide +kernel)
set_option maxRecDepth 20000 in
theorem gX8_most_X7_room : GoodIn wsX8_most (wsV RX8 198 RX7 yX7_room wsX7_room) := goodIn_app (goodIn_of _ (by decide +kernel)) ggX8_most_X7_room
theorem dX8_most_0 : decode cX8_most 0 = .ok (.aload_n 0, 1) := by decide +kernel
theorem dX8_most_1 : decode cX8_most 1 = .ok (.getfield 60, 3) := by decide +kernel
theorem dX8_most_4 : decode cX8_most 4 = .ok (.invokevirtual 137, 3) := by decide +kernel
theorem dX8_most_7 : decode cX8_most 7 = .ok (.ifCond .eq 7, 3) := by decide +kernel
theorem dX8_most_10 : decode cX8_most 10 = .ok (.iconst 0, 1) := by decide +kernel
theorem dX8_most_11 : decode cX8_most 11 = .ok (.goto 21, 3) := by decide +kernel
theorem dX8_most_14 : decode cX8_most 14 = .ok (.aload_n 0, 1) := by decide +kernel
theorem dX8_most_15 : decode cX8_most 15 = .ok (.getfield 60, 3) := by decide +kernel
theorem dX8_most_18 : decode cX8_most 18 = .ok (.aload_n 0, 1) := by decide +kernel
theorem dX8_most_19 : decode cX8_most 19 = .ok (.getfield 28, 3) := by decide +kernel
theorem dX8_most_22 : decode cX8_most 22 = .ok (.getfield 195, 3) := by decide +kernel
theorem dX8_most_25 : decode cX8_most 25 = .ok (.iconst 1, 1) := by decide +kernel
theorem dX8_most_26 : decode cX8_most 26 = .ok (.isub, 1) := by decide +kernel
theorem dX8_most_27 : decode cX8_most 27 = .ok (.invokevirtual 198, 3) := by decide +kernel
theorem dX8_most_30 : decode cX8_most 30 = .ok (.iconst 1, 1) := by decide +kernel
theorem dX8_most_31 : decode cX8_most 31 = .ok (.iadd, 1) := by decide +kernel
theorem dX8_most_32 : decode cX8_most 32 = .ok (.ireturn, 1) := by decide +kernel
set_option maxRecDepth 20000 in
theorem ggX8_hollows_X0_has : GoodIn wsX8_hollows wsX0_has := goodIn_r _ [8, 9, 34, 35, 36, 37, 38, 39] (by decide +kernel) (by decide +kernel)
set_option maxRecDepth 20000 in
theorem gX8_hollows_X0_has : GoodIn wsX8_hollows (wsV RX8 107 RX0 yX0_has wsX0_has) := goodIn_app (goodIn_of _ (by decide +kernel)) ggX8_hollows_X0_has
set_option maxRecDepth 20000 in
theorem ggX8_hollows_X1_add : GoodIn wsX8_hollows wsX1_add := goodIn_r _ [14, 15, 16, 17, 18, 30, 31, 32, 33] (by decide +kernel) (by decide +kernel)
set_option maxRecDepth 20000 in
theorem gX8_hollows_X1_add : GoodIn wsX8_hollows (wsV RX8 201 RX1 yX1_add wsX1_add) := goodIn_app (goodIn_of _ (by decide +kernel)) ggX8_hollows_X1_add
theorem dX8_hollows_0 : decode cX8_hollows 0 = .ok (.iload_n 1, 1) := by decide +kernel
theorem dX8_hollows_1 : decode cX8_hollows 1 = .ok (.ifCond .lt 31, 3) := by decide +kernel
theorem dX8_hollows_4 : decode cX8_hollows 4 = .ok (.iload_n 1, 1) := by decide +kernel
theorem dX8_hollows_5 : decode cX8_hollows 5 = .ok (.bipush 40, 2) := by decide +kernel
theorem dX8_hollows_7 : decode cX8_hollows 7 = .ok (.if_icmp .gt 25, 3) := by decide +kernel
theorem dX8_hollows_10 : decode cX8_hollows 10 = .ok (.aload_n 0, 1) := by decide +kernel
theorem dX8_hollows_11 : decode cX8_hollows 11 = .ok (.getfield 28, 3) := by decide +kernel
theorem dX8_hollows_14 : decode cX8_hollows 14 = .ok (.iload_n 2, 1) := by decide +kernel
theorem dX8_hollows_15 : decode cX8_hollows 15 = .ok (.invokevirtual 107, 3) := by decide +kernel
theorem dX8_hollows_18 : decode cX8_hollows 18 = .ok (.ifCond .eq 14, 3) := by decide +kernel
theorem dX8_hollows_21 : decode cX8_hollows 21 = .ok (.iload_n 3, 1) := by decide +kernel
theorem dX8_hollows_22 : decode cX8_hollows 22 = .ok (.ifCond .lt 10, 3) := by decide +kernel
theorem dX8_hollows_25 : decode cX8_hollows 25 = .ok (.iload_n 3, 1) := by decide +kernel
theorem dX8_hollows_26 : decode cX8_hollows 26 = .ok (.sipush 999, 3) := by decide +kernel
theorem dX8_hollows_29 : decode cX8_hollows 29 = .ok (.if_icmp .le 5, 3) := by decide +kernel
theorem dX8_hollows_32 : decode cX8_hollows 32 = .ok (.iconst (-1), 1) := by decide +kernel
theorem dX8_hollows_33 : decode cX8_hollows 33 = .ok (.ireturn, 1) := by decide +kernel
theorem dX8_hollows_34 : decode cX8_hollows 34 = .ok (.aload_n 0, 1) := by decide +kernel
theorem dX8_hollows_35 : decode cX8_hollows 35 = .ok (.getfield 67, 3) := by decide +kernel
theorem dX8_hollows_38 : decode cX8_hollows 38 = .ok (.iload_n 1, 1) := by decide +kernel
theorem dX8_hollows_39 : decode cX8_hollows 39 = .ok (.iload_n 2, 1) := by decide +kernel
theorem dX8_hollows_40 : decode cX8_hollows 40 = .ok (.iload_n 3, 1) := by decide +kernel
theorem dX8_hollows_41 : decode cX8_hollows 41 = .ok (.invokevirtual 201, 3) := by decide +kernel
theorem dX8_hollows_44 : decode cX8_hollows 44 = .ok (.ifCond .eq 13, 3) := by decide +kernel
theorem dX8_hollows_47 : decode cX8_hollows 47 = .ok (.aload_n 0, 1) := by decide +kernel
theorem dX8_hollows_48 : decode cX8_hollows 48 = .ok (.getfield 67, 3) := by decide +kernel
theorem dX8_hollows_51 : decode cX8_hollows 51 = .ok (.getfield 203, 3) := by decide +kernel
theorem dX8_hollows_54 : decode cX8_hollows 54 = .ok (.goto 5, 3) := by decide +kernel
theorem dX8_hollows_57 : decode cX8_hollows 57 = .ok (.bipush (-3), 2) := by decide +kernel
theorem dX8_hollows_59 : decode cX8_hollows 59 = .ok (.ireturn, 1) := by decide +kernel
theorem dX8_forget_0 : decode cX8_forget 0 = .ok (.aload_n 0, 1) := by decide +kernel
theorem dX8_forget_1 : decode cX8_forget 1 = .ok (.getfield 67, 3) := by decide +kernel
theorem dX8_forget_4 : decode cX8_forget 4 = .ok (.getfield 203, 3) := by decide +kernel
theorem dX8_forget_7 : decode cX8_forget 7 = .ok (.istore_n 1, 1) := by decide +kernel
theorem dX8_forget_8 : decode cX8_forget 8 = .ok (.aload_n 0, 1) := by decide +kernel
theorem dX8_forget_9 : decode cX8_forget 9 = .ok (.getfield 67, 3) := by decide +kernel
theorem dX8_forget_12 : decode cX8_forget 12 = .ok (.iconst 0, 1) := by decide +kernel
theorem dX8_forget_13 : decode cX8_forget 13 = .ok (.putfield 203, 3) := by decide +kernel
theorem dX8_forget_16 : decode cX8_forget 16 = .ok (.iload_n 1, 1) := by decide +kernel
theorem dX8_forget_17 : decode cX8_forget 17 = .ok (.ireturn, 1) := by decide +kernel
set_option maxRecDepth 20000 in
theorem ggX8_which_X1_allSoBy : GoodIn wsX8_which wsX1_allSoBy := goodIn_r _ [9, 10, 11, 12, 13, 14, 15, 16, 17, 18, 19, 20, 21, 22, 23, 24, 25, 26, 27, 28, 29, 30, 31, 32, 33, 34, 35, 36, 37, 38, 39, 40, 41, 42, 43, 44, 45, 46, 47, 48, 49, 67, 68, 69, 70, 71, 72, 73, 74, 75, 76, 77, 61, 62, 63, 64, 65, 66] (by decide +kernel) (by decide +kernel)
set_option maxRecDepth 20000 in
theorem gX8_which_X1_allSoBy : GoodIn wsX8_which (wsV RX8 204 RX1 yX1_allSoBy wsX1_allSoBy) := goodIn_app (goodIn_of _ (by decide +kernel)) ggX8_which_X1_allSoBy
theorem dX8_which_0 : decode cX8_which 0 = .ok (.iconst 0, 1) := by decide +kernel
theorem dX8_which_1 : decode cX8_which 1 = .ok (.istore_n 1, 1) := by decide +kernel
theorem dX8_which_2 : decode cX8_which 2 = .ok (.iconst 0, 1) := by decide +kernel
theorem dX8_which_3 : decode cX8_which 3 = .ok (.istore_n 2, 1) := by decide +kernel
theorem dX8_which_4 : decode cX8_which 4 = .ok (.iload_n 2, 1) := by decide +kernel
theorem dX8_which_5 : decode cX8_which 5 = .ok (.aload_n 0, 1) := by decide +kernel
theorem dX8_which_6 : decode cX8_which 6 = .ok (.getfield 28, 3) := by decide +kernel
theorem dX8_which_9 : decode cX8_which 9 = .ok (.getfield 166, 3) := by decide +kernel
theorem dX8_which_12 : decode cX8_which 12 = .ok (.if_icmp .ge 30, 3) := by decide +kernel
theorem dX8_which_15 : decode cX8_which 15 = .ok (.aload_n 0, 1) := by decide +kernel
theorem dX8_which_16 : decode cX8_which 16 = .ok (.getfield 67, 3) := by decide +kernel
theorem dX8_which_19 : decode cX8_which 19 = .ok (.iload_n 2, 1) := by decide +kernel
theorem dX8_which_20 : decode cX8_which 20 = .ok (.aload_n 0, 1) := by decide +kernel
theorem dX8_which_21 : decode cX8_which 21 = .ok (.getfield 60, 3) := by decide +kernel
theorem dX8_which_24 : decode cX8_which 24 = .ok (.invokevirtual 204, 3) := by decide +kernel
theorem dX8_which_27 : decode cX8_which 27 = .ok (.ifCond .eq 9, 3) := by decide +kernel
theorem dX8_which_30 : decode cX8_which 30 = .ok (.iload_n 1, 1) := by decide +kernel
theorem dX8_which_31 : decode cX8_which 31 = .ok (.iconst 1, 1) := by decide +kernel
theorem dX8_which_32 : decode cX8_which 32 = .ok (.iload_n 2, 1) := by decide +kernel
theorem dX8_which_33 : decode cX8_which 33 = .ok (.ishl, 1) := by decide +kernel
theorem dX8_which_34 : decode cX8_which 34 = .ok (.ior, 1) := by decide +kernel
theorem dX8_which_35 : decode cX8_which 35 = .ok (.istore_n 1, 1) := by decide +kernel
theorem dX8_which_36 : decode cX8_which 36 = .ok (.iinc 2 1, 3) := by decide +kernel
theorem dX8_which_39 : decode cX8_which 39 = .ok (.goto (-35), 3) := by decide +kernel
theorem dX8_which_42 : decode cX8_which 42 = .ok (.iload_n 1, 1) := by decide +kernel
theorem dX8_which_43 : decode cX8_which 43 = .ok (.ireturn, 1) := by decide +kernel
set_option maxRecDepth 20000 in
theorem ggX8_odds_X0_has : GoodIn wsX8_odds wsX0_has := goodIn_r _ [6, 7, 45, 46, 47, 48, 49, 50] (by decide +kernel) (by decide +kernel)
set_option maxRecDepth 20000 in
theorem gX8_odds_X0_has : GoodIn wsX8_odds (wsV RX8 107 RX0 yX0_has wsX0_has) := goodIn_app (goodIn_of _ (by decide +kernel)) ggX8_odds_X0_has
set_option maxRecDepth 20000 in
theorem ggX8_odds_X8_chances : GoodIn wsX8_odds wsX8_chances := goodIn_r _ [12, 13, 14, 1, 15, 16, 11, 17, 18, 19, 20, 5, 21, 22, 23, 24, 25, 26, 27, 28, 29, 30, 34, 35, 36, 37, 38, 39, 40, 41, 42, 43, 44, 51, 52, 53, 54, 45, 46, 47, 48, 49, 50] (by decide +kernel) (by decide +kernel)
set_option maxRecDepth 20000 in
theorem gX8_odds_X8_chances : GoodIn wsX8_odds (wsV RX8 208 RX8 yX8_chances wsX8_chances) := goodIn_app (goodIn_of _ (by decide +kernel)) ggX8_odds_X8_chances
set_option maxRecDepth 20000 in
theorem ggX8_odds_X8_power : GoodIn wsX8_odds wsX8_power := goodIn_r _ [17] (by decide +kernel) (by decide +kernel)
set_option maxRecDepth 20000 in
theorem gX8_odds_X8_power : GoodIn wsX8_odds (va_wsS RX8 212 yX8_power wsX8_power) := goodIn_app (goodIn_of _ (by decide +kernel)) ggX8_odds_X8_power
set_option maxRecDepth 20000 in
theorem ggX8_odds_X8_commonDivisor : GoodIn wsX8_odds wsX8_commonDivisor := goodIn_r _ [33] (by decide +kernel) (by decide +kernel)
set_option maxRecDepth 20000 in
theorem gX8_odds_X8_commonDivisor : GoodIn wsX8_odds (va_wsS RX8 215 yX8_commonDivisor wsX8_commonDivisor) := goodIn_app (goodIn_of _ (by decide +kernel)) ggX8_odds_X8_commonDivisor
theorem dX8_odds_0 : decode cX8_odds 0 = .ok (.aload_n 0, 1) := by decide +kernel
theorem dX8_odds_1 : decode cX8_odds 1 = .ok (.getfield 28, 3) := by decide +kernel
theorem dX8_odds_4 : decode cX8_odds 4 = .ok (.iload_n 1, 1) := by decide +kernel
theorem dX8_odds_5 : decode cX8_odds 5 = .ok (.invokevirtual 107, 3) := by decide +kernel
theorem dX8_odds_8 : decode cX8_odds 8 = .ok (.ifCond .eq 35, 3) := by decide +kernel
