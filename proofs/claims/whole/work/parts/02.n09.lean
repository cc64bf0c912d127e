set_option maxRecDepth 20000 in
theorem ggX9_remembers_X9_copy : GoodIn wsX9_remembers wsX9_copy := goodIn_r _ [7] (by decide +kernel) (by decide +kernel)
set_option maxRecDepth 20000 in
theorem gX9_remembers_X9_copy : GoodIn wsX9_remembers (va_wsS RX9 128 yX9_copy wsX9_copy) := goodIn_app (goodIn_of _ (by decide +kernel)) ggX9_remembers_X9_copy
theorem dX9_remembers_0 : decode cX9_remembers 0 = .ok (.aload_n 0, 1) := by decide +kernel
theorem dX9_remembers_1 : decode cX9_remembers 1 = .ok (.getfield 122, 3) := by decide +kernel
theorem dX9_remembers_4 : decode cX9_remembers 4 = .ok (.bipush 10, 2) := by decide +kernel
theorem dX9_remembers_6 : decode cX9_remembers 6 = .ok (.if_icmp .ne 43, 3) := by decide +kernel
theorem dX9_remembers_9 : decode cX9_remembers 9 = .ok (.iconst 0, 1) := by decide +kernel
theorem dX9_remembers_10 : decode cX9_remembers 10 = .ok (.istore_n 1, 1) := by decide +kernel
theorem dX9_remembers_11 : decode cX9_remembers 11 = .ok (.iload_n 1, 1) := by decide +kernel
theorem dX9_remembers_12 : decode cX9_remembers 12 = .ok (.sipush 135, 3) := by decide +kernel
theorem dX9_remembers_15 : decode cX9_remembers 15 = .ok (.if_icmp .ge 24, 3) := by decide +kernel
theorem dX9_remembers_18 : decode cX9_remembers 18 = .ok (.aload_n 0, 1) := by decide +kernel
theorem dX9_remembers_19 : decode cX9_remembers 19 = .ok (.getfield 29, 3) := by decide +kernel
theorem dX9_remembers_22 : decode cX9_remembers 22 = .ok (.iload_n 1, 1) := by decide +kernel
theorem dX9_remembers_23 : decode cX9_remembers 23 = .ok (.aload_n 0, 1) := by decide +kernel
theorem dX9_remembers_24 : decode cX9_remembers 24 = .ok (.getfield 29, 3) := by decide +kernel
theorem dX9_remembers_27 : decode cX9_remembers 27 = .ok (.iload_n 1, 1) := by decide +kernel
theorem dX9_remembers_28 : decode cX9_remembers 28 = .ok (.bipush 15, 2) := by decide +kernel
theorem dX9_remembers_30 : decode cX9_remembers 30 = .ok (.iadd, 1) := by decide +kernel
theorem dX9_remembers_31 : decode cX9_remembers 31 = .ok (.iaload, 1) := by decide +kernel
theorem dX9_remembers_32 : decode cX9_remembers 32 = .ok (.iastore, 1) := by decide +kernel
theorem dX9_remembers_33 : decode cX9_remembers 33 = .ok (.iinc 1 1, 3) := by decide +kernel
theorem dX9_remembers_36 : decode cX9_remembers 36 = .ok (.goto (-25), 3) := by decide +kernel
theorem dX9_remembers_39 : decode cX9_remembers 39 = .ok (.aload_n 0, 1) := by decide +kernel
theorem dX9_remembers_40 : decode cX9_remembers 40 = .ok (.dup, 1) := by decide +kernel
theorem dX9_remembers_41 : decode cX9_remembers 41 = .ok (.getfield 122, 3) := by decide +kernel
theorem dX9_remembers_44 : decode cX9_remembers 44 = .ok (.iconst 1, 1) := by decide +kernel
theorem dX9_remembers_45 : decode cX9_remembers 45 = .ok (.isub, 1) := by decide +kernel
theorem dX9_remembers_46 : decode cX9_remembers 46 = .ok (.putfield 122, 3) := by decide +kernel
theorem dX9_remembers_49 : decode cX9_remembers 49 = .ok (.aload_n 0, 1) := by decide +kernel
theorem dX9_remembers_50 : decode cX9_remembers 50 = .ok (.getfield 29, 3) := by decide +kernel
theorem dX9_remembers_53 : decode cX9_remembers 53 = .ok (.bipush 15, 2) := by decide +kernel
theorem dX9_remembers_55 : decode cX9_remembers 55 = .ok (.aload_n 0, 1) := by decide +kernel
theorem dX9_remembers_56 : decode cX9_remembers 56 = .ok (.getfield 122, 3) := by decide +kernel
theorem dX9_remembers_59 : decode cX9_remembers 59 = .ok (.imul, 1) := by decide +kernel
theorem dX9_remembers_60 : decode cX9_remembers 60 = .ok (.aload_n 0, 1) := by decide +kernel
theorem dX9_remembers_61 : decode cX9_remembers 61 = .ok (.getfield 26, 3) := by decide +kernel
theorem dX9_remembers_64 : decode cX9_remembers 64 = .ok (.iconst 0, 1) := by decide +kernel
theorem dX9_remembers_65 : decode cX9_remembers 65 = .ok (.invokestatic 128, 3) := by decide +kernel
theorem dX9_remembers_68 : decode cX9_remembers 68 = .ok (.aload_n 0, 1) := by decide +kernel
theorem dX9_remembers_69 : decode cX9_remembers 69 = .ok (.dup, 1) := by decide +kernel
theorem dX9_remembers_70 : decode cX9_remembers 70 = .ok (.getfield 122, 3) := by decide +kernel
theorem dX9_remembers_73 : decode cX9_remembers 73 = .ok (.iconst 1, 1) := by decide +kernel
theorem dX9_remembers_74 : decode cX9_remembers 74 = .ok (.iadd, 1) := by decide +kernel
theorem dX9_remembers_75 : decode cX9_remembers 75 = .ok (.putfield 122, 3) := by decide +kernel
theorem dX9_remembers_78 : decode cX9_remembers 78 = .ok (.return_, 1) := by decide +kernel
set_option maxRecDepth 20000 in
theorem ggX9_season_X9_asItIs : GoodIn wsX9_season wsX9_asItIs := goodIn_r _ [7, 2, 1, 8, 9, 6, 10, 32, 33, 34, 35, 36, 37, 38, 39, 40, 41, 42, 43, 44, 45, 46, 47, 48, 49, 50, 51, 52, 53, 54, 55, 56, 57, 58, 59, 60, 61] (by decide +kernel) (by decide +kernel)
set_option maxRecDepth 20000 in
theorem gX9_season_X9_asItIs : GoodIn wsX9_season (wsV RX9 142 RX9 yX9_asItIs wsX9_asItIs) := goodIn_app (goodIn_of _ (by decide +kernel)) ggX9_season_X9_asItIs
set_option maxRecDepth 20000 in
theorem ggX9_season_X9_isOut : GoodIn wsX9_season wsX9_isOut := goodIn_r _ [14, 15, 16, 17, 18, 6, 19, 20, 2, 32, 33, 34, 35, 36, 37, 38, 39, 40, 41, 42, 43, 44, 45, 46, 47, 48, 49, 50, 51, 52, 53, 54, 55, 56, 57, 58, 59, 60, 61] (by decide +kernel) (by decide +kernel)
set_option maxRecDepth 20000 in
theorem gX9_season_X9_isOut : GoodIn wsX9_season (wsV RX9 145 RX9 yX9_isOut wsX9_isOut) := goodIn_app (goodIn_of _ (by decide +kernel)) ggX9_season_X9_isOut
set_option maxRecDepth 20000 in
theorem ggX9_season_X9_remembers : GoodIn wsX9_season wsX9_remembers := goodIn_r _ [24, 25, 26, 1, 8, 9, 6, 10, 32, 33, 34, 35, 36, 37, 38, 39, 40, 41, 42, 43, 44, 45, 46, 47, 48, 49, 50, 51, 52, 53, 54, 55, 56, 57, 58, 59, 60, 61] (by decide +kernel) (by decide +kernel)
set_option maxRecDepth 20000 in
theorem gX9_season_X9_remembers : GoodIn wsX9_season (wsV RX9 149 RX9 yX9_remembers wsX9_remembers) := goodIn_app (goodIn_of _ (by decide +kernel)) ggX9_season_X9_remembers
set_option maxRecDepth 20000 in
theorem ggX9_season_X9_goes : GoodIn wsX9_season wsX9_goes := goodIn_r _ [30, 2, 31, 32, 33, 34, 35, 36, 37, 38, 39, 40, 41, 42, 43, 44, 45, 46, 47, 48, 49, 50, 51, 52, 53, 54, 55, 56, 57, 58, 59, 60, 61] (by decide +kernel) (by decide +kernel)
set_option maxRecDepth 20000 in
theorem gX9_season_X9_goes : GoodIn wsX9_season (wsV RX9 152 RX9 yX9_goes wsX9_goes) := goodIn_app (goodIn_of _ (by decide +kernel)) ggX9_season_X9_goes
set_option maxRecDepth 20000 in
theorem ggX9_season_X9_copy : GoodIn wsX9_season wsX9_copy := goodIn_r _ [10] (by decide +kernel) (by decide +kernel)
set_option maxRecDepth 20000 in
theorem gX9_season_X9_copy : GoodIn wsX9_season (va_wsS RX9 128 yX9_copy wsX9_copy) := goodIn_app (goodIn_of _ (by decide +kernel)) ggX9_season_X9_copy
theorem dX9_season_0 : decode cX9_season 0 = .ok (.aload_n 0, 1) := by decide +kernel
theorem dX9_season_1 : decode cX9_season 1 = .ok (.invokevirtual 142, 3) := by decide +kernel
theorem dX9_season_4 : decode cX9_season 4 = .ok (.aload_n 0, 1) := by decide +kernel
theorem dX9_season_5 : decode cX9_season 5 = .ok (.invokevirtual 145, 3) := by decide +kernel
theorem dX9_season_8 : decode cX9_season 8 = .ok (.ifCond .ne 15, 3) := by decide +kernel
theorem dX9_season_11 : decode cX9_season 11 = .ok (.aload_n 0, 1) := by decide +kernel
theorem dX9_season_12 : decode cX9_season 12 = .ok (.getfield 26, 3) := by decide +kernel
theorem dX9_season_15 : decode cX9_season 15 = .ok (.iconst 0, 1) := by decide +kernel
theorem dX9_season_16 : decode cX9_season 16 = .ok (.iaload, 1) := by decide +kernel
theorem dX9_season_17 : decode cX9_season 17 = .ok (.sipush 999, 3) := by decide +kernel
theorem dX9_season_20 : decode cX9_season 20 = .ok (.if_icmp .ne 6, 3) := by decide +kernel
theorem dX9_season_23 : decode cX9_season 23 = .ok (.bipush (-2), 2) := by decide +kernel
theorem dX9_season_25 : decode cX9_season 25 = .ok (.ireturn, 1) := by decide +kernel
theorem dX9_season_26 : decode cX9_season 26 = .ok (.aload_n 0, 1) := by decide +kernel
theorem dX9_season_27 : decode cX9_season 27 = .ok (.invokevirtual 149, 3) := by decide +kernel
theorem dX9_season_30 : decode cX9_season 30 = .ok (.aload_n 0, 1) := by decide +kernel
theorem dX9_season_31 : decode cX9_season 31 = .ok (.invokevirtual 152, 3) := by decide +kernel
theorem dX9_season_34 : decode cX9_season 34 = .ok (.istore_n 1, 1) := by decide +kernel
theorem dX9_season_35 : decode cX9_season 35 = .ok (.aload_n 0, 1) := by decide +kernel
theorem dX9_season_36 : decode cX9_season 36 = .ok (.getfield 26, 3) := by decide +kernel
theorem dX9_season_39 : decode cX9_season 39 = .ok (.iconst 0, 1) := by decide +kernel
theorem dX9_season_40 : decode cX9_season 40 = .ok (.aload_n 0, 1) := by decide +kernel
theorem dX9_season_41 : decode cX9_season 41 = .ok (.getfield 48, 3) := by decide +kernel
theorem dX9_season_44 : decode cX9_season 44 = .ok (.iconst 0, 1) := by decide +kernel
theorem dX9_season_45 : decode cX9_season 45 = .ok (.invokestatic 128, 3) := by decide +kernel
theorem dX9_season_48 : decode cX9_season 48 = .ok (.iload_n 1, 1) := by decide +kernel
theorem dX9_season_49 : decode cX9_season 49 = .ok (.ireturn, 1) := by decide +kernel
set_option maxRecDepth 20000 in
theorem ggX9_makes_X9_isWay : GoodIn wsX9_makes wsX9_isWay := goodIn_r _ [6, 7, 8, 9, 5, 10, 25, 26, 27, 28, 29, 30, 31, 32, 33, 34, 35, 36, 37, 38, 39, 40, 41, 42, 43, 44, 45, 46, 47, 48, 49, 50, 51, 52, 53, 54] (by decide +kernel) (by decide +kernel)
set_option maxRecDepth 20000 in
theorem gX9_makes_X9_isWay : GoodIn wsX9_makes (wsV RX9 139 RX9 yX9_isWay wsX9_isWay) := goodIn_app (goodIn_of _ (by decide +kernel)) ggX9_makes_X9_isWay
set_option maxRecDepth 20000 in
theorem ggX9_makes_X9_remembers : GoodIn wsX9_makes wsX9_remembers := goodIn_r _ [14, 15, 16, 1, 17, 18, 5, 19, 25, 26, 27, 28, 29, 30, 31, 32, 33, 34, 35, 36, 37, 38, 39, 40, 41, 42, 43, 44, 45, 46, 47, 48, 49, 50, 51, 52, 53, 54] (by decide +kernel) (by decide +kernel)
set_option maxRecDepth 20000 in
theorem gX9_makes_X9_remembers : GoodIn wsX9_makes (wsV RX9 149 RX9 yX9_remembers wsX9_remembers) := goodIn_app (goodIn_of _ (by decide +kernel)) ggX9_makes_X9_remembers
set_option maxRecDepth 20000 in
theorem ggX9_makes_X9_from : GoodIn wsX9_makes wsX9_from := goodIn_r _ [23, 24, 25, 26, 27, 28, 29, 30, 31, 32, 33, 34, 35, 36, 37, 38, 39, 40, 41, 42, 43, 44, 45, 46, 47, 48, 49, 50, 51, 52, 53, 54] (by decide +kernel) (by decide +kernel)
set_option maxRecDepth 20000 in
theorem gX9_makes_X9_from : GoodIn wsX9_makes (wsV RX9 136 RX9 yX9_from wsX9_from) := goodIn_app (goodIn_of _ (by decide +kernel)) ggX9_makes_X9_from
theorem dX9_makes_0 : decode cX9_makes 0 = .ok (.aload_n 0, 1) := by decide +kernel
theorem dX9_makes_1 : decode cX9_makes 1 = .ok (.iload_n 1, 1) := by decide +kernel
theorem dX9_makes_2 : decode cX9_makes 2 = .ok (.invokevirtual 139, 3) := by decide +kernel
theorem dX9_makes_5 : decode cX9_makes 5 = .ok (.ifCond .ne 5, 3) := by decide +kernel
theorem dX9_makes_8 : decode cX9_makes 8 = .ok (.iconst (-1), 1) := by decide +kernel
theorem dX9_makes_9 : decode cX9_makes 9 = .ok (.ireturn, 1) := by decide +kernel
theorem dX9_makes_10 : decode cX9_makes 10 = .ok (.aload_n 0, 1) := by decide +kernel
theorem dX9_makes_11 : decode cX9_makes 11 = .ok (.invokevirtual 149, 3) := by decide +kernel
theorem dX9_makes_14 : decode cX9_makes 14 = .ok (.aload_n 0, 1) := by decide +kernel
theorem dX9_makes_15 : decode cX9_makes 15 = .ok (.getfield 26, 3) := by decide +kernel
theorem dX9_makes_18 : decode cX9_makes 18 = .ok (.iconst 1, 1) := by decide +kernel
theorem dX9_makes_19 : decode cX9_makes 19 = .ok (.aload_n 0, 1) := by decide +kernel
theorem dX9_makes_20 : decode cX9_makes 20 = .ok (.aload_n 0, 1) := by decide +kernel
theorem dX9_makes_21 : decode cX9_makes 21 = .ok (.getfield 26, 3) := by decide +kernel
theorem dX9_makes_24 : decode cX9_makes 24 = .ok (.iconst 1, 1) := by decide +kernel
theorem dX9_makes_25 : decode cX9_makes 25 = .ok (.iaload, 1) := by decide +kernel
theorem dX9_makes_26 : decode cX9_makes 26 = .ok (.iload_n 1, 1) := by decide +kernel
theorem dX9_makes_27 : decode cX9_makes 27 = .ok (.invokevirtual 136, 3) := by decide +kernel
theorem dX9_makes_30 : decode cX9_makes 30 = .ok (.iastore, 1) := by decide +kernel
theorem dX9_makes_31 : decode cX9_makes 31 = .ok (.aload_n 0, 1) := by decide +kernel
theorem dX9_makes_32 : decode cX9_makes 32 = .ok (.getfield 26, 3) := by decide +kernel
theorem dX9_makes_35 : decode cX9_makes 35 = .ok (.iconst 2, 1) := by decide +kernel
theorem dX9_makes_36 : decode cX9_makes 36 = .ok (.dup2, 1) := by decide +kernel
theorem dX9_makes_37 : decode cX9_makes 37 = .ok (.iaload, 1) := by decide +kernel
theorem dX9_makes_38 : decode cX9_makes 38 = .ok (.aload_n 0, 1) := by decide +kernel
theorem dX9_makes_39 : decode cX9_makes 39 = .ok (.getfield 26, 3) := by decide +kernel
theorem dX9_makes_42 : decode cX9_makes 42 = .ok (.iconst 2, 1) := by decide +kernel
theorem dX9_makes_43 : decode cX9_makes 43 = .ok (.iaload, 1) := by decide +kernel
theorem dX9_makes_44 : decode cX9_makes 44 = .ok (.sipush 9999, 3) := by decide +kernel
theorem dX9_makes_47 : decode cX9_makes 47 = .ok (.if_icmp .ge 7, 3) := by decide +kernel
theorem dX9_makes_50 : decode cX9_makes 50 = .ok (.iconst 1, 1) := by decide +kernel
theorem dX9_makes_51 : decode cX9_makes 51 = .ok (.goto 4, 3) := by decide +kernel
theorem dX9_makes_54 : decode cX9_makes 54 = .ok (.iconst 0, 1) := by decide +kernel
theorem dX9_makes_55 : decode cX9_makes 55 = .ok (.iadd, 1) := by decide +kernel
theorem dX9_makes_56 : decode cX9_makes 56 = .ok (.iastore, 1) := by decide +kernel
theorem dX9_makes_57 : decode cX9_makes 57 = .ok (.aload_n 0, 1) := by decide +kernel
theorem dX9_makes_58 : decode cX9_makes 58 = .ok (.getfield 26, 3) := by decide +kernel
theorem dX9_makes_61 : decode cX9_makes 61 = .ok (.iconst 1, 1) := by decide +kernel
theorem dX9_makes_62 : decode cX9_makes 62 = .ok (.iaload, 1) := by decide +kernel
theorem dX9_makes_63 : decode cX9_makes 63 = .ok (.ireturn, 1) := by decide +kernel
set_option maxRecDepth 20000 in
theorem ggX9_stuffs_X9_isWay : GoodIn wsX9_stuffs wsX9_isWay := goodIn_r _ [6, 7, 8, 9, 5, 10, 20, 21, 22, 23, 24, 25, 26, 27, 28, 29, 30, 31, 32, 33, 34, 35, 36, 37, 38, 39, 40, 41, 42, 43, 44, 45, 46, 47, 48, 49] (by decide +kernel) (by decide +kernel)
set_option maxRecDepth 20000 in
theorem gX9_stuffs_X9_isWay : GoodIn wsX9_stuffs (wsV RX9 139 RX9 yX9_isWay wsX9_isWay) := goodIn_app (goodIn_of _ (by decide +kernel)) ggX9_stuffs_X9_isWay
set_option maxRecDepth 20000 in
theorem ggX9_stuffs_X9_remembers : GoodIn wsX9_stuffs wsX9_remembers := goodIn_r _ [14, 15, 16, 1, 17, 18, 5, 19, 20, 21, 22, 23, 24, 25, 26, 27, 28, 29, 30, 31, 32, 33, 34, 35, 36, 37, 38, 39, 40, 41, 42, 43, 44, 45, 46, 47, 48, 49] (by decide +kernel) (by decide +kernel)
set_option maxRecDepth 20000 in
theorem gX9_stuffs_X9_remembers : GoodIn wsX9_stuffs (wsV RX9 149 RX9 yX9_remembers wsX9_remembers) := goodIn_app (goodIn_of _ (by decide +kernel)) ggX9_stuffs_X9_remembers
theorem dX9_stuffs_0 : decode cX9_stuffs 0 = .ok (.aload_n 0, 1) := by decide +kernel
theorem dX9_stuffs_1 : decode cX9_stuffs 1 = .ok (.iload_n 1, 1) := by decide +kernel
theorem dX9_stuffs_2 : decode cX9_stuffs 2 = .ok (.invokevirtual 139, 3) := by decide +kernel
theorem dX9_stuffs_5 : decode cX9_stuffs 5 = .ok (.ifCond .ne 5, 3) := by decide +kernel
theorem dX9_stuffs_8 : decode cX9_stuffs 8 = .ok (.iconst (-1), 1) := by decide +kernel
theorem dX9_stuffs_9 : decode cX9_stuffs 9 = .ok (.ireturn, 1) := by decide +kernel
theorem dX9_stuffs_10 : decode cX9_stuffs 10 = .ok (.aload_n 0, 1) := by decide +kernel
theorem dX9_stuffs_11 : decode cX9_stuffs 11 = .ok (.invokevirtual 149, 3) := by decide +kernel
theorem dX9_stuffs_14 : decode cX9_stuffs 14 = .ok (.aload_n 0, 1) := by decide +kernel
theorem dX9_stuffs_15 : decode cX9_stuffs 15 = .ok (.getfield 26, 3) := by decide +kernel
theorem dX9_stuffs_18 : decode cX9_stuffs 18 = .ok (.iconst 3, 1) := by decide +kernel
theorem dX9_stuffs_19 : decode cX9_stuffs 19 = .ok (.iload_n 1, 1) := by decide +kernel
theorem dX9_stuffs_20 : decode cX9_stuffs 20 = .ok (.iadd, 1) := by decide +kernel
theorem dX9_stuffs_21 : decode cX9_stuffs 21 = .ok (.iaload, 1) := by decide +kernel
theorem dX9_stuffs_22 : decode cX9_stuffs 22 = .ok (.istore_n 2, 1) := by decide +kernel
theorem dX9_stuffs_23 : decode cX9_stuffs 23 = .ok (.aload_n 0, 1) := by decide +kernel
theorem dX9_stuffs_24 : decode cX9_stuffs 24 = .ok (.getfield 26, 3) := by decide +kernel
theorem dX9_stuffs_27 : decode cX9_stuffs 27 = .ok (.iconst 3, 1) := by decide +kernel
theorem dX9_stuffs_28 : decode cX9_stuffs 28 = .ok (.iload_n 1, 1) := by decide +kernel
theorem dX9_stuffs_29 : decode cX9_stuffs 29 = .ok (.iadd, 1) := by decide +kernel
theorem dX9_stuffs_30 : decode cX9_stuffs 30 = .ok (.iconst 0, 1) := by decide +kernel
theorem dX9_stuffs_31 : decode cX9_stuffs 31 = .ok (.iastore, 1) := by decide +kernel
theorem dX9_stuffs_32 : decode cX9_stuffs 32 = .ok (.iload_n 2, 1) := by decide +kernel
theorem dX9_stuffs_33 : decode cX9_stuffs 33 = .ok (.ireturn, 1) := by decide +kernel
set_option maxRecDepth 20000 in
theorem ggX9_undo_X9_copy : GoodIn wsX9_undo wsX9_copy := goodIn_r _ [7] (by decide +kernel) (by decide +kernel)
set_option maxRecDepth 20000 in
theorem gX9_undo_X9_copy : GoodIn wsX9_undo (va_wsS RX9 128 yX9_copy wsX9_copy) := goodIn_app (goodIn_of _ (by decide +kernel)) ggX9_undo_X9_copy
theorem dX9_undo_0 : decode cX9_undo 0 = .ok (.aload_n 0, 1) := by decide +kernel
theorem dX9_undo_1 : decode cX9_undo 1 = .ok (.getfield 122, 3) := by decide +kernel
theorem dX9_undo_4 : decode cX9_undo 4 = .ok (.ifCond .ne 6, 3) := by decide +kernel
theorem dX9_undo_7 : decode cX9_undo 7 = .ok (.bipush (-2), 2) := by decide +kernel
theorem dX9_undo_9 : decode cX9_undo 9 = .ok (.ireturn, 1) := by decide +kernel
theorem dX9_undo_10 : decode cX9_undo 10 = .ok (.aload_n 0, 1) := by decide +kernel
theorem dX9_undo_11 : decode cX9_undo 11 = .ok (.dup, 1) := by decide +kernel
theorem dX9_undo_12 : decode cX9_undo 12 = .ok (.getfield 122, 3) := by decide +kernel
theorem dX9_undo_15 : decode cX9_undo 15 = .ok (.iconst 1, 1) := by decide +kernel
theorem dX9_undo_16 : decode cX9_undo 16 = .ok (.isub, 1) := by decide +kernel
theorem dX9_undo_17 : decode cX9_undo 17 = .ok (.putfield 122, 3) := by decide +kernel
theorem dX9_undo_20 : decode cX9_undo 20 = .ok (.aload_n 0, 1) := by decide +kernel
theorem dX9_undo_21 : decode cX9_undo 21 = .ok (.getfield 26, 3) := by decide +kernel
theorem dX9_undo_24 : decode cX9_undo 24 = .ok (.iconst 0, 1) := by decide +kernel
theorem dX9_undo_25 : decode cX9_undo 25 = .ok (.aload_n 0, 1) := by decide +kernel
theorem dX9_undo_26 : decode cX9_undo 26 = .ok (.getfield 29, 3) := by decide +kernel
theorem dX9_undo_29 : decode cX9_undo 29 = .ok (.bipush 15, 2) := by decide +kernel
theorem dX9_undo_31 : decode cX9_undo 31 = .ok (.aload_n 0, 1) := by decide +kernel
theorem dX9_undo_32 : decode cX9_undo 32 = .ok (.getfield 122, 3) := by decide +kernel
theorem dX9_undo_35 : decode cX9_undo 35 = .ok (.imul, 1) := by decide +kernel
theorem dX9_undo_36 : decode cX9_undo 36 = .ok (.invokestatic 128, 3) := by decide +kernel
theorem dX9_undo_39 : decode cX9_undo 39 = .ok (.aload_n 0, 1) := by decide +kernel
theorem dX9_undo_40 : decode cX9_undo 40 = .ok (.getfield 122, 3) := by decide +kernel
theorem dX9_undo_43 : decode cX9_undo 43 = .ok (.ireturn, 1) := by decide +kernel
set_option maxRecDepth 20000 in
theorem ggX9_againOf_X9_from : GoodIn wsX9_againOf wsX9_from := goodIn_r _ [6, 7, 8, 9, 10, 11, 12, 13, 14, 15, 16, 17, 18, 19, 20, 21, 22, 23, 24, 25, 26, 27, 28, 29, 30, 31, 32, 33, 34, 35, 36, 37] (by decide +kernel) (by decide +kernel)
set_option maxRecDepth 20000 in
theorem gX9_againOf_X9_from : GoodIn wsX9_againOf (wsV RX9 136 RX9 yX9_from wsX9_from) := goodIn_app (goodIn_of _ (by decide +kernel)) ggX9_againOf_X9_from
theorem dX9_againOf_0 : decode cX9_againOf 0 = .ok (.iconst 1, 1) := by decide +kernel
theorem dX9_againOf_1 : decode cX9_againOf 1 = .ok (.istore_n 2, 1) := by decide +kernel
theorem dX9_againOf_2 : decode cX9_againOf 2 = .ok (.iconst 1, 1) := by decide +kernel
theorem dX9_againOf_3 : decode cX9_againOf 3 = .ok (.istore_n 3, 1) := by decide +kernel
theorem dX9_againOf_4 : decode cX9_againOf 4 = .ok (.iload_n 3, 1) := by decide +kernel
theorem dX9_againOf_5 : decode cX9_againOf 5 = .ok (.bipush 12, 2) := by decide +kernel
theorem dX9_againOf_7 : decode cX9_againOf 7 = .ok (.if_icmp .gt 86, 3) := by decide +kernel
theorem dX9_againOf_10 : decode cX9_againOf 10 = .ok (.iconst 1, 1) := by decide +kernel
theorem dX9_againOf_11 : decode cX9_againOf 11 = .ok (.istore 4, 2) := by decide +kernel
theorem dX9_againOf_13 : decode cX9_againOf 13 = .ok (.iconst 0, 1) := by decide +kernel
theorem dX9_againOf_14 : decode cX9_againOf 14 = .ok (.istore 5, 2) := by decide +kernel
theorem dX9_againOf_16 : decode cX9_againOf 16 = .ok (.iload 5, 2) := by decide +kernel
theorem dX9_againOf_18 : decode cX9_againOf 18 = .ok (.aload_n 0, 1) := by decide +kernel
theorem dX9_againOf_19 : decode cX9_againOf 19 = .ok (.getfield 16, 3) := by decide +kernel
theorem dX9_againOf_22 : decode cX9_againOf 22 = .ok (.if_icmp .ge 56, 3) := by decide +kernel
theorem dX9_againOf_25 : decode cX9_againOf 25 = .ok (.iload 5, 2) := by decide +kernel
theorem dX9_againOf_27 : decode cX9_againOf 27 = .ok (.istore 6, 2) := by decide +kernel
theorem dX9_againOf_29 : decode cX9_againOf 29 = .ok (.iconst 0, 1) := by decide +kernel
theorem dX9_againOf_30 : decode cX9_againOf 30 = .ok (.istore 7, 2) := by decide +kernel
theorem dX9_againOf_32 : decode cX9_againOf 32 = .ok (.iload 7, 2) := by decide +kernel
theorem dX9_againOf_34 : decode cX9_againOf 34 = .ok (.iload_n 3, 1) := by decide +kernel
theorem dX9_againOf_35 : decode cX9_againOf 35 = .ok (.if_icmp .ge 18, 3) := by decide +kernel
theorem dX9_againOf_38 : decode cX9_againOf 38 = .ok (.aload_n 0, 1) := by decide +kernel
theorem dX9_againOf_39 : decode cX9_againOf 39 = .ok (.iload 6, 2) := by decide +kernel
theorem dX9_againOf_41 : decode cX9_againOf 41 = .ok (.iload_n 1, 1) := by decide +kernel
theorem dX9_againOf_42 : decode cX9_againOf 42 = .ok (.invokevirtual 136, 3) := by decide +kernel
theorem dX9_againOf_45 : decode cX9_againOf 45 = .ok (.istore 6, 2) := by decide +kernel
theorem dX9_againOf_47 : decode cX9_againOf 47 = .ok (.iinc 7 1, 3) := by decide +kernel
theorem dX9_againOf_50 : decode cX9_againOf 50 = .ok (.goto (-18), 3) := by decide +kernel
theorem dX9_againOf_53 : decode cX9_againOf 53 = .ok (.iload 4, 2) := by decide +kernel
theorem dX9_againOf_55 : decode cX9_againOf 55 = .ok (.ifCond .eq 14, 3) := by decide +kernel
theorem dX9_againOf_58 : decode cX9_againOf 58 = .ok (.iload 6, 2) := by decide +kernel
theorem dX9_againOf_60 : decode cX9_againOf 60 = .ok (.iload 5, 2) := by decide +kernel
theorem dX9_againOf_62 : decode cX9_againOf 62 = .ok (.if_icmp .ne 7, 3) := by decide +kernel
theorem dX9_againOf_65 : decode cX9_againOf 65 = .ok (.iconst 1, 1) := by decide +kernel
theorem dX9_againOf_66 : decode cX9_againOf 66 = .ok (.goto 4, 3) := by decide +kernel
theorem dX9_againOf_69 : decode cX9_againOf 69 = .ok (.iconst 0, 1) := by decide +kernel
theorem dX9_againOf_70 : decode cX9_againOf 70 = .ok (.istore 4, 2) := by decide +kernel
theorem dX9_againOf_72 : decode cX9_againOf 72 = .ok (.iinc 5 1, 3) := by decide +kernel
theorem dX9_againOf_75 : decode cX9_againOf 75 = .ok (.goto (-59), 3) := by decide +kernel
theorem dX9_againOf_78 : decode cX9_againOf 78 = .ok (.iload 4, 2) := by decide +kernel
theorem dX9_againOf_80 : decode cX9_againOf 80 = .ok (.ifCond .eq 5, 3) := by decide +kernel
theorem dX9_againOf_83 : decode cX9_againOf 83 = .ok (.iload_n 3, 1) := by decide +kernel
theorem dX9_againOf_84 : decode cX9_againOf 84 = .ok (.ireturn, 1) := by decide +kernel
theorem dX9_againOf_85 : decode cX9_againOf 85 = .ok (.iload_n 3, 1) := by decide +kernel
theorem dX9_againOf_86 : decode cX9_againOf 86 = .ok (.istore_n 2, 1) := by decide +kernel
theorem dX9_againOf_87 : decode cX9_againOf 87 = .ok (.iinc 3 1, 3) := by decide +kernel
theorem dX9_againOf_90 : decode cX9_againOf 90 = .ok (.goto (-86), 3) := by decide +kernel
theorem dX9_againOf_93 : decode cX9_againOf 93 = .ok (.iload_n 2, 1) := by decide +kernel
theorem dX9_againOf_94 : decode cX9_againOf 94 = .ok (.ireturn, 1) := by decide +kernel
set_option maxRecDepth 20000 in
theorem ggX9_again_X9_isWay : GoodIn wsX9_again wsX9_isWay := goodIn_r _ [5, 6, 7, 8, 4, 9, 19, 20, 21, 22, 23, 24, 25, 26, 27, 28, 29, 30, 31, 32, 33, 34, 35, 36, 37, 38, 39, 40, 41, 42, 43, 44, 45, 46, 47, 48] (by decide +kernel) (by decide +kernel)
set_option maxRecDepth 20000 in
theorem gX9_again_X9_isWay : GoodIn wsX9_again (wsV RX9 139 RX9 yX9_isWay wsX9_isWay) := goodIn_app (goodIn_of _ (by decide +kernel)) ggX9_again_X9_isWay
set_option maxRecDepth 20000 in
theorem ggX9_again_X9_againOf : GoodIn wsX9_again wsX9_againOf := goodIn_r _ [13, 6, 14, 15, 16, 4, 17, 18, 19, 20, 21, 22, 23, 24, 25, 26, 27, 28, 29, 30, 31, 32, 33, 34, 35, 36, 37, 38, 39, 40, 41, 42, 43, 44, 45, 46, 47, 48] (by decide +kernel) (by decide +kernel)
set_option maxRecDepth 20000 in
theorem gX9_again_X9_againOf : GoodIn wsX9_again (wsV RX9 155 RX9 yX9_againOf wsX9_againOf) := goodIn_app (goodIn_of _ (by decide +kernel)) ggX9_again_X9_againOf
theorem dX9_again_0 : decode cX9_again 0 = .ok (.aload_n 0, 1) := by decide +kernel
theorem dX9_again_1 : decode cX9_again 1 = .ok (.iload_n 1, 1) := by decide +kernel
theorem dX9_again_2 : decode cX9_again 2 = .ok (.invokevirtual 139, 3) := by decide +kernel
theorem dX9_again_5 : decode cX9_again 5 = .ok (.ifCond .eq 11, 3) := by decide +kernel
theorem dX9_again_8 : decode cX9_again 8 = .ok (.aload_n 0, 1) := by decide +kernel
theorem dX9_again_9 : decode cX9_again 9 = .ok (.iload_n 1, 1) := by decide +kernel
theorem dX9_again_10 : decode cX9_again 10 = .ok (.invokevirtual 155, 3) := by decide +kernel
theorem dX9_again_13 : decode cX9_again 13 = .ok (.goto 4, 3) := by decide +kernel
theorem dX9_again_16 : decode cX9_again 16 = .ok (.iconst (-1), 1) := by decide +kernel
theorem dX9_again_17 : decode cX9_again 17 = .ok (.ireturn, 1) := by decide +kernel
set_option maxRecDepth 20000 in
theorem ggX9_through_X9_from : GoodIn wsX9_through wsX9_from := goodIn_r _ [6, 7, 8, 9, 10, 11, 12, 13, 14, 15, 16, 17, 18, 19, 20, 21, 22, 23, 24, 25, 26, 27, 28, 29, 30, 31, 32, 33, 34, 35, 36, 37] (by decide +kernel) (by decide +kernel)
set_option maxRecDepth 20000 in
theorem gX9_through_X9_from : GoodIn wsX9_through (wsV RX9 136 RX9 yX9_from wsX9_from) := goodIn_app (goodIn_of _ (by decide +kernel)) ggX9_through_X9_from
theorem dX9_through_0 : decode cX9_through 0 = .ok (.aload_n 0, 1) := by decide +kernel
theorem dX9_through_1 : decode cX9_through 1 = .ok (.getfield 26, 3) := by decide +kernel
theorem dX9_through_4 : decode cX9_through 4 = .ok (.iconst 1, 1) := by decide +kernel
theorem dX9_through_5 : decode cX9_through 5 = .ok (.iaload, 1) := by decide +kernel
theorem dX9_through_6 : decode cX9_through 6 = .ok (.istore 4, 2) := by decide +kernel
theorem dX9_through_8 : decode cX9_through 8 = .ok (.iconst 1, 1) := by decide +kernel
theorem dX9_through_9 : decode cX9_through 9 = .ok (.iload 4, 2) := by decide +kernel
theorem dX9_through_11 : decode cX9_through 11 = .ok (.ishl, 1) := by decide +kernel
theorem dX9_through_12 : decode cX9_through 12 = .ok (.istore 5, 2) := by decide +kernel
theorem dX9_through_14 : decode cX9_through 14 = .ok (.iconst 0, 1) := by decide +kernel
theorem dX9_through_15 : decode cX9_through 15 = .ok (.istore 6, 2) := by decide +kernel
theorem dX9_through_17 : decode cX9_through 17 = .ok (.iload 6, 2) := by decide +kernel
theorem dX9_through_19 : decode cX9_through 19 = .ok (.iload_n 3, 1) := by decide +kernel
theorem dX9_through_20 : decode cX9_through 20 = .ok (.if_icmp .ge 38, 3) := by decide +kernel
theorem dX9_through_23 : decode cX9_through 23 = .ok (.aload_n 0, 1) := by decide +kernel
theorem dX9_through_24 : decode cX9_through 24 = .ok (.iload 4, 2) := by decide +kernel
theorem dX9_through_26 : decode cX9_through 26 = .ok (.iload 6, 2) := by decide +kernel
theorem dX9_through_28 : decode cX9_through 28 = .ok (.iconst 2, 1) := by decide +kernel
theorem dX9_through_29 : decode cX9_through 29 = .ok (.irem, 1) := by decide +kernel
theorem dX9_through_30 : decode cX9_through 30 = .ok (.ifCond .ne 7, 3) := by decide +kernel
theorem dX9_through_33 : decode cX9_through 33 = .ok (.iload_n 1, 1) := by decide +kernel
theorem dX9_through_34 : decode cX9_through 34 = .ok (.goto 4, 3) := by decide +kernel
theorem dX9_through_37 : decode cX9_through 37 = .ok (.iload_n 2, 1) := by decide +kernel
theorem dX9_through_38 : decode cX9_through 38 = .ok (.invokevirtual 136, 3) := by decide +kernel
theorem dX9_through_41 : decode cX9_through 41 = .ok (.istore 4, 2) := by decide +kernel
theorem dX9_through_43 : decode cX9_through 43 = .ok (.iload 5, 2) := by decide +kernel
theorem dX9_through_45 : decode cX9_through 45 = .ok (.iconst 1, 1) := by decide +kernel
theorem dX9_through_46 : decode cX9_through 46 = .ok (.iload 4, 2) := by decide +kernel
theorem dX9_through_48 : decode cX9_through 48 = .ok (.ishl, 1) := by decide +kernel
theorem dX9_through_49 : decode cX9_through 49 = .ok (.ior, 1) := by decide +kernel
theorem dX9_through_50 : decode cX9_through 50 = .ok (.istore 5, 2) := by decide +kernel
theorem dX9_through_52 : decode cX9_through 52 = .ok (.iinc 6 1, 3) := by decide +kernel
theorem dX9_through_55 : decode cX9_through 55 = .ok (.goto (-38), 3) := by decide +kernel
theorem dX9_through_58 : decode cX9_through 58 = .ok (.iload 5, 2) := by decide +kernel
theorem dX9_through_60 : decode cX9_through 60 = .ok (.ireturn, 1) := by decide +kernel
set_option maxRecDepth 20000 in
theorem ggX9_all_X9_through : GoodIn wsX9_all wsX9_through := goodIn_r _ [6, 7, 8, 9, 10, 5, 11, 12, 13, 14, 15, 16, 17, 18, 19, 20, 21, 22, 23, 24, 25, 26, 27, 28, 29, 30, 31, 32, 33, 34, 35, 36, 37, 38, 39, 40, 41, 42] (by decide +kernel) (by decide +kernel)
set_option maxRecDepth 20000 in
theorem gX9_all_X9_through : GoodIn wsX9_all (wsV RX9 158 RX9 yX9_through wsX9_through) := goodIn_app (goodIn_of _ (by decide +kernel)) ggX9_all_X9_through
theorem dX9_all_0 : decode cX9_all 0 = .ok (.iconst 0, 1) := by decide +kernel
theorem dX9_all_1 : decode cX9_all 1 = .ok (.istore_n 1, 1) := by decide +kernel
theorem dX9_all_2 : decode cX9_all 2 = .ok (.iconst 0, 1) := by decide +kernel
theorem dX9_all_3 : decode cX9_all 3 = .ok (.istore_n 2, 1) := by decide +kernel
theorem dX9_all_4 : decode cX9_all 4 = .ok (.iload_n 2, 1) := by decide +kernel
theorem dX9_all_5 : decode cX9_all 5 = .ok (.aload_n 0, 1) := by decide +kernel
theorem dX9_all_6 : decode cX9_all 6 = .ok (.getfield 16, 3) := by decide +kernel
theorem dX9_all_9 : decode cX9_all 9 = .ok (.if_icmp .ge 38, 3) := by decide +kernel
theorem dX9_all_12 : decode cX9_all 12 = .ok (.iload_n 1, 1) := by decide +kernel
theorem dX9_all_13 : decode cX9_all 13 = .ok (.aload_n 0, 1) := by decide +kernel
theorem dX9_all_14 : decode cX9_all 14 = .ok (.iload_n 2, 1) := by decide +kernel
theorem dX9_all_15 : decode cX9_all 15 = .ok (.iload_n 2, 1) := by decide +kernel
theorem dX9_all_16 : decode cX9_all 16 = .ok (.bipush 12, 2) := by decide +kernel
theorem dX9_all_18 : decode cX9_all 18 = .ok (.invokevirtual 158, 3) := by decide +kernel
theorem dX9_all_21 : decode cX9_all 21 = .ok (.iconst 1, 1) := by decide +kernel
theorem dX9_all_22 : decode cX9_all 22 = .ok (.aload_n 0, 1) := by decide +kernel
theorem dX9_all_23 : decode cX9_all 23 = .ok (.getfield 16, 3) := by decide +kernel
theorem dX9_all_26 : decode cX9_all 26 = .ok (.ishl, 1) := by decide +kernel
theorem dX9_all_27 : decode cX9_all 27 = .ok (.iconst 1, 1) := by decide +kernel
theorem dX9_all_28 : decode cX9_all 28 = .ok (.isub, 1) := by decide +kernel
theorem dX9_all_29 : decode cX9_all 29 = .ok (.if_icmp .ne 9, 3) := by decide +kernel
theorem dX9_all_32 : decode cX9_all 32 = .ok (.iconst 1, 1) := by decide +kernel
theorem dX9_all_33 : decode cX9_all 33 = .ok (.iload_n 2, 1) := by decide +kernel
theorem dX9_all_34 : decode cX9_all 34 = .ok (.ishl, 1) := by decide +kernel
theorem dX9_all_35 : decode cX9_all 35 = .ok (.goto 4, 3) := by decide +kernel
theorem dX9_all_38 : decode cX9_all 38 = .ok (.iconst 0, 1) := by decide +kernel
theorem dX9_all_39 : decode cX9_all 39 = .ok (.ior, 1) := by decide +kernel
theorem dX9_all_40 : decode cX9_all 40 = .ok (.istore_n 1, 1) := by decide +kernel
theorem dX9_all_41 : decode cX9_all 41 = .ok (.iinc 2 1, 3) := by decide +kernel
theorem dX9_all_44 : decode cX9_all 44 = .ok (.goto (-40), 3) := by decide +kernel
theorem dX9_all_47 : decode cX9_all 47 = .ok (.iload_n 1, 1) := by decide +kernel
theorem dX9_all_48 : decode cX9_all 48 = .ok (.ireturn, 1) := by decide +kernel
set_option maxRecDepth 20000 in
theorem ggX9_byTurns_X9_in : GoodIn wsX9_byTurns wsX9_in := goodIn_r _ [5] (by decide +kernel) (by decide +kernel)
set_option maxRecDepth 20000 in
theorem gX9_byTurns_X9_in : GoodIn wsX9_byTurns (va_wsS RX9 60 yX9_in wsX9_in) := goodIn_app (goodIn_of _ (by decide +kernel)) ggX9_byTurns_X9_in
set_option maxRecDepth 20000 in
theorem ggX9_byTurns_X9_through : GoodIn wsX9_byTurns wsX9_through := goodIn_r _ [9, 10, 11, 12, 13, 4, 14, 15, 16, 17, 18, 19, 20, 21, 22, 23, 24, 25, 26, 27, 28, 29, 30, 31, 32, 33, 34, 35, 36, 37, 38, 39, 40, 41, 42, 43, 44, 45] (by decide +kernel) (by decide +kernel)
set_option maxRecDepth 20000 in
theorem gX9_byTurns_X9_through : GoodIn wsX9_byTurns (wsV RX9 158 RX9 yX9_through wsX9_through) := goodIn_app (goodIn_of _ (by decide +kernel)) ggX9_byTurns_X9_through
theorem dX9_byTurns_0 : decode cX9_byTurns 0 = .ok (.iload_n 1, 1) := by decide +kernel
theorem dX9_byTurns_1 : decode cX9_byTurns 1 = .ok (.iconst 0, 1) := by decide +kernel
theorem dX9_byTurns_2 : decode cX9_byTurns 2 = .ok (.iconst 1, 1) := by decide +kernel
theorem dX9_byTurns_3 : decode cX9_byTurns 3 = .ok (.invokestatic 60, 3) := by decide +kernel
theorem dX9_byTurns_6 : decode cX9_byTurns 6 = .ok (.ifCond .ne 5, 3) := by decide +kernel
theorem dX9_byTurns_9 : decode cX9_byTurns 9 = .ok (.iconst (-1), 1) := by decide +kernel
theorem dX9_byTurns_10 : decode cX9_byTurns 10 = .ok (.ireturn, 1) := by decide +kernel
theorem dX9_byTurns_11 : decode cX9_byTurns 11 = .ok (.iconst 0, 1) := by decide +kernel
theorem dX9_byTurns_12 : decode cX9_byTurns 12 = .ok (.istore_n 2, 1) := by decide +kernel
theorem dX9_byTurns_13 : decode cX9_byTurns 13 = .ok (.bipush (-9), 2) := by decide +kernel
theorem dX9_byTurns_15 : decode cX9_byTurns 15 = .ok (.istore_n 3, 1) := by decide +kernel
theorem dX9_byTurns_16 : decode cX9_byTurns 16 = .ok (.aload_n 0, 1) := by decide +kernel
theorem dX9_byTurns_17 : decode cX9_byTurns 17 = .ok (.getfield 16, 3) := by decide +kernel
theorem dX9_byTurns_20 : decode cX9_byTurns 20 = .ok (.iconst 1, 1) := by decide +kernel
theorem dX9_byTurns_21 : decode cX9_byTurns 21 = .ok (.isub, 1) := by decide +kernel
theorem dX9_byTurns_22 : decode cX9_byTurns 22 = .ok (.istore 4, 2) := by decide +kernel
theorem dX9_byTurns_24 : decode cX9_byTurns 24 = .ok (.iload 4, 2) := by decide +kernel
theorem dX9_byTurns_26 : decode cX9_byTurns 26 = .ok (.ifCond .lt 98, 3) := by decide +kernel
theorem dX9_byTurns_29 : decode cX9_byTurns 29 = .ok (.aload_n 0, 1) := by decide +kernel
theorem dX9_byTurns_30 : decode cX9_byTurns 30 = .ok (.getfield 16, 3) := by decide +kernel
theorem dX9_byTurns_33 : decode cX9_byTurns 33 = .ok (.iconst 1, 1) := by decide +kernel
theorem dX9_byTurns_34 : decode cX9_byTurns 34 = .ok (.isub, 1) := by decide +kernel
theorem dX9_byTurns_35 : decode cX9_byTurns 35 = .ok (.istore 5, 2) := by decide +kernel
theorem dX9_byTurns_37 : decode cX9_byTurns 37 = .ok (.iload 5, 2) := by decide +kernel
theorem dX9_byTurns_39 : decode cX9_byTurns 39 = .ok (.ifCond .lt 79, 3) := by decide +kernel
theorem dX9_byTurns_42 : decode cX9_byTurns 42 = .ok (.iload 4, 2) := by decide +kernel
theorem dX9_byTurns_44 : decode cX9_byTurns 44 = .ok (.iload 5, 2) := by decide +kernel
theorem dX9_byTurns_46 : decode cX9_byTurns 46 = .ok (.if_icmp .eq 32, 3) := by decide +kernel
theorem dX9_byTurns_49 : decode cX9_byTurns 49 = .ok (.aload_n 0, 1) := by decide +kernel
theorem dX9_byTurns_50 : decode cX9_byTurns 50 = .ok (.iload 4, 2) := by decide +kernel
theorem dX9_byTurns_52 : decode cX9_byTurns 52 = .ok (.iload 5, 2) := by decide +kernel
theorem dX9_byTurns_54 : decode cX9_byTurns 54 = .ok (.iconst 2, 1) := by decide +kernel
theorem dX9_byTurns_55 : decode cX9_byTurns 55 = .ok (.aload_n 0, 1) := by decide +kernel
theorem dX9_byTurns_56 : decode cX9_byTurns 56 = .ok (.getfield 16, 3) := by decide +kernel
theorem dX9_byTurns_59 : decode cX9_byTurns 59 = .ok (.imul, 1) := by decide +kernel
theorem dX9_byTurns_60 : decode cX9_byTurns 60 = .ok (.invokevirtual 158, 3) := by decide +kernel
theorem dX9_byTurns_63 : decode cX9_byTurns 63 = .ok (.iconst 1, 1) := by decide +kernel
theorem dX9_byTurns_64 : decode cX9_byTurns 64 = .ok (.aload_n 0, 1) := by decide +kernel
theorem dX9_byTurns_65 : decode cX9_byTurns 65 = .ok (.getfield 16, 3) := by decide +kernel
theorem dX9_byTurns_68 : decode cX9_byTurns 68 = .ok (.ishl, 1) := by decide +kernel
theorem dX9_byTurns_69 : decode cX9_byTurns 69 = .ok (.iconst 1, 1) := by decide +kernel
theorem dX9_byTurns_70 : decode cX9_byTurns 70 = .ok (.isub, 1) := by decide +kernel
theorem dX9_byTurns_71 : decode cX9_byTurns 71 = .ok (.if_icmp .ne 7, 3) := by decide +kernel
theorem dX9_byTurns_74 : decode cX9_byTurns 74 = .ok (.iconst 1, 1) := by decide +kernel
theorem dX9_byTurns_75 : decode cX9_byTurns 75 = .ok (.goto 4, 3) := by decide +kernel
theorem dX9_byTurns_78 : decode cX9_byTurns 78 = .ok (.iconst 0, 1) := by decide +kernel
theorem dX9_byTurns_79 : decode cX9_byTurns 79 = .ok (.istore 6, 2) := by decide +kernel
theorem dX9_byTurns_81 : decode cX9_byTurns 81 = .ok (.iload_n 2, 1) := by decide +kernel
theorem dX9_byTurns_82 : decode cX9_byTurns 82 = .ok (.iload 6, 2) := by decide +kernel
theorem dX9_byTurns_84 : decode cX9_byTurns 84 = .ok (.ifCond .eq 7, 3) := by decide +kernel
theorem dX9_byTurns_87 : decode cX9_byTurns 87 = .ok (.iconst 1, 1) := by decide +kernel
theorem dX9_byTurns_88 : decode cX9_byTurns 88 = .ok (.goto 4, 3) := by decide +kernel
theorem dX9_byTurns_91 : decode cX9_byTurns 91 = .ok (.iconst 0, 1) := by decide +kernel
theorem dX9_byTurns_92 : decode cX9_byTurns 92 = .ok (.iadd, 1) := by decide +kernel
theorem dX9_byTurns_93 : decode cX9_byTurns 93 = .ok (.istore_n 2, 1) := by decide +kernel
theorem dX9_byTurns_94 : decode cX9_byTurns 94 = .ok (.iload 6, 2) := by decide +kernel
theorem dX9_byTurns_96 : decode cX9_byTurns 96 = .ok (.ifCond .eq 14, 3) := by decide +kernel
theorem dX9_byTurns_99 : decode cX9_byTurns 99 = .ok (.bipush 100, 2) := by decide +kernel
theorem dX9_byTurns_101 : decode cX9_byTurns 101 = .ok (.iload 4, 2) := by decide +kernel
theorem dX9_byTurns_103 : decode cX9_byTurns 103 = .ok (.imul, 1) := by decide +kernel
theorem dX9_byTurns_104 : decode cX9_byTurns 104 = .ok (.iload 5, 2) := by decide +kernel
theorem dX9_byTurns_106 : decode cX9_byTurns 106 = .ok (.iadd, 1) := by decide +kernel
theorem dX9_byTurns_107 : decode cX9_byTurns 107 = .ok (.goto 4, 3) := by decide +kernel
theorem dX9_byTurns_110 : decode cX9_byTurns 110 = .ok (.iload_n 3, 1) := by decide +kernel
theorem dX9_byTurns_111 : decode cX9_byTurns 111 = .ok (.istore_n 3, 1) := by decide +kernel
theorem dX9_byTurns_112 : decode cX9_byTurns 112 = .ok (.iinc 5 (-1), 3) := by decide +kernel
theorem dX9_byTurns_115 : decode cX9_byTurns 115 = .ok (.goto (-78), 3) := by decide +kernel
theorem dX9_byTurns_118 : decode cX9_byTurns 118 = .ok (.iinc 4 (-1), 3) := by decide +kernel
theorem dX9_byTurns_121 : decode cX9_byTurns 121 = .ok (.goto (-97), 3) := by decide +kernel
theorem dX9_byTurns_124 : decode cX9_byTurns 124 = .ok (.iload_n 1, 1) := by decide +kernel
theorem dX9_byTurns_125 : decode cX9_byTurns 125 = .ok (.ifCond .ne 7, 3) := by decide +kernel
theorem dX9_byTurns_128 : decode cX9_byTurns 128 = .ok (.iload_n 2, 1) := by decide +kernel
theorem dX9_byTurns_129 : decode cX9_byTurns 129 = .ok (.goto 4, 3) := by decide +kernel
theorem dX9_byTurns_132 : decode cX9_byTurns 132 = .ok (.iload_n 3, 1) := by decide +kernel
theorem dX9_byTurns_133 : decode cX9_byTurns 133 = .ok (.ireturn, 1) := by decide +kernel
set_option maxRecDepth 20000 in
theorem ggX9_reach_X9_isSet : GoodIn wsX9_reach wsX9_isSet := goodIn_r _ [7, 2, 8, 9, 6, 10, 19, 20, 21, 22, 23, 24, 25, 26, 27, 28, 29, 30, 31, 32, 33, 34, 35, 36, 37, 38, 39, 40, 41, 42, 43, 44, 45, 46, 47, 48] (by decide +kernel) (by decide +kernel)
set_option maxRecDepth 20000 in
theorem gX9_reach_X9_isSet : GoodIn wsX9_reach (wsV RX9 162 RX9 yX9_isSet wsX9_isSet) := goodIn_app (goodIn_of _ (by decide +kernel)) ggX9_reach_X9_isSet
set_option maxRecDepth 20000 in
theorem ggX9_reach_X9_has : GoodIn wsX9_reach wsX9_has := goodIn_r _ [13] (by decide +kernel) (by decide +kernel)
set_option maxRecDepth 20000 in
theorem gX9_reach_X9_has : GoodIn wsX9_reach (va_wsS RX9 165 yX9_has wsX9_has) := goodIn_app (goodIn_of _ (by decide +kernel)) ggX9_reach_X9_has
set_option maxRecDepth 20000 in
theorem ggX9_reach_X9_from : GoodIn wsX9_reach wsX9_from := goodIn_r _ [17, 18, 19, 20, 21, 22, 23, 24, 25, 26, 27, 28, 29, 30, 31, 32, 33, 34, 35, 36, 37, 38, 39, 40, 41, 42, 43, 44, 45, 46, 47, 48] (by decide +kernel) (by decide +kernel)
set_option maxRecDepth 20000 in
theorem gX9_reach_X9_from : GoodIn wsX9_reach (wsV RX9 136 RX9 yX9_from wsX9_from) := goodIn_app (goodIn_of _ (by decide +kernel)) ggX9_reach_X9_from
theorem dX9_reach_0 : decode cX9_reach 0 = .ok (.aload_n 0, 1) := by decide +kernel
theorem dX9_reach_1 : decode cX9_reach 1 = .ok (.iload_n 1, 1) := by decide +kernel
theorem dX9_reach_2 : decode cX9_reach 2 = .ok (.invokevirtual 162, 3) := by decide +kernel
theorem dX9_reach_5 : decode cX9_reach 5 = .ok (.ifCond .ne 5, 3) := by decide +kernel
theorem dX9_reach_8 : decode cX9_reach 8 = .ok (.iconst (-1), 1) := by decide +kernel
theorem dX9_reach_9 : decode cX9_reach 9 = .ok (.ireturn, 1) := by decide +kernel
theorem dX9_reach_10 : decode cX9_reach 10 = .ok (.iconst 1, 1) := by decide +kernel
theorem dX9_reach_11 : decode cX9_reach 11 = .ok (.aload_n 0, 1) := by decide +kernel
theorem dX9_reach_12 : decode cX9_reach 12 = .ok (.getfield 26, 3) := by decide +kernel
theorem dX9_reach_15 : decode cX9_reach 15 = .ok (.iconst 1, 1) := by decide +kernel
theorem dX9_reach_16 : decode cX9_reach 16 = .ok (.iaload, 1) := by decide +kernel
theorem dX9_reach_17 : decode cX9_reach 17 = .ok (.ishl, 1) := by decide +kernel
theorem dX9_reach_18 : decode cX9_reach 18 = .ok (.istore_n 2, 1) := by decide +kernel
theorem dX9_reach_19 : decode cX9_reach 19 = .ok (.iconst 0, 1) := by decide +kernel
theorem dX9_reach_20 : decode cX9_reach 20 = .ok (.istore_n 3, 1) := by decide +kernel
theorem dX9_reach_21 : decode cX9_reach 21 = .ok (.iload_n 3, 1) := by decide +kernel
theorem dX9_reach_22 : decode cX9_reach 22 = .ok (.aload_n 0, 1) := by decide +kernel
theorem dX9_reach_23 : decode cX9_reach 23 = .ok (.getfield 16, 3) := by decide +kernel
theorem dX9_reach_26 : decode cX9_reach 26 = .ok (.if_icmp .ge 80, 3) := by decide +kernel
theorem dX9_reach_29 : decode cX9_reach 29 = .ok (.iconst 0, 1) := by decide +kernel
theorem dX9_reach_30 : decode cX9_reach 30 = .ok (.istore 4, 2) := by decide +kernel
theorem dX9_reach_32 : decode cX9_reach 32 = .ok (.iload 4, 2) := by decide +kernel
theorem dX9_reach_34 : decode cX9_reach 34 = .ok (.aload_n 0, 1) := by decide +kernel
theorem dX9_reach_35 : decode cX9_reach 35 = .ok (.getfield 16, 3) := by decide +kernel
theorem dX9_reach_38 : decode cX9_reach 38 = .ok (.if_icmp .ge 62, 3) := by decide +kernel
theorem dX9_reach_41 : decode cX9_reach 41 = .ok (.iconst 0, 1) := by decide +kernel
theorem dX9_reach_42 : decode cX9_reach 42 = .ok (.istore 5, 2) := by decide +kernel
theorem dX9_reach_44 : decode cX9_reach 44 = .ok (.iload 5, 2) := by decide +kernel
theorem dX9_reach_46 : decode cX9_reach 46 = .ok (.aload_n 0, 1) := by decide +kernel
theorem dX9_reach_47 : decode cX9_reach 47 = .ok (.getfield 16, 3) := by decide +kernel
theorem dX9_reach_50 : decode cX9_reach 50 = .ok (.if_icmp .ge 44, 3) := by decide +kernel
theorem dX9_reach_53 : decode cX9_reach 53 = .ok (.iload_n 2, 1) := by decide +kernel
theorem dX9_reach_54 : decode cX9_reach 54 = .ok (.iload 4, 2) := by decide +kernel
theorem dX9_reach_56 : decode cX9_reach 56 = .ok (.invokestatic 165, 3) := by decide +kernel
theorem dX9_reach_59 : decode cX9_reach 59 = .ok (.ifCond .eq 35, 3) := by decide +kernel
theorem dX9_reach_62 : decode cX9_reach 62 = .ok (.iload_n 2, 1) := by decide +kernel
theorem dX9_reach_63 : decode cX9_reach 63 = .ok (.iload_n 1, 1) := by decide +kernel
theorem dX9_reach_64 : decode cX9_reach 64 = .ok (.iload 5, 2) := by decide +kernel
theorem dX9_reach_66 : decode cX9_reach 66 = .ok (.invokestatic 165, 3) := by decide +kernel
theorem dX9_reach_69 : decode cX9_reach 69 = .ok (.ifCond .eq 16, 3) := by decide +kernel
theorem dX9_reach_72 : decode cX9_reach 72 = .ok (.iconst 1, 1) := by decide +kernel
theorem dX9_reach_73 : decode cX9_reach 73 = .ok (.aload_n 0, 1) := by decide +kernel
theorem dX9_reach_74 : decode cX9_reach 74 = .ok (.iload 4, 2) := by decide +kernel
theorem dX9_reach_76 : decode cX9_reach 76 = .ok (.iload 5, 2) := by decide +kernel
theorem dX9_reach_78 : decode cX9_reach 78 = .ok (.invokevirtual 136, 3) := by decide +kernel
