theorem dX9_plan_152 : decode cX9_plan 152 = .ok (.iload 4, 2) := by decide +kernel
theorem dX9_plan_154 : decode cX9_plan 154 = .ok (.if_icmp .ge 23, 3) := by decide +kernel
theorem dX9_plan_157 : decode cX9_plan 157 = .ok (.aload_n 0, 1) := by decide +kernel
theorem dX9_plan_158 : decode cX9_plan 158 = .ok (.getfield 57, 3) := by decide +kernel
theorem dX9_plan_161 : decode cX9_plan 161 = .ok (.iload 8, 2) := by decide +kernel
theorem dX9_plan_163 : decode cX9_plan 163 = .ok (.aload_n 0, 1) := by decide +kernel
theorem dX9_plan_164 : decode cX9_plan 164 = .ok (.getfield 54, 3) := by decide +kernel
theorem dX9_plan_167 : decode cX9_plan 167 = .ok (.iload 8, 2) := by decide +kernel
theorem dX9_plan_169 : decode cX9_plan 169 = .ok (.iaload, 1) := by decide +kernel
theorem dX9_plan_170 : decode cX9_plan 170 = .ok (.iastore, 1) := by decide +kernel
theorem dX9_plan_171 : decode cX9_plan 171 = .ok (.iinc 8 1, 3) := by decide +kernel
theorem dX9_plan_174 : decode cX9_plan 174 = .ok (.goto (-30), 3) := by decide +kernel
theorem dX9_plan_177 : decode cX9_plan 177 = .ok (.iload 7, 2) := by decide +kernel
theorem dX9_plan_179 : decode cX9_plan 179 = .ok (.iload 4, 2) := by decide +kernel
theorem dX9_plan_181 : decode cX9_plan 181 = .ok (.if_icmp .ge 8, 3) := by decide +kernel
theorem dX9_plan_184 : decode cX9_plan 184 = .ok (.iload 7, 2) := by decide +kernel
theorem dX9_plan_186 : decode cX9_plan 186 = .ok (.goto 5, 3) := by decide +kernel
theorem dX9_plan_189 : decode cX9_plan 189 = .ok (.iload 4, 2) := by decide +kernel
theorem dX9_plan_191 : decode cX9_plan 191 = .ok (.istore 4, 2) := by decide +kernel
theorem dX9_plan_193 : decode cX9_plan 193 = .ok (.iinc 5 1, 3) := by decide +kernel
theorem dX9_plan_196 : decode cX9_plan 196 = .ok (.goto (-145), 3) := by decide +kernel
theorem dX9_plan_199 : decode cX9_plan 199 = .ok (.iload_n 2, 1) := by decide +kernel
theorem dX9_plan_200 : decode cX9_plan 200 = .ok (.ifCond .ge 8, 3) := by decide +kernel
theorem dX9_plan_203 : decode cX9_plan 203 = .ok (.iload 4, 2) := by decide +kernel
theorem dX9_plan_205 : decode cX9_plan 205 = .ok (.goto 19, 3) := by decide +kernel
theorem dX9_plan_208 : decode cX9_plan 208 = .ok (.iload_n 2, 1) := by decide +kernel
theorem dX9_plan_209 : decode cX9_plan 209 = .ok (.iload_n 1, 1) := by decide +kernel
theorem dX9_plan_210 : decode cX9_plan 210 = .ok (.if_icmp .ge 12, 3) := by decide +kernel
theorem dX9_plan_213 : decode cX9_plan 213 = .ok (.aload_n 0, 1) := by decide +kernel
theorem dX9_plan_214 : decode cX9_plan 214 = .ok (.getfield 57, 3) := by decide +kernel
theorem dX9_plan_217 : decode cX9_plan 217 = .ok (.iload_n 2, 1) := by decide +kernel
theorem dX9_plan_218 : decode cX9_plan 218 = .ok (.iaload, 1) := by decide +kernel
theorem dX9_plan_219 : decode cX9_plan 219 = .ok (.goto 5, 3) := by decide +kernel
theorem dX9_plan_222 : decode cX9_plan 222 = .ok (.bipush (-9), 2) := by decide +kernel
theorem dX9_plan_224 : decode cX9_plan 224 = .ok (.ireturn, 1) := by decide +kernel
set_option maxRecDepth 20000 in
theorem ggX9_most_X9_asItIs : GoodIn wsX9_most wsX9_asItIs := goodIn_r _ [9, 10, 3, 11, 12, 8, 13, 22, 23, 24, 25, 26, 27, 28, 29, 30, 31, 32, 33, 34, 35, 36, 37, 38, 39, 40, 41, 42, 43, 44, 45, 46, 47, 48, 49, 50, 51] (by decide +kernel) (by decide +kernel)
set_option maxRecDepth 20000 in
theorem gX9_most_X9_asItIs : GoodIn wsX9_most (wsV RX9 142 RX9 yX9_asItIs wsX9_asItIs) := goodIn_app (goodIn_of _ (by decide +kernel)) ggX9_most_X9_asItIs
set_option maxRecDepth 20000 in
theorem ggX9_most_X9_isOut : GoodIn wsX9_most wsX9_isOut := goodIn_r _ [17, 2, 18, 19, 20, 8, 21, 1, 10, 22, 23, 24, 25, 26, 27, 28, 29, 30, 31, 32, 33, 34, 35, 36, 37, 38, 39, 40, 41, 42, 43, 44, 45, 46, 47, 48, 49, 50, 51] (by decide +kernel) (by decide +kernel)
set_option maxRecDepth 20000 in
theorem gX9_most_X9_isOut : GoodIn wsX9_most (wsV RX9 145 RX9 yX9_isOut wsX9_isOut) := goodIn_app (goodIn_of _ (by decide +kernel)) ggX9_most_X9_isOut
theorem dX9_most_0 : decode cX9_most 0 = .ok (.aload_n 0, 1) := by decide +kernel
theorem dX9_most_1 : decode cX9_most 1 = .ok (.invokevirtual 142, 3) := by decide +kernel
theorem dX9_most_4 : decode cX9_most 4 = .ok (.aload_n 0, 1) := by decide +kernel
theorem dX9_most_5 : decode cX9_most 5 = .ok (.invokevirtual 145, 3) := by decide +kernel
theorem dX9_most_8 : decode cX9_most 8 = .ok (.ifCond .eq 5, 3) := by decide +kernel
theorem dX9_most_11 : decode cX9_most 11 = .ok (.iconst 0, 1) := by decide +kernel
theorem dX9_most_12 : decode cX9_most 12 = .ok (.ireturn, 1) := by decide +kernel
theorem dX9_most_13 : decode cX9_most 13 = .ok (.iconst 1, 1) := by decide +kernel
theorem dX9_most_14 : decode cX9_most 14 = .ok (.istore_n 1, 1) := by decide +kernel
theorem dX9_most_15 : decode cX9_most 15 = .ok (.iconst 0, 1) := by decide +kernel
theorem dX9_most_16 : decode cX9_most 16 = .ok (.istore_n 2, 1) := by decide +kernel
theorem dX9_most_17 : decode cX9_most 17 = .ok (.iload_n 2, 1) := by decide +kernel
theorem dX9_most_18 : decode cX9_most 18 = .ok (.aload_n 0, 1) := by decide +kernel
theorem dX9_most_19 : decode cX9_most 19 = .ok (.getfield 16, 3) := by decide +kernel
theorem dX9_most_22 : decode cX9_most 22 = .ok (.if_icmp .ge 34, 3) := by decide +kernel
theorem dX9_most_25 : decode cX9_most 25 = .ok (.iload_n 1, 1) := by decide +kernel
theorem dX9_most_26 : decode cX9_most 26 = .ok (.aload_n 0, 1) := by decide +kernel
theorem dX9_most_27 : decode cX9_most 27 = .ok (.getfield 19, 3) := by decide +kernel
theorem dX9_most_30 : decode cX9_most 30 = .ok (.iconst 1, 1) := by decide +kernel
theorem dX9_most_31 : decode cX9_most 31 = .ok (.isub, 1) := by decide +kernel
theorem dX9_most_32 : decode cX9_most 32 = .ok (.aload_n 0, 1) := by decide +kernel
theorem dX9_most_33 : decode cX9_most 33 = .ok (.getfield 26, 3) := by decide +kernel
theorem dX9_most_36 : decode cX9_most 36 = .ok (.iconst 3, 1) := by decide +kernel
theorem dX9_most_37 : decode cX9_most 37 = .ok (.iload_n 2, 1) := by decide +kernel
theorem dX9_most_38 : decode cX9_most 38 = .ok (.iadd, 1) := by decide +kernel
theorem dX9_most_39 : decode cX9_most 39 = .ok (.iaload, 1) := by decide +kernel
theorem dX9_most_40 : decode cX9_most 40 = .ok (.isub, 1) := by decide +kernel
theorem dX9_most_41 : decode cX9_most 41 = .ok (.aload_n 0, 1) := by decide +kernel
theorem dX9_most_42 : decode cX9_most 42 = .ok (.getfield 22, 3) := by decide +kernel
theorem dX9_most_45 : decode cX9_most 45 = .ok (.iload_n 2, 1) := by decide +kernel
theorem dX9_most_46 : decode cX9_most 46 = .ok (.iaload, 1) := by decide +kernel
theorem dX9_most_47 : decode cX9_most 47 = .ok (.idiv, 1) := by decide +kernel
theorem dX9_most_48 : decode cX9_most 48 = .ok (.iadd, 1) := by decide +kernel
theorem dX9_most_49 : decode cX9_most 49 = .ok (.istore_n 1, 1) := by decide +kernel
theorem dX9_most_50 : decode cX9_most 50 = .ok (.iinc 2 1, 3) := by decide +kernel
theorem dX9_most_53 : decode cX9_most 53 = .ok (.goto (-36), 3) := by decide +kernel
theorem dX9_most_56 : decode cX9_most 56 = .ok (.iload_n 1, 1) := by decide +kernel
theorem dX9_most_57 : decode cX9_most 57 = .ok (.ireturn, 1) := by decide +kernel
set_option maxRecDepth 20000 in
theorem ggX9_hollows_X9_in : GoodIn wsX9_hollows wsX9_in := goodIn_r _ [6] (by decide +kernel) (by decide +kernel)
set_option maxRecDepth 20000 in
theorem gX9_hollows_X9_in : GoodIn wsX9_hollows (va_wsS RX9 60 yX9_in wsX9_in) := goodIn_app (goodIn_of _ (by decide +kernel)) ggX9_hollows_X9_in
set_option maxRecDepth 20000 in
theorem ggX9_hollows_X9_isWay : GoodIn wsX9_hollows wsX9_isWay := goodIn_r _ [10, 11, 3, 4, 5, 6, 12, 13, 14, 15, 16, 17, 18, 19, 20, 21, 22, 23, 24, 25, 26, 27, 28, 29, 30, 31, 32, 33, 34, 35, 36, 37, 38, 39, 40, 41] (by decide +kernel) (by decide +kernel)
set_option maxRecDepth 20000 in
theorem gX9_hollows_X9_isWay : GoodIn wsX9_hollows (wsV RX9 139 RX9 yX9_isWay wsX9_isWay) := goodIn_app (goodIn_of _ (by decide +kernel)) ggX9_hollows_X9_isWay
theorem dX9_hollows_0 : decode cX9_hollows 0 = .ok (.iload_n 1, 1) := by decide +kernel
theorem dX9_hollows_1 : decode cX9_hollows 1 = .ok (.iconst 0, 1) := by decide +kernel
theorem dX9_hollows_2 : decode cX9_hollows 2 = .ok (.bipush 40, 2) := by decide +kernel
theorem dX9_hollows_4 : decode cX9_hollows 4 = .ok (.invokestatic 60, 3) := by decide +kernel
theorem dX9_hollows_7 : decode cX9_hollows 7 = .ok (.ifCond .eq 22, 3) := by decide +kernel
theorem dX9_hollows_10 : decode cX9_hollows 10 = .ok (.aload_n 0, 1) := by decide +kernel
theorem dX9_hollows_11 : decode cX9_hollows 11 = .ok (.iload_n 2, 1) := by decide +kernel
theorem dX9_hollows_12 : decode cX9_hollows 12 = .ok (.invokevirtual 139, 3) := by decide +kernel
theorem dX9_hollows_15 : decode cX9_hollows 15 = .ok (.ifCond .eq 14, 3) := by decide +kernel
theorem dX9_hollows_18 : decode cX9_hollows 18 = .ok (.iload_n 3, 1) := by decide +kernel
theorem dX9_hollows_19 : decode cX9_hollows 19 = .ok (.iconst 0, 1) := by decide +kernel
theorem dX9_hollows_20 : decode cX9_hollows 20 = .ok (.sipush 999, 3) := by decide +kernel
theorem dX9_hollows_23 : decode cX9_hollows 23 = .ok (.invokestatic 60, 3) := by decide +kernel
theorem dX9_hollows_26 : decode cX9_hollows 26 = .ok (.ifCond .ne 5, 3) := by decide +kernel
theorem dX9_hollows_29 : decode cX9_hollows 29 = .ok (.iconst (-1), 1) := by decide +kernel
theorem dX9_hollows_30 : decode cX9_hollows 30 = .ok (.ireturn, 1) := by decide +kernel
theorem dX9_hollows_31 : decode cX9_hollows 31 = .ok (.aload_n 0, 1) := by decide +kernel
theorem dX9_hollows_32 : decode cX9_hollows 32 = .ok (.getfield 125, 3) := by decide +kernel
theorem dX9_hollows_35 : decode cX9_hollows 35 = .ok (.iconst 5, 1) := by decide +kernel
theorem dX9_hollows_36 : decode cX9_hollows 36 = .ok (.if_icmp .ne 6, 3) := by decide +kernel
theorem dX9_hollows_39 : decode cX9_hollows 39 = .ok (.bipush (-3), 2) := by decide +kernel
theorem dX9_hollows_41 : decode cX9_hollows 41 = .ok (.ireturn, 1) := by decide +kernel
theorem dX9_hollows_42 : decode cX9_hollows 42 = .ok (.aload_n 0, 1) := by decide +kernel
theorem dX9_hollows_43 : decode cX9_hollows 43 = .ok (.getfield 39, 3) := by decide +kernel
theorem dX9_hollows_46 : decode cX9_hollows 46 = .ok (.iconst 3, 1) := by decide +kernel
theorem dX9_hollows_47 : decode cX9_hollows 47 = .ok (.aload_n 0, 1) := by decide +kernel
theorem dX9_hollows_48 : decode cX9_hollows 48 = .ok (.getfield 125, 3) := by decide +kernel
theorem dX9_hollows_51 : decode cX9_hollows 51 = .ok (.imul, 1) := by decide +kernel
theorem dX9_hollows_52 : decode cX9_hollows 52 = .ok (.iload_n 1, 1) := by decide +kernel
theorem dX9_hollows_53 : decode cX9_hollows 53 = .ok (.iastore, 1) := by decide +kernel
theorem dX9_hollows_54 : decode cX9_hollows 54 = .ok (.aload_n 0, 1) := by decide +kernel
theorem dX9_hollows_55 : decode cX9_hollows 55 = .ok (.getfield 39, 3) := by decide +kernel
theorem dX9_hollows_58 : decode cX9_hollows 58 = .ok (.iconst 3, 1) := by decide +kernel
theorem dX9_hollows_59 : decode cX9_hollows 59 = .ok (.aload_n 0, 1) := by decide +kernel
theorem dX9_hollows_60 : decode cX9_hollows 60 = .ok (.getfield 125, 3) := by decide +kernel
theorem dX9_hollows_63 : decode cX9_hollows 63 = .ok (.imul, 1) := by decide +kernel
theorem dX9_hollows_64 : decode cX9_hollows 64 = .ok (.iconst 1, 1) := by decide +kernel
theorem dX9_hollows_65 : decode cX9_hollows 65 = .ok (.iadd, 1) := by decide +kernel
theorem dX9_hollows_66 : decode cX9_hollows 66 = .ok (.iload_n 2, 1) := by decide +kernel
theorem dX9_hollows_67 : decode cX9_hollows 67 = .ok (.iastore, 1) := by decide +kernel
theorem dX9_hollows_68 : decode cX9_hollows 68 = .ok (.aload_n 0, 1) := by decide +kernel
theorem dX9_hollows_69 : decode cX9_hollows 69 = .ok (.getfield 39, 3) := by decide +kernel
theorem dX9_hollows_72 : decode cX9_hollows 72 = .ok (.iconst 3, 1) := by decide +kernel
theorem dX9_hollows_73 : decode cX9_hollows 73 = .ok (.aload_n 0, 1) := by decide +kernel
theorem dX9_hollows_74 : decode cX9_hollows 74 = .ok (.getfield 125, 3) := by decide +kernel
theorem dX9_hollows_77 : decode cX9_hollows 77 = .ok (.imul, 1) := by decide +kernel
theorem dX9_hollows_78 : decode cX9_hollows 78 = .ok (.iconst 2, 1) := by decide +kernel
theorem dX9_hollows_79 : decode cX9_hollows 79 = .ok (.iadd, 1) := by decide +kernel
theorem dX9_hollows_80 : decode cX9_hollows 80 = .ok (.iload_n 3, 1) := by decide +kernel
theorem dX9_hollows_81 : decode cX9_hollows 81 = .ok (.iastore, 1) := by decide +kernel
theorem dX9_hollows_82 : decode cX9_hollows 82 = .ok (.aload_n 0, 1) := by decide +kernel
theorem dX9_hollows_83 : decode cX9_hollows 83 = .ok (.dup, 1) := by decide +kernel
theorem dX9_hollows_84 : decode cX9_hollows 84 = .ok (.getfield 125, 3) := by decide +kernel
theorem dX9_hollows_87 : decode cX9_hollows 87 = .ok (.iconst 1, 1) := by decide +kernel
theorem dX9_hollows_88 : decode cX9_hollows 88 = .ok (.iadd, 1) := by decide +kernel
theorem dX9_hollows_89 : decode cX9_hollows 89 = .ok (.putfield 125, 3) := by decide +kernel
theorem dX9_hollows_92 : decode cX9_hollows 92 = .ok (.aload_n 0, 1) := by decide +kernel
theorem dX9_hollows_93 : decode cX9_hollows 93 = .ok (.getfield 125, 3) := by decide +kernel
theorem dX9_hollows_96 : decode cX9_hollows 96 = .ok (.ireturn, 1) := by decide +kernel
theorem dX9_forget_0 : decode cX9_forget 0 = .ok (.aload_n 0, 1) := by decide +kernel
theorem dX9_forget_1 : decode cX9_forget 1 = .ok (.getfield 125, 3) := by decide +kernel
theorem dX9_forget_4 : decode cX9_forget 4 = .ok (.istore_n 1, 1) := by decide +kernel
theorem dX9_forget_5 : decode cX9_forget 5 = .ok (.aload_n 0, 1) := by decide +kernel
theorem dX9_forget_6 : decode cX9_forget 6 = .ok (.iconst 0, 1) := by decide +kernel
theorem dX9_forget_7 : decode cX9_forget 7 = .ok (.putfield 125, 3) := by decide +kernel
theorem dX9_forget_10 : decode cX9_forget 10 = .ok (.iload_n 1, 1) := by decide +kernel
theorem dX9_forget_11 : decode cX9_forget 11 = .ok (.ireturn, 1) := by decide +kernel
set_option maxRecDepth 20000 in
theorem ggX9_which_X9_asItIs : GoodIn wsX9_which wsX9_asItIs := goodIn_r _ [9, 4, 10, 11, 12, 8, 13, 28, 29, 30, 31, 32, 33, 34, 35, 36, 37, 38, 39, 40, 41, 42, 43, 44, 45, 46, 47, 48, 49, 50, 51, 52, 53, 54, 55, 56, 57] (by decide +kernel) (by decide +kernel)
set_option maxRecDepth 20000 in
theorem gX9_which_X9_asItIs : GoodIn wsX9_which (wsV RX9 142 RX9 yX9_asItIs wsX9_asItIs) := goodIn_app (goodIn_of _ (by decide +kernel)) ggX9_which_X9_asItIs
set_option maxRecDepth 20000 in
theorem ggX9_which_X9_turns : GoodIn wsX9_which wsX9_turns := goodIn_r _ [17, 4, 18, 19, 20, 8, 21, 22, 28, 29, 30, 31, 32, 33, 34, 35, 36, 37, 38, 39, 40, 41, 42, 43, 44, 45, 46, 47, 48, 49, 50, 51, 52, 53, 54, 55, 56, 57] (by decide +kernel) (by decide +kernel)
set_option maxRecDepth 20000 in
theorem gX9_which_X9_turns : GoodIn wsX9_which (wsV RX9 177 RX9 yX9_turns wsX9_turns) := goodIn_app (goodIn_of _ (by decide +kernel)) ggX9_which_X9_turns
set_option maxRecDepth 20000 in
theorem ggX9_which_X9_goes : GoodIn wsX9_which wsX9_goes := goodIn_r _ [26, 4, 27, 28, 29, 30, 31, 32, 33, 34, 35, 36, 37, 38, 39, 40, 41, 42, 43, 44, 45, 46, 47, 48, 49, 50, 51, 52, 53, 54, 55, 56, 57] (by decide +kernel) (by decide +kernel)
set_option maxRecDepth 20000 in
theorem gX9_which_X9_goes : GoodIn wsX9_which (wsV RX9 152 RX9 yX9_goes wsX9_goes) := goodIn_app (goodIn_of _ (by decide +kernel)) ggX9_which_X9_goes
theorem dX9_which_0 : decode cX9_which 0 = .ok (.iconst 0, 1) := by decide +kernel
theorem dX9_which_1 : decode cX9_which 1 = .ok (.istore_n 1, 1) := by decide +kernel
theorem dX9_which_2 : decode cX9_which 2 = .ok (.iconst 0, 1) := by decide +kernel
theorem dX9_which_3 : decode cX9_which 3 = .ok (.istore_n 2, 1) := by decide +kernel
theorem dX9_which_4 : decode cX9_which 4 = .ok (.iload_n 2, 1) := by decide +kernel
theorem dX9_which_5 : decode cX9_which 5 = .ok (.aload_n 0, 1) := by decide +kernel
theorem dX9_which_6 : decode cX9_which 6 = .ok (.getfield 16, 3) := by decide +kernel
theorem dX9_which_9 : decode cX9_which 9 = .ok (.if_icmp .ge 129, 3) := by decide +kernel
theorem dX9_which_12 : decode cX9_which 12 = .ok (.aload_n 0, 1) := by decide +kernel
theorem dX9_which_13 : decode cX9_which 13 = .ok (.invokevirtual 142, 3) := by decide +kernel
theorem dX9_which_16 : decode cX9_which 16 = .ok (.iconst 1, 1) := by decide +kernel
theorem dX9_which_17 : decode cX9_which 17 = .ok (.istore_n 3, 1) := by decide +kernel
theorem dX9_which_18 : decode cX9_which 18 = .ok (.iconst 0, 1) := by decide +kernel
theorem dX9_which_19 : decode cX9_which 19 = .ok (.istore 4, 2) := by decide +kernel
theorem dX9_which_21 : decode cX9_which 21 = .ok (.iload 4, 2) := by decide +kernel
theorem dX9_which_23 : decode cX9_which 23 = .ok (.bipush 40, 2) := by decide +kernel
theorem dX9_which_25 : decode cX9_which 25 = .ok (.if_icmp .gt 93, 3) := by decide +kernel
theorem dX9_which_28 : decode cX9_which 28 = .ok (.iconst 0, 1) := by decide +kernel
theorem dX9_which_29 : decode cX9_which 29 = .ok (.istore 5, 2) := by decide +kernel
theorem dX9_which_31 : decode cX9_which 31 = .ok (.iload 5, 2) := by decide +kernel
theorem dX9_which_33 : decode cX9_which 33 = .ok (.aload_n 0, 1) := by decide +kernel
theorem dX9_which_34 : decode cX9_which 34 = .ok (.getfield 125, 3) := by decide +kernel
theorem dX9_which_37 : decode cX9_which 37 = .ok (.if_icmp .ge 65, 3) := by decide +kernel
theorem dX9_which_40 : decode cX9_which 40 = .ok (.iload_n 3, 1) := by decide +kernel
theorem dX9_which_41 : decode cX9_which 41 = .ok (.ifCond .eq 53, 3) := by decide +kernel
theorem dX9_which_44 : decode cX9_which 44 = .ok (.aload_n 0, 1) := by decide +kernel
theorem dX9_which_45 : decode cX9_which 45 = .ok (.getfield 39, 3) := by decide +kernel
theorem dX9_which_48 : decode cX9_which 48 = .ok (.iconst 3, 1) := by decide +kernel
theorem dX9_which_49 : decode cX9_which 49 = .ok (.iload 5, 2) := by decide +kernel
theorem dX9_which_51 : decode cX9_which 51 = .ok (.imul, 1) := by decide +kernel
theorem dX9_which_52 : decode cX9_which 52 = .ok (.iaload, 1) := by decide +kernel
theorem dX9_which_53 : decode cX9_which 53 = .ok (.iload 4, 2) := by decide +kernel
theorem dX9_which_55 : decode cX9_which 55 = .ok (.if_icmp .ne 35, 3) := by decide +kernel
theorem dX9_which_58 : decode cX9_which 58 = .ok (.aload_n 0, 1) := by decide +kernel
theorem dX9_which_59 : decode cX9_which 59 = .ok (.getfield 48, 3) := by decide +kernel
theorem dX9_which_62 : decode cX9_which 62 = .ok (.iconst 3, 1) := by decide +kernel
theorem dX9_which_63 : decode cX9_which 63 = .ok (.aload_n 0, 1) := by decide +kernel
theorem dX9_which_64 : decode cX9_which 64 = .ok (.getfield 39, 3) := by decide +kernel
theorem dX9_which_67 : decode cX9_which 67 = .ok (.iconst 3, 1) := by decide +kernel
theorem dX9_which_68 : decode cX9_which 68 = .ok (.iload 5, 2) := by decide +kernel
theorem dX9_which_70 : decode cX9_which 70 = .ok (.imul, 1) := by decide +kernel
theorem dX9_which_71 : decode cX9_which 71 = .ok (.iconst 1, 1) := by decide +kernel
theorem dX9_which_72 : decode cX9_which 72 = .ok (.iadd, 1) := by decide +kernel
theorem dX9_which_73 : decode cX9_which 73 = .ok (.iaload, 1) := by decide +kernel
theorem dX9_which_74 : decode cX9_which 74 = .ok (.iadd, 1) := by decide +kernel
theorem dX9_which_75 : decode cX9_which 75 = .ok (.iaload, 1) := by decide +kernel
theorem dX9_which_76 : decode cX9_which 76 = .ok (.aload_n 0, 1) := by decide +kernel
theorem dX9_which_77 : decode cX9_which 77 = .ok (.getfield 39, 3) := by decide +kernel
theorem dX9_which_80 : decode cX9_which 80 = .ok (.iconst 3, 1) := by decide +kernel
theorem dX9_which_81 : decode cX9_which 81 = .ok (.iload 5, 2) := by decide +kernel
theorem dX9_which_83 : decode cX9_which 83 = .ok (.imul, 1) := by decide +kernel
theorem dX9_which_84 : decode cX9_which 84 = .ok (.iconst 2, 1) := by decide +kernel
theorem dX9_which_85 : decode cX9_which 85 = .ok (.iadd, 1) := by decide +kernel
theorem dX9_which_86 : decode cX9_which 86 = .ok (.iaload, 1) := by decide +kernel
theorem dX9_which_87 : decode cX9_which 87 = .ok (.if_icmp .ne 7, 3) := by decide +kernel
theorem dX9_which_90 : decode cX9_which 90 = .ok (.iconst 1, 1) := by decide +kernel
theorem dX9_which_91 : decode cX9_which 91 = .ok (.goto 4, 3) := by decide +kernel
theorem dX9_which_94 : decode cX9_which 94 = .ok (.iconst 0, 1) := by decide +kernel
theorem dX9_which_95 : decode cX9_which 95 = .ok (.istore_n 3, 1) := by decide +kernel
theorem dX9_which_96 : decode cX9_which 96 = .ok (.iinc 5 1, 3) := by decide +kernel
theorem dX9_which_99 : decode cX9_which 99 = .ok (.goto (-68), 3) := by decide +kernel
theorem dX9_which_102 : decode cX9_which 102 = .ok (.aload_n 0, 1) := by decide +kernel
theorem dX9_which_103 : decode cX9_which 103 = .ok (.iload_n 2, 1) := by decide +kernel
theorem dX9_which_104 : decode cX9_which 104 = .ok (.invokevirtual 177, 3) := by decide +kernel
theorem dX9_which_107 : decode cX9_which 107 = .ok (.aload_n 0, 1) := by decide +kernel
theorem dX9_which_108 : decode cX9_which 108 = .ok (.invokevirtual 152, 3) := by decide +kernel
theorem dX9_which_111 : decode cX9_which 111 = .ok (.pop, 1) := by decide +kernel
theorem dX9_which_112 : decode cX9_which 112 = .ok (.iinc 4 1, 3) := by decide +kernel
theorem dX9_which_115 : decode cX9_which 115 = .ok (.goto (-94), 3) := by decide +kernel
theorem dX9_which_118 : decode cX9_which 118 = .ok (.iload_n 1, 1) := by decide +kernel
theorem dX9_which_119 : decode cX9_which 119 = .ok (.iload_n 3, 1) := by decide +kernel
theorem dX9_which_120 : decode cX9_which 120 = .ok (.ifCond .eq 9, 3) := by decide +kernel
theorem dX9_which_123 : decode cX9_which 123 = .ok (.iconst 1, 1) := by decide +kernel
theorem dX9_which_124 : decode cX9_which 124 = .ok (.iload_n 2, 1) := by decide +kernel
theorem dX9_which_125 : decode cX9_which 125 = .ok (.ishl, 1) := by decide +kernel
theorem dX9_which_126 : decode cX9_which 126 = .ok (.goto 4, 3) := by decide +kernel
theorem dX9_which_129 : decode cX9_which 129 = .ok (.iconst 0, 1) := by decide +kernel
theorem dX9_which_130 : decode cX9_which 130 = .ok (.ior, 1) := by decide +kernel
theorem dX9_which_131 : decode cX9_which 131 = .ok (.istore_n 1, 1) := by decide +kernel
theorem dX9_which_132 : decode cX9_which 132 = .ok (.iinc 2 1, 3) := by decide +kernel
theorem dX9_which_135 : decode cX9_which 135 = .ok (.goto (-131), 3) := by decide +kernel
theorem dX9_which_138 : decode cX9_which 138 = .ok (.iload_n 1, 1) := by decide +kernel
theorem dX9_which_139 : decode cX9_which 139 = .ok (.ireturn, 1) := by decide +kernel
set_option maxRecDepth 20000 in
theorem ggX9_odds_X9_isWay : GoodIn wsX9_odds wsX9_isWay := goodIn_r _ [6, 7, 8, 9, 5, 10, 19, 20, 21, 22, 23, 24, 25, 26, 27, 28, 29, 30, 31, 32, 33, 34, 35, 36, 37, 38, 39, 40, 41, 42, 43, 44, 45, 46, 47, 48] (by decide +kernel) (by decide +kernel)
set_option maxRecDepth 20000 in
theorem gX9_odds_X9_isWay : GoodIn wsX9_odds (wsV RX9 139 RX9 yX9_isWay wsX9_isWay) := goodIn_app (goodIn_of _ (by decide +kernel)) ggX9_odds_X9_isWay
set_option maxRecDepth 20000 in
theorem ggX9_odds_X9_in : GoodIn wsX9_odds wsX9_in := goodIn_r _ [10] (by decide +kernel) (by decide +kernel)
set_option maxRecDepth 20000 in
theorem gX9_odds_X9_in : GoodIn wsX9_odds (va_wsS RX9 60 yX9_in wsX9_in) := goodIn_app (goodIn_of _ (by decide +kernel)) ggX9_odds_X9_in
set_option maxRecDepth 20000 in
theorem ggX9_odds_X9_has : GoodIn wsX9_odds wsX9_has := goodIn_r _ [13] (by decide +kernel) (by decide +kernel)
set_option maxRecDepth 20000 in
theorem gX9_odds_X9_has : GoodIn wsX9_odds (va_wsS RX9 165 yX9_has wsX9_has) := goodIn_app (goodIn_of _ (by decide +kernel)) ggX9_odds_X9_has
set_option maxRecDepth 20000 in
theorem ggX9_odds_X9_from : GoodIn wsX9_odds wsX9_from := goodIn_r _ [17, 18, 19, 20, 21, 22, 23, 24, 25, 26, 27, 28, 29, 30, 31, 32, 33, 34, 35, 36, 37, 38, 39, 40, 41, 42, 43, 44, 45, 46, 47, 48] (by decide +kernel) (by decide +kernel)
set_option maxRecDepth 20000 in
theorem gX9_odds_X9_from : GoodIn wsX9_odds (wsV RX9 136 RX9 yX9_from wsX9_from) := goodIn_app (goodIn_of _ (by decide +kernel)) ggX9_odds_X9_from
theorem dX9_odds_0 : decode cX9_odds 0 = .ok (.aload_n 0, 1) := by decide +kernel
theorem dX9_odds_1 : decode cX9_odds 1 = .ok (.iload_n 1, 1) := by decide +kernel
theorem dX9_odds_2 : decode cX9_odds 2 = .ok (.invokevirtual 139, 3) := by decide +kernel
theorem dX9_odds_5 : decode cX9_odds 5 = .ok (.ifCond .eq 42, 3) := by decide +kernel
theorem dX9_odds_8 : decode cX9_odds 8 = .ok (.iload_n 2, 1) := by decide +kernel
theorem dX9_odds_9 : decode cX9_odds 9 = .ok (.iconst 0, 1) := by decide +kernel
theorem dX9_odds_10 : decode cX9_odds 10 = .ok (.bipush 10, 2) := by decide +kernel
theorem dX9_odds_12 : decode cX9_odds 12 = .ok (.invokestatic 60, 3) := by decide +kernel
theorem dX9_odds_15 : decode cX9_odds 15 = .ok (.ifCond .eq 32, 3) := by decide +kernel
theorem dX9_odds_18 : decode cX9_odds 18 = .ok (.iload_n 3, 1) := by decide +kernel
theorem dX9_odds_19 : decode cX9_odds 19 = .ok (.iconst 0, 1) := by decide +kernel
theorem dX9_odds_20 : decode cX9_odds 20 = .ok (.bipush 6, 2) := by decide +kernel
theorem dX9_odds_22 : decode cX9_odds 22 = .ok (.invokestatic 60, 3) := by decide +kernel
theorem dX9_odds_25 : decode cX9_odds 25 = .ok (.ifCond .eq 22, 3) := by decide +kernel
theorem dX9_odds_28 : decode cX9_odds 28 = .ok (.aload_n 0, 1) := by decide +kernel
theorem dX9_odds_29 : decode cX9_odds 29 = .ok (.iload 4, 2) := by decide +kernel
theorem dX9_odds_31 : decode cX9_odds 31 = .ok (.invokevirtual 139, 3) := by decide +kernel
theorem dX9_odds_34 : decode cX9_odds 34 = .ok (.ifCond .eq 13, 3) := by decide +kernel
theorem dX9_odds_37 : decode cX9_odds 37 = .ok (.iload 5, 2) := by decide +kernel
theorem dX9_odds_39 : decode cX9_odds 39 = .ok (.iconst 0, 1) := by decide +kernel
theorem dX9_odds_40 : decode cX9_odds 40 = .ok (.iconst 1, 1) := by decide +kernel
theorem dX9_odds_41 : decode cX9_odds 41 = .ok (.invokestatic 60, 3) := by decide +kernel
theorem dX9_odds_44 : decode cX9_odds 44 = .ok (.ifCond .ne 5, 3) := by decide +kernel
theorem dX9_odds_47 : decode cX9_odds 47 = .ok (.iconst (-1), 1) := by decide +kernel
theorem dX9_odds_48 : decode cX9_odds 48 = .ok (.ireturn, 1) := by decide +kernel
theorem dX9_odds_49 : decode cX9_odds 49 = .ok (.iconst 0, 1) := by decide +kernel
theorem dX9_odds_50 : decode cX9_odds 50 = .ok (.istore 6, 2) := by decide +kernel
theorem dX9_odds_52 : decode cX9_odds 52 = .ok (.iconst 1, 1) := by decide +kernel
theorem dX9_odds_53 : decode cX9_odds 53 = .ok (.istore 7, 2) := by decide +kernel
theorem dX9_odds_55 : decode cX9_odds 55 = .ok (.iconst 0, 1) := by decide +kernel
theorem dX9_odds_56 : decode cX9_odds 56 = .ok (.istore 8, 2) := by decide +kernel
theorem dX9_odds_58 : decode cX9_odds 58 = .ok (.iload 8, 2) := by decide +kernel
theorem dX9_odds_60 : decode cX9_odds 60 = .ok (.iload_n 3, 1) := by decide +kernel
theorem dX9_odds_61 : decode cX9_odds 61 = .ok (.if_icmp .ge 16, 3) := by decide +kernel
theorem dX9_odds_64 : decode cX9_odds 64 = .ok (.iload 7, 2) := by decide +kernel
theorem dX9_odds_66 : decode cX9_odds 66 = .ok (.bipush 10, 2) := by decide +kernel
theorem dX9_odds_68 : decode cX9_odds 68 = .ok (.imul, 1) := by decide +kernel
theorem dX9_odds_69 : decode cX9_odds 69 = .ok (.istore 7, 2) := by decide +kernel
theorem dX9_odds_71 : decode cX9_odds 71 = .ok (.iinc 8 1, 3) := by decide +kernel
theorem dX9_odds_74 : decode cX9_odds 74 = .ok (.goto (-16), 3) := by decide +kernel
theorem dX9_odds_77 : decode cX9_odds 77 = .ok (.iconst 0, 1) := by decide +kernel
theorem dX9_odds_78 : decode cX9_odds 78 = .ok (.istore 8, 2) := by decide +kernel
theorem dX9_odds_80 : decode cX9_odds 80 = .ok (.iload 8, 2) := by decide +kernel
theorem dX9_odds_82 : decode cX9_odds 82 = .ok (.iconst 1, 1) := by decide +kernel
theorem dX9_odds_83 : decode cX9_odds 83 = .ok (.iload_n 3, 1) := by decide +kernel
theorem dX9_odds_84 : decode cX9_odds 84 = .ok (.ishl, 1) := by decide +kernel
theorem dX9_odds_85 : decode cX9_odds 85 = .ok (.if_icmp .ge 100, 3) := by decide +kernel
theorem dX9_odds_88 : decode cX9_odds 88 = .ok (.aload_n 0, 1) := by decide +kernel
theorem dX9_odds_89 : decode cX9_odds 89 = .ok (.getfield 26, 3) := by decide +kernel
theorem dX9_odds_92 : decode cX9_odds 92 = .ok (.iconst 1, 1) := by decide +kernel
theorem dX9_odds_93 : decode cX9_odds 93 = .ok (.iaload, 1) := by decide +kernel
theorem dX9_odds_94 : decode cX9_odds 94 = .ok (.istore 9, 2) := by decide +kernel
theorem dX9_odds_96 : decode cX9_odds 96 = .ok (.iconst 1, 1) := by decide +kernel
theorem dX9_odds_97 : decode cX9_odds 97 = .ok (.istore 10, 2) := by decide +kernel
theorem dX9_odds_99 : decode cX9_odds 99 = .ok (.iconst 0, 1) := by decide +kernel
theorem dX9_odds_100 : decode cX9_odds 100 = .ok (.istore 11, 2) := by decide +kernel
theorem dX9_odds_102 : decode cX9_odds 102 = .ok (.iload 11, 2) := by decide +kernel
theorem dX9_odds_104 : decode cX9_odds 104 = .ok (.iload_n 3, 1) := by decide +kernel
theorem dX9_odds_105 : decode cX9_odds 105 = .ok (.if_icmp .ge 56, 3) := by decide +kernel
theorem dX9_odds_108 : decode cX9_odds 108 = .ok (.iload 8, 2) := by decide +kernel
theorem dX9_odds_110 : decode cX9_odds 110 = .ok (.iload 11, 2) := by decide +kernel
theorem dX9_odds_112 : decode cX9_odds 112 = .ok (.invokestatic 165, 3) := by decide +kernel
theorem dX9_odds_115 : decode cX9_odds 115 = .ok (.ifCond .eq 8, 3) := by decide +kernel
theorem dX9_odds_118 : decode cX9_odds 118 = .ok (.iload 9, 2) := by decide +kernel
theorem dX9_odds_120 : decode cX9_odds 120 = .ok (.goto 10, 3) := by decide +kernel
theorem dX9_odds_123 : decode cX9_odds 123 = .ok (.aload_n 0, 1) := by decide +kernel
theorem dX9_odds_124 : decode cX9_odds 124 = .ok (.iload 9, 2) := by decide +kernel
theorem dX9_odds_126 : decode cX9_odds 126 = .ok (.iload_n 1, 1) := by decide +kernel
theorem dX9_odds_127 : decode cX9_odds 127 = .ok (.invokevirtual 136, 3) := by decide +kernel
theorem dX9_odds_130 : decode cX9_odds 130 = .ok (.istore 9, 2) := by decide +kernel
theorem dX9_odds_132 : decode cX9_odds 132 = .ok (.iload 10, 2) := by decide +kernel
theorem dX9_odds_134 : decode cX9_odds 134 = .ok (.iload 8, 2) := by decide +kernel
theorem dX9_odds_136 : decode cX9_odds 136 = .ok (.iload 11, 2) := by decide +kernel
theorem dX9_odds_138 : decode cX9_odds 138 = .ok (.invokestatic 165, 3) := by decide +kernel
theorem dX9_odds_141 : decode cX9_odds 141 = .ok (.ifCond .eq 7, 3) := by decide +kernel
theorem dX9_odds_144 : decode cX9_odds 144 = .ok (.iload_n 2, 1) := by decide +kernel
theorem dX9_odds_145 : decode cX9_odds 145 = .ok (.goto 7, 3) := by decide +kernel
theorem dX9_odds_148 : decode cX9_odds 148 = .ok (.bipush 10, 2) := by decide +kernel
theorem dX9_odds_150 : decode cX9_odds 150 = .ok (.iload_n 2, 1) := by decide +kernel
theorem dX9_odds_151 : decode cX9_odds 151 = .ok (.isub, 1) := by decide +kernel
theorem dX9_odds_152 : decode cX9_odds 152 = .ok (.imul, 1) := by decide +kernel
theorem dX9_odds_153 : decode cX9_odds 153 = .ok (.istore 10, 2) := by decide +kernel
theorem dX9_odds_155 : decode cX9_odds 155 = .ok (.iinc 11 1, 3) := by decide +kernel
theorem dX9_odds_158 : decode cX9_odds 158 = .ok (.goto (-56), 3) := by decide +kernel
theorem dX9_odds_161 : decode cX9_odds 161 = .ok (.iload 6, 2) := by decide +kernel
theorem dX9_odds_163 : decode cX9_odds 163 = .ok (.iload 9, 2) := by decide +kernel
theorem dX9_odds_165 : decode cX9_odds 165 = .ok (.iload 4, 2) := by decide +kernel
theorem dX9_odds_167 : decode cX9_odds 167 = .ok (.if_icmp .ne 8, 3) := by decide +kernel
theorem dX9_odds_170 : decode cX9_odds 170 = .ok (.iload 10, 2) := by decide +kernel
theorem dX9_odds_172 : decode cX9_odds 172 = .ok (.goto 4, 3) := by decide +kernel
theorem dX9_odds_175 : decode cX9_odds 175 = .ok (.iconst 0, 1) := by decide +kernel
theorem dX9_odds_176 : decode cX9_odds 176 = .ok (.iadd, 1) := by decide +kernel
theorem dX9_odds_177 : decode cX9_odds 177 = .ok (.istore 6, 2) := by decide +kernel
theorem dX9_odds_179 : decode cX9_odds 179 = .ok (.iinc 8 1, 3) := by decide +kernel
theorem dX9_odds_182 : decode cX9_odds 182 = .ok (.goto (-102), 3) := by decide +kernel
theorem dX9_odds_185 : decode cX9_odds 185 = .ok (.iload 6, 2) := by decide +kernel
theorem dX9_odds_187 : decode cX9_odds 187 = .ok (.istore 8, 2) := by decide +kernel
theorem dX9_odds_189 : decode cX9_odds 189 = .ok (.iload 7, 2) := by decide +kernel
theorem dX9_odds_191 : decode cX9_odds 191 = .ok (.istore 9, 2) := by decide +kernel
theorem dX9_odds_193 : decode cX9_odds 193 = .ok (.iload 9, 2) := by decide +kernel
theorem dX9_odds_195 : decode cX9_odds 195 = .ok (.ifCond .le 21, 3) := by decide +kernel
theorem dX9_odds_198 : decode cX9_odds 198 = .ok (.iload 8, 2) := by decide +kernel
theorem dX9_odds_200 : decode cX9_odds 200 = .ok (.iload 9, 2) := by decide +kernel
theorem dX9_odds_202 : decode cX9_odds 202 = .ok (.irem, 1) := by decide +kernel
theorem dX9_odds_203 : decode cX9_odds 203 = .ok (.istore 10, 2) := by decide +kernel
theorem dX9_odds_205 : decode cX9_odds 205 = .ok (.iload 9, 2) := by decide +kernel
theorem dX9_odds_207 : decode cX9_odds 207 = .ok (.istore 8, 2) := by decide +kernel
theorem dX9_odds_209 : decode cX9_odds 209 = .ok (.iload 10, 2) := by decide +kernel
theorem dX9_odds_211 : decode cX9_odds 211 = .ok (.istore 9, 2) := by decide +kernel
theorem dX9_odds_213 : decode cX9_odds 213 = .ok (.goto (-20), 3) := by decide +kernel
theorem dX9_odds_216 : decode cX9_odds 216 = .ok (.iload 5, 2) := by decide +kernel
theorem dX9_odds_218 : decode cX9_odds 218 = .ok (.ifCond .ne 8, 3) := by decide +kernel
theorem dX9_odds_221 : decode cX9_odds 221 = .ok (.iload 6, 2) := by decide +kernel
theorem dX9_odds_223 : decode cX9_odds 223 = .ok (.goto 5, 3) := by decide +kernel
theorem dX9_odds_226 : decode cX9_odds 226 = .ok (.iload 7, 2) := by decide +kernel
theorem dX9_odds_228 : decode cX9_odds 228 = .ok (.iload 8, 2) := by decide +kernel
theorem dX9_odds_230 : decode cX9_odds 230 = .ok (.idiv, 1) := by decide +kernel
theorem dX9_odds_231 : decode cX9_odds 231 = .ok (.ireturn, 1) := by decide +kernel
theorem dX9_wayRate_0 : decode cX9_wayRate 0 = .ok (.aload_n 0, 1) := by decide +kernel
theorem dX9_wayRate_1 : decode cX9_wayRate 1 = .ok (.dup, 1) := by decide +kernel
theorem dX9_wayRate_2 : decode cX9_wayRate 2 = .ok (.getfield 184, 3) := by decide +kernel
theorem dX9_wayRate_5 : decode cX9_wayRate 5 = .ok (.lconst 1, 1) := by decide +kernel
theorem dX9_wayRate_6 : decode cX9_wayRate 6 = .ok (.ladd, 1) := by decide +kernel
theorem dX9_wayRate_7 : decode cX9_wayRate 7 = .ok (.putfield 184, 3) := by decide +kernel
theorem dX9_wayRate_10 : decode cX9_wayRate 10 = .ok (.aload_n 0, 1) := by decide +kernel
theorem dX9_wayRate_11 : decode cX9_wayRate 11 = .ok (.getfield 26, 3) := by decide +kernel
theorem dX9_wayRate_14 : decode cX9_wayRate 14 = .ok (.iconst 3, 1) := by decide +kernel
theorem dX9_wayRate_15 : decode cX9_wayRate 15 = .ok (.iload_n 1, 1) := by decide +kernel
theorem dX9_wayRate_16 : decode cX9_wayRate 16 = .ok (.iadd, 1) := by decide +kernel
theorem dX9_wayRate_17 : decode cX9_wayRate 17 = .ok (.iaload, 1) := by decide +kernel
theorem dX9_wayRate_18 : decode cX9_wayRate 18 = .ok (.ireturn, 1) := by decide +kernel
set_option maxRecDepth 20000 in
theorem ggX9_endRate_X9_wayRate : GoodIn wsX9_endRate wsX9_wayRate := goodIn_r _ [8, 1, 9, 10, 11, 12, 13, 14, 15, 16, 17, 18, 19, 20, 21, 22, 23, 24, 25, 26, 27, 28, 29, 30, 31, 32, 33, 34, 35, 36, 37, 38, 39] (by decide +kernel) (by decide +kernel)
set_option maxRecDepth 20000 in
theorem gX9_endRate_X9_wayRate : GoodIn wsX9_endRate (wsV RX9 190 RX9 yX9_wayRate wsX9_wayRate) := goodIn_app (goodIn_of _ (by decide +kernel)) ggX9_endRate_X9_wayRate
theorem dX9_endRate_0 : decode cX9_endRate 0 = .ok (.aload_n 0, 1) := by decide +kernel
theorem dX9_endRate_1 : decode cX9_endRate 1 = .ok (.dup, 1) := by decide +kernel
theorem dX9_endRate_2 : decode cX9_endRate 2 = .ok (.getfield 184, 3) := by decide +kernel
theorem dX9_endRate_5 : decode cX9_endRate 5 = .ok (.ldc2_w 188, 3) := by decide +kernel
theorem dX9_endRate_8 : decode cX9_endRate 8 = .ok (.ladd, 1) := by decide +kernel
theorem dX9_endRate_9 : decode cX9_endRate 9 = .ok (.putfield 184, 3) := by decide +kernel
theorem dX9_endRate_12 : decode cX9_endRate 12 = .ok (.aload_n 0, 1) := by decide +kernel
theorem dX9_endRate_13 : decode cX9_endRate 13 = .ok (.iload_n 1, 1) := by decide +kernel
theorem dX9_endRate_14 : decode cX9_endRate 14 = .ok (.invokevirtual 190, 3) := by decide +kernel
theorem dX9_endRate_17 : decode cX9_endRate 17 = .ok (.aload_n 0, 1) := by decide +kernel
theorem dX9_endRate_18 : decode cX9_endRate 18 = .ok (.getfield 22, 3) := by decide +kernel
theorem dX9_endRate_21 : decode cX9_endRate 21 = .ok (.iload_n 1, 1) := by decide +kernel
theorem dX9_endRate_22 : decode cX9_endRate 22 = .ok (.iaload, 1) := by decide +kernel
theorem dX9_endRate_23 : decode cX9_endRate 23 = .ok (.iadd, 1) := by decide +kernel
theorem dX9_endRate_24 : decode cX9_endRate 24 = .ok (.ireturn, 1) := by decide +kernel
set_option maxRecDepth 20000 in
theorem ggX9_sideRate_X9_wayRate : GoodIn wsX9_sideRate wsX9_wayRate := goodIn_r _ [7, 1, 8, 19, 20, 21, 22, 23, 24, 25, 26, 27, 28, 29, 30, 31, 32, 33, 34, 35, 36, 37, 38, 39, 40, 41, 42, 43, 44, 45, 46, 47, 48] (by decide +kernel) (by decide +kernel)
set_option maxRecDepth 20000 in
theorem gX9_sideRate_X9_wayRate : GoodIn wsX9_sideRate (wsV RX9 190 RX9 yX9_wayRate wsX9_wayRate) := goodIn_app (goodIn_of _ (by decide +kernel)) ggX9_sideRate_X9_wayRate
set_option maxRecDepth 20000 in
theorem ggX9_sideRate_X9_againOf : GoodIn wsX9_sideRate wsX9_againOf := goodIn_r _ [12, 13, 14, 15, 16, 6, 17, 18, 19, 20, 21, 22, 23, 24, 25, 26, 27, 28, 29, 30, 31, 32, 33, 34, 35, 36, 37, 38, 39, 40, 41, 42, 43, 44, 45, 46, 47, 48] (by decide +kernel) (by decide +kernel)
set_option maxRecDepth 20000 in
theorem gX9_sideRate_X9_againOf : GoodIn wsX9_sideRate (wsV RX9 155 RX9 yX9_againOf wsX9_againOf) := goodIn_app (goodIn_of _ (by decide +kernel)) ggX9_sideRate_X9_againOf
theorem dX9_sideRate_0 : decode cX9_sideRate 0 = .ok (.aload_n 0, 1) := by decide +kernel
theorem dX9_sideRate_1 : decode cX9_sideRate 1 = .ok (.dup, 1) := by decide +kernel
theorem dX9_sideRate_2 : decode cX9_sideRate 2 = .ok (.getfield 184, 3) := by decide +kernel
theorem dX9_sideRate_5 : decode cX9_sideRate 5 = .ok (.ldc2_w 193, 3) := by decide +kernel
theorem dX9_sideRate_8 : decode cX9_sideRate 8 = .ok (.ladd, 1) := by decide +kernel
theorem dX9_sideRate_9 : decode cX9_sideRate 9 = .ok (.putfield 184, 3) := by decide +kernel
theorem dX9_sideRate_12 : decode cX9_sideRate 12 = .ok (.aload_n 0, 1) := by decide +kernel
theorem dX9_sideRate_13 : decode cX9_sideRate 13 = .ok (.iload_n 1, 1) := by decide +kernel
theorem dX9_sideRate_14 : decode cX9_sideRate 14 = .ok (.invokevirtual 190, 3) := by decide +kernel
theorem dX9_sideRate_17 : decode cX9_sideRate 17 = .ok (.aload_n 0, 1) := by decide +kernel
theorem dX9_sideRate_18 : decode cX9_sideRate 18 = .ok (.iload_n 1, 1) := by decide +kernel
theorem dX9_sideRate_19 : decode cX9_sideRate 19 = .ok (.invokevirtual 155, 3) := by decide +kernel
theorem dX9_sideRate_22 : decode cX9_sideRate 22 = .ok (.isub, 1) := by decide +kernel
theorem dX9_sideRate_23 : decode cX9_sideRate 23 = .ok (.ireturn, 1) := by decide +kernel
set_option maxRecDepth 20000 in
theorem ggX9_rate_X9_in : GoodIn wsX9_rate wsX9_in := goodIn_r _ [10] (by decide +kernel) (by decide +kernel)
set_option maxRecDepth 20000 in
theorem gX9_rate_X9_in : GoodIn wsX9_rate (va_wsS RX9 60 yX9_in wsX9_in) := goodIn_app (goodIn_of _ (by decide +kernel)) ggX9_rate_X9_in
set_option maxRecDepth 20000 in
theorem ggX9_rate_X9_isWay : GoodIn wsX9_rate wsX9_isWay := goodIn_r _ [14, 15, 7, 8, 9, 10, 40, 41, 42, 43, 44, 45, 46, 47, 48, 49, 50, 51, 52, 53, 54, 55, 56, 57, 58, 59, 60, 61, 62, 63, 64, 65, 66, 67, 68, 69] (by decide +kernel) (by decide +kernel)
set_option maxRecDepth 20000 in
theorem gX9_rate_X9_isWay : GoodIn wsX9_rate (wsV RX9 139 RX9 yX9_isWay wsX9_isWay) := goodIn_app (goodIn_of _ (by decide +kernel)) ggX9_rate_X9_isWay
set_option maxRecDepth 20000 in
theorem ggX9_rate_X9_wayRate : GoodIn wsX9_rate wsX9_wayRate := goodIn_r _ [19, 2, 6, 40, 41, 42, 43, 44, 45, 46, 47, 48, 49, 50, 51, 52, 53, 54, 55, 56, 57, 58, 59, 60, 61, 62, 63, 64, 65, 66, 67, 68, 69] (by decide +kernel) (by decide +kernel)
set_option maxRecDepth 20000 in
theorem gX9_rate_X9_wayRate : GoodIn wsX9_rate (wsV RX9 190 RX9 yX9_wayRate wsX9_wayRate) := goodIn_app (goodIn_of _ (by decide +kernel)) ggX9_rate_X9_wayRate
set_option maxRecDepth 20000 in
theorem ggX9_rate_X9_endRate : GoodIn wsX9_rate wsX9_endRate := goodIn_r _ [23, 2, 24, 25, 16, 17, 18, 9, 19, 6, 40, 41, 42, 43, 44, 45, 46, 47, 48, 49, 50, 51, 52, 53, 54, 55, 56, 57, 58, 59, 60, 61, 62, 63, 64, 65, 66, 67, 68, 69] (by decide +kernel) (by decide +kernel)
set_option maxRecDepth 20000 in
theorem gX9_rate_X9_endRate : GoodIn wsX9_rate (wsV RX9 196 RX9 yX9_endRate wsX9_endRate) := goodIn_app (goodIn_of _ (by decide +kernel)) ggX9_rate_X9_endRate
set_option maxRecDepth 20000 in
theorem ggX9_rate_X9_sideRate : GoodIn wsX9_rate wsX9_sideRate := goodIn_r _ [29, 2, 30, 16, 17, 18, 9, 19, 6, 31, 32, 33, 34, 15, 35, 36, 37, 38, 39, 40, 41, 42, 43, 44, 45, 46, 47, 48, 49, 50, 51, 52, 53, 54, 55, 56, 57, 58, 59, 60, 61, 62, 63, 64, 65, 66, 67, 68, 69] (by decide +kernel) (by decide +kernel)
set_option maxRecDepth 20000 in
theorem gX9_rate_X9_sideRate : GoodIn wsX9_rate (wsV RX9 199 RX9 yX9_sideRate wsX9_sideRate) := goodIn_app (goodIn_of _ (by decide +kernel)) ggX9_rate_X9_sideRate
theorem dX9_rate_0 : decode cX9_rate 0 = .ok (.iload_n 1, 1) := by decide +kernel
theorem dX9_rate_1 : decode cX9_rate 1 = .ok (.iconst 0, 1) := by decide +kernel
theorem dX9_rate_2 : decode cX9_rate 2 = .ok (.iconst 5, 1) := by decide +kernel
theorem dX9_rate_3 : decode cX9_rate 3 = .ok (.invokestatic 60, 3) := by decide +kernel
theorem dX9_rate_6 : decode cX9_rate 6 = .ok (.ifCond .eq 11, 3) := by decide +kernel
theorem dX9_rate_9 : decode cX9_rate 9 = .ok (.aload_n 0, 1) := by decide +kernel
theorem dX9_rate_10 : decode cX9_rate 10 = .ok (.iload_n 2, 1) := by decide +kernel
theorem dX9_rate_11 : decode cX9_rate 11 = .ok (.invokevirtual 139, 3) := by decide +kernel
theorem dX9_rate_14 : decode cX9_rate 14 = .ok (.ifCond .ne 6, 3) := by decide +kernel
theorem dX9_rate_17 : decode cX9_rate 17 = .ok (.ldc 195, 2) := by decide +kernel
theorem dX9_rate_19 : decode cX9_rate 19 = .ok (.ireturn, 1) := by decide +kernel
theorem dX9_rate_20 : decode cX9_rate 20 = .ok (.iload_n 1, 1) := by decide +kernel
theorem dX9_rate_21 : decode cX9_rate 21 = .ok (.tableswitch 93 0 4 #[35, 41, 47, 53, 73], 35) := by decide +kernel
theorem dX9_rate_56 : decode cX9_rate 56 = .ok (.aload_n 0, 1) := by decide +kernel
theorem dX9_rate_57 : decode cX9_rate 57 = .ok (.iload_n 2, 1) := by decide +kernel
theorem dX9_rate_58 : decode cX9_rate 58 = .ok (.invokevirtual 190, 3) := by decide +kernel
theorem dX9_rate_61 : decode cX9_rate 61 = .ok (.ireturn, 1) := by decide +kernel
theorem dX9_rate_62 : decode cX9_rate 62 = .ok (.aload_n 0, 1) := by decide +kernel
theorem dX9_rate_63 : decode cX9_rate 63 = .ok (.iload_n 2, 1) := by decide +kernel
theorem dX9_rate_64 : decode cX9_rate 64 = .ok (.invokevirtual 196, 3) := by decide +kernel
theorem dX9_rate_67 : decode cX9_rate 67 = .ok (.ireturn, 1) := by decide +kernel
theorem dX9_rate_68 : decode cX9_rate 68 = .ok (.aload_n 0, 1) := by decide +kernel
theorem dX9_rate_69 : decode cX9_rate 69 = .ok (.iload_n 2, 1) := by decide +kernel
theorem dX9_rate_70 : decode cX9_rate 70 = .ok (.invokevirtual 199, 3) := by decide +kernel
theorem dX9_rate_73 : decode cX9_rate 73 = .ok (.ireturn, 1) := by decide +kernel
theorem dX9_rate_74 : decode cX9_rate 74 = .ok (.aload_n 0, 1) := by decide +kernel
theorem dX9_rate_75 : decode cX9_rate 75 = .ok (.dup, 1) := by decide +kernel
theorem dX9_rate_76 : decode cX9_rate 76 = .ok (.getfield 184, 3) := by decide +kernel
theorem dX9_rate_79 : decode cX9_rate 79 = .ok (.ldc2_w 202, 3) := by decide +kernel
