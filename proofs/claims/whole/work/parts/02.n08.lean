theorem dX9_readItem_138 : decode cX9_readItem 138 = .ok (.aload_n 0, 1) := by decide +kernel
theorem dX9_readItem_139 : decode cX9_readItem 139 = .ok (.iconst 5, 1) := by decide +kernel
theorem dX9_readItem_140 : decode cX9_readItem 140 = .ok (.bipush 99, 2) := by decide +kernel
theorem dX9_readItem_142 : decode cX9_readItem 142 = .ok (.invokevirtual 100, 3) := by decide +kernel
theorem dX9_readItem_145 : decode cX9_readItem 145 = .ok (.putfield 107, 3) := by decide +kernel
theorem dX9_readItem_148 : decode cX9_readItem 148 = .ok (.goto 23, 3) := by decide +kernel
theorem dX9_readItem_151 : decode cX9_readItem 151 = .ok (.aload_n 0, 1) := by decide +kernel
theorem dX9_readItem_152 : decode cX9_readItem 152 = .ok (.aload_n 0, 1) := by decide +kernel
theorem dX9_readItem_153 : decode cX9_readItem 153 = .ok (.iconst 0, 1) := by decide +kernel
theorem dX9_readItem_154 : decode cX9_readItem 154 = .ok (.aload_n 0, 1) := by decide +kernel
theorem dX9_readItem_155 : decode cX9_readItem 155 = .ok (.getfield 94, 3) := by decide +kernel
theorem dX9_readItem_158 : decode cX9_readItem 158 = .ok (.aload_n 0, 1) := by decide +kernel
theorem dX9_readItem_159 : decode cX9_readItem 159 = .ok (.getfield 97, 3) := by decide +kernel
theorem dX9_readItem_162 : decode cX9_readItem 162 = .ok (.imul, 1) := by decide +kernel
theorem dX9_readItem_163 : decode cX9_readItem 163 = .ok (.iconst 1, 1) := by decide +kernel
theorem dX9_readItem_164 : decode cX9_readItem 164 = .ok (.isub, 1) := by decide +kernel
theorem dX9_readItem_165 : decode cX9_readItem 165 = .ok (.invokevirtual 100, 3) := by decide +kernel
theorem dX9_readItem_168 : decode cX9_readItem 168 = .ok (.putfield 110, 3) := by decide +kernel
theorem dX9_readItem_171 : decode cX9_readItem 171 = .ok (.aload_n 0, 1) := by decide +kernel
theorem dX9_readItem_172 : decode cX9_readItem 172 = .ok (.aload_n 0, 1) := by decide +kernel
theorem dX9_readItem_173 : decode cX9_readItem 173 = .ok (.getfield 87, 3) := by decide +kernel
theorem dX9_readItem_176 : decode cX9_readItem 176 = .ok (.ifCond .ne 11, 3) := by decide +kernel
theorem dX9_readItem_179 : decode cX9_readItem 179 = .ok (.aload_n 0, 1) := by decide +kernel
theorem dX9_readItem_180 : decode cX9_readItem 180 = .ok (.getfield 80, 3) := by decide +kernel
theorem dX9_readItem_183 : decode cX9_readItem 183 = .ok (.iconst 3, 1) := by decide +kernel
theorem dX9_readItem_184 : decode cX9_readItem 184 = .ok (.if_icmp .eq 7, 3) := by decide +kernel
theorem dX9_readItem_187 : decode cX9_readItem 187 = .ok (.iconst 1, 1) := by decide +kernel
theorem dX9_readItem_188 : decode cX9_readItem 188 = .ok (.goto 4, 3) := by decide +kernel
theorem dX9_readItem_191 : decode cX9_readItem 191 = .ok (.iconst 0, 1) := by decide +kernel
theorem dX9_readItem_192 : decode cX9_readItem 192 = .ok (.putfield 87, 3) := by decide +kernel
theorem dX9_readItem_195 : decode cX9_readItem 195 = .ok (.aload_n 0, 1) := by decide +kernel
theorem dX9_readItem_196 : decode cX9_readItem 196 = .ok (.getfield 87, 3) := by decide +kernel
theorem dX9_readItem_199 : decode cX9_readItem 199 = .ok (.ifCond .ne 7, 3) := by decide +kernel
theorem dX9_readItem_202 : decode cX9_readItem 202 = .ok (.aload_n 0, 1) := by decide +kernel
theorem dX9_readItem_203 : decode cX9_readItem 203 = .ok (.invokevirtual 91, 3) := by decide +kernel
theorem dX9_readItem_206 : decode cX9_readItem 206 = .ok (.return_, 1) := by decide +kernel
set_option maxRecDepth 20000 in
theorem ggX9_bed_X9_next : GoodIn wsX9_bed wsX9_next := goodIn_r _ [15, 1, 10, 16, 9, 17, 18, 19, 14, 20, 21, 22, 23, 24, 25, 26, 27, 28, 54, 55, 56, 57, 58, 59, 60, 61, 62, 63, 64, 65, 66, 67, 68, 69, 70, 71, 72, 73, 74, 75, 76, 77, 78, 79, 80, 81, 82, 83] (by decide +kernel) (by decide +kernel)
set_option maxRecDepth 20000 in
theorem gX9_bed_X9_next : GoodIn wsX9_bed (wsV RX9 91 RX9 yX9_next wsX9_next) := goodIn_app (goodIn_of _ (by decide +kernel)) ggX9_bed_X9_next
set_option maxRecDepth 20000 in
theorem ggX9_bed_X9_readItem : GoodIn wsX9_bed wsX9_readItem := goodIn_r _ [32, 16, 3, 6, 7, 9, 2, 4, 5, 11, 12, 13, 14, 15, 1, 10, 17, 18, 19, 20, 21, 22, 23, 24, 25, 26, 27, 28, 33, 34, 35, 36, 37, 38, 39, 40, 8, 54, 55, 56, 57, 58, 59, 60, 61, 62, 63, 64, 65, 66, 67, 68, 69, 70, 71, 72, 73, 74, 75, 76, 77, 78, 79, 80, 81, 82, 83] (by decide +kernel) (by decide +kernel)
set_option maxRecDepth 20000 in
theorem gX9_bed_X9_readItem : GoodIn wsX9_bed (wsV RX9 116 RX9 yX9_readItem wsX9_readItem) := goodIn_app (goodIn_of _ (by decide +kernel)) ggX9_bed_X9_readItem
set_option maxRecDepth 20000 in
theorem ggX9_bed_X9_settles : GoodIn wsX9_bed wsX9_settles := goodIn_r _ [44, 4, 45, 5, 46, 47, 6, 48, 49, 7, 50, 8, 51, 52, 53, 21, 54, 55, 56, 57, 58, 59, 60, 61, 62, 63, 64, 65, 66, 67, 68, 69, 70, 71, 72, 73, 74, 75, 76, 77, 78, 79, 80, 81, 82, 83] (by decide +kernel) (by decide +kernel)
set_option maxRecDepth 20000 in
theorem gX9_bed_X9_settles : GoodIn wsX9_bed (wsV RX9 119 RX9 yX9_settles wsX9_settles) := goodIn_app (goodIn_of _ (by decide +kernel)) ggX9_bed_X9_settles
theorem dX9_bed_0 : decode cX9_bed 0 = .ok (.aload_n 0, 1) := by decide +kernel
theorem dX9_bed_1 : decode cX9_bed 1 = .ok (.iconst 0, 1) := by decide +kernel
theorem dX9_bed_2 : decode cX9_bed 2 = .ok (.putfield 67, 3) := by decide +kernel
theorem dX9_bed_5 : decode cX9_bed 5 = .ok (.aload_n 0, 1) := by decide +kernel
theorem dX9_bed_6 : decode cX9_bed 6 = .ok (.iconst 0, 1) := by decide +kernel
theorem dX9_bed_7 : decode cX9_bed 7 = .ok (.putfield 87, 3) := by decide +kernel
theorem dX9_bed_10 : decode cX9_bed 10 = .ok (.aload_n 0, 1) := by decide +kernel
theorem dX9_bed_11 : decode cX9_bed 11 = .ok (.iconst 0, 1) := by decide +kernel
theorem dX9_bed_12 : decode cX9_bed 12 = .ok (.putfield 104, 3) := by decide +kernel
theorem dX9_bed_15 : decode cX9_bed 15 = .ok (.aload_n 0, 1) := by decide +kernel
theorem dX9_bed_16 : decode cX9_bed 16 = .ok (.iconst 2, 1) := by decide +kernel
theorem dX9_bed_17 : decode cX9_bed 17 = .ok (.putfield 94, 3) := by decide +kernel
theorem dX9_bed_20 : decode cX9_bed 20 = .ok (.aload_n 0, 1) := by decide +kernel
theorem dX9_bed_21 : decode cX9_bed 21 = .ok (.iconst 2, 1) := by decide +kernel
theorem dX9_bed_22 : decode cX9_bed 22 = .ok (.putfield 97, 3) := by decide +kernel
theorem dX9_bed_25 : decode cX9_bed 25 = .ok (.aload_n 0, 1) := by decide +kernel
theorem dX9_bed_26 : decode cX9_bed 26 = .ok (.iconst 0, 1) := by decide +kernel
theorem dX9_bed_27 : decode cX9_bed 27 = .ok (.putfield 107, 3) := by decide +kernel
theorem dX9_bed_30 : decode cX9_bed 30 = .ok (.aload_n 0, 1) := by decide +kernel
theorem dX9_bed_31 : decode cX9_bed 31 = .ok (.iconst (-1), 1) := by decide +kernel
theorem dX9_bed_32 : decode cX9_bed 32 = .ok (.putfield 110, 3) := by decide +kernel
theorem dX9_bed_35 : decode cX9_bed 35 = .ok (.iconst 0, 1) := by decide +kernel
theorem dX9_bed_36 : decode cX9_bed 36 = .ok (.istore_n 1, 1) := by decide +kernel
theorem dX9_bed_37 : decode cX9_bed 37 = .ok (.iload_n 1, 1) := by decide +kernel
theorem dX9_bed_38 : decode cX9_bed 38 = .ok (.bipush 12, 2) := by decide +kernel
theorem dX9_bed_40 : decode cX9_bed 40 = .ok (.if_icmp .ge 16, 3) := by decide +kernel
theorem dX9_bed_43 : decode cX9_bed 43 = .ok (.aload_n 0, 1) := by decide +kernel
theorem dX9_bed_44 : decode cX9_bed 44 = .ok (.getfield 45, 3) := by decide +kernel
theorem dX9_bed_47 : decode cX9_bed 47 = .ok (.iload_n 1, 1) := by decide +kernel
theorem dX9_bed_48 : decode cX9_bed 48 = .ok (.iconst 1, 1) := by decide +kernel
theorem dX9_bed_49 : decode cX9_bed 49 = .ok (.iastore, 1) := by decide +kernel
theorem dX9_bed_50 : decode cX9_bed 50 = .ok (.iinc 1 1, 3) := by decide +kernel
theorem dX9_bed_53 : decode cX9_bed 53 = .ok (.goto (-16), 3) := by decide +kernel
theorem dX9_bed_56 : decode cX9_bed 56 = .ok (.aload_n 0, 1) := by decide +kernel
theorem dX9_bed_57 : decode cX9_bed 57 = .ok (.invokevirtual 91, 3) := by decide +kernel
theorem dX9_bed_60 : decode cX9_bed 60 = .ok (.aload_n 0, 1) := by decide +kernel
theorem dX9_bed_61 : decode cX9_bed 61 = .ok (.getfield 80, 3) := by decide +kernel
theorem dX9_bed_64 : decode cX9_bed 64 = .ok (.ifCond .eq 27, 3) := by decide +kernel
theorem dX9_bed_67 : decode cX9_bed 67 = .ok (.aload_n 0, 1) := by decide +kernel
theorem dX9_bed_68 : decode cX9_bed 68 = .ok (.getfield 87, 3) := by decide +kernel
theorem dX9_bed_71 : decode cX9_bed 71 = .ok (.ifCond .ne 20, 3) := by decide +kernel
theorem dX9_bed_74 : decode cX9_bed 74 = .ok (.aload_n 0, 1) := by decide +kernel
theorem dX9_bed_75 : decode cX9_bed 75 = .ok (.invokevirtual 116, 3) := by decide +kernel
theorem dX9_bed_78 : decode cX9_bed 78 = .ok (.aload_n 0, 1) := by decide +kernel
theorem dX9_bed_79 : decode cX9_bed 79 = .ok (.dup, 1) := by decide +kernel
theorem dX9_bed_80 : decode cX9_bed 80 = .ok (.getfield 104, 3) := by decide +kernel
theorem dX9_bed_83 : decode cX9_bed 83 = .ok (.iconst 1, 1) := by decide +kernel
theorem dX9_bed_84 : decode cX9_bed 84 = .ok (.iadd, 1) := by decide +kernel
theorem dX9_bed_85 : decode cX9_bed 85 = .ok (.putfield 104, 3) := by decide +kernel
theorem dX9_bed_88 : decode cX9_bed 88 = .ok (.goto (-28), 3) := by decide +kernel
theorem dX9_bed_91 : decode cX9_bed 91 = .ok (.aload_n 0, 1) := by decide +kernel
theorem dX9_bed_92 : decode cX9_bed 92 = .ok (.getfield 87, 3) := by decide +kernel
theorem dX9_bed_95 : decode cX9_bed 95 = .ok (.ifCond .eq 11, 3) := by decide +kernel
theorem dX9_bed_98 : decode cX9_bed 98 = .ok (.bipush (-10), 2) := by decide +kernel
theorem dX9_bed_100 : decode cX9_bed 100 = .ok (.aload_n 0, 1) := by decide +kernel
theorem dX9_bed_101 : decode cX9_bed 101 = .ok (.getfield 74, 3) := by decide +kernel
theorem dX9_bed_104 : decode cX9_bed 104 = .ok (.isub, 1) := by decide +kernel
theorem dX9_bed_105 : decode cX9_bed 105 = .ok (.ireturn, 1) := by decide +kernel
theorem dX9_bed_106 : decode cX9_bed 106 = .ok (.aload_n 0, 1) := by decide +kernel
theorem dX9_bed_107 : decode cX9_bed 107 = .ok (.invokevirtual 119, 3) := by decide +kernel
theorem dX9_bed_110 : decode cX9_bed 110 = .ok (.aload_n 0, 1) := by decide +kernel
theorem dX9_bed_111 : decode cX9_bed 111 = .ok (.getfield 104, 3) := by decide +kernel
theorem dX9_bed_114 : decode cX9_bed 114 = .ok (.ireturn, 1) := by decide +kernel
theorem dX9_settles_0 : decode cX9_settles 0 = .ok (.aload_n 0, 1) := by decide +kernel
theorem dX9_settles_1 : decode cX9_settles 1 = .ok (.aload_n 0, 1) := by decide +kernel
theorem dX9_settles_2 : decode cX9_settles 2 = .ok (.getfield 94, 3) := by decide +kernel
theorem dX9_settles_5 : decode cX9_settles 5 = .ok (.putfield 7, 3) := by decide +kernel
theorem dX9_settles_8 : decode cX9_settles 8 = .ok (.aload_n 0, 1) := by decide +kernel
theorem dX9_settles_9 : decode cX9_settles 9 = .ok (.aload_n 0, 1) := by decide +kernel
theorem dX9_settles_10 : decode cX9_settles 10 = .ok (.getfield 97, 3) := by decide +kernel
theorem dX9_settles_13 : decode cX9_settles 13 = .ok (.putfield 13, 3) := by decide +kernel
theorem dX9_settles_16 : decode cX9_settles 16 = .ok (.aload_n 0, 1) := by decide +kernel
theorem dX9_settles_17 : decode cX9_settles 17 = .ok (.aload_n 0, 1) := by decide +kernel
theorem dX9_settles_18 : decode cX9_settles 18 = .ok (.getfield 7, 3) := by decide +kernel
theorem dX9_settles_21 : decode cX9_settles 21 = .ok (.aload_n 0, 1) := by decide +kernel
theorem dX9_settles_22 : decode cX9_settles 22 = .ok (.getfield 13, 3) := by decide +kernel
theorem dX9_settles_25 : decode cX9_settles 25 = .ok (.imul, 1) := by decide +kernel
theorem dX9_settles_26 : decode cX9_settles 26 = .ok (.putfield 16, 3) := by decide +kernel
theorem dX9_settles_29 : decode cX9_settles 29 = .ok (.aload_n 0, 1) := by decide +kernel
theorem dX9_settles_30 : decode cX9_settles 30 = .ok (.aload_n 0, 1) := by decide +kernel
theorem dX9_settles_31 : decode cX9_settles 31 = .ok (.getfield 107, 3) := by decide +kernel
theorem dX9_settles_34 : decode cX9_settles 34 = .ok (.ifCond .ne 8, 3) := by decide +kernel
theorem dX9_settles_37 : decode cX9_settles 37 = .ok (.bipush 20, 2) := by decide +kernel
theorem dX9_settles_39 : decode cX9_settles 39 = .ok (.goto 7, 3) := by decide +kernel
theorem dX9_settles_42 : decode cX9_settles 42 = .ok (.aload_n 0, 1) := by decide +kernel
theorem dX9_settles_43 : decode cX9_settles 43 = .ok (.getfield 107, 3) := by decide +kernel
theorem dX9_settles_46 : decode cX9_settles 46 = .ok (.putfield 19, 3) := by decide +kernel
theorem dX9_settles_49 : decode cX9_settles 49 = .ok (.iconst 0, 1) := by decide +kernel
theorem dX9_settles_50 : decode cX9_settles 50 = .ok (.istore_n 1, 1) := by decide +kernel
theorem dX9_settles_51 : decode cX9_settles 51 = .ok (.iload_n 1, 1) := by decide +kernel
theorem dX9_settles_52 : decode cX9_settles 52 = .ok (.bipush 15, 2) := by decide +kernel
theorem dX9_settles_54 : decode cX9_settles 54 = .ok (.if_icmp .ge 16, 3) := by decide +kernel
theorem dX9_settles_57 : decode cX9_settles 57 = .ok (.aload_n 0, 1) := by decide +kernel
theorem dX9_settles_58 : decode cX9_settles 58 = .ok (.getfield 26, 3) := by decide +kernel
theorem dX9_settles_61 : decode cX9_settles 61 = .ok (.iload_n 1, 1) := by decide +kernel
theorem dX9_settles_62 : decode cX9_settles 62 = .ok (.iconst 0, 1) := by decide +kernel
theorem dX9_settles_63 : decode cX9_settles 63 = .ok (.iastore, 1) := by decide +kernel
theorem dX9_settles_64 : decode cX9_settles 64 = .ok (.iinc 1 1, 3) := by decide +kernel
theorem dX9_settles_67 : decode cX9_settles 67 = .ok (.goto (-16), 3) := by decide +kernel
theorem dX9_settles_70 : decode cX9_settles 70 = .ok (.aload_n 0, 1) := by decide +kernel
theorem dX9_settles_71 : decode cX9_settles 71 = .ok (.getfield 26, 3) := by decide +kernel
theorem dX9_settles_74 : decode cX9_settles 74 = .ok (.iconst 1, 1) := by decide +kernel
theorem dX9_settles_75 : decode cX9_settles 75 = .ok (.aload_n 0, 1) := by decide +kernel
theorem dX9_settles_76 : decode cX9_settles 76 = .ok (.getfield 110, 3) := by decide +kernel
theorem dX9_settles_79 : decode cX9_settles 79 = .ok (.ifCond .ge 7, 3) := by decide +kernel
theorem dX9_settles_82 : decode cX9_settles 82 = .ok (.iconst 0, 1) := by decide +kernel
theorem dX9_settles_83 : decode cX9_settles 83 = .ok (.goto 7, 3) := by decide +kernel
theorem dX9_settles_86 : decode cX9_settles 86 = .ok (.aload_n 0, 1) := by decide +kernel
theorem dX9_settles_87 : decode cX9_settles 87 = .ok (.getfield 110, 3) := by decide +kernel
theorem dX9_settles_90 : decode cX9_settles 90 = .ok (.iastore, 1) := by decide +kernel
theorem dX9_settles_91 : decode cX9_settles 91 = .ok (.iconst 0, 1) := by decide +kernel
theorem dX9_settles_92 : decode cX9_settles 92 = .ok (.istore_n 1, 1) := by decide +kernel
theorem dX9_settles_93 : decode cX9_settles 93 = .ok (.iload_n 1, 1) := by decide +kernel
theorem dX9_settles_94 : decode cX9_settles 94 = .ok (.bipush 12, 2) := by decide +kernel
theorem dX9_settles_96 : decode cX9_settles 96 = .ok (.if_icmp .ge 21, 3) := by decide +kernel
theorem dX9_settles_99 : decode cX9_settles 99 = .ok (.aload_n 0, 1) := by decide +kernel
theorem dX9_settles_100 : decode cX9_settles 100 = .ok (.getfield 22, 3) := by decide +kernel
theorem dX9_settles_103 : decode cX9_settles 103 = .ok (.iload_n 1, 1) := by decide +kernel
theorem dX9_settles_104 : decode cX9_settles 104 = .ok (.aload_n 0, 1) := by decide +kernel
theorem dX9_settles_105 : decode cX9_settles 105 = .ok (.getfield 45, 3) := by decide +kernel
theorem dX9_settles_108 : decode cX9_settles 108 = .ok (.iload_n 1, 1) := by decide +kernel
theorem dX9_settles_109 : decode cX9_settles 109 = .ok (.iaload, 1) := by decide +kernel
theorem dX9_settles_110 : decode cX9_settles 110 = .ok (.iastore, 1) := by decide +kernel
theorem dX9_settles_111 : decode cX9_settles 111 = .ok (.iinc 1 1, 3) := by decide +kernel
theorem dX9_settles_114 : decode cX9_settles 114 = .ok (.goto (-21), 3) := by decide +kernel
theorem dX9_settles_117 : decode cX9_settles 117 = .ok (.aload_n 0, 1) := by decide +kernel
theorem dX9_settles_118 : decode cX9_settles 118 = .ok (.iconst 0, 1) := by decide +kernel
theorem dX9_settles_119 : decode cX9_settles 119 = .ok (.putfield 122, 3) := by decide +kernel
theorem dX9_settles_122 : decode cX9_settles 122 = .ok (.aload_n 0, 1) := by decide +kernel
theorem dX9_settles_123 : decode cX9_settles 123 = .ok (.iconst 0, 1) := by decide +kernel
theorem dX9_settles_124 : decode cX9_settles 124 = .ok (.putfield 125, 3) := by decide +kernel
theorem dX9_settles_127 : decode cX9_settles 127 = .ok (.aload_n 0, 1) := by decide +kernel
theorem dX9_settles_128 : decode cX9_settles 128 = .ok (.getfield 35, 3) := by decide +kernel
theorem dX9_settles_131 : decode cX9_settles 131 = .ok (.iconst 0, 1) := by decide +kernel
theorem dX9_settles_132 : decode cX9_settles 132 = .ok (.iconst 0, 1) := by decide +kernel
theorem dX9_settles_133 : decode cX9_settles 133 = .ok (.bastore, 1) := by decide +kernel
theorem dX9_settles_134 : decode cX9_settles 134 = .ok (.aload_n 0, 1) := by decide +kernel
theorem dX9_settles_135 : decode cX9_settles 135 = .ok (.getfield 35, 3) := by decide +kernel
theorem dX9_settles_138 : decode cX9_settles 138 = .ok (.iconst 1, 1) := by decide +kernel
theorem dX9_settles_139 : decode cX9_settles 139 = .ok (.iconst 0, 1) := by decide +kernel
theorem dX9_settles_140 : decode cX9_settles 140 = .ok (.bastore, 1) := by decide +kernel
theorem dX9_settles_141 : decode cX9_settles 141 = .ok (.aload_n 0, 1) := by decide +kernel
theorem dX9_settles_142 : decode cX9_settles 142 = .ok (.iconst 0, 1) := by decide +kernel
theorem dX9_settles_143 : decode cX9_settles 143 = .ok (.putfield 64, 3) := by decide +kernel
theorem dX9_settles_146 : decode cX9_settles 146 = .ok (.return_, 1) := by decide +kernel
set_option maxRecDepth 20000 in
theorem ggX9_asItIs_X9_copy : GoodIn wsX9_asItIs wsX9_copy := goodIn_r _ [6] (by decide +kernel) (by decide +kernel)
set_option maxRecDepth 20000 in
theorem gX9_asItIs_X9_copy : GoodIn wsX9_asItIs (va_wsS RX9 128 yX9_copy wsX9_copy) := goodIn_app (goodIn_of _ (by decide +kernel)) ggX9_asItIs_X9_copy
theorem dX9_asItIs_0 : decode cX9_asItIs 0 = .ok (.aload_n 0, 1) := by decide +kernel
theorem dX9_asItIs_1 : decode cX9_asItIs 1 = .ok (.getfield 48, 3) := by decide +kernel
theorem dX9_asItIs_4 : decode cX9_asItIs 4 = .ok (.iconst 0, 1) := by decide +kernel
theorem dX9_asItIs_5 : decode cX9_asItIs 5 = .ok (.aload_n 0, 1) := by decide +kernel
theorem dX9_asItIs_6 : decode cX9_asItIs 6 = .ok (.getfield 26, 3) := by decide +kernel
theorem dX9_asItIs_9 : decode cX9_asItIs 9 = .ok (.iconst 0, 1) := by decide +kernel
theorem dX9_asItIs_10 : decode cX9_asItIs 10 = .ok (.invokestatic 128, 3) := by decide +kernel
theorem dX9_asItIs_13 : decode cX9_asItIs 13 = .ok (.return_, 1) := by decide +kernel
theorem dX9_from_0 : decode cX9_from 0 = .ok (.iload_n 1, 1) := by decide +kernel
theorem dX9_from_1 : decode cX9_from 1 = .ok (.aload_n 0, 1) := by decide +kernel
theorem dX9_from_2 : decode cX9_from 2 = .ok (.getfield 7, 3) := by decide +kernel
theorem dX9_from_5 : decode cX9_from 5 = .ok (.idiv, 1) := by decide +kernel
theorem dX9_from_6 : decode cX9_from 6 = .ok (.istore_n 3, 1) := by decide +kernel
theorem dX9_from_7 : decode cX9_from 7 = .ok (.iload_n 3, 1) := by decide +kernel
theorem dX9_from_8 : decode cX9_from 8 = .ok (.ifCond .ne 12, 3) := by decide +kernel
theorem dX9_from_11 : decode cX9_from 11 = .ok (.iload_n 2, 1) := by decide +kernel
theorem dX9_from_12 : decode cX9_from 12 = .ok (.aload_n 0, 1) := by decide +kernel
theorem dX9_from_13 : decode cX9_from 13 = .ok (.getfield 7, 3) := by decide +kernel
theorem dX9_from_16 : decode cX9_from 16 = .ok (.irem, 1) := by decide +kernel
theorem dX9_from_17 : decode cX9_from 17 = .ok (.goto 14, 3) := by decide +kernel
theorem dX9_from_20 : decode cX9_from 20 = .ok (.aload_n 0, 1) := by decide +kernel
theorem dX9_from_21 : decode cX9_from 21 = .ok (.getfield 7, 3) := by decide +kernel
theorem dX9_from_24 : decode cX9_from 24 = .ok (.iload_n 2, 1) := by decide +kernel
theorem dX9_from_25 : decode cX9_from 25 = .ok (.aload_n 0, 1) := by decide +kernel
theorem dX9_from_26 : decode cX9_from 26 = .ok (.getfield 7, 3) := by decide +kernel
theorem dX9_from_29 : decode cX9_from 29 = .ok (.irem, 1) := by decide +kernel
theorem dX9_from_30 : decode cX9_from 30 = .ok (.isub, 1) := by decide +kernel
theorem dX9_from_31 : decode cX9_from 31 = .ok (.istore 4, 2) := by decide +kernel
theorem dX9_from_33 : decode cX9_from 33 = .ok (.aload_n 0, 1) := by decide +kernel
theorem dX9_from_34 : decode cX9_from 34 = .ok (.getfield 7, 3) := by decide +kernel
theorem dX9_from_37 : decode cX9_from 37 = .ok (.iload_n 3, 1) := by decide +kernel
theorem dX9_from_38 : decode cX9_from 38 = .ok (.iload_n 2, 1) := by decide +kernel
theorem dX9_from_39 : decode cX9_from 39 = .ok (.aload_n 0, 1) := by decide +kernel
theorem dX9_from_40 : decode cX9_from 40 = .ok (.getfield 7, 3) := by decide +kernel
theorem dX9_from_43 : decode cX9_from 43 = .ok (.idiv, 1) := by decide +kernel
theorem dX9_from_44 : decode cX9_from 44 = .ok (.iadd, 1) := by decide +kernel
theorem dX9_from_45 : decode cX9_from 45 = .ok (.iconst 2, 1) := by decide +kernel
theorem dX9_from_46 : decode cX9_from 46 = .ok (.irem, 1) := by decide +kernel
theorem dX9_from_47 : decode cX9_from 47 = .ok (.imul, 1) := by decide +kernel
theorem dX9_from_48 : decode cX9_from 48 = .ok (.iload_n 1, 1) := by decide +kernel
theorem dX9_from_49 : decode cX9_from 49 = .ok (.aload_n 0, 1) := by decide +kernel
theorem dX9_from_50 : decode cX9_from 50 = .ok (.getfield 7, 3) := by decide +kernel
theorem dX9_from_53 : decode cX9_from 53 = .ok (.irem, 1) := by decide +kernel
theorem dX9_from_54 : decode cX9_from 54 = .ok (.iload 4, 2) := by decide +kernel
theorem dX9_from_56 : decode cX9_from 56 = .ok (.iadd, 1) := by decide +kernel
theorem dX9_from_57 : decode cX9_from 57 = .ok (.aload_n 0, 1) := by decide +kernel
theorem dX9_from_58 : decode cX9_from 58 = .ok (.getfield 7, 3) := by decide +kernel
theorem dX9_from_61 : decode cX9_from 61 = .ok (.irem, 1) := by decide +kernel
theorem dX9_from_62 : decode cX9_from 62 = .ok (.iadd, 1) := by decide +kernel
theorem dX9_from_63 : decode cX9_from 63 = .ok (.ireturn, 1) := by decide +kernel
theorem dX9_greatest_0 : decode cX9_greatest 0 = .ok (.iconst 0, 1) := by decide +kernel
theorem dX9_greatest_1 : decode cX9_greatest 1 = .ok (.istore_n 1, 1) := by decide +kernel
theorem dX9_greatest_2 : decode cX9_greatest 2 = .ok (.iconst 0, 1) := by decide +kernel
theorem dX9_greatest_3 : decode cX9_greatest 3 = .ok (.istore_n 2, 1) := by decide +kernel
theorem dX9_greatest_4 : decode cX9_greatest 4 = .ok (.iload_n 2, 1) := by decide +kernel
theorem dX9_greatest_5 : decode cX9_greatest 5 = .ok (.aload_n 0, 1) := by decide +kernel
theorem dX9_greatest_6 : decode cX9_greatest 6 = .ok (.getfield 16, 3) := by decide +kernel
theorem dX9_greatest_9 : decode cX9_greatest 9 = .ok (.if_icmp .ge 34, 3) := by decide +kernel
theorem dX9_greatest_12 : decode cX9_greatest 12 = .ok (.aload_n 0, 1) := by decide +kernel
theorem dX9_greatest_13 : decode cX9_greatest 13 = .ok (.getfield 48, 3) := by decide +kernel
theorem dX9_greatest_16 : decode cX9_greatest 16 = .ok (.iconst 3, 1) := by decide +kernel
theorem dX9_greatest_17 : decode cX9_greatest 17 = .ok (.iload_n 2, 1) := by decide +kernel
theorem dX9_greatest_18 : decode cX9_greatest 18 = .ok (.iadd, 1) := by decide +kernel
theorem dX9_greatest_19 : decode cX9_greatest 19 = .ok (.iaload, 1) := by decide +kernel
theorem dX9_greatest_20 : decode cX9_greatest 20 = .ok (.iload_n 1, 1) := by decide +kernel
theorem dX9_greatest_21 : decode cX9_greatest 21 = .ok (.if_icmp .le 14, 3) := by decide +kernel
theorem dX9_greatest_24 : decode cX9_greatest 24 = .ok (.aload_n 0, 1) := by decide +kernel
theorem dX9_greatest_25 : decode cX9_greatest 25 = .ok (.getfield 48, 3) := by decide +kernel
theorem dX9_greatest_28 : decode cX9_greatest 28 = .ok (.iconst 3, 1) := by decide +kernel
theorem dX9_greatest_29 : decode cX9_greatest 29 = .ok (.iload_n 2, 1) := by decide +kernel
theorem dX9_greatest_30 : decode cX9_greatest 30 = .ok (.iadd, 1) := by decide +kernel
theorem dX9_greatest_31 : decode cX9_greatest 31 = .ok (.iaload, 1) := by decide +kernel
theorem dX9_greatest_32 : decode cX9_greatest 32 = .ok (.goto 4, 3) := by decide +kernel
theorem dX9_greatest_35 : decode cX9_greatest 35 = .ok (.iload_n 1, 1) := by decide +kernel
theorem dX9_greatest_36 : decode cX9_greatest 36 = .ok (.istore_n 1, 1) := by decide +kernel
theorem dX9_greatest_37 : decode cX9_greatest 37 = .ok (.iinc 2 1, 3) := by decide +kernel
theorem dX9_greatest_40 : decode cX9_greatest 40 = .ok (.goto (-36), 3) := by decide +kernel
theorem dX9_greatest_43 : decode cX9_greatest 43 = .ok (.iload_n 1, 1) := by decide +kernel
theorem dX9_greatest_44 : decode cX9_greatest 44 = .ok (.ireturn, 1) := by decide +kernel
set_option maxRecDepth 20000 in
theorem ggX9_isOut_X9_greatest : GoodIn wsX9_isOut wsX9_greatest := goodIn_r _ [6, 7, 8, 9, 10, 11, 12, 13, 14, 15, 16, 17, 18, 19, 20, 21, 22, 23, 24, 25, 26, 27, 28, 29, 30, 31, 32, 33, 34, 35, 36, 37, 38] (by decide +kernel) (by decide +kernel)
set_option maxRecDepth 20000 in
theorem gX9_isOut_X9_greatest : GoodIn wsX9_isOut (wsV RX9 132 RX9 yX9_greatest wsX9_greatest) := goodIn_app (goodIn_of _ (by decide +kernel)) ggX9_isOut_X9_greatest
theorem dX9_isOut_0 : decode cX9_isOut 0 = .ok (.aload_n 0, 1) := by decide +kernel
theorem dX9_isOut_1 : decode cX9_isOut 1 = .ok (.invokevirtual 132, 3) := by decide +kernel
theorem dX9_isOut_4 : decode cX9_isOut 4 = .ok (.aload_n 0, 1) := by decide +kernel
theorem dX9_isOut_5 : decode cX9_isOut 5 = .ok (.getfield 19, 3) := by decide +kernel
theorem dX9_isOut_8 : decode cX9_isOut 8 = .ok (.if_icmp .lt 7, 3) := by decide +kernel
theorem dX9_isOut_11 : decode cX9_isOut 11 = .ok (.iconst 1, 1) := by decide +kernel
theorem dX9_isOut_12 : decode cX9_isOut 12 = .ok (.goto 4, 3) := by decide +kernel
theorem dX9_isOut_15 : decode cX9_isOut 15 = .ok (.iconst 0, 1) := by decide +kernel
theorem dX9_isOut_16 : decode cX9_isOut 16 = .ok (.ireturn, 1) := by decide +kernel
theorem dX9_goes_0 : decode cX9_goes 0 = .ok (.iconst 3, 1) := by decide +kernel
theorem dX9_goes_1 : decode cX9_goes 1 = .ok (.aload_n 0, 1) := by decide +kernel
theorem dX9_goes_2 : decode cX9_goes 2 = .ok (.getfield 48, 3) := by decide +kernel
theorem dX9_goes_5 : decode cX9_goes 5 = .ok (.iconst 1, 1) := by decide +kernel
theorem dX9_goes_6 : decode cX9_goes 6 = .ok (.iaload, 1) := by decide +kernel
theorem dX9_goes_7 : decode cX9_goes 7 = .ok (.iadd, 1) := by decide +kernel
theorem dX9_goes_8 : decode cX9_goes 8 = .ok (.istore_n 1, 1) := by decide +kernel
theorem dX9_goes_9 : decode cX9_goes 9 = .ok (.aload_n 0, 1) := by decide +kernel
theorem dX9_goes_10 : decode cX9_goes 10 = .ok (.getfield 48, 3) := by decide +kernel
theorem dX9_goes_13 : decode cX9_goes 13 = .ok (.iload_n 1, 1) := by decide +kernel
theorem dX9_goes_14 : decode cX9_goes 14 = .ok (.iaload, 1) := by decide +kernel
theorem dX9_goes_15 : decode cX9_goes 15 = .ok (.aload_n 0, 1) := by decide +kernel
theorem dX9_goes_16 : decode cX9_goes 16 = .ok (.getfield 22, 3) := by decide +kernel
theorem dX9_goes_19 : decode cX9_goes 19 = .ok (.aload_n 0, 1) := by decide +kernel
theorem dX9_goes_20 : decode cX9_goes 20 = .ok (.getfield 48, 3) := by decide +kernel
theorem dX9_goes_23 : decode cX9_goes 23 = .ok (.iconst 1, 1) := by decide +kernel
theorem dX9_goes_24 : decode cX9_goes 24 = .ok (.iaload, 1) := by decide +kernel
theorem dX9_goes_25 : decode cX9_goes 25 = .ok (.iaload, 1) := by decide +kernel
theorem dX9_goes_26 : decode cX9_goes 26 = .ok (.iadd, 1) := by decide +kernel
theorem dX9_goes_27 : decode cX9_goes 27 = .ok (.istore_n 2, 1) := by decide +kernel
theorem dX9_goes_28 : decode cX9_goes 28 = .ok (.aload_n 0, 1) := by decide +kernel
theorem dX9_goes_29 : decode cX9_goes 29 = .ok (.getfield 48, 3) := by decide +kernel
theorem dX9_goes_32 : decode cX9_goes 32 = .ok (.iload_n 1, 1) := by decide +kernel
theorem dX9_goes_33 : decode cX9_goes 33 = .ok (.iload_n 2, 1) := by decide +kernel
theorem dX9_goes_34 : decode cX9_goes 34 = .ok (.sipush 999, 3) := by decide +kernel
theorem dX9_goes_37 : decode cX9_goes 37 = .ok (.if_icmp .le 9, 3) := by decide +kernel
theorem dX9_goes_40 : decode cX9_goes 40 = .ok (.sipush 999, 3) := by decide +kernel
theorem dX9_goes_43 : decode cX9_goes 43 = .ok (.goto 4, 3) := by decide +kernel
theorem dX9_goes_46 : decode cX9_goes 46 = .ok (.iload_n 2, 1) := by decide +kernel
theorem dX9_goes_47 : decode cX9_goes 47 = .ok (.iastore, 1) := by decide +kernel
theorem dX9_goes_48 : decode cX9_goes 48 = .ok (.aload_n 0, 1) := by decide +kernel
theorem dX9_goes_49 : decode cX9_goes 49 = .ok (.getfield 48, 3) := by decide +kernel
theorem dX9_goes_52 : decode cX9_goes 52 = .ok (.iconst 0, 1) := by decide +kernel
theorem dX9_goes_53 : decode cX9_goes 53 = .ok (.dup2, 1) := by decide +kernel
theorem dX9_goes_54 : decode cX9_goes 54 = .ok (.iaload, 1) := by decide +kernel
theorem dX9_goes_55 : decode cX9_goes 55 = .ok (.iconst 1, 1) := by decide +kernel
theorem dX9_goes_56 : decode cX9_goes 56 = .ok (.iadd, 1) := by decide +kernel
theorem dX9_goes_57 : decode cX9_goes 57 = .ok (.iastore, 1) := by decide +kernel
theorem dX9_goes_58 : decode cX9_goes 58 = .ok (.aload_n 0, 1) := by decide +kernel
theorem dX9_goes_59 : decode cX9_goes 59 = .ok (.getfield 48, 3) := by decide +kernel
theorem dX9_goes_62 : decode cX9_goes 62 = .ok (.iload_n 1, 1) := by decide +kernel
theorem dX9_goes_63 : decode cX9_goes 63 = .ok (.iaload, 1) := by decide +kernel
theorem dX9_goes_64 : decode cX9_goes 64 = .ok (.ireturn, 1) := by decide +kernel
set_option maxRecDepth 20000 in
theorem ggX9_turns_X9_from : GoodIn wsX9_turns wsX9_from := goodIn_r _ [6, 7, 8, 9, 10, 11, 12, 13, 14, 15, 16, 17, 18, 19, 20, 21, 22, 23, 24, 25, 26, 27, 28, 29, 30, 31, 32, 33, 34, 35, 36, 37] (by decide +kernel) (by decide +kernel)
set_option maxRecDepth 20000 in
theorem gX9_turns_X9_from : GoodIn wsX9_turns (wsV RX9 136 RX9 yX9_from wsX9_from) := goodIn_app (goodIn_of _ (by decide +kernel)) ggX9_turns_X9_from
theorem dX9_turns_0 : decode cX9_turns 0 = .ok (.aload_n 0, 1) := by decide +kernel
theorem dX9_turns_1 : decode cX9_turns 1 = .ok (.getfield 48, 3) := by decide +kernel
theorem dX9_turns_4 : decode cX9_turns 4 = .ok (.iconst 1, 1) := by decide +kernel
theorem dX9_turns_5 : decode cX9_turns 5 = .ok (.aload_n 0, 1) := by decide +kernel
theorem dX9_turns_6 : decode cX9_turns 6 = .ok (.aload_n 0, 1) := by decide +kernel
theorem dX9_turns_7 : decode cX9_turns 7 = .ok (.getfield 48, 3) := by decide +kernel
theorem dX9_turns_10 : decode cX9_turns 10 = .ok (.iconst 1, 1) := by decide +kernel
theorem dX9_turns_11 : decode cX9_turns 11 = .ok (.iaload, 1) := by decide +kernel
theorem dX9_turns_12 : decode cX9_turns 12 = .ok (.iload_n 1, 1) := by decide +kernel
theorem dX9_turns_13 : decode cX9_turns 13 = .ok (.invokevirtual 136, 3) := by decide +kernel
theorem dX9_turns_16 : decode cX9_turns 16 = .ok (.iastore, 1) := by decide +kernel
theorem dX9_turns_17 : decode cX9_turns 17 = .ok (.return_, 1) := by decide +kernel
set_option maxRecDepth 20000 in
theorem ggX9_lie_X9_isWay : GoodIn wsX9_lie wsX9_isWay := goodIn_r _ [8, 9, 10, 11, 7, 12, 13, 14, 15, 16, 17, 18, 19, 20, 21, 22, 23, 24, 25, 26, 27, 28, 29, 30, 31, 32, 33, 34, 35, 36, 37, 38, 39, 40, 41, 42] (by decide +kernel) (by decide +kernel)
set_option maxRecDepth 20000 in
theorem gX9_lie_X9_isWay : GoodIn wsX9_lie (wsV RX9 139 RX9 yX9_isWay wsX9_isWay) := goodIn_app (goodIn_of _ (by decide +kernel)) ggX9_lie_X9_isWay
theorem dX9_lie_0 : decode cX9_lie 0 = .ok (.aload_n 0, 1) := by decide +kernel
theorem dX9_lie_1 : decode cX9_lie 1 = .ok (.iload_n 1, 1) := by decide +kernel
theorem dX9_lie_2 : decode cX9_lie 2 = .ok (.invokevirtual 139, 3) := by decide +kernel
theorem dX9_lie_5 : decode cX9_lie 5 = .ok (.ifCond .ne 5, 3) := by decide +kernel
theorem dX9_lie_8 : decode cX9_lie 8 = .ok (.iconst (-1), 1) := by decide +kernel
theorem dX9_lie_9 : decode cX9_lie 9 = .ok (.ireturn, 1) := by decide +kernel
theorem dX9_lie_10 : decode cX9_lie 10 = .ok (.iload_n 2, 1) := by decide +kernel
theorem dX9_lie_11 : decode cX9_lie 11 = .ok (.tableswitch 59 0 3 #[29, 36, 43, 50], 29) := by decide +kernel
theorem dX9_lie_40 : decode cX9_lie 40 = .ok (.iload_n 1, 1) := by decide +kernel
theorem dX9_lie_41 : decode cX9_lie 41 = .ok (.aload_n 0, 1) := by decide +kernel
theorem dX9_lie_42 : decode cX9_lie 42 = .ok (.getfield 7, 3) := by decide +kernel
theorem dX9_lie_45 : decode cX9_lie 45 = .ok (.irem, 1) := by decide +kernel
theorem dX9_lie_46 : decode cX9_lie 46 = .ok (.ireturn, 1) := by decide +kernel
theorem dX9_lie_47 : decode cX9_lie 47 = .ok (.iload_n 1, 1) := by decide +kernel
theorem dX9_lie_48 : decode cX9_lie 48 = .ok (.aload_n 0, 1) := by decide +kernel
theorem dX9_lie_49 : decode cX9_lie 49 = .ok (.getfield 7, 3) := by decide +kernel
theorem dX9_lie_52 : decode cX9_lie 52 = .ok (.idiv, 1) := by decide +kernel
theorem dX9_lie_53 : decode cX9_lie 53 = .ok (.ireturn, 1) := by decide +kernel
theorem dX9_lie_54 : decode cX9_lie 54 = .ok (.aload_n 0, 1) := by decide +kernel
theorem dX9_lie_55 : decode cX9_lie 55 = .ok (.getfield 22, 3) := by decide +kernel
theorem dX9_lie_58 : decode cX9_lie 58 = .ok (.iload_n 1, 1) := by decide +kernel
theorem dX9_lie_59 : decode cX9_lie 59 = .ok (.iaload, 1) := by decide +kernel
theorem dX9_lie_60 : decode cX9_lie 60 = .ok (.ireturn, 1) := by decide +kernel
theorem dX9_lie_61 : decode cX9_lie 61 = .ok (.aload_n 0, 1) := by decide +kernel
theorem dX9_lie_62 : decode cX9_lie 62 = .ok (.getfield 26, 3) := by decide +kernel
theorem dX9_lie_65 : decode cX9_lie 65 = .ok (.iconst 3, 1) := by decide +kernel
theorem dX9_lie_66 : decode cX9_lie 66 = .ok (.iload_n 1, 1) := by decide +kernel
theorem dX9_lie_67 : decode cX9_lie 67 = .ok (.iadd, 1) := by decide +kernel
theorem dX9_lie_68 : decode cX9_lie 68 = .ok (.iaload, 1) := by decide +kernel
theorem dX9_lie_69 : decode cX9_lie 69 = .ok (.ireturn, 1) := by decide +kernel
theorem dX9_lie_70 : decode cX9_lie 70 = .ok (.iconst (-1), 1) := by decide +kernel
theorem dX9_lie_71 : decode cX9_lie 71 = .ok (.ireturn, 1) := by decide +kernel
set_option maxRecDepth 20000 in
theorem ggX9_turned_X9_isWay : GoodIn wsX9_turned wsX9_isWay := goodIn_r _ [5, 6, 7, 8, 4, 9, 15, 16, 17, 18, 19, 20, 21, 22, 23, 24, 25, 26, 27, 28, 29, 30, 31, 32, 33, 34, 35, 36, 37, 38, 39, 40, 41, 42, 43, 44] (by decide +kernel) (by decide +kernel)
set_option maxRecDepth 20000 in
theorem gX9_turned_X9_isWay : GoodIn wsX9_turned (wsV RX9 139 RX9 yX9_isWay wsX9_isWay) := goodIn_app (goodIn_of _ (by decide +kernel)) ggX9_turned_X9_isWay
set_option maxRecDepth 20000 in
theorem ggX9_turned_X9_from : GoodIn wsX9_turned wsX9_from := goodIn_r _ [13, 14, 15, 16, 17, 18, 19, 20, 21, 22, 23, 24, 25, 26, 27, 28, 29, 30, 31, 32, 33, 34, 35, 36, 37, 38, 39, 40, 41, 42, 43, 44] (by decide +kernel) (by decide +kernel)
set_option maxRecDepth 20000 in
theorem gX9_turned_X9_from : GoodIn wsX9_turned (wsV RX9 136 RX9 yX9_from wsX9_from) := goodIn_app (goodIn_of _ (by decide +kernel)) ggX9_turned_X9_from
theorem dX9_turned_0 : decode cX9_turned 0 = .ok (.aload_n 0, 1) := by decide +kernel
theorem dX9_turned_1 : decode cX9_turned 1 = .ok (.iload_n 1, 1) := by decide +kernel
theorem dX9_turned_2 : decode cX9_turned 2 = .ok (.invokevirtual 139, 3) := by decide +kernel
theorem dX9_turned_5 : decode cX9_turned 5 = .ok (.ifCond .eq 20, 3) := by decide +kernel
theorem dX9_turned_8 : decode cX9_turned 8 = .ok (.aload_n 0, 1) := by decide +kernel
theorem dX9_turned_9 : decode cX9_turned 9 = .ok (.iload_n 2, 1) := by decide +kernel
theorem dX9_turned_10 : decode cX9_turned 10 = .ok (.invokevirtual 139, 3) := by decide +kernel
theorem dX9_turned_13 : decode cX9_turned 13 = .ok (.ifCond .eq 12, 3) := by decide +kernel
theorem dX9_turned_16 : decode cX9_turned 16 = .ok (.aload_n 0, 1) := by decide +kernel
theorem dX9_turned_17 : decode cX9_turned 17 = .ok (.iload_n 1, 1) := by decide +kernel
theorem dX9_turned_18 : decode cX9_turned 18 = .ok (.iload_n 2, 1) := by decide +kernel
theorem dX9_turned_19 : decode cX9_turned 19 = .ok (.invokevirtual 136, 3) := by decide +kernel
theorem dX9_turned_22 : decode cX9_turned 22 = .ok (.goto 4, 3) := by decide +kernel
theorem dX9_turned_25 : decode cX9_turned 25 = .ok (.iconst (-1), 1) := by decide +kernel
theorem dX9_turned_26 : decode cX9_turned 26 = .ok (.ireturn, 1) := by decide +kernel
set_option maxRecDepth 20000 in
theorem ggX9_now_X9_asItIs : GoodIn wsX9_now wsX9_asItIs := goodIn_r _ [8, 9, 2, 10, 11, 7, 12, 22, 23, 24, 25, 26, 27, 28, 29, 30, 31, 32, 33, 34, 35, 36, 37, 38, 39, 40, 41, 42, 43, 44, 45, 46, 47, 48, 49, 50, 51] (by decide +kernel) (by decide +kernel)
set_option maxRecDepth 20000 in
theorem gX9_now_X9_asItIs : GoodIn wsX9_now (wsV RX9 142 RX9 yX9_asItIs wsX9_asItIs) := goodIn_app (goodIn_of _ (by decide +kernel)) ggX9_now_X9_asItIs
set_option maxRecDepth 20000 in
theorem ggX9_now_X9_isOut : GoodIn wsX9_now wsX9_isOut := goodIn_r _ [16, 17, 18, 19, 20, 7, 21, 1, 9, 22, 23, 24, 25, 26, 27, 28, 29, 30, 31, 32, 33, 34, 35, 36, 37, 38, 39, 40, 41, 42, 43, 44, 45, 46, 47, 48, 49, 50, 51] (by decide +kernel) (by decide +kernel)
set_option maxRecDepth 20000 in
theorem gX9_now_X9_isOut : GoodIn wsX9_now (wsV RX9 145 RX9 yX9_isOut wsX9_isOut) := goodIn_app (goodIn_of _ (by decide +kernel)) ggX9_now_X9_isOut
set_option maxRecDepth 20000 in
theorem ggX9_now_X9_greatest : GoodIn wsX9_now wsX9_greatest := goodIn_r _ [21, 1, 9, 22, 23, 24, 25, 26, 27, 28, 29, 30, 31, 32, 33, 34, 35, 36, 37, 38, 39, 40, 41, 42, 43, 44, 45, 46, 47, 48, 49, 50, 51] (by decide +kernel) (by decide +kernel)
set_option maxRecDepth 20000 in
theorem gX9_now_X9_greatest : GoodIn wsX9_now (wsV RX9 132 RX9 yX9_greatest wsX9_greatest) := goodIn_app (goodIn_of _ (by decide +kernel)) ggX9_now_X9_greatest
theorem dX9_now_0 : decode cX9_now 0 = .ok (.aload_n 0, 1) := by decide +kernel
theorem dX9_now_1 : decode cX9_now 1 = .ok (.invokevirtual 142, 3) := by decide +kernel
theorem dX9_now_4 : decode cX9_now 4 = .ok (.iconst 0, 1) := by decide +kernel
theorem dX9_now_5 : decode cX9_now 5 = .ok (.istore_n 2, 1) := by decide +kernel
theorem dX9_now_6 : decode cX9_now 6 = .ok (.iconst 0, 1) := by decide +kernel
theorem dX9_now_7 : decode cX9_now 7 = .ok (.istore_n 3, 1) := by decide +kernel
theorem dX9_now_8 : decode cX9_now 8 = .ok (.iload_n 3, 1) := by decide +kernel
theorem dX9_now_9 : decode cX9_now 9 = .ok (.aload_n 0, 1) := by decide +kernel
theorem dX9_now_10 : decode cX9_now 10 = .ok (.getfield 16, 3) := by decide +kernel
theorem dX9_now_13 : decode cX9_now 13 = .ok (.if_icmp .ge 20, 3) := by decide +kernel
theorem dX9_now_16 : decode cX9_now 16 = .ok (.iload_n 2, 1) := by decide +kernel
theorem dX9_now_17 : decode cX9_now 17 = .ok (.aload_n 0, 1) := by decide +kernel
theorem dX9_now_18 : decode cX9_now 18 = .ok (.getfield 26, 3) := by decide +kernel
theorem dX9_now_21 : decode cX9_now 21 = .ok (.iconst 3, 1) := by decide +kernel
theorem dX9_now_22 : decode cX9_now 22 = .ok (.iload_n 3, 1) := by decide +kernel
theorem dX9_now_23 : decode cX9_now 23 = .ok (.iadd, 1) := by decide +kernel
theorem dX9_now_24 : decode cX9_now 24 = .ok (.iaload, 1) := by decide +kernel
theorem dX9_now_25 : decode cX9_now 25 = .ok (.iadd, 1) := by decide +kernel
theorem dX9_now_26 : decode cX9_now 26 = .ok (.istore_n 2, 1) := by decide +kernel
theorem dX9_now_27 : decode cX9_now 27 = .ok (.iinc 3 1, 3) := by decide +kernel
theorem dX9_now_30 : decode cX9_now 30 = .ok (.goto (-22), 3) := by decide +kernel
theorem dX9_now_33 : decode cX9_now 33 = .ok (.iload_n 1, 1) := by decide +kernel
theorem dX9_now_34 : decode cX9_now 34 = .ok (.tableswitch 88 0 6 #[42, 49, 56, 63, 76, 81, 83], 42) := by decide +kernel
theorem dX9_now_76 : decode cX9_now 76 = .ok (.aload_n 0, 1) := by decide +kernel
theorem dX9_now_77 : decode cX9_now 77 = .ok (.getfield 26, 3) := by decide +kernel
theorem dX9_now_80 : decode cX9_now 80 = .ok (.iconst 0, 1) := by decide +kernel
theorem dX9_now_81 : decode cX9_now 81 = .ok (.iaload, 1) := by decide +kernel
theorem dX9_now_82 : decode cX9_now 82 = .ok (.ireturn, 1) := by decide +kernel
theorem dX9_now_83 : decode cX9_now 83 = .ok (.aload_n 0, 1) := by decide +kernel
theorem dX9_now_84 : decode cX9_now 84 = .ok (.getfield 26, 3) := by decide +kernel
theorem dX9_now_87 : decode cX9_now 87 = .ok (.iconst 1, 1) := by decide +kernel
theorem dX9_now_88 : decode cX9_now 88 = .ok (.iaload, 1) := by decide +kernel
theorem dX9_now_89 : decode cX9_now 89 = .ok (.ireturn, 1) := by decide +kernel
theorem dX9_now_90 : decode cX9_now 90 = .ok (.aload_n 0, 1) := by decide +kernel
theorem dX9_now_91 : decode cX9_now 91 = .ok (.getfield 26, 3) := by decide +kernel
theorem dX9_now_94 : decode cX9_now 94 = .ok (.iconst 2, 1) := by decide +kernel
theorem dX9_now_95 : decode cX9_now 95 = .ok (.iaload, 1) := by decide +kernel
theorem dX9_now_96 : decode cX9_now 96 = .ok (.ireturn, 1) := by decide +kernel
theorem dX9_now_97 : decode cX9_now 97 = .ok (.aload_n 0, 1) := by decide +kernel
theorem dX9_now_98 : decode cX9_now 98 = .ok (.invokevirtual 145, 3) := by decide +kernel
theorem dX9_now_101 : decode cX9_now 101 = .ok (.ifCond .eq 7, 3) := by decide +kernel
theorem dX9_now_104 : decode cX9_now 104 = .ok (.iconst 1, 1) := by decide +kernel
theorem dX9_now_105 : decode cX9_now 105 = .ok (.goto 4, 3) := by decide +kernel
theorem dX9_now_108 : decode cX9_now 108 = .ok (.iconst 0, 1) := by decide +kernel
theorem dX9_now_109 : decode cX9_now 109 = .ok (.ireturn, 1) := by decide +kernel
theorem dX9_now_110 : decode cX9_now 110 = .ok (.aload_n 0, 1) := by decide +kernel
theorem dX9_now_111 : decode cX9_now 111 = .ok (.invokevirtual 132, 3) := by decide +kernel
theorem dX9_now_114 : decode cX9_now 114 = .ok (.ireturn, 1) := by decide +kernel
theorem dX9_now_115 : decode cX9_now 115 = .ok (.iload_n 2, 1) := by decide +kernel
theorem dX9_now_116 : decode cX9_now 116 = .ok (.ireturn, 1) := by decide +kernel
theorem dX9_now_117 : decode cX9_now 117 = .ok (.aload_n 0, 1) := by decide +kernel
theorem dX9_now_118 : decode cX9_now 118 = .ok (.getfield 122, 3) := by decide +kernel
theorem dX9_now_121 : decode cX9_now 121 = .ok (.ireturn, 1) := by decide +kernel
theorem dX9_now_122 : decode cX9_now 122 = .ok (.iconst (-1), 1) := by decide +kernel
theorem dX9_now_123 : decode cX9_now 123 = .ok (.ireturn, 1) := by decide +kernel
