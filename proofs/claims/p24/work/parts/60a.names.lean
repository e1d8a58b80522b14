theorem dL_part_0 : decode cL_part 0 = .ok (.iload_n 0, 1) := by decide +kernel
theorem dL_part_1 : decode cL_part 1 = .ok (.ldc 7, 2) := by decide +kernel
theorem dL_part_3 : decode cL_part 3 = .ok (.iand, 1) := by decide +kernel
theorem dL_part_4 : decode cL_part 4 = .ok (.iload_n 1, 1) := by decide +kernel
theorem dL_part_5 : decode cL_part 5 = .ok (.irem, 1) := by decide +kernel
theorem dL_part_6 : decode cL_part 6 = .ok (.ireturn, 1) := by decide +kernel
theorem dL_drawn_0 : decode cL_drawn 0 = .ok (.aload_n 0, 1) := by decide +kernel
theorem dL_drawn_1 : decode cL_drawn 1 = .ok (.arraylength, 1) := by decide +kernel
theorem dL_drawn_2 : decode cL_drawn 2 = .ok (.ifCond .ne 13, 3) := by decide +kernel
theorem dL_drawn_5 : decode cL_drawn 5 = .ok (.sipush 7919, 3) := by decide +kernel
theorem dL_drawn_8 : decode cL_drawn 8 = .ok (.iload_n 1, 1) := by decide +kernel
theorem dL_drawn_9 : decode cL_drawn 9 = .ok (.imul, 1) := by decide +kernel
theorem dL_drawn_10 : decode cL_drawn 10 = .ok (.iconst 3, 1) := by decide +kernel
theorem dL_drawn_11 : decode cL_drawn 11 = .ok (.iadd, 1) := by decide +kernel
theorem dL_drawn_12 : decode cL_drawn 12 = .ok (.goto 27, 3) := by decide +kernel
theorem dL_drawn_15 : decode cL_drawn 15 = .ok (.aload_n 0, 1) := by decide +kernel
theorem dL_drawn_16 : decode cL_drawn 16 = .ok (.iload_n 1, 1) := by decide +kernel
theorem dL_drawn_17 : decode cL_drawn 17 = .ok (.aload_n 0, 1) := by decide +kernel
theorem dL_drawn_18 : decode cL_drawn 18 = .ok (.arraylength, 1) := by decide +kernel
theorem dL_drawn_19 : decode cL_drawn 19 = .ok (.irem, 1) := by decide +kernel
theorem dL_drawn_20 : decode cL_drawn 20 = .ok (.iaload, 1) := by decide +kernel
theorem dL_drawn_21 : decode cL_drawn 21 = .ok (.iload_n 1, 1) := by decide +kernel
theorem dL_drawn_22 : decode cL_drawn 22 = .ok (.bipush 7, 2) := by decide +kernel
theorem dL_drawn_24 : decode cL_drawn 24 = .ok (.irem, 1) := by decide +kernel
theorem dL_drawn_25 : decode cL_drawn 25 = .ok (.ishr, 1) := by decide +kernel
theorem dL_drawn_26 : decode cL_drawn 26 = .ok (.iload_n 1, 1) := by decide +kernel
theorem dL_drawn_27 : decode cL_drawn 27 = .ok (.aload_n 0, 1) := by decide +kernel
theorem dL_drawn_28 : decode cL_drawn 28 = .ok (.arraylength, 1) := by decide +kernel
theorem dL_drawn_29 : decode cL_drawn 29 = .ok (.idiv, 1) := by decide +kernel
theorem dL_drawn_30 : decode cL_drawn 30 = .ok (.bipush 31, 2) := by decide +kernel
theorem dL_drawn_32 : decode cL_drawn 32 = .ok (.imul, 1) := by decide +kernel
theorem dL_drawn_33 : decode cL_drawn 33 = .ok (.ixor, 1) := by decide +kernel
theorem dL_drawn_34 : decode cL_drawn 34 = .ok (.iload_n 1, 1) := by decide +kernel
theorem dL_drawn_35 : decode cL_drawn 35 = .ok (.ldc 8, 2) := by decide +kernel
theorem dL_drawn_37 : decode cL_drawn 37 = .ok (.imul, 1) := by decide +kernel
theorem dL_drawn_38 : decode cL_drawn 38 = .ok (.ixor, 1) := by decide +kernel
theorem dL_drawn_39 : decode cL_drawn 39 = .ok (.ireturn, 1) := by decide +kernel
set_option maxRecDepth 20000 in
theorem ggL_seen_X5_count : GoodIn wsL_seen wsX5_count := goodIn_r _ [7, 8, 9, 10, 11, 12, 13, 14, 15, 16, 17, 18, 19, 20, 21, 22, 23, 24, 25, 26, 27, 28, 29, 30, 31, 32, 33, 34, 35, 36, 37, 38, 39, 40, 41, 42, 43, 44, 45, 46, 47, 48, 49, 50, 51, 52, 53, 54, 55, 6, 56, 57, 58, 59, 60, 61, 137, 138, 139, 140, 141, 142, 143, 144, 145, 146, 147, 148, 149, 150, 151, 152, 153, 154, 155, 156, 157, 158, 159, 160, 161, 162, 163, 164, 165, 166, 167, 168, 169, 170, 171] (by decide +kernel) (by decide +kernel)
set_option maxRecDepth 20000 in
theorem gL_seen_X5_count : GoodIn wsL_seen (wsV RL 13 RX5 yX5_count wsX5_count) := goodIn_app (goodIn_of _ (by decide +kernel)) ggL_seen_X5_count
set_option maxRecDepth 20000 in
theorem ggL_seen_X5_stageOf : GoodIn wsL_seen wsX5_stageOf := goodIn_r _ [65, 8, 9, 57, 66, 67, 68, 69, 70, 71, 72, 73, 74, 75, 76, 77, 78, 79, 80, 81, 82, 83, 84, 85, 86, 87, 88, 89, 90, 91, 137, 138, 139, 140, 141, 142, 143, 144, 145, 146, 147, 148, 149, 150, 151, 152, 153, 154, 155, 156, 157] (by decide +kernel) (by decide +kernel)
set_option maxRecDepth 20000 in
theorem gL_seen_X5_stageOf : GoodIn wsL_seen (wsV RL 19 RX5 yX5_stageOf wsX5_stageOf) := goodIn_app (goodIn_of _ (by decide +kernel)) ggL_seen_X5_stageOf
set_option maxRecDepth 20000 in
theorem ggL_seen_X5_account : GoodIn wsL_seen wsX5_account := goodIn_r _ [95, 8, 9, 96, 97, 98, 99, 57, 100, 101, 102, 72, 103, 74, 79, 137, 138, 139, 140, 141, 142, 143, 144, 145, 146, 147, 148, 149, 150, 151, 152, 153, 154, 155, 156, 157] (by decide +kernel) (by decide +kernel)
set_option maxRecDepth 20000 in
theorem gL_seen_X5_account : GoodIn wsL_seen (wsV RL 23 RX5 yX5_account wsX5_account) := goodIn_app (goodIn_of _ (by decide +kernel)) ggL_seen_X5_account
set_option maxRecDepth 20000 in
theorem ggL_seen_X5_pairOf : GoodIn wsL_seen wsX5_pairOf := goodIn_r _ [107, 57, 8, 13, 108, 109, 110, 59, 60, 6, 61, 111, 39, 40, 36, 41, 42, 137, 138, 139, 140, 141, 142, 143, 144, 145, 146, 147, 148, 149, 170, 171] (by decide +kernel) (by decide +kernel)
set_option maxRecDepth 20000 in
theorem gL_seen_X5_pairOf : GoodIn wsL_seen (wsV RL 26 RX5 yX5_pairOf wsX5_pairOf) := goodIn_app (goodIn_of _ (by decide +kernel)) ggL_seen_X5_pairOf
set_option maxRecDepth 20000 in
theorem ggL_seen_X5_outputOf : GoodIn wsL_seen wsX5_outputOf := goodIn_r _ [115, 57, 8, 108, 11, 116, 117, 118, 59, 60, 6, 61, 18, 19, 20, 21, 22, 23, 24, 25, 26, 27, 28, 29, 30, 31, 32, 119, 120, 121, 122, 123, 124, 125, 126, 127, 128, 129, 130, 131, 132, 133, 134, 135, 136, 137, 138, 139, 140, 141, 142, 143, 144, 145, 146, 147, 148, 149, 150, 151, 152, 153, 154, 155, 156, 157] (by decide +kernel) (by decide +kernel)
set_option maxRecDepth 20000 in
theorem gL_seen_X5_outputOf : GoodIn wsL_seen (wsV RL 29 RX5 yX5_outputOf wsX5_outputOf) := goodIn_app (goodIn_of _ (by decide +kernel)) ggL_seen_X5_outputOf
theorem dL_seen_0 : decode cL_seen 0 = .ok (.ldc2_w 9, 3) := by decide +kernel
theorem dL_seen_3 : decode cL_seen 3 = .ok (.lstore_n 1, 1) := by decide +kernel
theorem dL_seen_4 : decode cL_seen 4 = .ok (.iconst 0, 1) := by decide +kernel
theorem dL_seen_5 : decode cL_seen 5 = .ok (.istore_n 3, 1) := by decide +kernel
theorem dL_seen_6 : decode cL_seen 6 = .ok (.iload_n 3, 1) := by decide +kernel
theorem dL_seen_7 : decode cL_seen 7 = .ok (.bipush 7, 2) := by decide +kernel
theorem dL_seen_9 : decode cL_seen 9 = .ok (.if_icmp .ge 22, 3) := by decide +kernel
theorem dL_seen_12 : decode cL_seen 12 = .ok (.ldc2_w 11, 3) := by decide +kernel
theorem dL_seen_15 : decode cL_seen 15 = .ok (.lload_n 1, 1) := by decide +kernel
theorem dL_seen_16 : decode cL_seen 16 = .ok (.lmul, 1) := by decide +kernel
theorem dL_seen_17 : decode cL_seen 17 = .ok (.aload_n 0, 1) := by decide +kernel
theorem dL_seen_18 : decode cL_seen 18 = .ok (.iload_n 3, 1) := by decide +kernel
theorem dL_seen_19 : decode cL_seen 19 = .ok (.invokevirtual 13, 3) := by decide +kernel
theorem dL_seen_22 : decode cL_seen 22 = .ok (.i2l, 1) := by decide +kernel
theorem dL_seen_23 : decode cL_seen 23 = .ok (.ladd, 1) := by decide +kernel
theorem dL_seen_24 : decode cL_seen 24 = .ok (.lstore_n 1, 1) := by decide +kernel
theorem dL_seen_25 : decode cL_seen 25 = .ok (.iinc 3 1, 3) := by decide +kernel
theorem dL_seen_28 : decode cL_seen 28 = .ok (.goto (-22), 3) := by decide +kernel
theorem dL_seen_31 : decode cL_seen 31 = .ok (.bipush 20, 2) := by decide +kernel
theorem dL_seen_33 : decode cL_seen 33 = .ok (.istore_n 3, 1) := by decide +kernel
theorem dL_seen_34 : decode cL_seen 34 = .ok (.iload_n 3, 1) := by decide +kernel
theorem dL_seen_35 : decode cL_seen 35 = .ok (.bipush 25, 2) := by decide +kernel
theorem dL_seen_37 : decode cL_seen 37 = .ok (.if_icmp .ge 22, 3) := by decide +kernel
theorem dL_seen_40 : decode cL_seen 40 = .ok (.ldc2_w 11, 3) := by decide +kernel
theorem dL_seen_43 : decode cL_seen 43 = .ok (.lload_n 1, 1) := by decide +kernel
theorem dL_seen_44 : decode cL_seen 44 = .ok (.lmul, 1) := by decide +kernel
theorem dL_seen_45 : decode cL_seen 45 = .ok (.aload_n 0, 1) := by decide +kernel
theorem dL_seen_46 : decode cL_seen 46 = .ok (.iload_n 3, 1) := by decide +kernel
theorem dL_seen_47 : decode cL_seen 47 = .ok (.invokevirtual 13, 3) := by decide +kernel
theorem dL_seen_50 : decode cL_seen 50 = .ok (.i2l, 1) := by decide +kernel
theorem dL_seen_51 : decode cL_seen 51 = .ok (.ladd, 1) := by decide +kernel
theorem dL_seen_52 : decode cL_seen 52 = .ok (.lstore_n 1, 1) := by decide +kernel
theorem dL_seen_53 : decode cL_seen 53 = .ok (.iinc 3 1, 3) := by decide +kernel
theorem dL_seen_56 : decode cL_seen 56 = .ok (.goto (-22), 3) := by decide +kernel
theorem dL_seen_59 : decode cL_seen 59 = .ok (.iconst 0, 1) := by decide +kernel
theorem dL_seen_60 : decode cL_seen 60 = .ok (.istore_n 3, 1) := by decide +kernel
theorem dL_seen_61 : decode cL_seen 61 = .ok (.iload_n 3, 1) := by decide +kernel
theorem dL_seen_62 : decode cL_seen 62 = .ok (.iconst 3, 1) := by decide +kernel
theorem dL_seen_63 : decode cL_seen 63 = .ok (.aload_n 0, 1) := by decide +kernel
theorem dL_seen_64 : decode cL_seen 64 = .ok (.iconst 0, 1) := by decide +kernel
theorem dL_seen_65 : decode cL_seen 65 = .ok (.invokevirtual 13, 3) := by decide +kernel
theorem dL_seen_68 : decode cL_seen 68 = .ok (.imul, 1) := by decide +kernel
theorem dL_seen_69 : decode cL_seen 69 = .ok (.if_icmp .ge 27, 3) := by decide +kernel
theorem dL_seen_72 : decode cL_seen 72 = .ok (.ldc2_w 11, 3) := by decide +kernel
theorem dL_seen_75 : decode cL_seen 75 = .ok (.lload_n 1, 1) := by decide +kernel
theorem dL_seen_76 : decode cL_seen 76 = .ok (.lmul, 1) := by decide +kernel
theorem dL_seen_77 : decode cL_seen 77 = .ok (.aload_n 0, 1) := by decide +kernel
theorem dL_seen_78 : decode cL_seen 78 = .ok (.iload_n 3, 1) := by decide +kernel
theorem dL_seen_79 : decode cL_seen 79 = .ok (.iconst 3, 1) := by decide +kernel
theorem dL_seen_80 : decode cL_seen 80 = .ok (.idiv, 1) := by decide +kernel
theorem dL_seen_81 : decode cL_seen 81 = .ok (.iload_n 3, 1) := by decide +kernel
theorem dL_seen_82 : decode cL_seen 82 = .ok (.iconst 3, 1) := by decide +kernel
theorem dL_seen_83 : decode cL_seen 83 = .ok (.irem, 1) := by decide +kernel
theorem dL_seen_84 : decode cL_seen 84 = .ok (.invokevirtual 19, 3) := by decide +kernel
theorem dL_seen_87 : decode cL_seen 87 = .ok (.i2l, 1) := by decide +kernel
theorem dL_seen_88 : decode cL_seen 88 = .ok (.ladd, 1) := by decide +kernel
theorem dL_seen_89 : decode cL_seen 89 = .ok (.lstore_n 1, 1) := by decide +kernel
theorem dL_seen_90 : decode cL_seen 90 = .ok (.iinc 3 1, 3) := by decide +kernel
theorem dL_seen_93 : decode cL_seen 93 = .ok (.goto (-32), 3) := by decide +kernel
theorem dL_seen_96 : decode cL_seen 96 = .ok (.iconst 0, 1) := by decide +kernel
theorem dL_seen_97 : decode cL_seen 97 = .ok (.istore_n 3, 1) := by decide +kernel
theorem dL_seen_98 : decode cL_seen 98 = .ok (.iload_n 3, 1) := by decide +kernel
theorem dL_seen_99 : decode cL_seen 99 = .ok (.iconst 5, 1) := by decide +kernel
theorem dL_seen_100 : decode cL_seen 100 = .ok (.if_icmp .ge 22, 3) := by decide +kernel
theorem dL_seen_103 : decode cL_seen 103 = .ok (.ldc2_w 11, 3) := by decide +kernel
theorem dL_seen_106 : decode cL_seen 106 = .ok (.lload_n 1, 1) := by decide +kernel
theorem dL_seen_107 : decode cL_seen 107 = .ok (.lmul, 1) := by decide +kernel
theorem dL_seen_108 : decode cL_seen 108 = .ok (.aload_n 0, 1) := by decide +kernel
theorem dL_seen_109 : decode cL_seen 109 = .ok (.iload_n 3, 1) := by decide +kernel
theorem dL_seen_110 : decode cL_seen 110 = .ok (.invokevirtual 23, 3) := by decide +kernel
theorem dL_seen_113 : decode cL_seen 113 = .ok (.i2l, 1) := by decide +kernel
theorem dL_seen_114 : decode cL_seen 114 = .ok (.ladd, 1) := by decide +kernel
theorem dL_seen_115 : decode cL_seen 115 = .ok (.lstore_n 1, 1) := by decide +kernel
theorem dL_seen_116 : decode cL_seen 116 = .ok (.iinc 3 1, 3) := by decide +kernel
theorem dL_seen_119 : decode cL_seen 119 = .ok (.goto (-21), 3) := by decide +kernel
theorem dL_seen_122 : decode cL_seen 122 = .ok (.iconst 0, 1) := by decide +kernel
theorem dL_seen_123 : decode cL_seen 123 = .ok (.istore_n 3, 1) := by decide +kernel
theorem dL_seen_124 : decode cL_seen 124 = .ok (.iload_n 3, 1) := by decide +kernel
theorem dL_seen_125 : decode cL_seen 125 = .ok (.bipush 6, 2) := by decide +kernel
theorem dL_seen_127 : decode cL_seen 127 = .ok (.if_icmp .ge 27, 3) := by decide +kernel
theorem dL_seen_130 : decode cL_seen 130 = .ok (.ldc2_w 11, 3) := by decide +kernel
theorem dL_seen_133 : decode cL_seen 133 = .ok (.lload_n 1, 1) := by decide +kernel
theorem dL_seen_134 : decode cL_seen 134 = .ok (.lmul, 1) := by decide +kernel
theorem dL_seen_135 : decode cL_seen 135 = .ok (.aload_n 0, 1) := by decide +kernel
theorem dL_seen_136 : decode cL_seen 136 = .ok (.iload_n 3, 1) := by decide +kernel
theorem dL_seen_137 : decode cL_seen 137 = .ok (.iconst 2, 1) := by decide +kernel
theorem dL_seen_138 : decode cL_seen 138 = .ok (.idiv, 1) := by decide +kernel
theorem dL_seen_139 : decode cL_seen 139 = .ok (.iload_n 3, 1) := by decide +kernel
theorem dL_seen_140 : decode cL_seen 140 = .ok (.iconst 2, 1) := by decide +kernel
theorem dL_seen_141 : decode cL_seen 141 = .ok (.irem, 1) := by decide +kernel
theorem dL_seen_142 : decode cL_seen 142 = .ok (.invokevirtual 26, 3) := by decide +kernel
theorem dL_seen_145 : decode cL_seen 145 = .ok (.i2l, 1) := by decide +kernel
theorem dL_seen_146 : decode cL_seen 146 = .ok (.ladd, 1) := by decide +kernel
theorem dL_seen_147 : decode cL_seen 147 = .ok (.lstore_n 1, 1) := by decide +kernel
theorem dL_seen_148 : decode cL_seen 148 = .ok (.iinc 3 1, 3) := by decide +kernel
theorem dL_seen_151 : decode cL_seen 151 = .ok (.goto (-27), 3) := by decide +kernel
theorem dL_seen_154 : decode cL_seen 154 = .ok (.iconst 0, 1) := by decide +kernel
theorem dL_seen_155 : decode cL_seen 155 = .ok (.istore_n 3, 1) := by decide +kernel
theorem dL_seen_156 : decode cL_seen 156 = .ok (.iload_n 3, 1) := by decide +kernel
theorem dL_seen_157 : decode cL_seen 157 = .ok (.iconst 5, 1) := by decide +kernel
theorem dL_seen_158 : decode cL_seen 158 = .ok (.aload_n 0, 1) := by decide +kernel
theorem dL_seen_159 : decode cL_seen 159 = .ok (.iconst 2, 1) := by decide +kernel
theorem dL_seen_160 : decode cL_seen 160 = .ok (.invokevirtual 13, 3) := by decide +kernel
theorem dL_seen_163 : decode cL_seen 163 = .ok (.imul, 1) := by decide +kernel
theorem dL_seen_164 : decode cL_seen 164 = .ok (.if_icmp .ge 27, 3) := by decide +kernel
theorem dL_seen_167 : decode cL_seen 167 = .ok (.ldc2_w 11, 3) := by decide +kernel
theorem dL_seen_170 : decode cL_seen 170 = .ok (.lload_n 1, 1) := by decide +kernel
theorem dL_seen_171 : decode cL_seen 171 = .ok (.lmul, 1) := by decide +kernel
theorem dL_seen_172 : decode cL_seen 172 = .ok (.aload_n 0, 1) := by decide +kernel
theorem dL_seen_173 : decode cL_seen 173 = .ok (.iload_n 3, 1) := by decide +kernel
theorem dL_seen_174 : decode cL_seen 174 = .ok (.iconst 5, 1) := by decide +kernel
theorem dL_seen_175 : decode cL_seen 175 = .ok (.idiv, 1) := by decide +kernel
theorem dL_seen_176 : decode cL_seen 176 = .ok (.iload_n 3, 1) := by decide +kernel
theorem dL_seen_177 : decode cL_seen 177 = .ok (.iconst 5, 1) := by decide +kernel
theorem dL_seen_178 : decode cL_seen 178 = .ok (.irem, 1) := by decide +kernel
theorem dL_seen_179 : decode cL_seen 179 = .ok (.invokevirtual 29, 3) := by decide +kernel
theorem dL_seen_182 : decode cL_seen 182 = .ok (.i2l, 1) := by decide +kernel
theorem dL_seen_183 : decode cL_seen 183 = .ok (.ladd, 1) := by decide +kernel
theorem dL_seen_184 : decode cL_seen 184 = .ok (.lstore_n 1, 1) := by decide +kernel
theorem dL_seen_185 : decode cL_seen 185 = .ok (.iinc 3 1, 3) := by decide +kernel
theorem dL_seen_188 : decode cL_seen 188 = .ok (.goto (-32), 3) := by decide +kernel
theorem dL_seen_191 : decode cL_seen 191 = .ok (.lload_n 1, 1) := by decide +kernel
theorem dL_seen_192 : decode cL_seen 192 = .ok (.lreturn, 1) := by decide +kernel
