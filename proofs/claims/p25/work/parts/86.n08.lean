/-! names of the law -/
set_option maxRecDepth 20000 in
theorem gL_ballots_X4_slot : GoodIn wsL_ballots (wsV RL 35 RX4 yX4_slot wsX4_slot) := goodIn_app (goodIn_of _ (by decide +kernel)) ggL_ballots_X4_slot
set_option maxRecDepth 20000 in
theorem ggL_ballots_X4_voted : GoodIn wsL_ballots wsX4_voted := goodIn_r _ [215, 6, 216, 217, 27, 28, 4, 29, 147, 148, 149, 150, 19, 20, 234, 235, 236, 237, 238, 239, 240, 241, 242, 243, 244, 245, 246, 247, 248, 249, 250, 251, 252, 253, 254, 255, 256, 257, 258, 259] (by decide +kernel) (by decide +kernel)
set_option maxRecDepth 20000 in
theorem gL_ballots_X4_voted : GoodIn wsL_ballots (wsV RL 25 RX4 yX4_voted wsX4_voted) := goodIn_app (goodIn_of _ (by decide +kernel)) ggL_ballots_X4_voted
set_option maxRecDepth 20000 in
theorem ggL_ballots_X4_vote : GoodIn wsL_ballots wsX4_vote := goodIn_r _ [221, 42, 6, 43, 44, 45, 46, 47, 48, 49, 50, 51, 52, 16, 53, 54, 55, 56, 57, 58, 59, 37, 60, 61, 62, 63, 18, 64, 65, 66, 67, 68, 69, 70, 71, 72, 73, 74, 75, 76, 77, 78, 222, 223, 224, 225, 11, 4, 12, 148, 149, 28, 29, 226, 227, 228, 229, 19, 20, 31, 32, 163, 164, 165, 166, 128, 129, 130, 131, 87, 88, 89, 230, 231, 232, 233, 175, 176, 177, 178, 179, 180, 181, 182, 183, 184, 185, 90, 91, 92, 93, 94, 95, 96, 97, 98, 99, 234, 235, 236, 237, 238, 239, 240, 241, 242, 243, 260, 261, 262, 244, 245, 246, 247, 248, 249, 250, 251, 252, 253, 254, 255, 256, 257, 258, 259] (by decide +kernel) (by decide +kernel)
set_option maxRecDepth 20000 in
theorem gL_ballots_X4_vote : GoodIn wsL_ballots (wsV RL 55 RX4 yX4_vote wsX4_vote) := goodIn_app (goodIn_of _ (by decide +kernel)) ggL_ballots_X4_vote
theorem dL_ballots_0 : decode cL_ballots 0 = .ok (.aload_n 0, 1) := by decide +kernel
theorem dL_ballots_1 : decode cL_ballots 1 = .ok (.iload_n 2, 1) := by decide +kernel
theorem dL_ballots_2 : decode cL_ballots 2 = .ok (.iconst 0, 1) := by decide +kernel
theorem dL_ballots_3 : decode cL_ballots 3 = .ok (.invokevirtual 29, 3) := by decide +kernel
theorem dL_ballots_6 : decode cL_ballots 6 = .ok (.istore 6, 2) := by decide +kernel
theorem dL_ballots_8 : decode cL_ballots 8 = .ok (.aload_n 0, 1) := by decide +kernel
theorem dL_ballots_9 : decode cL_ballots 9 = .ok (.iload_n 3, 1) := by decide +kernel
theorem dL_ballots_10 : decode cL_ballots 10 = .ok (.iconst 1, 1) := by decide +kernel
theorem dL_ballots_11 : decode cL_ballots 11 = .ok (.invokevirtual 19, 3) := by decide +kernel
theorem dL_ballots_14 : decode cL_ballots 14 = .ok (.istore 7, 2) := by decide +kernel
theorem dL_ballots_16 : decode cL_ballots 16 = .ok (.aload_n 0, 1) := by decide +kernel
theorem dL_ballots_17 : decode cL_ballots 17 = .ok (.iload_n 2, 1) := by decide +kernel
theorem dL_ballots_18 : decode cL_ballots 18 = .ok (.iconst 2, 1) := by decide +kernel
theorem dL_ballots_19 : decode cL_ballots 19 = .ok (.invokevirtual 29, 3) := by decide +kernel
theorem dL_ballots_22 : decode cL_ballots 22 = .ok (.istore 8, 2) := by decide +kernel
theorem dL_ballots_24 : decode cL_ballots 24 = .ok (.aload_n 0, 1) := by decide +kernel
theorem dL_ballots_25 : decode cL_ballots 25 = .ok (.iload_n 3, 1) := by decide +kernel
theorem dL_ballots_26 : decode cL_ballots 26 = .ok (.iconst 0, 1) := by decide +kernel
theorem dL_ballots_27 : decode cL_ballots 27 = .ok (.invokevirtual 19, 3) := by decide +kernel
theorem dL_ballots_30 : decode cL_ballots 30 = .ok (.iconst 1, 1) := by decide +kernel
theorem dL_ballots_31 : decode cL_ballots 31 = .ok (.if_icmp .ne 7, 3) := by decide +kernel
theorem dL_ballots_34 : decode cL_ballots 34 = .ok (.iconst 1, 1) := by decide +kernel
theorem dL_ballots_35 : decode cL_ballots 35 = .ok (.goto 4, 3) := by decide +kernel
theorem dL_ballots_38 : decode cL_ballots 38 = .ok (.iconst 0, 1) := by decide +kernel
theorem dL_ballots_39 : decode cL_ballots 39 = .ok (.istore 9, 2) := by decide +kernel
theorem dL_ballots_41 : decode cL_ballots 41 = .ok (.iload_n 1, 1) := by decide +kernel
theorem dL_ballots_42 : decode cL_ballots 42 = .ok (.ifCond .ne 99, 3) := by decide +kernel
theorem dL_ballots_45 : decode cL_ballots 45 = .ok (.aload_n 0, 1) := by decide +kernel
theorem dL_ballots_46 : decode cL_ballots 46 = .ok (.iload_n 2, 1) := by decide +kernel
theorem dL_ballots_47 : decode cL_ballots 47 = .ok (.iconst 1, 1) := by decide +kernel
theorem dL_ballots_48 : decode cL_ballots 48 = .ok (.invokevirtual 29, 3) := by decide +kernel
theorem dL_ballots_51 : decode cL_ballots 51 = .ok (.istore 10, 2) := by decide +kernel
theorem dL_ballots_53 : decode cL_ballots 53 = .ok (.aload_n 0, 1) := by decide +kernel
theorem dL_ballots_54 : decode cL_ballots 54 = .ok (.iload_n 2, 1) := by decide +kernel
theorem dL_ballots_55 : decode cL_ballots 55 = .ok (.invokevirtual 43, 3) := by decide +kernel
theorem dL_ballots_58 : decode cL_ballots 58 = .ok (.istore 11, 2) := by decide +kernel
theorem dL_ballots_60 : decode cL_ballots 60 = .ok (.iload 11, 2) := by decide +kernel
theorem dL_ballots_62 : decode cL_ballots 62 = .ok (.bipush (-3), 2) := by decide +kernel
theorem dL_ballots_64 : decode cL_ballots 64 = .ok (.if_icmp .eq 71, 3) := by decide +kernel
theorem dL_ballots_67 : decode cL_ballots 67 = .ok (.iload 11, 2) := by decide +kernel
theorem dL_ballots_69 : decode cL_ballots 69 = .ok (.iload 6, 2) := by decide +kernel
theorem dL_ballots_71 : decode cL_ballots 71 = .ok (.if_icmp .le 68, 3) := by decide +kernel
theorem dL_ballots_74 : decode cL_ballots 74 = .ok (.iload 11, 2) := by decide +kernel
theorem dL_ballots_76 : decode cL_ballots 76 = .ok (.iload 10, 2) := by decide +kernel
theorem dL_ballots_78 : decode cL_ballots 78 = .ok (.if_icmp .le 61, 3) := by decide +kernel
theorem dL_ballots_81 : decode cL_ballots 81 = .ok (.iload 11, 2) := by decide +kernel
theorem dL_ballots_83 : decode cL_ballots 83 = .ok (.iconst 3, 1) := by decide +kernel
theorem dL_ballots_84 : decode cL_ballots 84 = .ok (.irem, 1) := by decide +kernel
theorem dL_ballots_85 : decode cL_ballots 85 = .ok (.iload_n 2, 1) := by decide +kernel
theorem dL_ballots_86 : decode cL_ballots 86 = .ok (.iconst 1, 1) := by decide +kernel
theorem dL_ballots_87 : decode cL_ballots 87 = .ok (.iadd, 1) := by decide +kernel
theorem dL_ballots_88 : decode cL_ballots 88 = .ok (.iconst 3, 1) := by decide +kernel
theorem dL_ballots_89 : decode cL_ballots 89 = .ok (.irem, 1) := by decide +kernel
theorem dL_ballots_90 : decode cL_ballots 90 = .ok (.if_icmp .ne 49, 3) := by decide +kernel
theorem dL_ballots_93 : decode cL_ballots 93 = .ok (.iload 11, 2) := by decide +kernel
theorem dL_ballots_95 : decode cL_ballots 95 = .ok (.iconst 3, 1) := by decide +kernel
theorem dL_ballots_96 : decode cL_ballots 96 = .ok (.if_icmp .le 21, 3) := by decide +kernel
theorem dL_ballots_99 : decode cL_ballots 99 = .ok (.iload 11, 2) := by decide +kernel
theorem dL_ballots_101 : decode cL_ballots 101 = .ok (.iconst 3, 1) := by decide +kernel
theorem dL_ballots_102 : decode cL_ballots 102 = .ok (.isub, 1) := by decide +kernel
theorem dL_ballots_103 : decode cL_ballots 103 = .ok (.iload 6, 2) := by decide +kernel
theorem dL_ballots_105 : decode cL_ballots 105 = .ok (.if_icmp .le 12, 3) := by decide +kernel
theorem dL_ballots_108 : decode cL_ballots 108 = .ok (.iload 11, 2) := by decide +kernel
theorem dL_ballots_110 : decode cL_ballots 110 = .ok (.iconst 3, 1) := by decide +kernel
theorem dL_ballots_111 : decode cL_ballots 111 = .ok (.isub, 1) := by decide +kernel
theorem dL_ballots_112 : decode cL_ballots 112 = .ok (.iload 10, 2) := by decide +kernel
theorem dL_ballots_114 : decode cL_ballots 114 = .ok (.if_icmp .gt 25, 3) := by decide +kernel
theorem dL_ballots_117 : decode cL_ballots 117 = .ok (.aload_n 0, 1) := by decide +kernel
theorem dL_ballots_118 : decode cL_ballots 118 = .ok (.iload_n 2, 1) := by decide +kernel
theorem dL_ballots_119 : decode cL_ballots 119 = .ok (.iconst 2, 1) := by decide +kernel
theorem dL_ballots_120 : decode cL_ballots 120 = .ok (.invokevirtual 29, 3) := by decide +kernel
theorem dL_ballots_123 : decode cL_ballots 123 = .ok (.ifCond .ne 16, 3) := by decide +kernel
theorem dL_ballots_126 : decode cL_ballots 126 = .ok (.aload_n 0, 1) := by decide +kernel
theorem dL_ballots_127 : decode cL_ballots 127 = .ok (.iload_n 2, 1) := by decide +kernel
theorem dL_ballots_128 : decode cL_ballots 128 = .ok (.iconst 3, 1) := by decide +kernel
theorem dL_ballots_129 : decode cL_ballots 129 = .ok (.invokevirtual 29, 3) := by decide +kernel
theorem dL_ballots_132 : decode cL_ballots 132 = .ok (.ifCond .ne 7, 3) := by decide +kernel
theorem dL_ballots_135 : decode cL_ballots 135 = .ok (.iconst 1, 1) := by decide +kernel
theorem dL_ballots_136 : decode cL_ballots 136 = .ok (.goto 4, 3) := by decide +kernel
theorem dL_ballots_139 : decode cL_ballots 139 = .ok (.iconst 0, 1) := by decide +kernel
theorem dL_ballots_140 : decode cL_ballots 140 = .ok (.ireturn, 1) := by decide +kernel
theorem dL_ballots_141 : decode cL_ballots 141 = .ok (.iload_n 1, 1) := by decide +kernel
theorem dL_ballots_142 : decode cL_ballots 142 = .ok (.iconst 4, 1) := by decide +kernel
theorem dL_ballots_143 : decode cL_ballots 143 = .ok (.if_icmp .ge 172, 3) := by decide +kernel
theorem dL_ballots_146 : decode cL_ballots 146 = .ok (.aload_n 0, 1) := by decide +kernel
theorem dL_ballots_147 : decode cL_ballots 147 = .ok (.iload_n 3, 1) := by decide +kernel
theorem dL_ballots_148 : decode cL_ballots 148 = .ok (.iconst 2, 1) := by decide +kernel
theorem dL_ballots_149 : decode cL_ballots 149 = .ok (.invokevirtual 19, 3) := by decide +kernel
theorem dL_ballots_152 : decode cL_ballots 152 = .ok (.istore 10, 2) := by decide +kernel
theorem dL_ballots_154 : decode cL_ballots 154 = .ok (.aload_n 0, 1) := by decide +kernel
theorem dL_ballots_155 : decode cL_ballots 155 = .ok (.bipush 6, 2) := by decide +kernel
