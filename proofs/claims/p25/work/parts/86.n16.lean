/-! names of the law -/
theorem dL_performs_112 : decode cL_performs 112 = .ok (.iconst 2, 1) := by decide +kernel
theorem dL_performs_113 : decode cL_performs 113 = .ok (.invokevirtual 80, 3) := by decide +kernel
theorem dL_performs_116 : decode cL_performs 116 = .ok (.ifCond .ne 18, 3) := by decide +kernel
theorem dL_performs_119 : decode cL_performs 119 = .ok (.aload_n 0, 1) := by decide +kernel
theorem dL_performs_120 : decode cL_performs 120 = .ok (.bipush 9, 2) := by decide +kernel
theorem dL_performs_122 : decode cL_performs 122 = .ok (.invokevirtual 13, 3) := by decide +kernel
theorem dL_performs_125 : decode cL_performs 125 = .ok (.iload 5, 2) := by decide +kernel
theorem dL_performs_127 : decode cL_performs 127 = .ok (.if_icmp .ne 7, 3) := by decide +kernel
theorem dL_performs_130 : decode cL_performs 130 = .ok (.iconst 1, 1) := by decide +kernel
theorem dL_performs_131 : decode cL_performs 131 = .ok (.goto 4, 3) := by decide +kernel
theorem dL_performs_134 : decode cL_performs 134 = .ok (.iconst 0, 1) := by decide +kernel
theorem dL_performs_135 : decode cL_performs 135 = .ok (.ireturn, 1) := by decide +kernel
theorem dL_performs_136 : decode cL_performs 136 = .ok (.aload_n 0, 1) := by decide +kernel
theorem dL_performs_137 : decode cL_performs 137 = .ok (.invokestatic 83, 3) := by decide +kernel
theorem dL_performs_140 : decode cL_performs 140 = .ok (.lstore 7, 2) := by decide +kernel
theorem dL_performs_142 : decode cL_performs 142 = .ok (.aload_n 0, 1) := by decide +kernel
theorem dL_performs_143 : decode cL_performs 143 = .ok (.invokevirtual 87, 3) := by decide +kernel
theorem dL_performs_146 : decode cL_performs 146 = .ok (.pop, 1) := by decide +kernel
theorem dL_performs_147 : decode cL_performs 147 = .ok (.aload_n 0, 1) := by decide +kernel
theorem dL_performs_148 : decode cL_performs 148 = .ok (.iload_n 1, 1) := by decide +kernel
theorem dL_performs_149 : decode cL_performs 149 = .ok (.iload_n 2, 1) := by decide +kernel
theorem dL_performs_150 : decode cL_performs 150 = .ok (.invokevirtual 46, 3) := by decide +kernel
theorem dL_performs_153 : decode cL_performs 153 = .ok (.istore 9, 2) := by decide +kernel
theorem dL_performs_155 : decode cL_performs 155 = .ok (.iload 6, 2) := by decide +kernel
theorem dL_performs_157 : decode cL_performs 157 = .ok (.iconst 1, 1) := by decide +kernel
theorem dL_performs_158 : decode cL_performs 158 = .ok (.if_icmp .ne 39, 3) := by decide +kernel
theorem dL_performs_161 : decode cL_performs 161 = .ok (.iload 9, 2) := by decide +kernel
theorem dL_performs_163 : decode cL_performs 163 = .ok (.bipush (-5), 2) := by decide +kernel
theorem dL_performs_165 : decode cL_performs 165 = .ok (.if_icmp .eq 8, 3) := by decide +kernel
theorem dL_performs_168 : decode cL_performs 168 = .ok (.iload 9, 2) := by decide +kernel
theorem dL_performs_170 : decode cL_performs 170 = .ok (.ifCond .lt 27, 3) := by decide +kernel
theorem dL_performs_173 : decode cL_performs 173 = .ok (.aload_n 0, 1) := by decide +kernel
theorem dL_performs_174 : decode cL_performs 174 = .ok (.invokestatic 83, 3) := by decide +kernel
theorem dL_performs_177 : decode cL_performs 177 = .ok (.lload 7, 2) := by decide +kernel
theorem dL_performs_179 : decode cL_performs 179 = .ok (.lcmp, 1) := by decide +kernel
theorem dL_performs_180 : decode cL_performs 180 = .ok (.ifCond .ne 17, 3) := by decide +kernel
theorem dL_performs_183 : decode cL_performs 183 = .ok (.aload_n 0, 1) := by decide +kernel
theorem dL_performs_184 : decode cL_performs 184 = .ok (.iconst 3, 1) := by decide +kernel
theorem dL_performs_185 : decode cL_performs 185 = .ok (.invokevirtual 80, 3) := by decide +kernel
theorem dL_performs_188 : decode cL_performs 188 = .ok (.bipush (-2), 2) := by decide +kernel
theorem dL_performs_190 : decode cL_performs 190 = .ok (.if_icmp .ne 7, 3) := by decide +kernel
theorem dL_performs_193 : decode cL_performs 193 = .ok (.iconst 1, 1) := by decide +kernel
theorem dL_performs_194 : decode cL_performs 194 = .ok (.goto 4, 3) := by decide +kernel
theorem dL_performs_197 : decode cL_performs 197 = .ok (.iconst 0, 1) := by decide +kernel
theorem dL_performs_198 : decode cL_performs 198 = .ok (.ireturn, 1) := by decide +kernel
set_option maxRecDepth 20000 in
theorem ggL_law_X4_init : GoodIn wsL_law wsX4_init := goodIn_r _ [5, 6, 7, 8, 9, 10, 11, 12, 13, 14, 15, 16, 17, 18, 19, 20, 21, 22, 23, 24, 25, 26, 27, 28, 29, 30, 31, 32, 33, 34, 35, 36, 37, 38, 39, 40, 41, 42, 43, 44, 45, 46, 47, 48, 49, 50, 51, 52, 53, 54, 55, 56, 57, 58, 59, 505, 506, 507, 508, 509, 510, 511, 512, 513, 514, 515, 516, 517, 518, 519, 520, 495, 496, 497, 498, 499, 500, 501, 502, 503, 504, 521, 522, 523, 524, 525, 526, 527, 528, 529, 530, 531] (by decide +kernel) (by decide +kernel)
set_option maxRecDepth 20000 in
theorem gL_law_X4_init : GoodIn wsL_law (wsX4_init) := ggL_law_X4_init
set_option maxRecDepth 20000 in
theorem ggL_law_X4_undo : GoodIn wsL_law wsX4_undo := goodIn_r _ [63, 17, 12, 64, 65, 66, 16, 67, 68, 69, 48, 70, 71, 72, 11, 73, 29, 30, 74, 75, 76, 32, 33, 34, 35, 36, 37, 38, 39, 40, 41, 42, 77, 78, 79, 80, 81, 82, 83, 84, 85, 86, 87, 495, 496, 497, 498, 499, 500, 501, 502, 503, 504, 521, 522, 523, 505, 506, 507, 508, 509, 510, 511, 512, 513, 514, 515, 516, 517, 518, 519, 520] (by decide +kernel) (by decide +kernel)
set_option maxRecDepth 20000 in
theorem gL_law_X4_undo : GoodIn wsL_law (wsV RL 87 RX4 yX4_undo wsX4_undo) := goodIn_app (goodIn_of _ (by decide +kernel)) ggL_law_X4_undo
set_option maxRecDepth 20000 in
theorem ggL_law_X4_restore : GoodIn wsL_law wsX4_restore := goodIn_r _ [91, 92, 17, 12, 13, 93, 94, 95, 16, 96, 48, 69, 70, 71, 72, 11, 73, 29, 30, 74, 75, 76, 32, 33, 34, 35, 36, 37, 38, 39, 40, 41, 42, 77, 78, 79, 80, 81, 82, 83, 84, 85, 86, 87, 97, 98, 99, 100, 101, 102, 103, 104, 2, 105, 106, 107, 108, 109, 68, 110, 495, 496, 497, 498, 499, 500, 501, 502, 503, 504, 521, 522, 523, 505, 506, 507, 508, 509, 510, 511, 512, 513, 514, 515, 516, 517, 518, 519, 520] (by decide +kernel) (by decide +kernel)
