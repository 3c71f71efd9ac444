/-! names of the law -/
theorem dL_others_37 : decode cL_others 37 = .ok (.aload_n 0, 1) := by decide +kernel
theorem dL_others_38 : decode cL_others 38 = .ok (.iload_n 2, 1) := by decide +kernel
theorem dL_others_39 : decode cL_others 39 = .ok (.iload 6, 2) := by decide +kernel
theorem dL_others_41 : decode cL_others 41 = .ok (.invokevirtual 58, 3) := by decide +kernel
theorem dL_others_44 : decode cL_others 44 = .ok (.iload 7, 2) := by decide +kernel
theorem dL_others_46 : decode cL_others 46 = .ok (.iload 6, 2) := by decide +kernel
theorem dL_others_48 : decode cL_others 48 = .ok (.if_icmp .ne 8, 3) := by decide +kernel
theorem dL_others_51 : decode cL_others 51 = .ok (.bipush (-5), 2) := by decide +kernel
theorem dL_others_53 : decode cL_others 53 = .ok (.goto 11, 3) := by decide +kernel
theorem dL_others_56 : decode cL_others 56 = .ok (.aload_n 0, 1) := by decide +kernel
theorem dL_others_57 : decode cL_others 57 = .ok (.iconst 4, 1) := by decide +kernel
theorem dL_others_58 : decode cL_others 58 = .ok (.invokevirtual 13, 3) := by decide +kernel
theorem dL_others_61 : decode cL_others 61 = .ok (.invokestatic 38, 3) := by decide +kernel
theorem dL_others_64 : decode cL_others 64 = .ok (.if_icmp .ne 29, 3) := by decide +kernel
theorem dL_others_67 : decode cL_others 67 = .ok (.aload_n 0, 1) := by decide +kernel
theorem dL_others_68 : decode cL_others 68 = .ok (.iconst 4, 1) := by decide +kernel
theorem dL_others_69 : decode cL_others 69 = .ok (.invokevirtual 13, 3) := by decide +kernel
theorem dL_others_72 : decode cL_others 72 = .ok (.iload_n 2, 1) := by decide +kernel
theorem dL_others_73 : decode cL_others 73 = .ok (.ishr, 1) := by decide +kernel
theorem dL_others_74 : decode cL_others 74 = .ok (.iconst 1, 1) := by decide +kernel
theorem dL_others_75 : decode cL_others 75 = .ok (.iand, 1) := by decide +kernel
theorem dL_others_76 : decode cL_others 76 = .ok (.iload 6, 2) := by decide +kernel
theorem dL_others_78 : decode cL_others 78 = .ok (.ifCond .eq 7, 3) := by decide +kernel
theorem dL_others_81 : decode cL_others 81 = .ok (.iconst 1, 1) := by decide +kernel
theorem dL_others_82 : decode cL_others 82 = .ok (.goto 4, 3) := by decide +kernel
theorem dL_others_85 : decode cL_others 85 = .ok (.iconst 0, 1) := by decide +kernel
theorem dL_others_86 : decode cL_others 86 = .ok (.if_icmp .ne 7, 3) := by decide +kernel
theorem dL_others_89 : decode cL_others 89 = .ok (.iconst 1, 1) := by decide +kernel
theorem dL_others_90 : decode cL_others 90 = .ok (.goto 4, 3) := by decide +kernel
theorem dL_others_93 : decode cL_others 93 = .ok (.iconst 0, 1) := by decide +kernel
theorem dL_others_94 : decode cL_others 94 = .ok (.ireturn, 1) := by decide +kernel
theorem dL_others_95 : decode cL_others 95 = .ok (.iload_n 1, 1) := by decide +kernel
theorem dL_others_96 : decode cL_others 96 = .ok (.bipush 11, 2) := by decide +kernel
theorem dL_others_98 : decode cL_others 98 = .ok (.if_icmp .ne 121, 3) := by decide +kernel
theorem dL_others_101 : decode cL_others 101 = .ok (.aload_n 0, 1) := by decide +kernel
theorem dL_others_102 : decode cL_others 102 = .ok (.iconst 0, 1) := by decide +kernel
theorem dL_others_103 : decode cL_others 103 = .ok (.invokevirtual 13, 3) := by decide +kernel
theorem dL_others_106 : decode cL_others 106 = .ok (.istore 6, 2) := by decide +kernel
theorem dL_others_108 : decode cL_others 108 = .ok (.aload_n 0, 1) := by decide +kernel
theorem dL_others_109 : decode cL_others 109 = .ok (.iconst 2, 1) := by decide +kernel
theorem dL_others_110 : decode cL_others 110 = .ok (.invokevirtual 13, 3) := by decide +kernel
theorem dL_others_113 : decode cL_others 113 = .ok (.istore 7, 2) := by decide +kernel
theorem dL_others_115 : decode cL_others 115 = .ok (.iconst 0, 1) := by decide +kernel
theorem dL_others_116 : decode cL_others 116 = .ok (.istore 8, 2) := by decide +kernel
theorem dL_others_118 : decode cL_others 118 = .ok (.iconst 0, 1) := by decide +kernel
theorem dL_others_119 : decode cL_others 119 = .ok (.istore 9, 2) := by decide +kernel
theorem dL_others_121 : decode cL_others 121 = .ok (.iload 9, 2) := by decide +kernel
theorem dL_others_123 : decode cL_others 123 = .ok (.bipush 6, 2) := by decide +kernel
theorem dL_others_125 : decode cL_others 125 = .ok (.if_icmp .ge 46, 3) := by decide +kernel
theorem dL_others_128 : decode cL_others 128 = .ok (.iconst 1, 1) := by decide +kernel
theorem dL_others_129 : decode cL_others 129 = .ok (.istore 10, 2) := by decide +kernel
theorem dL_others_131 : decode cL_others 131 = .ok (.iload 10, 2) := by decide +kernel
theorem dL_others_133 : decode cL_others 133 = .ok (.iload_n 3, 1) := by decide +kernel
theorem dL_others_134 : decode cL_others 134 = .ok (.if_icmp .gt 31, 3) := by decide +kernel
theorem dL_others_137 : decode cL_others 137 = .ok (.iload 8, 2) := by decide +kernel
theorem dL_others_139 : decode cL_others 139 = .ok (.aload_n 0, 1) := by decide +kernel
theorem dL_others_140 : decode cL_others 140 = .ok (.iload 9, 2) := by decide +kernel
theorem dL_others_142 : decode cL_others 142 = .ok (.iload 10, 2) := by decide +kernel
theorem dL_others_144 : decode cL_others 144 = .ok (.iconst 0, 1) := by decide +kernel
theorem dL_others_145 : decode cL_others 145 = .ok (.invokevirtual 25, 3) := by decide +kernel
theorem dL_others_148 : decode cL_others 148 = .ok (.ifCond .le 7, 3) := by decide +kernel
theorem dL_others_151 : decode cL_others 151 = .ok (.iconst 1, 1) := by decide +kernel
theorem dL_others_152 : decode cL_others 152 = .ok (.goto 4, 3) := by decide +kernel
theorem dL_others_155 : decode cL_others 155 = .ok (.iconst 0, 1) := by decide +kernel
theorem dL_others_156 : decode cL_others 156 = .ok (.iadd, 1) := by decide +kernel
theorem dL_others_157 : decode cL_others 157 = .ok (.istore 8, 2) := by decide +kernel
theorem dL_others_159 : decode cL_others 159 = .ok (.iinc 10 1, 3) := by decide +kernel
theorem dL_others_162 : decode cL_others 162 = .ok (.goto (-31), 3) := by decide +kernel
theorem dL_others_165 : decode cL_others 165 = .ok (.iinc 9 1, 3) := by decide +kernel
theorem dL_others_168 : decode cL_others 168 = .ok (.goto (-47), 3) := by decide +kernel
theorem dL_others_171 : decode cL_others 171 = .ok (.aload_n 0, 1) := by decide +kernel
theorem dL_others_172 : decode cL_others 172 = .ok (.iload_n 3, 1) := by decide +kernel
theorem dL_others_173 : decode cL_others 173 = .ok (.invokevirtual 62, 3) := by decide +kernel
theorem dL_others_176 : decode cL_others 176 = .ok (.iload_n 3, 1) := by decide +kernel
theorem dL_others_177 : decode cL_others 177 = .ok (.iload 6, 2) := by decide +kernel
theorem dL_others_179 : decode cL_others 179 = .ok (.if_icmp .le 8, 3) := by decide +kernel
theorem dL_others_182 : decode cL_others 182 = .ok (.bipush (-4), 2) := by decide +kernel
theorem dL_others_184 : decode cL_others 184 = .ok (.goto 16, 3) := by decide +kernel
theorem dL_others_187 : decode cL_others 187 = .ok (.iload_n 3, 1) := by decide +kernel
theorem dL_others_188 : decode cL_others 188 = .ok (.iload 7, 2) := by decide +kernel
theorem dL_others_190 : decode cL_others 190 = .ok (.if_icmp .gt 8, 3) := by decide +kernel
theorem dL_others_193 : decode cL_others 193 = .ok (.bipush (-5), 2) := by decide +kernel
theorem dL_others_195 : decode cL_others 195 = .ok (.goto 5, 3) := by decide +kernel
theorem dL_others_198 : decode cL_others 198 = .ok (.iload 8, 2) := by decide +kernel
theorem dL_others_200 : decode cL_others 200 = .ok (.if_icmp .ne 17, 3) := by decide +kernel
theorem dL_others_203 : decode cL_others 203 = .ok (.aload_n 0, 1) := by decide +kernel
theorem dL_others_204 : decode cL_others 204 = .ok (.bipush 17, 2) := by decide +kernel
theorem dL_others_206 : decode cL_others 206 = .ok (.invokevirtual 62, 3) := by decide +kernel
theorem dL_others_209 : decode cL_others 209 = .ok (.iconst (-1), 1) := by decide +kernel
theorem dL_others_210 : decode cL_others 210 = .ok (.if_icmp .ne 7, 3) := by decide +kernel
theorem dL_others_213 : decode cL_others 213 = .ok (.iconst 1, 1) := by decide +kernel
theorem dL_others_214 : decode cL_others 214 = .ok (.goto 4, 3) := by decide +kernel
theorem dL_others_217 : decode cL_others 217 = .ok (.iconst 0, 1) := by decide +kernel
theorem dL_others_218 : decode cL_others 218 = .ok (.ireturn, 1) := by decide +kernel
theorem dL_others_219 : decode cL_others 219 = .ok (.iconst 1, 1) := by decide +kernel
theorem dL_others_220 : decode cL_others 220 = .ok (.iload 4, 2) := by decide +kernel
theorem dL_others_222 : decode cL_others 222 = .ok (.bipush 63, 2) := by decide +kernel
theorem dL_others_224 : decode cL_others 224 = .ok (.invokestatic 49, 3) := by decide +kernel
theorem dL_others_227 : decode cL_others 227 = .ok (.iadd, 1) := by decide +kernel
theorem dL_others_228 : decode cL_others 228 = .ok (.istore 6, 2) := by decide +kernel
theorem dL_others_230 : decode cL_others 230 = .ok (.iconst 1, 1) := by decide +kernel
theorem dL_others_231 : decode cL_others 231 = .ok (.iload 5, 2) := by decide +kernel
theorem dL_others_233 : decode cL_others 233 = .ok (.bipush 6, 2) := by decide +kernel
theorem dL_others_235 : decode cL_others 235 = .ok (.invokestatic 49, 3) := by decide +kernel
theorem dL_others_238 : decode cL_others 238 = .ok (.iadd, 1) := by decide +kernel
theorem dL_others_239 : decode cL_others 239 = .ok (.istore 7, 2) := by decide +kernel
theorem dL_others_241 : decode cL_others 241 = .ok (.iconst 1, 1) := by decide +kernel
theorem dL_others_242 : decode cL_others 242 = .ok (.iload 5, 2) := by decide +kernel
theorem dL_others_244 : decode cL_others 244 = .ok (.iconst 3, 1) := by decide +kernel
theorem dL_others_245 : decode cL_others 245 = .ok (.ishr, 1) := by decide +kernel
