/-! names of the law -/
theorem dL_proposers_66 : decode cL_proposers 66 = .ok (.if_icmp .ne 16, 3) := by decide +kernel
theorem dL_proposers_69 : decode cL_proposers 69 = .ok (.aload_n 0, 1) := by decide +kernel
theorem dL_proposers_70 : decode cL_proposers 70 = .ok (.iload 5, 2) := by decide +kernel
theorem dL_proposers_72 : decode cL_proposers 72 = .ok (.iconst 1, 1) := by decide +kernel
theorem dL_proposers_73 : decode cL_proposers 73 = .ok (.invokevirtual 19, 3) := by decide +kernel
theorem dL_proposers_76 : decode cL_proposers 76 = .ok (.iload_n 2, 1) := by decide +kernel
theorem dL_proposers_77 : decode cL_proposers 77 = .ok (.if_icmp .ge 5, 3) := by decide +kernel
theorem dL_proposers_80 : decode cL_proposers 80 = .ok (.iconst 0, 1) := by decide +kernel
theorem dL_proposers_81 : decode cL_proposers 81 = .ok (.ireturn, 1) := by decide +kernel
theorem dL_proposers_82 : decode cL_proposers 82 = .ok (.iinc 5 1, 3) := by decide +kernel
theorem dL_proposers_85 : decode cL_proposers 85 = .ok (.goto (-33), 3) := by decide +kernel
theorem dL_proposers_88 : decode cL_proposers 88 = .ok (.iconst 1, 1) := by decide +kernel
theorem dL_proposers_89 : decode cL_proposers 89 = .ok (.istore 5, 2) := by decide +kernel
theorem dL_proposers_91 : decode cL_proposers 91 = .ok (.iload 5, 2) := by decide +kernel
theorem dL_proposers_93 : decode cL_proposers 93 = .ok (.bipush 17, 2) := by decide +kernel
theorem dL_proposers_95 : decode cL_proposers 95 = .ok (.if_icmp .ge 197, 3) := by decide +kernel
theorem dL_proposers_98 : decode cL_proposers 98 = .ok (.aload_n 0, 1) := by decide +kernel
theorem dL_proposers_99 : decode cL_proposers 99 = .ok (.iload_n 1, 1) := by decide +kernel
theorem dL_proposers_100 : decode cL_proposers 100 = .ok (.iload 5, 2) := by decide +kernel
theorem dL_proposers_102 : decode cL_proposers 102 = .ok (.iconst 0, 1) := by decide +kernel
theorem dL_proposers_103 : decode cL_proposers 103 = .ok (.invokevirtual 32, 3) := by decide +kernel
theorem dL_proposers_106 : decode cL_proposers 106 = .ok (.istore 6, 2) := by decide +kernel
theorem dL_proposers_108 : decode cL_proposers 108 = .ok (.aload_n 0, 1) := by decide +kernel
theorem dL_proposers_109 : decode cL_proposers 109 = .ok (.iload_n 1, 1) := by decide +kernel
theorem dL_proposers_110 : decode cL_proposers 110 = .ok (.iload 5, 2) := by decide +kernel
theorem dL_proposers_112 : decode cL_proposers 112 = .ok (.iconst 1, 1) := by decide +kernel
theorem dL_proposers_113 : decode cL_proposers 113 = .ok (.invokevirtual 32, 3) := by decide +kernel
theorem dL_proposers_116 : decode cL_proposers 116 = .ok (.istore 7, 2) := by decide +kernel
theorem dL_proposers_118 : decode cL_proposers 118 = .ok (.aload_n 0, 1) := by decide +kernel
theorem dL_proposers_119 : decode cL_proposers 119 = .ok (.iload_n 1, 1) := by decide +kernel
theorem dL_proposers_120 : decode cL_proposers 120 = .ok (.iload 5, 2) := by decide +kernel
theorem dL_proposers_122 : decode cL_proposers 122 = .ok (.iconst 2, 1) := by decide +kernel
theorem dL_proposers_123 : decode cL_proposers 123 = .ok (.invokevirtual 32, 3) := by decide +kernel
theorem dL_proposers_126 : decode cL_proposers 126 = .ok (.istore 8, 2) := by decide +kernel
theorem dL_proposers_128 : decode cL_proposers 128 = .ok (.iload 5, 2) := by decide +kernel
theorem dL_proposers_130 : decode cL_proposers 130 = .ok (.aload_n 0, 1) := by decide +kernel
theorem dL_proposers_131 : decode cL_proposers 131 = .ok (.iconst 0, 1) := by decide +kernel
theorem dL_proposers_132 : decode cL_proposers 132 = .ok (.invokevirtual 13, 3) := by decide +kernel
theorem dL_proposers_135 : decode cL_proposers 135 = .ok (.iconst 3, 1) := by decide +kernel
theorem dL_proposers_136 : decode cL_proposers 136 = .ok (.iadd, 1) := by decide +kernel
theorem dL_proposers_137 : decode cL_proposers 137 = .ok (.if_icmp .gt 7, 3) := by decide +kernel
theorem dL_proposers_140 : decode cL_proposers 140 = .ok (.iconst 1, 1) := by decide +kernel
theorem dL_proposers_141 : decode cL_proposers 141 = .ok (.goto 4, 3) := by decide +kernel
theorem dL_proposers_144 : decode cL_proposers 144 = .ok (.iconst 0, 1) := by decide +kernel
theorem dL_proposers_145 : decode cL_proposers 145 = .ok (.istore 9, 2) := by decide +kernel
theorem dL_proposers_147 : decode cL_proposers 147 = .ok (.iload 4, 2) := by decide +kernel
theorem dL_proposers_149 : decode cL_proposers 149 = .ok (.iload 6, 2) := by decide +kernel
theorem dL_proposers_151 : decode cL_proposers 151 = .ok (.ifCond .le 7, 3) := by decide +kernel
theorem dL_proposers_154 : decode cL_proposers 154 = .ok (.iconst 1, 1) := by decide +kernel
theorem dL_proposers_155 : decode cL_proposers 155 = .ok (.goto 4, 3) := by decide +kernel
theorem dL_proposers_158 : decode cL_proposers 158 = .ok (.iconst 0, 1) := by decide +kernel
theorem dL_proposers_159 : decode cL_proposers 159 = .ok (.iadd, 1) := by decide +kernel
theorem dL_proposers_160 : decode cL_proposers 160 = .ok (.istore 4, 2) := by decide +kernel
theorem dL_proposers_162 : decode cL_proposers 162 = .ok (.iload 9, 2) := by decide +kernel
theorem dL_proposers_164 : decode cL_proposers 164 = .ok (.iload 7, 2) := by decide +kernel
theorem dL_proposers_166 : decode cL_proposers 166 = .ok (.ifCond .lt 7, 3) := by decide +kernel
theorem dL_proposers_169 : decode cL_proposers 169 = .ok (.iconst 1, 1) := by decide +kernel
theorem dL_proposers_170 : decode cL_proposers 170 = .ok (.goto 4, 3) := by decide +kernel
theorem dL_proposers_173 : decode cL_proposers 173 = .ok (.iconst 0, 1) := by decide +kernel
theorem dL_proposers_174 : decode cL_proposers 174 = .ok (.if_icmp .ne 33, 3) := by decide +kernel
theorem dL_proposers_177 : decode cL_proposers 177 = .ok (.iload 9, 2) := by decide +kernel
theorem dL_proposers_179 : decode cL_proposers 179 = .ok (.iload 8, 2) := by decide +kernel
theorem dL_proposers_181 : decode cL_proposers 181 = .ok (.ifCond .lt 7, 3) := by decide +kernel
theorem dL_proposers_184 : decode cL_proposers 184 = .ok (.iconst 1, 1) := by decide +kernel
theorem dL_proposers_185 : decode cL_proposers 185 = .ok (.goto 4, 3) := by decide +kernel
theorem dL_proposers_188 : decode cL_proposers 188 = .ok (.iconst 0, 1) := by decide +kernel
theorem dL_proposers_189 : decode cL_proposers 189 = .ok (.if_icmp .ne 18, 3) := by decide +kernel
theorem dL_proposers_192 : decode cL_proposers 192 = .ok (.iload 6, 2) := by decide +kernel
theorem dL_proposers_194 : decode cL_proposers 194 = .ok (.ifCond .le 15, 3) := by decide +kernel
theorem dL_proposers_197 : decode cL_proposers 197 = .ok (.iload 9, 2) := by decide +kernel
theorem dL_proposers_199 : decode cL_proposers 199 = .ok (.ifCond .eq 8, 3) := by decide +kernel
theorem dL_proposers_202 : decode cL_proposers 202 = .ok (.iload 8, 2) := by decide +kernel
theorem dL_proposers_204 : decode cL_proposers 204 = .ok (.ifCond .eq 5, 3) := by decide +kernel
theorem dL_proposers_207 : decode cL_proposers 207 = .ok (.iconst 0, 1) := by decide +kernel
theorem dL_proposers_208 : decode cL_proposers 208 = .ok (.ireturn, 1) := by decide +kernel
theorem dL_proposers_209 : decode cL_proposers 209 = .ok (.iload 9, 2) := by decide +kernel
theorem dL_proposers_211 : decode cL_proposers 211 = .ok (.ifCond .eq 35, 3) := by decide +kernel
theorem dL_proposers_214 : decode cL_proposers 214 = .ok (.iload 8, 2) := by decide +kernel
theorem dL_proposers_216 : decode cL_proposers 216 = .ok (.ifCond .eq 30, 3) := by decide +kernel
theorem dL_proposers_219 : decode cL_proposers 219 = .ok (.iload 8, 2) := by decide +kernel
theorem dL_proposers_221 : decode cL_proposers 221 = .ok (.aload_n 0, 1) := by decide +kernel
theorem dL_proposers_222 : decode cL_proposers 222 = .ok (.iload 5, 2) := by decide +kernel
theorem dL_proposers_224 : decode cL_proposers 224 = .ok (.iconst 3, 1) := by decide +kernel
theorem dL_proposers_225 : decode cL_proposers 225 = .ok (.invokevirtual 35, 3) := by decide +kernel
theorem dL_proposers_228 : decode cL_proposers 228 = .ok (.iload_n 3, 1) := by decide +kernel
theorem dL_proposers_229 : decode cL_proposers 229 = .ok (.aload_n 0, 1) := by decide +kernel
theorem dL_proposers_230 : decode cL_proposers 230 = .ok (.iload 5, 2) := by decide +kernel
theorem dL_proposers_232 : decode cL_proposers 232 = .ok (.iconst 2, 1) := by decide +kernel
theorem dL_proposers_233 : decode cL_proposers 233 = .ok (.invokevirtual 35, 3) := by decide +kernel
theorem dL_proposers_236 : decode cL_proposers 236 = .ok (.iand, 1) := by decide +kernel
theorem dL_proposers_237 : decode cL_proposers 237 = .ok (.invokestatic 38, 3) := by decide +kernel
theorem dL_proposers_240 : decode cL_proposers 240 = .ok (.isub, 1) := by decide +kernel
theorem dL_proposers_241 : decode cL_proposers 241 = .ok (.if_icmp .eq 5, 3) := by decide +kernel
theorem dL_proposers_244 : decode cL_proposers 244 = .ok (.iconst 0, 1) := by decide +kernel
theorem dL_proposers_245 : decode cL_proposers 245 = .ok (.ireturn, 1) := by decide +kernel
theorem dL_proposers_246 : decode cL_proposers 246 = .ok (.iload 6, 2) := by decide +kernel
theorem dL_proposers_248 : decode cL_proposers 248 = .ok (.ifCond .le 38, 3) := by decide +kernel
theorem dL_proposers_251 : decode cL_proposers 251 = .ok (.aload_n 0, 1) := by decide +kernel
theorem dL_proposers_252 : decode cL_proposers 252 = .ok (.iload 5, 2) := by decide +kernel
theorem dL_proposers_254 : decode cL_proposers 254 = .ok (.iconst 0, 1) := by decide +kernel
theorem dL_proposers_255 : decode cL_proposers 255 = .ok (.invokevirtual 35, 3) := by decide +kernel
theorem dL_proposers_258 : decode cL_proposers 258 = .ok (.ifCond .le 28, 3) := by decide +kernel
theorem dL_proposers_261 : decode cL_proposers 261 = .ok (.iload_n 2, 1) := by decide +kernel
theorem dL_proposers_262 : decode cL_proposers 262 = .ok (.aload_n 0, 1) := by decide +kernel
theorem dL_proposers_263 : decode cL_proposers 263 = .ok (.iload 5, 2) := by decide +kernel
theorem dL_proposers_265 : decode cL_proposers 265 = .ok (.iconst 1, 1) := by decide +kernel
theorem dL_proposers_266 : decode cL_proposers 266 = .ok (.invokevirtual 35, 3) := by decide +kernel
theorem dL_proposers_269 : decode cL_proposers 269 = .ok (.if_icmp .le 17, 3) := by decide +kernel
theorem dL_proposers_272 : decode cL_proposers 272 = .ok (.iload 6, 2) := by decide +kernel
theorem dL_proposers_274 : decode cL_proposers 274 = .ok (.aload_n 0, 1) := by decide +kernel
