/-! names of the law -/
theorem dL_slots_87 : decode cL_slots 87 = .ok (.bipush 100, 2) := by decide +kernel
theorem dL_slots_89 : decode cL_slots 89 = .ok (.isub, 1) := by decide +kernel
theorem dL_slots_90 : decode cL_slots 90 = .ok (.istore 6, 2) := by decide +kernel
theorem dL_slots_92 : decode cL_slots 92 = .ok (.iload 6, 2) := by decide +kernel
theorem dL_slots_94 : decode cL_slots 94 = .ok (.invokestatic 38, 3) := by decide +kernel
theorem dL_slots_97 : decode cL_slots 97 = .ok (.istore 10, 2) := by decide +kernel
theorem dL_slots_99 : decode cL_slots 99 = .ok (.iload 4, 2) := by decide +kernel
theorem dL_slots_101 : decode cL_slots 101 = .ok (.iload 10, 2) := by decide +kernel
theorem dL_slots_103 : decode cL_slots 103 = .ok (.if_icmp .ge 8, 3) := by decide +kernel
theorem dL_slots_106 : decode cL_slots 106 = .ok (.iload 4, 2) := by decide +kernel
theorem dL_slots_108 : decode cL_slots 108 = .ok (.goto 5, 3) := by decide +kernel
theorem dL_slots_111 : decode cL_slots 111 = .ok (.iload 10, 2) := by decide +kernel
theorem dL_slots_113 : decode cL_slots 113 = .ok (.istore 11, 2) := by decide +kernel
theorem dL_slots_115 : decode cL_slots 115 = .ok (.iload 5, 2) := by decide +kernel
theorem dL_slots_117 : decode cL_slots 117 = .ok (.iload 8, 2) := by decide +kernel
theorem dL_slots_119 : decode cL_slots 119 = .ok (.ifCond .le 7, 3) := by decide +kernel
theorem dL_slots_122 : decode cL_slots 122 = .ok (.iconst 1, 1) := by decide +kernel
theorem dL_slots_123 : decode cL_slots 123 = .ok (.goto 4, 3) := by decide +kernel
theorem dL_slots_126 : decode cL_slots 126 = .ok (.iconst 0, 1) := by decide +kernel
theorem dL_slots_127 : decode cL_slots 127 = .ok (.iand, 1) := by decide +kernel
theorem dL_slots_128 : decode cL_slots 128 = .ok (.istore 5, 2) := by decide +kernel
theorem dL_slots_130 : decode cL_slots 130 = .ok (.iload_n 2, 1) := by decide +kernel
theorem dL_slots_131 : decode cL_slots 131 = .ok (.iload 8, 2) := by decide +kernel
theorem dL_slots_133 : decode cL_slots 133 = .ok (.ifCond .le 7, 3) := by decide +kernel
theorem dL_slots_136 : decode cL_slots 136 = .ok (.iconst 1, 1) := by decide +kernel
theorem dL_slots_137 : decode cL_slots 137 = .ok (.goto 4, 3) := by decide +kernel
theorem dL_slots_140 : decode cL_slots 140 = .ok (.iconst 0, 1) := by decide +kernel
theorem dL_slots_141 : decode cL_slots 141 = .ok (.iadd, 1) := by decide +kernel
theorem dL_slots_142 : decode cL_slots 142 = .ok (.istore_n 2, 1) := by decide +kernel
theorem dL_slots_143 : decode cL_slots 143 = .ok (.iload_n 3, 1) := by decide +kernel
theorem dL_slots_144 : decode cL_slots 144 = .ok (.iload 8, 2) := by decide +kernel
theorem dL_slots_146 : decode cL_slots 146 = .ok (.bipush 100, 2) := by decide +kernel
theorem dL_slots_148 : decode cL_slots 148 = .ok (.if_icmp .le 7, 3) := by decide +kernel
theorem dL_slots_151 : decode cL_slots 151 = .ok (.iconst 1, 1) := by decide +kernel
theorem dL_slots_152 : decode cL_slots 152 = .ok (.goto 4, 3) := by decide +kernel
theorem dL_slots_155 : decode cL_slots 155 = .ok (.iconst 0, 1) := by decide +kernel
theorem dL_slots_156 : decode cL_slots 156 = .ok (.iadd, 1) := by decide +kernel
theorem dL_slots_157 : decode cL_slots 157 = .ok (.istore_n 3, 1) := by decide +kernel
theorem dL_slots_158 : decode cL_slots 158 = .ok (.iload 5, 2) := by decide +kernel
theorem dL_slots_160 : decode cL_slots 160 = .ok (.iload 7, 2) := by decide +kernel
theorem dL_slots_162 : decode cL_slots 162 = .ok (.iload_n 1, 1) := by decide +kernel
theorem dL_slots_163 : decode cL_slots 163 = .ok (.if_icmp .gt 7, 3) := by decide +kernel
theorem dL_slots_166 : decode cL_slots 166 = .ok (.iconst 1, 1) := by decide +kernel
theorem dL_slots_167 : decode cL_slots 167 = .ok (.goto 4, 3) := by decide +kernel
theorem dL_slots_170 : decode cL_slots 170 = .ok (.iconst 0, 1) := by decide +kernel
theorem dL_slots_171 : decode cL_slots 171 = .ok (.if_icmp .ne 41, 3) := by decide +kernel
theorem dL_slots_174 : decode cL_slots 174 = .ok (.iload 8, 2) := by decide +kernel
theorem dL_slots_176 : decode cL_slots 176 = .ok (.ifCond .ge 7, 3) := by decide +kernel
theorem dL_slots_179 : decode cL_slots 179 = .ok (.iconst 1, 1) := by decide +kernel
theorem dL_slots_180 : decode cL_slots 180 = .ok (.goto 4, 3) := by decide +kernel
theorem dL_slots_183 : decode cL_slots 183 = .ok (.iconst 0, 1) := by decide +kernel
theorem dL_slots_184 : decode cL_slots 184 = .ok (.aload_n 0, 1) := by decide +kernel
theorem dL_slots_185 : decode cL_slots 185 = .ok (.iload 7, 2) := by decide +kernel
theorem dL_slots_187 : decode cL_slots 187 = .ok (.iconst 1, 1) := by decide +kernel
theorem dL_slots_188 : decode cL_slots 188 = .ok (.invokevirtual 35, 3) := by decide +kernel
theorem dL_slots_191 : decode cL_slots 191 = .ok (.ifCond .ge 7, 3) := by decide +kernel
theorem dL_slots_194 : decode cL_slots 194 = .ok (.iconst 1, 1) := by decide +kernel
theorem dL_slots_195 : decode cL_slots 195 = .ok (.goto 4, 3) := by decide +kernel
theorem dL_slots_198 : decode cL_slots 198 = .ok (.iconst 0, 1) := by decide +kernel
theorem dL_slots_199 : decode cL_slots 199 = .ok (.if_icmp .ne 13, 3) := by decide +kernel
theorem dL_slots_202 : decode cL_slots 202 = .ok (.iload 8, 2) := by decide +kernel
theorem dL_slots_204 : decode cL_slots 204 = .ok (.ifCond .le 10, 3) := by decide +kernel
theorem dL_slots_207 : decode cL_slots 207 = .ok (.iload 9, 2) := by decide +kernel
theorem dL_slots_209 : decode cL_slots 209 = .ok (.ifCond .ne 5, 3) := by decide +kernel
theorem dL_slots_212 : decode cL_slots 212 = .ok (.iconst 0, 1) := by decide +kernel
theorem dL_slots_213 : decode cL_slots 213 = .ok (.ireturn, 1) := by decide +kernel
theorem dL_slots_214 : decode cL_slots 214 = .ok (.aload_n 0, 1) := by decide +kernel
theorem dL_slots_215 : decode cL_slots 215 = .ok (.iload 7, 2) := by decide +kernel
theorem dL_slots_217 : decode cL_slots 217 = .ok (.iconst 2, 1) := by decide +kernel
theorem dL_slots_218 : decode cL_slots 218 = .ok (.invokevirtual 35, 3) := by decide +kernel
theorem dL_slots_221 : decode cL_slots 221 = .ok (.iload 9, 2) := by decide +kernel
theorem dL_slots_223 : decode cL_slots 223 = .ok (.ifCond .eq 8, 3) := by decide +kernel
theorem dL_slots_226 : decode cL_slots 226 = .ok (.iload 6, 2) := by decide +kernel
theorem dL_slots_228 : decode cL_slots 228 = .ok (.goto 5, 3) := by decide +kernel
theorem dL_slots_231 : decode cL_slots 231 = .ok (.bipush (-5), 2) := by decide +kernel
theorem dL_slots_233 : decode cL_slots 233 = .ok (.if_icmp .ne 86, 3) := by decide +kernel
theorem dL_slots_236 : decode cL_slots 236 = .ok (.aload_n 0, 1) := by decide +kernel
theorem dL_slots_237 : decode cL_slots 237 = .ok (.iload 7, 2) := by decide +kernel
theorem dL_slots_239 : decode cL_slots 239 = .ok (.iconst 4, 1) := by decide +kernel
theorem dL_slots_240 : decode cL_slots 240 = .ok (.invokevirtual 35, 3) := by decide +kernel
theorem dL_slots_243 : decode cL_slots 243 = .ok (.iload 9, 2) := by decide +kernel
theorem dL_slots_245 : decode cL_slots 245 = .ok (.ifCond .eq 8, 3) := by decide +kernel
theorem dL_slots_248 : decode cL_slots 248 = .ok (.iload 11, 2) := by decide +kernel
theorem dL_slots_250 : decode cL_slots 250 = .ok (.goto 5, 3) := by decide +kernel
theorem dL_slots_253 : decode cL_slots 253 = .ok (.bipush (-5), 2) := by decide +kernel
theorem dL_slots_255 : decode cL_slots 255 = .ok (.if_icmp .ne 64, 3) := by decide +kernel
theorem dL_slots_258 : decode cL_slots 258 = .ok (.aload_n 0, 1) := by decide +kernel
theorem dL_slots_259 : decode cL_slots 259 = .ok (.iload 7, 2) := by decide +kernel
theorem dL_slots_261 : decode cL_slots 261 = .ok (.iconst 3, 1) := by decide +kernel
theorem dL_slots_262 : decode cL_slots 262 = .ok (.invokevirtual 35, 3) := by decide +kernel
theorem dL_slots_265 : decode cL_slots 265 = .ok (.iload 9, 2) := by decide +kernel
theorem dL_slots_267 : decode cL_slots 267 = .ok (.ifCond .eq 13, 3) := by decide +kernel
theorem dL_slots_270 : decode cL_slots 270 = .ok (.iload 10, 2) := by decide +kernel
theorem dL_slots_272 : decode cL_slots 272 = .ok (.iconst 1, 1) := by decide +kernel
theorem dL_slots_273 : decode cL_slots 273 = .ok (.iadd, 1) := by decide +kernel
theorem dL_slots_274 : decode cL_slots 274 = .ok (.iload 11, 2) := by decide +kernel
theorem dL_slots_276 : decode cL_slots 276 = .ok (.isub, 1) := by decide +kernel
theorem dL_slots_277 : decode cL_slots 277 = .ok (.goto 5, 3) := by decide +kernel
theorem dL_slots_280 : decode cL_slots 280 = .ok (.bipush (-5), 2) := by decide +kernel
theorem dL_slots_282 : decode cL_slots 282 = .ok (.if_icmp .ne 37, 3) := by decide +kernel
theorem dL_slots_285 : decode cL_slots 285 = .ok (.aload_n 0, 1) := by decide +kernel
theorem dL_slots_286 : decode cL_slots 286 = .ok (.iload 7, 2) := by decide +kernel
theorem dL_slots_288 : decode cL_slots 288 = .ok (.iconst 5, 1) := by decide +kernel
theorem dL_slots_289 : decode cL_slots 289 = .ok (.invokevirtual 35, 3) := by decide +kernel
theorem dL_slots_292 : decode cL_slots 292 = .ok (.iconst 1, 1) := by decide +kernel
theorem dL_slots_293 : decode cL_slots 293 = .ok (.if_icmp .ne 7, 3) := by decide +kernel
theorem dL_slots_296 : decode cL_slots 296 = .ok (.iconst 1, 1) := by decide +kernel
theorem dL_slots_297 : decode cL_slots 297 = .ok (.goto 4, 3) := by decide +kernel
theorem dL_slots_300 : decode cL_slots 300 = .ok (.iconst 0, 1) := by decide +kernel
theorem dL_slots_301 : decode cL_slots 301 = .ok (.iload 7, 2) := by decide +kernel
