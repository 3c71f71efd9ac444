/-! names of the law -/
theorem dL_digest_28 : decode cL_digest 28 = .ok (.goto (-22), 3) := by decide +kernel
theorem dL_digest_31 : decode cL_digest 31 = .ok (.iconst 0, 1) := by decide +kernel
theorem dL_digest_32 : decode cL_digest 32 = .ok (.istore_n 3, 1) := by decide +kernel
theorem dL_digest_33 : decode cL_digest 33 = .ok (.iload_n 3, 1) := by decide +kernel
theorem dL_digest_34 : decode cL_digest 34 = .ok (.bipush 6, 2) := by decide +kernel
theorem dL_digest_36 : decode cL_digest 36 = .ok (.if_icmp .ge 69, 3) := by decide +kernel
theorem dL_digest_39 : decode cL_digest 39 = .ok (.ldc2_w 11, 3) := by decide +kernel
theorem dL_digest_42 : decode cL_digest 42 = .ok (.lload_n 1, 1) := by decide +kernel
theorem dL_digest_43 : decode cL_digest 43 = .ok (.lmul, 1) := by decide +kernel
theorem dL_digest_44 : decode cL_digest 44 = .ok (.aload_n 0, 1) := by decide +kernel
theorem dL_digest_45 : decode cL_digest 45 = .ok (.iload_n 3, 1) := by decide +kernel
theorem dL_digest_46 : decode cL_digest 46 = .ok (.iconst 1, 1) := by decide +kernel
theorem dL_digest_47 : decode cL_digest 47 = .ok (.invokevirtual 19, 3) := by decide +kernel
theorem dL_digest_50 : decode cL_digest 50 = .ok (.i2l, 1) := by decide +kernel
theorem dL_digest_51 : decode cL_digest 51 = .ok (.ladd, 1) := by decide +kernel
theorem dL_digest_52 : decode cL_digest 52 = .ok (.lstore_n 1, 1) := by decide +kernel
theorem dL_digest_53 : decode cL_digest 53 = .ok (.iconst 1, 1) := by decide +kernel
theorem dL_digest_54 : decode cL_digest 54 = .ok (.istore 4, 2) := by decide +kernel
theorem dL_digest_56 : decode cL_digest 56 = .ok (.iload 4, 2) := by decide +kernel
theorem dL_digest_58 : decode cL_digest 58 = .ok (.bipush 8, 2) := by decide +kernel
theorem dL_digest_60 : decode cL_digest 60 = .ok (.if_icmp .ge 39, 3) := by decide +kernel
theorem dL_digest_63 : decode cL_digest 63 = .ok (.ldc2_w 11, 3) := by decide +kernel
theorem dL_digest_66 : decode cL_digest 66 = .ok (.lload_n 1, 1) := by decide +kernel
theorem dL_digest_67 : decode cL_digest 67 = .ok (.lmul, 1) := by decide +kernel
theorem dL_digest_68 : decode cL_digest 68 = .ok (.ldc2_w 23, 3) := by decide +kernel
theorem dL_digest_71 : decode cL_digest 71 = .ok (.aload_n 0, 1) := by decide +kernel
theorem dL_digest_72 : decode cL_digest 72 = .ok (.iload_n 3, 1) := by decide +kernel
theorem dL_digest_73 : decode cL_digest 73 = .ok (.iload 4, 2) := by decide +kernel
theorem dL_digest_75 : decode cL_digest 75 = .ok (.iconst 0, 1) := by decide +kernel
theorem dL_digest_76 : decode cL_digest 76 = .ok (.invokevirtual 25, 3) := by decide +kernel
theorem dL_digest_79 : decode cL_digest 79 = .ok (.i2l, 1) := by decide +kernel
theorem dL_digest_80 : decode cL_digest 80 = .ok (.lmul, 1) := by decide +kernel
theorem dL_digest_81 : decode cL_digest 81 = .ok (.ladd, 1) := by decide +kernel
theorem dL_digest_82 : decode cL_digest 82 = .ok (.aload_n 0, 1) := by decide +kernel
theorem dL_digest_83 : decode cL_digest 83 = .ok (.iload_n 3, 1) := by decide +kernel
theorem dL_digest_84 : decode cL_digest 84 = .ok (.iload 4, 2) := by decide +kernel
theorem dL_digest_86 : decode cL_digest 86 = .ok (.iconst 1, 1) := by decide +kernel
theorem dL_digest_87 : decode cL_digest 87 = .ok (.invokevirtual 25, 3) := by decide +kernel
theorem dL_digest_90 : decode cL_digest 90 = .ok (.i2l, 1) := by decide +kernel
theorem dL_digest_91 : decode cL_digest 91 = .ok (.ladd, 1) := by decide +kernel
theorem dL_digest_92 : decode cL_digest 92 = .ok (.lstore_n 1, 1) := by decide +kernel
theorem dL_digest_93 : decode cL_digest 93 = .ok (.iinc 4 1, 3) := by decide +kernel
theorem dL_digest_96 : decode cL_digest 96 = .ok (.goto (-40), 3) := by decide +kernel
theorem dL_digest_99 : decode cL_digest 99 = .ok (.iinc 3 1, 3) := by decide +kernel
theorem dL_digest_102 : decode cL_digest 102 = .ok (.goto (-69), 3) := by decide +kernel
theorem dL_digest_105 : decode cL_digest 105 = .ok (.iconst 0, 1) := by decide +kernel
theorem dL_digest_106 : decode cL_digest 106 = .ok (.istore_n 3, 1) := by decide +kernel
theorem dL_digest_107 : decode cL_digest 107 = .ok (.iload_n 3, 1) := by decide +kernel
theorem dL_digest_108 : decode cL_digest 108 = .ok (.iconst 3, 1) := by decide +kernel
theorem dL_digest_109 : decode cL_digest 109 = .ok (.if_icmp .ge 85, 3) := by decide +kernel
theorem dL_digest_112 : decode cL_digest 112 = .ok (.iconst 0, 1) := by decide +kernel
theorem dL_digest_113 : decode cL_digest 113 = .ok (.istore 4, 2) := by decide +kernel
theorem dL_digest_115 : decode cL_digest 115 = .ok (.iload 4, 2) := by decide +kernel
theorem dL_digest_117 : decode cL_digest 117 = .ok (.iconst 4, 1) := by decide +kernel
theorem dL_digest_118 : decode cL_digest 118 = .ok (.if_icmp .ge 24, 3) := by decide +kernel
theorem dL_digest_121 : decode cL_digest 121 = .ok (.ldc2_w 11, 3) := by decide +kernel
theorem dL_digest_124 : decode cL_digest 124 = .ok (.lload_n 1, 1) := by decide +kernel
theorem dL_digest_125 : decode cL_digest 125 = .ok (.lmul, 1) := by decide +kernel
theorem dL_digest_126 : decode cL_digest 126 = .ok (.aload_n 0, 1) := by decide +kernel
theorem dL_digest_127 : decode cL_digest 127 = .ok (.iload_n 3, 1) := by decide +kernel
theorem dL_digest_128 : decode cL_digest 128 = .ok (.iload 4, 2) := by decide +kernel
theorem dL_digest_130 : decode cL_digest 130 = .ok (.invokevirtual 29, 3) := by decide +kernel
theorem dL_digest_133 : decode cL_digest 133 = .ok (.i2l, 1) := by decide +kernel
theorem dL_digest_134 : decode cL_digest 134 = .ok (.ladd, 1) := by decide +kernel
theorem dL_digest_135 : decode cL_digest 135 = .ok (.lstore_n 1, 1) := by decide +kernel
theorem dL_digest_136 : decode cL_digest 136 = .ok (.iinc 4 1, 3) := by decide +kernel
theorem dL_digest_139 : decode cL_digest 139 = .ok (.goto (-24), 3) := by decide +kernel
theorem dL_digest_142 : decode cL_digest 142 = .ok (.iconst 1, 1) := by decide +kernel
theorem dL_digest_143 : decode cL_digest 143 = .ok (.istore 4, 2) := by decide +kernel
theorem dL_digest_145 : decode cL_digest 145 = .ok (.iload 4, 2) := by decide +kernel
theorem dL_digest_147 : decode cL_digest 147 = .ok (.bipush 8, 2) := by decide +kernel
theorem dL_digest_149 : decode cL_digest 149 = .ok (.if_icmp .ge 39, 3) := by decide +kernel
theorem dL_digest_152 : decode cL_digest 152 = .ok (.ldc2_w 11, 3) := by decide +kernel
theorem dL_digest_155 : decode cL_digest 155 = .ok (.lload_n 1, 1) := by decide +kernel
theorem dL_digest_156 : decode cL_digest 156 = .ok (.lmul, 1) := by decide +kernel
theorem dL_digest_157 : decode cL_digest 157 = .ok (.ldc2_w 23, 3) := by decide +kernel
theorem dL_digest_160 : decode cL_digest 160 = .ok (.aload_n 0, 1) := by decide +kernel
theorem dL_digest_161 : decode cL_digest 161 = .ok (.iload_n 3, 1) := by decide +kernel
theorem dL_digest_162 : decode cL_digest 162 = .ok (.iload 4, 2) := by decide +kernel
theorem dL_digest_164 : decode cL_digest 164 = .ok (.iconst 0, 1) := by decide +kernel
theorem dL_digest_165 : decode cL_digest 165 = .ok (.invokevirtual 32, 3) := by decide +kernel
theorem dL_digest_168 : decode cL_digest 168 = .ok (.i2l, 1) := by decide +kernel
theorem dL_digest_169 : decode cL_digest 169 = .ok (.lmul, 1) := by decide +kernel
theorem dL_digest_170 : decode cL_digest 170 = .ok (.ladd, 1) := by decide +kernel
theorem dL_digest_171 : decode cL_digest 171 = .ok (.aload_n 0, 1) := by decide +kernel
theorem dL_digest_172 : decode cL_digest 172 = .ok (.iload_n 3, 1) := by decide +kernel
theorem dL_digest_173 : decode cL_digest 173 = .ok (.iload 4, 2) := by decide +kernel
theorem dL_digest_175 : decode cL_digest 175 = .ok (.iconst 1, 1) := by decide +kernel
theorem dL_digest_176 : decode cL_digest 176 = .ok (.invokevirtual 32, 3) := by decide +kernel
theorem dL_digest_179 : decode cL_digest 179 = .ok (.i2l, 1) := by decide +kernel
theorem dL_digest_180 : decode cL_digest 180 = .ok (.ladd, 1) := by decide +kernel
theorem dL_digest_181 : decode cL_digest 181 = .ok (.lstore_n 1, 1) := by decide +kernel
theorem dL_digest_182 : decode cL_digest 182 = .ok (.iinc 4 1, 3) := by decide +kernel
theorem dL_digest_185 : decode cL_digest 185 = .ok (.goto (-40), 3) := by decide +kernel
theorem dL_digest_188 : decode cL_digest 188 = .ok (.iinc 3 1, 3) := by decide +kernel
theorem dL_digest_191 : decode cL_digest 191 = .ok (.goto (-84), 3) := by decide +kernel
theorem dL_digest_194 : decode cL_digest 194 = .ok (.iconst 1, 1) := by decide +kernel
theorem dL_digest_195 : decode cL_digest 195 = .ok (.istore_n 3, 1) := by decide +kernel
theorem dL_digest_196 : decode cL_digest 196 = .ok (.iload_n 3, 1) := by decide +kernel
theorem dL_digest_197 : decode cL_digest 197 = .ok (.bipush 17, 2) := by decide +kernel
theorem dL_digest_199 : decode cL_digest 199 = .ok (.if_icmp .ge 35, 3) := by decide +kernel
theorem dL_digest_202 : decode cL_digest 202 = .ok (.ldc2_w 11, 3) := by decide +kernel
theorem dL_digest_205 : decode cL_digest 205 = .ok (.lload_n 1, 1) := by decide +kernel
theorem dL_digest_206 : decode cL_digest 206 = .ok (.lmul, 1) := by decide +kernel
theorem dL_digest_207 : decode cL_digest 207 = .ok (.ldc2_w 23, 3) := by decide +kernel
theorem dL_digest_210 : decode cL_digest 210 = .ok (.aload_n 0, 1) := by decide +kernel
theorem dL_digest_211 : decode cL_digest 211 = .ok (.iload_n 3, 1) := by decide +kernel
theorem dL_digest_212 : decode cL_digest 212 = .ok (.iconst 0, 1) := by decide +kernel
theorem dL_digest_213 : decode cL_digest 213 = .ok (.invokevirtual 35, 3) := by decide +kernel
theorem dL_digest_216 : decode cL_digest 216 = .ok (.i2l, 1) := by decide +kernel
