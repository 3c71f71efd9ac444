/-! names of the law -/
theorem dL_ballots_157 : decode cL_ballots 157 = .ok (.invokevirtual 13, 3) := by decide +kernel
theorem dL_ballots_160 : decode cL_ballots 160 = .ok (.istore 11, 2) := by decide +kernel
theorem dL_ballots_162 : decode cL_ballots 162 = .ok (.aload_n 0, 1) := by decide +kernel
theorem dL_ballots_163 : decode cL_ballots 163 = .ok (.iload_n 2, 1) := by decide +kernel
theorem dL_ballots_164 : decode cL_ballots 164 = .ok (.iload_n 3, 1) := by decide +kernel
theorem dL_ballots_165 : decode cL_ballots 165 = .ok (.invokevirtual 46, 3) := by decide +kernel
theorem dL_ballots_168 : decode cL_ballots 168 = .ok (.istore 12, 2) := by decide +kernel
theorem dL_ballots_170 : decode cL_ballots 170 = .ok (.iload 6, 2) := by decide +kernel
theorem dL_ballots_172 : decode cL_ballots 172 = .ok (.ifCond .eq 8, 3) := by decide +kernel
theorem dL_ballots_175 : decode cL_ballots 175 = .ok (.iload 9, 2) := by decide +kernel
theorem dL_ballots_177 : decode cL_ballots 177 = .ok (.ifCond .ne 16, 3) := by decide +kernel
theorem dL_ballots_180 : decode cL_ballots 180 = .ok (.iload 12, 2) := by decide +kernel
theorem dL_ballots_182 : decode cL_ballots 182 = .ok (.bipush (-4), 2) := by decide +kernel
theorem dL_ballots_184 : decode cL_ballots 184 = .ok (.if_icmp .ne 7, 3) := by decide +kernel
theorem dL_ballots_187 : decode cL_ballots 187 = .ok (.iconst 1, 1) := by decide +kernel
theorem dL_ballots_188 : decode cL_ballots 188 = .ok (.goto 4, 3) := by decide +kernel
theorem dL_ballots_191 : decode cL_ballots 191 = .ok (.iconst 0, 1) := by decide +kernel
theorem dL_ballots_192 : decode cL_ballots 192 = .ok (.ireturn, 1) := by decide +kernel
theorem dL_ballots_193 : decode cL_ballots 193 = .ok (.iload 8, 2) := by decide +kernel
theorem dL_ballots_195 : decode cL_ballots 195 = .ok (.iload_n 3, 1) := by decide +kernel
theorem dL_ballots_196 : decode cL_ballots 196 = .ok (.ishr, 1) := by decide +kernel
theorem dL_ballots_197 : decode cL_ballots 197 = .ok (.iconst 1, 1) := by decide +kernel
theorem dL_ballots_198 : decode cL_ballots 198 = .ok (.iand, 1) := by decide +kernel
theorem dL_ballots_199 : decode cL_ballots 199 = .ok (.iconst 1, 1) := by decide +kernel
theorem dL_ballots_200 : decode cL_ballots 200 = .ok (.if_icmp .ne 16, 3) := by decide +kernel
theorem dL_ballots_203 : decode cL_ballots 203 = .ok (.iload 12, 2) := by decide +kernel
theorem dL_ballots_205 : decode cL_ballots 205 = .ok (.bipush (-5), 2) := by decide +kernel
theorem dL_ballots_207 : decode cL_ballots 207 = .ok (.if_icmp .ne 7, 3) := by decide +kernel
theorem dL_ballots_210 : decode cL_ballots 210 = .ok (.iconst 1, 1) := by decide +kernel
theorem dL_ballots_211 : decode cL_ballots 211 = .ok (.goto 4, 3) := by decide +kernel
theorem dL_ballots_214 : decode cL_ballots 214 = .ok (.iconst 0, 1) := by decide +kernel
theorem dL_ballots_215 : decode cL_ballots 215 = .ok (.ireturn, 1) := by decide +kernel
theorem dL_ballots_216 : decode cL_ballots 216 = .ok (.iload 6, 2) := by decide +kernel
theorem dL_ballots_218 : decode cL_ballots 218 = .ok (.iload 7, 2) := by decide +kernel
theorem dL_ballots_220 : decode cL_ballots 220 = .ok (.if_icmp .le 44, 3) := by decide +kernel
theorem dL_ballots_223 : decode cL_ballots 223 = .ok (.iload 12, 2) := by decide +kernel
theorem dL_ballots_225 : decode cL_ballots 225 = .ok (.iload 10, 2) := by decide +kernel
theorem dL_ballots_227 : decode cL_ballots 227 = .ok (.if_icmp .ne 33, 3) := by decide +kernel
theorem dL_ballots_230 : decode cL_ballots 230 = .ok (.aload_n 0, 1) := by decide +kernel
theorem dL_ballots_231 : decode cL_ballots 231 = .ok (.iload_n 3, 1) := by decide +kernel
theorem dL_ballots_232 : decode cL_ballots 232 = .ok (.iconst 1, 1) := by decide +kernel
theorem dL_ballots_233 : decode cL_ballots 233 = .ok (.invokevirtual 19, 3) := by decide +kernel
theorem dL_ballots_236 : decode cL_ballots 236 = .ok (.iload 6, 2) := by decide +kernel
theorem dL_ballots_238 : decode cL_ballots 238 = .ok (.if_icmp .ne 22, 3) := by decide +kernel
theorem dL_ballots_241 : decode cL_ballots 241 = .ok (.aload_n 0, 1) := by decide +kernel
theorem dL_ballots_242 : decode cL_ballots 242 = .ok (.iload_n 2, 1) := by decide +kernel
theorem dL_ballots_243 : decode cL_ballots 243 = .ok (.iconst 2, 1) := by decide +kernel
theorem dL_ballots_244 : decode cL_ballots 244 = .ok (.invokevirtual 29, 3) := by decide +kernel
theorem dL_ballots_247 : decode cL_ballots 247 = .ok (.iload 8, 2) := by decide +kernel
theorem dL_ballots_249 : decode cL_ballots 249 = .ok (.iconst 1, 1) := by decide +kernel
theorem dL_ballots_250 : decode cL_ballots 250 = .ok (.iload_n 3, 1) := by decide +kernel
theorem dL_ballots_251 : decode cL_ballots 251 = .ok (.ishl, 1) := by decide +kernel
theorem dL_ballots_252 : decode cL_ballots 252 = .ok (.ior, 1) := by decide +kernel
theorem dL_ballots_253 : decode cL_ballots 253 = .ok (.if_icmp .ne 7, 3) := by decide +kernel
theorem dL_ballots_256 : decode cL_ballots 256 = .ok (.iconst 1, 1) := by decide +kernel
theorem dL_ballots_257 : decode cL_ballots 257 = .ok (.goto 57, 3) := by decide +kernel
theorem dL_ballots_260 : decode cL_ballots 260 = .ok (.iconst 0, 1) := by decide +kernel
theorem dL_ballots_261 : decode cL_ballots 261 = .ok (.goto 53, 3) := by decide +kernel
theorem dL_ballots_264 : decode cL_ballots 264 = .ok (.iload 12, 2) := by decide +kernel
theorem dL_ballots_266 : decode cL_ballots 266 = .ok (.bipush 100, 2) := by decide +kernel
theorem dL_ballots_268 : decode cL_ballots 268 = .ok (.iload 7, 2) := by decide +kernel
theorem dL_ballots_270 : decode cL_ballots 270 = .ok (.iadd, 1) := by decide +kernel
theorem dL_ballots_271 : decode cL_ballots 271 = .ok (.if_icmp .ne 42, 3) := by decide +kernel
theorem dL_ballots_274 : decode cL_ballots 274 = .ok (.aload_n 0, 1) := by decide +kernel
theorem dL_ballots_275 : decode cL_ballots 275 = .ok (.bipush 6, 2) := by decide +kernel
theorem dL_ballots_277 : decode cL_ballots 277 = .ok (.invokevirtual 13, 3) := by decide +kernel
theorem dL_ballots_280 : decode cL_ballots 280 = .ok (.iload 11, 2) := by decide +kernel
theorem dL_ballots_282 : decode cL_ballots 282 = .ok (.iconst 1, 1) := by decide +kernel
theorem dL_ballots_283 : decode cL_ballots 283 = .ok (.iadd, 1) := by decide +kernel
theorem dL_ballots_284 : decode cL_ballots 284 = .ok (.if_icmp .ne 29, 3) := by decide +kernel
theorem dL_ballots_287 : decode cL_ballots 287 = .ok (.aload_n 0, 1) := by decide +kernel
theorem dL_ballots_288 : decode cL_ballots 288 = .ok (.iload_n 2, 1) := by decide +kernel
theorem dL_ballots_289 : decode cL_ballots 289 = .ok (.iconst 1, 1) := by decide +kernel
theorem dL_ballots_290 : decode cL_ballots 290 = .ok (.invokevirtual 29, 3) := by decide +kernel
theorem dL_ballots_293 : decode cL_ballots 293 = .ok (.iload 7, 2) := by decide +kernel
theorem dL_ballots_295 : decode cL_ballots 295 = .ok (.if_icmp .lt 18, 3) := by decide +kernel
theorem dL_ballots_298 : decode cL_ballots 298 = .ok (.aload_n 0, 1) := by decide +kernel
theorem dL_ballots_299 : decode cL_ballots 299 = .ok (.iload_n 2, 1) := by decide +kernel
theorem dL_ballots_300 : decode cL_ballots 300 = .ok (.iconst 2, 1) := by decide +kernel
theorem dL_ballots_301 : decode cL_ballots 301 = .ok (.invokevirtual 29, 3) := by decide +kernel
theorem dL_ballots_304 : decode cL_ballots 304 = .ok (.iload 8, 2) := by decide +kernel
theorem dL_ballots_306 : decode cL_ballots 306 = .ok (.if_icmp .ne 7, 3) := by decide +kernel
theorem dL_ballots_309 : decode cL_ballots 309 = .ok (.iconst 1, 1) := by decide +kernel
theorem dL_ballots_310 : decode cL_ballots 310 = .ok (.goto 4, 3) := by decide +kernel
theorem dL_ballots_313 : decode cL_ballots 313 = .ok (.iconst 0, 1) := by decide +kernel
theorem dL_ballots_314 : decode cL_ballots 314 = .ok (.ireturn, 1) := by decide +kernel
theorem dL_ballots_315 : decode cL_ballots 315 = .ok (.iload_n 1, 1) := by decide +kernel
theorem dL_ballots_316 : decode cL_ballots 316 = .ok (.bipush 6, 2) := by decide +kernel
theorem dL_ballots_318 : decode cL_ballots 318 = .ok (.if_icmp .ge 174, 3) := by decide +kernel
theorem dL_ballots_321 : decode cL_ballots 321 = .ok (.iload 5, 2) := by decide +kernel
theorem dL_ballots_323 : decode cL_ballots 323 = .ok (.bipush 7, 2) := by decide +kernel
theorem dL_ballots_325 : decode cL_ballots 325 = .ok (.iand, 1) := by decide +kernel
theorem dL_ballots_326 : decode cL_ballots 326 = .ok (.ifCond .ne 18, 3) := by decide +kernel
theorem dL_ballots_329 : decode cL_ballots 329 = .ok (.bipush 101, 2) := by decide +kernel
theorem dL_ballots_331 : decode cL_ballots 331 = .ok (.iload 5, 2) := by decide +kernel
theorem dL_ballots_333 : decode cL_ballots 333 = .ok (.iconst 3, 1) := by decide +kernel
theorem dL_ballots_334 : decode cL_ballots 334 = .ok (.ishr, 1) := by decide +kernel
theorem dL_ballots_335 : decode cL_ballots 335 = .ok (.bipush 63, 2) := by decide +kernel
theorem dL_ballots_337 : decode cL_ballots 337 = .ok (.invokestatic 49, 3) := by decide +kernel
theorem dL_ballots_340 : decode cL_ballots 340 = .ok (.iadd, 1) := by decide +kernel
theorem dL_ballots_341 : decode cL_ballots 341 = .ok (.goto 14, 3) := by decide +kernel
theorem dL_ballots_344 : decode cL_ballots 344 = .ok (.iconst 1, 1) := by decide +kernel
theorem dL_ballots_345 : decode cL_ballots 345 = .ok (.iload 5, 2) := by decide +kernel
theorem dL_ballots_347 : decode cL_ballots 347 = .ok (.iconst 3, 1) := by decide +kernel
theorem dL_ballots_348 : decode cL_ballots 348 = .ok (.ishr, 1) := by decide +kernel
theorem dL_ballots_349 : decode cL_ballots 349 = .ok (.bipush 99, 2) := by decide +kernel
theorem dL_ballots_351 : decode cL_ballots 351 = .ok (.invokestatic 49, 3) := by decide +kernel
theorem dL_ballots_354 : decode cL_ballots 354 = .ok (.iadd, 1) := by decide +kernel
theorem dL_ballots_355 : decode cL_ballots 355 = .ok (.istore 10, 2) := by decide +kernel
theorem dL_ballots_357 : decode cL_ballots 357 = .ok (.aload_n 0, 1) := by decide +kernel
