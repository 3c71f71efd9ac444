/-! names of the law -/
theorem dL_others_246 : decode cL_others 246 = .ok (.bipush 6, 2) := by decide +kernel
theorem dL_others_248 : decode cL_others 248 = .ok (.invokestatic 49, 3) := by decide +kernel
theorem dL_others_251 : decode cL_others 251 = .ok (.iadd, 1) := by decide +kernel
theorem dL_others_252 : decode cL_others 252 = .ok (.istore 8, 2) := by decide +kernel
theorem dL_others_254 : decode cL_others 254 = .ok (.aload_n 0, 1) := by decide +kernel
theorem dL_others_255 : decode cL_others 255 = .ok (.iload 6, 2) := by decide +kernel
theorem dL_others_257 : decode cL_others 257 = .ok (.iload 7, 2) := by decide +kernel
theorem dL_others_259 : decode cL_others 259 = .ok (.iload 8, 2) := by decide +kernel
theorem dL_others_261 : decode cL_others 261 = .ok (.iconst 0, 1) := by decide +kernel
theorem dL_others_262 : decode cL_others 262 = .ok (.invokevirtual 65, 3) := by decide +kernel
theorem dL_others_265 : decode cL_others 265 = .ok (.istore 9, 2) := by decide +kernel
theorem dL_others_267 : decode cL_others 267 = .ok (.aload_n 0, 1) := by decide +kernel
theorem dL_others_268 : decode cL_others 268 = .ok (.iload 6, 2) := by decide +kernel
theorem dL_others_270 : decode cL_others 270 = .ok (.iload 7, 2) := by decide +kernel
theorem dL_others_272 : decode cL_others 272 = .ok (.iload 8, 2) := by decide +kernel
theorem dL_others_274 : decode cL_others 274 = .ok (.iconst 1, 1) := by decide +kernel
theorem dL_others_275 : decode cL_others 275 = .ok (.invokevirtual 65, 3) := by decide +kernel
theorem dL_others_278 : decode cL_others 278 = .ok (.istore 10, 2) := by decide +kernel
theorem dL_others_280 : decode cL_others 280 = .ok (.iload 7, 2) := by decide +kernel
theorem dL_others_282 : decode cL_others 282 = .ok (.iload 8, 2) := by decide +kernel
theorem dL_others_284 : decode cL_others 284 = .ok (.iadd, 1) := by decide +kernel
theorem dL_others_285 : decode cL_others 285 = .ok (.iload 6, 2) := by decide +kernel
theorem dL_others_287 : decode cL_others 287 = .ok (.invokestatic 38, 3) := by decide +kernel
theorem dL_others_290 : decode cL_others 290 = .ok (.if_icmp .le 37, 3) := by decide +kernel
theorem dL_others_293 : decode cL_others 293 = .ok (.iload 9, 2) := by decide +kernel
theorem dL_others_295 : decode cL_others 295 = .ok (.bipush (-5), 2) := by decide +kernel
theorem dL_others_297 : decode cL_others 297 = .ok (.if_icmp .ne 28, 3) := by decide +kernel
theorem dL_others_300 : decode cL_others 300 = .ok (.iload 10, 2) := by decide +kernel
theorem dL_others_302 : decode cL_others 302 = .ok (.bipush (-5), 2) := by decide +kernel
theorem dL_others_304 : decode cL_others 304 = .ok (.if_icmp .ne 21, 3) := by decide +kernel
theorem dL_others_307 : decode cL_others 307 = .ok (.aload_n 0, 1) := by decide +kernel
theorem dL_others_308 : decode cL_others 308 = .ok (.bipush 64, 2) := by decide +kernel
theorem dL_others_310 : decode cL_others 310 = .ok (.iconst 1, 1) := by decide +kernel
theorem dL_others_311 : decode cL_others 311 = .ok (.iconst 1, 1) := by decide +kernel
theorem dL_others_312 : decode cL_others 312 = .ok (.iconst 0, 1) := by decide +kernel
theorem dL_others_313 : decode cL_others 313 = .ok (.invokevirtual 65, 3) := by decide +kernel
theorem dL_others_316 : decode cL_others 316 = .ok (.bipush (-2), 2) := by decide +kernel
theorem dL_others_318 : decode cL_others 318 = .ok (.if_icmp .ne 7, 3) := by decide +kernel
theorem dL_others_321 : decode cL_others 321 = .ok (.iconst 1, 1) := by decide +kernel
theorem dL_others_322 : decode cL_others 322 = .ok (.goto 4, 3) := by decide +kernel
theorem dL_others_325 : decode cL_others 325 = .ok (.iconst 0, 1) := by decide +kernel
theorem dL_others_326 : decode cL_others 326 = .ok (.ireturn, 1) := by decide +kernel
theorem dL_others_327 : decode cL_others 327 = .ok (.iload 9, 2) := by decide +kernel
theorem dL_others_329 : decode cL_others 329 = .ok (.ifCond .le 53, 3) := by decide +kernel
theorem dL_others_332 : decode cL_others 332 = .ok (.iload 10, 2) := by decide +kernel
theorem dL_others_334 : decode cL_others 334 = .ok (.ifCond .le 48, 3) := by decide +kernel
theorem dL_others_337 : decode cL_others 337 = .ok (.iload 9, 2) := by decide +kernel
theorem dL_others_339 : decode cL_others 339 = .ok (.iload 10, 2) := by decide +kernel
theorem dL_others_341 : decode cL_others 341 = .ok (.iand, 1) := by decide +kernel
theorem dL_others_342 : decode cL_others 342 = .ok (.ifCond .ne 40, 3) := by decide +kernel
theorem dL_others_345 : decode cL_others 345 = .ok (.iload 9, 2) := by decide +kernel
theorem dL_others_347 : decode cL_others 347 = .ok (.iload 10, 2) := by decide +kernel
theorem dL_others_349 : decode cL_others 349 = .ok (.ior, 1) := by decide +kernel
theorem dL_others_350 : decode cL_others 350 = .ok (.iload 6, 2) := by decide +kernel
theorem dL_others_352 : decode cL_others 352 = .ok (.iconst (-1), 1) := by decide +kernel
theorem dL_others_353 : decode cL_others 353 = .ok (.ixor, 1) := by decide +kernel
theorem dL_others_354 : decode cL_others 354 = .ok (.iand, 1) := by decide +kernel
theorem dL_others_355 : decode cL_others 355 = .ok (.ifCond .ne 27, 3) := by decide +kernel
theorem dL_others_358 : decode cL_others 358 = .ok (.iload 9, 2) := by decide +kernel
theorem dL_others_360 : decode cL_others 360 = .ok (.invokestatic 38, 3) := by decide +kernel
theorem dL_others_363 : decode cL_others 363 = .ok (.iload 7, 2) := by decide +kernel
theorem dL_others_365 : decode cL_others 365 = .ok (.if_icmp .ne 17, 3) := by decide +kernel
theorem dL_others_368 : decode cL_others 368 = .ok (.iload 10, 2) := by decide +kernel
theorem dL_others_370 : decode cL_others 370 = .ok (.invokestatic 38, 3) := by decide +kernel
theorem dL_others_373 : decode cL_others 373 = .ok (.iload 8, 2) := by decide +kernel
theorem dL_others_375 : decode cL_others 375 = .ok (.if_icmp .ne 7, 3) := by decide +kernel
theorem dL_others_378 : decode cL_others 378 = .ok (.iconst 1, 1) := by decide +kernel
theorem dL_others_379 : decode cL_others 379 = .ok (.goto 4, 3) := by decide +kernel
theorem dL_others_382 : decode cL_others 382 = .ok (.iconst 0, 1) := by decide +kernel
theorem dL_others_383 : decode cL_others 383 = .ok (.ireturn, 1) := by decide +kernel
set_option maxRecDepth 20000 in
theorem ggL_performs_X4_clearText : GoodIn wsL_performs wsX4_clearText := goodIn_r _ [5, 6, 7, 8, 9, 10, 11, 12, 388, 389, 390, 391, 392, 393, 394, 395, 396, 397, 398, 399] (by decide +kernel) (by decide +kernel)
set_option maxRecDepth 20000 in
theorem gL_performs_X4_clearText : GoodIn wsL_performs (wsV RL 69 RX4 yX4_clearText wsX4_clearText) := goodIn_app (goodIn_of _ (by decide +kernel)) ggL_performs_X4_clearText
set_option maxRecDepth 20000 in
theorem ggL_performs_X4_type : GoodIn wsL_performs wsX4_type := goodIn_r _ [16, 6, 17, 18, 19, 10, 20, 12, 21, 388, 389, 390, 391, 392, 393, 394, 395, 396, 397, 398, 399] (by decide +kernel) (by decide +kernel)
set_option maxRecDepth 20000 in
theorem gL_performs_X4_type : GoodIn wsL_performs (wsV RL 73 RX4 yX4_type wsX4_type) := goodIn_app (goodIn_of _ (by decide +kernel)) ggL_performs_X4_type
set_option maxRecDepth 20000 in
theorem ggL_performs_X4_proposer : GoodIn wsL_performs wsX4_proposer := goodIn_r _ [25, 26, 27, 28, 29, 30, 31, 4, 32, 33, 34, 35, 36, 37, 38, 39, 40, 388, 389, 390, 391, 392, 393, 394, 395, 396, 397, 400, 401, 402, 403, 404, 405, 406, 407, 408, 409, 410, 411, 412, 413, 414, 415] (by decide +kernel) (by decide +kernel)
set_option maxRecDepth 20000 in
theorem gL_performs_X4_proposer : GoodIn wsL_performs (wsV RL 29 RX4 yX4_proposer wsX4_proposer) := goodIn_app (goodIn_of _ (by decide +kernel)) ggL_performs_X4_proposer
set_option maxRecDepth 20000 in
theorem ggL_performs_X4_acceptor : GoodIn wsL_performs wsX4_acceptor := goodIn_r _ [44, 26, 45, 46, 47, 48, 4, 49, 50, 51, 52, 53, 54, 55, 36, 56, 57, 39, 40, 388, 389, 390, 391, 392, 393, 394, 395, 396, 397, 400, 401, 402, 403, 404, 405, 406, 407, 408, 409, 410, 411, 412, 413, 414, 415] (by decide +kernel) (by decide +kernel)
set_option maxRecDepth 20000 in
theorem gL_performs_X4_acceptor : GoodIn wsL_performs (wsV RL 19 RX4 yX4_acceptor wsX4_acceptor) := goodIn_app (goodIn_of _ (by decide +kernel)) ggL_performs_X4_acceptor
set_option maxRecDepth 20000 in
theorem ggL_performs_X4_count : GoodIn wsL_performs wsX4_count := goodIn_r _ [61, 26, 62, 63, 45, 64, 65, 66, 67, 68, 69, 70, 71, 6, 72, 73, 74, 75, 36, 76, 77, 78, 79, 80, 81, 388, 389, 390, 391, 392, 393, 394, 395, 396, 397, 400, 401, 402, 403, 404, 405, 406, 407, 408, 409, 410, 411, 412, 413, 414, 415, 416, 417, 418, 398, 399] (by decide +kernel) (by decide +kernel)
