/-! names of the law -/
theorem dL_proposers_275 : decode cL_proposers 275 = .ok (.iload 5, 2) := by decide +kernel
theorem dL_proposers_277 : decode cL_proposers 277 = .ok (.iconst 0, 1) := by decide +kernel
theorem dL_proposers_278 : decode cL_proposers 278 = .ok (.invokevirtual 35, 3) := by decide +kernel
theorem dL_proposers_281 : decode cL_proposers 281 = .ok (.if_icmp .eq 5, 3) := by decide +kernel
theorem dL_proposers_284 : decode cL_proposers 284 = .ok (.iconst 0, 1) := by decide +kernel
theorem dL_proposers_285 : decode cL_proposers 285 = .ok (.ireturn, 1) := by decide +kernel
theorem dL_proposers_286 : decode cL_proposers 286 = .ok (.iinc 5 1, 3) := by decide +kernel
theorem dL_proposers_289 : decode cL_proposers 289 = .ok (.goto (-198), 3) := by decide +kernel
theorem dL_proposers_292 : decode cL_proposers 292 = .ok (.aload_n 0, 1) := by decide +kernel
theorem dL_proposers_293 : decode cL_proposers 293 = .ok (.iload_n 1, 1) := by decide +kernel
theorem dL_proposers_294 : decode cL_proposers 294 = .ok (.iconst 3, 1) := by decide +kernel
theorem dL_proposers_295 : decode cL_proposers 295 = .ok (.invokevirtual 29, 3) := by decide +kernel
theorem dL_proposers_298 : decode cL_proposers 298 = .ok (.iload 4, 2) := by decide +kernel
theorem dL_proposers_300 : decode cL_proposers 300 = .ok (.if_icmp .eq 5, 3) := by decide +kernel
theorem dL_proposers_303 : decode cL_proposers 303 = .ok (.iconst 0, 1) := by decide +kernel
theorem dL_proposers_304 : decode cL_proposers 304 = .ok (.ireturn, 1) := by decide +kernel
theorem dL_proposers_305 : decode cL_proposers 305 = .ok (.iinc 1 1, 3) := by decide +kernel
theorem dL_proposers_308 : decode cL_proposers 308 = .ok (.goto (-306), 3) := by decide +kernel
theorem dL_proposers_311 : decode cL_proposers 311 = .ok (.aload_n 0, 1) := by decide +kernel
theorem dL_proposers_312 : decode cL_proposers 312 = .ok (.iconst 3, 1) := by decide +kernel
theorem dL_proposers_313 : decode cL_proposers 313 = .ok (.iconst 0, 1) := by decide +kernel
theorem dL_proposers_314 : decode cL_proposers 314 = .ok (.invokevirtual 29, 3) := by decide +kernel
theorem dL_proposers_317 : decode cL_proposers 317 = .ok (.iconst (-1), 1) := by decide +kernel
theorem dL_proposers_318 : decode cL_proposers 318 = .ok (.if_icmp .ne 18, 3) := by decide +kernel
theorem dL_proposers_321 : decode cL_proposers 321 = .ok (.aload_n 0, 1) := by decide +kernel
theorem dL_proposers_322 : decode cL_proposers 322 = .ok (.iconst 0, 1) := by decide +kernel
theorem dL_proposers_323 : decode cL_proposers 323 = .ok (.iconst 4, 1) := by decide +kernel
theorem dL_proposers_324 : decode cL_proposers 324 = .ok (.invokevirtual 29, 3) := by decide +kernel
theorem dL_proposers_327 : decode cL_proposers 327 = .ok (.bipush (-2), 2) := by decide +kernel
theorem dL_proposers_329 : decode cL_proposers 329 = .ok (.if_icmp .ne 7, 3) := by decide +kernel
theorem dL_proposers_332 : decode cL_proposers 332 = .ok (.iconst 1, 1) := by decide +kernel
theorem dL_proposers_333 : decode cL_proposers 333 = .ok (.goto 4, 3) := by decide +kernel
theorem dL_proposers_336 : decode cL_proposers 336 = .ok (.iconst 0, 1) := by decide +kernel
theorem dL_proposers_337 : decode cL_proposers 337 = .ok (.ireturn, 1) := by decide +kernel
set_option maxRecDepth 20000 in
theorem ggL_ballots_X4_proposer : GoodIn wsL_ballots wsX4_proposer := goodIn_r _ [5, 6, 7, 8, 9, 10, 11, 4, 12, 13, 14, 15, 16, 17, 18, 19, 20, 234, 235, 236, 237, 238, 239, 240, 241, 242, 243, 244, 245, 246, 247, 248, 249, 250, 251, 252, 253, 254, 255, 256, 257, 258, 259] (by decide +kernel) (by decide +kernel)
set_option maxRecDepth 20000 in
theorem gL_ballots_X4_proposer : GoodIn wsL_ballots (wsV RL 29 RX4 yX4_proposer wsX4_proposer) := goodIn_app (goodIn_of _ (by decide +kernel)) ggL_ballots_X4_proposer
set_option maxRecDepth 20000 in
theorem ggL_ballots_X4_acceptor : GoodIn wsL_ballots wsX4_acceptor := goodIn_r _ [24, 6, 25, 26, 27, 28, 4, 29, 30, 31, 32, 33, 34, 35, 16, 36, 37, 19, 20, 234, 235, 236, 237, 238, 239, 240, 241, 242, 243, 244, 245, 246, 247, 248, 249, 250, 251, 252, 253, 254, 255, 256, 257, 258, 259] (by decide +kernel) (by decide +kernel)
set_option maxRecDepth 20000 in
theorem gL_ballots_X4_acceptor : GoodIn wsL_ballots (wsV RL 19 RX4 yX4_acceptor wsX4_acceptor) := goodIn_app (goodIn_of _ (by decide +kernel)) ggL_ballots_X4_acceptor
set_option maxRecDepth 20000 in
theorem ggL_ballots_X4_prepare : GoodIn wsL_ballots wsX4_prepare := goodIn_r _ [41, 42, 6, 43, 44, 45, 46, 47, 48, 49, 50, 51, 52, 16, 53, 54, 55, 56, 57, 58, 59, 37, 60, 61, 62, 63, 18, 64, 65, 66, 67, 68, 69, 70, 71, 72, 73, 74, 75, 76, 77, 78, 79, 80, 81, 82, 11, 4, 12, 83, 84, 85, 86, 87, 88, 89, 19, 20, 90, 91, 92, 93, 94, 95, 96, 97, 98, 99, 234, 235, 236, 237, 238, 239, 240, 241, 242, 243, 260, 261, 262, 244, 245, 246, 247, 248, 249, 250, 251, 252, 253, 254, 255, 256, 257, 258, 259] (by decide +kernel) (by decide +kernel)
set_option maxRecDepth 20000 in
theorem gL_ballots_X4_prepare : GoodIn wsL_ballots (wsV RL 43 RX4 yX4_prepare wsX4_prepare) := goodIn_app (goodIn_of _ (by decide +kernel)) ggL_ballots_X4_prepare
set_option maxRecDepth 20000 in
theorem ggL_ballots_X4_count : GoodIn wsL_ballots wsX4_count := goodIn_r _ [103, 6, 104, 105, 25, 106, 72, 73, 74, 107, 108, 42, 109, 110, 111, 112, 113, 114, 16, 115, 66, 116, 117, 118, 119, 234, 235, 236, 237, 238, 239, 240, 241, 242, 243, 244, 245, 246, 247, 248, 249, 250, 251, 252, 253, 254, 255, 256, 257, 258, 259, 260, 261, 262, 263, 264] (by decide +kernel) (by decide +kernel)
set_option maxRecDepth 20000 in
theorem gL_ballots_X4_count : GoodIn wsL_ballots (wsV RL 13 RX4 yX4_count wsX4_count) := goodIn_app (goodIn_of _ (by decide +kernel)) ggL_ballots_X4_count
set_option maxRecDepth 20000 in
theorem ggL_ballots_X4_promise : GoodIn wsL_ballots wsX4_promise := goodIn_r _ [123, 42, 6, 43, 44, 45, 46, 47, 48, 49, 50, 51, 52, 16, 53, 54, 55, 56, 57, 58, 59, 37, 60, 61, 62, 63, 18, 64, 65, 66, 67, 68, 69, 70, 71, 72, 73, 74, 75, 76, 77, 78, 124, 125, 126, 127, 11, 4, 12, 28, 29, 31, 32, 128, 129, 130, 131, 87, 88, 89, 132, 133, 134, 135, 19, 20, 136, 34, 35, 36, 90, 91, 92, 93, 94, 95, 96, 97, 98, 99, 234, 235, 236, 237, 238, 239, 240, 241, 242, 243, 260, 261, 262, 244, 245, 246, 247, 248, 249, 250, 251, 252, 253, 254, 255, 256, 257, 258, 259] (by decide +kernel) (by decide +kernel)
set_option maxRecDepth 20000 in
theorem gL_ballots_X4_promise : GoodIn wsL_ballots (wsV RL 46 RX4 yX4_promise wsX4_promise) := goodIn_app (goodIn_of _ (by decide +kernel)) ggL_ballots_X4_promise
set_option maxRecDepth 20000 in
theorem ggL_ballots_L_low : GoodIn wsL_ballots wsL_low := goodIn_r _ [140, 141] (by decide +kernel) (by decide +kernel)
set_option maxRecDepth 20000 in
theorem gL_ballots_L_low : GoodIn wsL_ballots (va_wsS RL 49 yL_low wsL_low) := goodIn_app (goodIn_of _ (by decide +kernel)) ggL_ballots_L_low
set_option maxRecDepth 20000 in
theorem ggL_ballots_X4_proposed : GoodIn wsL_ballots wsX4_proposed := goodIn_r _ [145, 6, 146, 10, 11, 4, 12, 147, 148, 149, 150, 19, 20, 151, 152, 153, 154, 155, 156, 16, 157, 158, 113, 114, 115, 66, 159, 160, 161, 162, 63, 64, 65, 163, 164, 165, 166, 31, 32, 167, 168, 169, 170, 87, 88, 73, 89, 171, 172, 173, 174, 175, 176, 177, 178, 179, 180, 181, 182, 183, 184, 185, 55, 71, 72, 74, 234, 235, 236, 237, 238, 239, 240, 241, 242, 243, 244, 245, 246, 247, 248, 249, 250, 251, 252, 253, 254, 255, 256, 257, 258, 259] (by decide +kernel) (by decide +kernel)
set_option maxRecDepth 20000 in
theorem gL_ballots_X4_proposed : GoodIn wsL_ballots (wsV RL 32 RX4 yX4_proposed wsX4_proposed) := goodIn_app (goodIn_of _ (by decide +kernel)) ggL_ballots_X4_proposed
set_option maxRecDepth 20000 in
theorem ggL_ballots_X4_propose : GoodIn wsL_ballots wsX4_propose := goodIn_r _ [189, 42, 6, 43, 44, 45, 46, 47, 48, 49, 50, 51, 52, 16, 53, 54, 55, 56, 57, 58, 59, 37, 60, 61, 62, 63, 18, 64, 65, 66, 67, 68, 69, 70, 71, 72, 73, 74, 75, 76, 77, 78, 190, 191, 192, 193, 11, 4, 12, 148, 149, 194, 195, 196, 197, 198, 199, 200, 155, 156, 157, 158, 113, 114, 115, 201, 168, 169, 170, 87, 88, 89, 163, 164, 165, 166, 171, 172, 173, 174, 175, 176, 177, 178, 179, 180, 181, 182, 183, 184, 185, 19, 20, 202, 160, 161, 162, 31, 32, 90, 91, 92, 93, 94, 95, 96, 97, 98, 99, 234, 235, 236, 237, 238, 239, 240, 241, 242, 243, 260, 261, 262, 244, 245, 246, 247, 248, 249, 250, 251, 252, 253, 254, 255, 256, 257, 258, 259] (by decide +kernel) (by decide +kernel)
set_option maxRecDepth 20000 in
theorem gL_ballots_X4_propose : GoodIn wsL_ballots (wsV RL 52 RX4 yX4_propose wsX4_propose) := goodIn_app (goodIn_of _ (by decide +kernel)) ggL_ballots_X4_propose
set_option maxRecDepth 20000 in
theorem ggL_ballots_X4_slot : GoodIn wsL_ballots wsX4_slot := goodIn_r _ [206, 6, 207, 208, 104, 147, 148, 4, 149, 151, 152, 153, 154, 155, 156, 16, 157, 158, 113, 114, 115, 66, 209, 164, 165, 166, 210, 172, 173, 174, 175, 176, 177, 178, 179, 180, 181, 182, 183, 184, 185, 55, 71, 72, 73, 74, 211, 234, 235, 236, 237, 238, 239, 240, 241, 242, 243, 244, 245, 246, 247, 248, 249, 250, 251, 252, 253, 254, 255, 256, 257, 258, 259] (by decide +kernel) (by decide +kernel)
