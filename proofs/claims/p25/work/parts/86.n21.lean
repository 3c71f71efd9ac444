/-! names of the law -/
set_option maxRecDepth 20000 in
theorem gL_law_L_ballots : GoodIn wsL_law (va_wsS RL 98 yL_ballots wsL_ballots) := goodIn_app (goodIn_of _ (by decide +kernel)) ggL_law_L_ballots
set_option maxRecDepth 20000 in
theorem gq_others_wsL_others_r1 : GoodIn wsL_law wsL_others_r1 := goodIn_r _ [396, 397, 398, 2, 399, 12, 380, 400, 401, 235, 236, 402, 237, 238, 403, 248, 249, 11, 250, 33, 229, 230, 451, 452] (by decide +kernel) (by decide +kernel)
set_option maxRecDepth 20000 in
theorem gq_others_wsL_others_r2 : GoodIn wsL_law wsL_others_r2 := goodIn_r _ [453, 454, 17, 93, 94, 95, 16, 96, 48, 69, 70, 71, 72, 73, 29, 30, 74, 75, 76, 32, 34, 35, 36, 37] (by decide +kernel) (by decide +kernel)
set_option maxRecDepth 20000 in
theorem gq_others_wsL_others_r3 : GoodIn wsL_law wsL_others_r3 := goodIn_r _ [38, 39, 40, 41, 42, 77, 78, 79, 80, 81, 82, 83, 84, 85, 86, 87, 455, 308, 309, 310, 280, 281, 282, 283] (by decide +kernel) (by decide +kernel)
set_option maxRecDepth 20000 in
theorem gq_others_wsL_others_r4 : GoodIn wsL_law wsL_others_r4 := goodIn_r _ [284, 285, 286, 102, 103, 104, 105, 106, 107, 108, 109, 68, 110, 375, 376, 377, 378, 352, 379, 381, 382, 383, 384, 21] (by decide +kernel) (by decide +kernel)
set_option maxRecDepth 20000 in
theorem gq_others_wsL_others_r5 : GoodIn wsL_law wsL_others_r5 := goodIn_r _ [385, 98, 99, 100, 101, 386, 387, 388, 389, 456, 457, 368, 458, 404, 405, 406, 407, 408, 409, 353, 255, 256, 410, 334] (by decide +kernel) (by decide +kernel)
set_option maxRecDepth 20000 in
theorem gq_others_wsL_others_r6 : GoodIn wsL_law wsL_others_r6 := goodIn_r _ [335, 336, 337, 338, 339, 340, 341, 267, 247, 342, 343, 344, 345, 371, 372, 373, 374, 459, 460, 461, 462, 463, 464, 465] (by decide +kernel) (by decide +kernel)
set_option maxRecDepth 20000 in
theorem gq_others_wsL_others_r7 : GoodIn wsL_law wsL_others_r7 := goodIn_r _ [466, 467, 468, 469] (by decide +kernel) (by decide +kernel)
set_option maxRecDepth 20000 in
theorem gq_others_wsX40 : GoodIn wsL_law wsX40 := goodIn_r _ [495, 496, 497, 498, 499, 500, 501, 502, 503, 504] (by decide +kernel) (by decide +kernel)
set_option maxRecDepth 20000 in
theorem gq_others_wsX20 : GoodIn wsL_law wsX20 := goodIn_r _ [505, 506, 507, 508, 509, 510, 511, 512, 513, 514, 515, 516, 517, 518, 519, 520] (by decide +kernel) (by decide +kernel)
set_option maxRecDepth 20000 in
theorem gq_others_wsX00 : GoodIn wsL_law wsX00 := goodIn_r _ [521, 522, 523] (by decide +kernel) (by decide +kernel)
