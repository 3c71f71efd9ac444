/-! names of the law -/
set_option maxRecDepth 20000 in
theorem gL_law_L_slots : GoodIn wsL_law (va_wsS RL 109 yL_slots wsL_slots) := goodIn_app (goodIn_of _ (by decide +kernel)) ggL_law_L_slots
set_option maxRecDepth 20000 in
theorem gq_proposers_wsL_proposers_r1 : GoodIn wsL_law wsL_proposers_r1 := goodIn_r _ [411, 412, 413, 2, 414, 12, 415, 416, 417, 418, 220, 221, 419, 420, 421, 11, 422, 38, 229, 230, 396, 397, 398, 399] (by decide +kernel) (by decide +kernel)
set_option maxRecDepth 20000 in
theorem gq_proposers_wsL_proposers_r2 : GoodIn wsL_law wsL_proposers_r2 := goodIn_r _ [380, 400, 401, 235, 236, 402, 237, 238, 403, 248, 249, 250, 33, 423, 424, 425, 426, 427, 353, 255, 256, 410, 354, 355] (by decide +kernel) (by decide +kernel)
set_option maxRecDepth 20000 in
theorem gq_proposers_wsL_proposers_r3 : GoodIn wsL_law wsL_proposers_r3 := goodIn_r _ [356, 357, 264, 265, 266, 267, 99, 100, 101, 41, 428, 292, 293, 294, 37, 39, 40, 272, 273, 274, 275, 429, 269, 270] (by decide +kernel) (by decide +kernel)
set_option maxRecDepth 20000 in
theorem gq_proposers_wsL_proposers_r4 : GoodIn wsL_law wsL_proposers_r4 := goodIn_r _ [271, 226, 227, 82, 228, 276, 277, 278, 279, 280, 281, 282, 283, 284, 285, 286, 287, 288, 289, 290, 30, 80, 81, 83] (by decide +kernel) (by decide +kernel)
set_option maxRecDepth 20000 in
theorem gq_proposers_wsL_proposers_r5 : GoodIn wsL_law wsL_proposers_r5 := goodIn_r _ [375, 376, 377, 378, 352, 379, 381, 382, 383, 17, 384, 21, 385, 98, 386, 387, 388, 389, 346, 347, 348, 349, 350, 351] (by decide +kernel) (by decide +kernel)
set_option maxRecDepth 20000 in
theorem gq_proposers_wsL_proposers_r6 : GoodIn wsL_law wsL_proposers_r6 := goodIn_r _ [358, 359, 360, 456, 457, 368, 458] (by decide +kernel) (by decide +kernel)
set_option maxRecDepth 20000 in
theorem gq_proposers_wsX40 : GoodIn wsL_law wsX40 := goodIn_r _ [495, 496, 497, 498, 499, 500, 501, 502, 503, 504] (by decide +kernel) (by decide +kernel)
set_option maxRecDepth 20000 in
theorem gq_proposers_wsX20 : GoodIn wsL_law wsX20 := goodIn_r _ [505, 506, 507, 508, 509, 510, 511, 512, 513, 514, 515, 516, 517, 518, 519, 520] (by decide +kernel) (by decide +kernel)
set_option maxRecDepth 20000 in
theorem gq_proposers_wsX00 : GoodIn wsL_law wsX00 := goodIn_r _ [521, 522, 523] (by decide +kernel) (by decide +kernel)
set_option maxRecDepth 20000 in
theorem gq_proposers_wsX30 : GoodIn wsL_law wsX30 := goodIn_r _ [524, 525] (by decide +kernel) (by decide +kernel)
