/-! names of the law -/
set_option maxRecDepth 20000 in
theorem gL_law_X4_count : GoodIn wsL_law (wsV RL 13 RX4 yX4_count wsX4_count) := goodIn_app (goodIn_of _ (by decide +kernel)) ggL_law_X4_count
set_option maxRecDepth 20000 in
theorem ggL_law_L_digest : GoodIn wsL_law wsL_digest := goodIn_r _ [392, 393, 394, 395, 375, 376, 377, 2, 378, 12, 352, 379, 380, 381, 81, 82, 83, 382, 383, 17, 384, 21, 385, 98, 99, 100, 11, 101, 41, 386, 387, 388, 389, 396, 397, 398, 399, 400, 401, 235, 236, 402, 237, 238, 403, 248, 249, 250, 33, 229, 230, 404, 405, 406, 407, 408, 409, 353, 255, 256, 410, 411, 412, 413, 414, 415, 416, 417, 418, 220, 221, 419, 420, 421, 422, 38, 423, 424, 425, 426, 427, 354, 355, 356, 357, 264, 265, 266, 267, 428, 292, 293, 294, 37, 39, 40, 272, 273, 274, 275, 429, 269, 270, 271, 226, 227, 228, 276, 277, 278, 279, 280, 281, 282, 283, 284, 285, 286, 287, 288, 289, 290, 30, 80, 346, 347, 348, 349, 350, 351, 358, 359, 360, 495, 496, 497, 498, 499, 500, 501, 502, 503, 504, 505, 506, 507, 508, 509, 510, 511, 512, 513, 514, 515, 516, 517, 518, 519, 520, 521, 522, 523, 524, 525] (by decide +kernel) (by decide +kernel)
set_option maxRecDepth 20000 in
theorem gL_law_L_digest : GoodIn wsL_law (va_wsS RL 83 yL_digest wsL_digest) := goodIn_app (goodIn_of _ (by decide +kernel)) ggL_law_L_digest
set_option maxRecDepth 20000 in
theorem gq_ballots_wsL_ballots_r1 : GoodIn wsL_law wsL_ballots_r1 := goodIn_r _ [411, 412, 413, 2, 414, 12, 415, 416, 417, 418, 220, 221, 419, 420, 421, 11, 422, 38, 229, 230, 396, 397, 398, 399] (by decide +kernel) (by decide +kernel)
set_option maxRecDepth 20000 in
theorem gq_ballots_wsL_ballots_r2 : GoodIn wsL_law wsL_ballots_r2 := goodIn_r _ [380, 400, 401, 235, 236, 402, 237, 238, 403, 248, 249, 250, 33, 433, 434, 435, 436, 17, 93, 94, 95, 16, 96, 48] (by decide +kernel) (by decide +kernel)
set_option maxRecDepth 20000 in
theorem gq_ballots_wsL_ballots_r3 : GoodIn wsL_law wsL_ballots_r3 := goodIn_r _ [69, 70, 71, 72, 73, 29, 30, 74, 75, 76, 32, 34, 35, 36, 37, 39, 40, 41, 42, 77, 78, 79, 80, 81] (by decide +kernel) (by decide +kernel)
set_option maxRecDepth 20000 in
theorem gq_ballots_wsL_ballots_r4 : GoodIn wsL_law wsL_ballots_r4 := goodIn_r _ [82, 83, 84, 85, 86, 87, 437, 217, 218, 219, 222, 223, 224, 225, 226, 227, 228, 102, 103, 104, 105, 106, 107, 108] (by decide +kernel) (by decide +kernel)
set_option maxRecDepth 20000 in
theorem gq_ballots_wsL_ballots_r5 : GoodIn wsL_law wsL_ballots_r5 := goodIn_r _ [109, 68, 110, 375, 376, 377, 378, 352, 379, 381, 382, 383, 384, 21, 385, 98, 99, 100, 101, 386, 387, 388, 389, 361] (by decide +kernel) (by decide +kernel)
set_option maxRecDepth 20000 in
theorem gq_ballots_wsL_ballots_r6 : GoodIn wsL_law wsL_ballots_r6 := goodIn_r _ [362, 363, 364, 365, 232, 233, 234, 239, 240, 241, 242, 243, 244, 245, 246, 247, 371, 372, 368, 373, 374, 423, 424, 425] (by decide +kernel) (by decide +kernel)
set_option maxRecDepth 20000 in
theorem gq_ballots_wsL_ballots_r7 : GoodIn wsL_law wsL_ballots_r7 := goodIn_r _ [426, 427, 353, 255, 256, 410, 354, 355, 356, 357, 264, 265, 266, 267, 428, 292, 293, 294, 272, 273, 274, 275, 429, 269] (by decide +kernel) (by decide +kernel)
