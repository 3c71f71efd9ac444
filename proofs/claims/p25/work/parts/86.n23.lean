/-! names of the law -/
set_option maxRecDepth 20000 in
theorem gq_performs_wsL_performs_r7 : GoodIn wsL_law wsL_performs_r7 := goodIn_r _ [171, 172, 173, 174, 175, 176, 177, 178, 179, 180, 181, 182, 183, 184, 185, 186, 187, 188, 189, 190, 191, 192, 193, 194] (by decide +kernel) (by decide +kernel)
set_option maxRecDepth 20000 in
theorem gq_performs_wsL_performs_r8 : GoodIn wsL_law wsL_performs_r8 := goodIn_r _ [195, 196, 197, 198, 199, 200, 59, 201, 202, 203, 204, 205, 206, 207, 208, 209, 210, 211, 93, 94, 95, 16, 96, 48] (by decide +kernel) (by decide +kernel)
set_option maxRecDepth 20000 in
theorem gq_performs_wsL_performs_r9 : GoodIn wsL_law wsL_performs_r9 := goodIn_r _ [69, 70, 71, 72, 73, 29, 30, 74, 75, 76, 32, 34, 35, 36, 37, 39, 40, 42, 77, 78, 79, 80, 84, 85] (by decide +kernel) (by decide +kernel)
set_option maxRecDepth 20000 in
theorem gq_performs_wsL_performs_r10 : GoodIn wsL_law wsL_performs_r10 := goodIn_r _ [86, 87, 212, 213, 214, 215, 216, 217, 218, 219, 222, 223, 224, 225, 226, 227, 228, 231, 232, 233, 234, 239, 240, 241] (by decide +kernel) (by decide +kernel)
set_option maxRecDepth 20000 in
theorem gq_performs_wsL_performs_r11 : GoodIn wsL_law wsL_performs_r11 := goodIn_r _ [242, 243, 244, 245, 246, 247, 251, 252, 253, 254, 255, 256, 257, 258, 259, 260, 261, 262, 263, 264, 265, 266, 267, 268] (by decide +kernel) (by decide +kernel)
set_option maxRecDepth 20000 in
theorem gq_performs_wsL_performs_r12 : GoodIn wsL_law wsL_performs_r12 := goodIn_r _ [269, 270, 271, 272, 273, 274, 275, 276, 277, 278, 279, 280, 281, 282, 283, 284, 285, 286, 287, 288, 289, 290, 291, 292] (by decide +kernel) (by decide +kernel)
set_option maxRecDepth 20000 in
theorem gq_performs_wsL_performs_r13 : GoodIn wsL_law wsL_performs_r13 := goodIn_r _ [293, 294, 295, 296, 297, 298, 299, 300, 301, 302, 303, 304, 305, 306, 307, 308, 309, 310, 311, 312, 313, 314, 315, 316] (by decide +kernel) (by decide +kernel)
set_option maxRecDepth 20000 in
theorem gq_performs_wsL_performs_r14 : GoodIn wsL_law wsL_performs_r14 := goodIn_r _ [317, 318, 319, 320, 321, 322, 323, 324, 325, 326, 327, 328, 329, 106, 107, 108, 109, 68, 110, 330, 331, 332, 333, 390] (by decide +kernel) (by decide +kernel)
set_option maxRecDepth 20000 in
theorem gq_performs_wsL_performs_r15 : GoodIn wsL_law wsL_performs_r15 := goodIn_r _ [391, 368, 392, 393, 394, 395, 404, 405, 406, 407, 408, 409, 353, 410, 423, 424, 425, 426, 427, 354, 355, 356, 357, 428] (by decide +kernel) (by decide +kernel)
set_option maxRecDepth 20000 in
theorem gq_performs_wsL_performs_r16 : GoodIn wsL_law wsL_performs_r16 := goodIn_r _ [429, 346, 347, 348, 349, 350, 351, 358, 359, 360, 60, 61, 62, 63, 64, 65, 66, 67, 361, 362, 363, 364, 365, 102] (by decide +kernel) (by decide +kernel)
