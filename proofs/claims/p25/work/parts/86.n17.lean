/-! names of the law -/
set_option maxRecDepth 20000 in
theorem gL_law_X4_promise : GoodIn wsL_law (wsV RL 46 RX4 yX4_promise wsX4_promise) := goodIn_app (goodIn_of _ (by decide +kernel)) ggL_law_X4_promise
set_option maxRecDepth 20000 in
theorem ggL_law_L_cell : GoodIn wsL_law wsL_cell := goodIn_r _ [369, 370] (by decide +kernel) (by decide +kernel)
set_option maxRecDepth 20000 in
theorem gL_law_L_cell : GoodIn wsL_law (va_wsS RL 94 yL_cell wsL_cell) := goodIn_app (goodIn_of _ (by decide +kernel)) ggL_law_L_cell
set_option maxRecDepth 20000 in
theorem ggL_law_L_low : GoodIn wsL_law wsL_low := goodIn_r _ [373, 374] (by decide +kernel) (by decide +kernel)
set_option maxRecDepth 20000 in
theorem gL_law_L_low : GoodIn wsL_law (va_wsS RL 49 yL_low wsL_low) := goodIn_app (goodIn_of _ (by decide +kernel)) ggL_law_L_low
set_option maxRecDepth 20000 in
theorem ggL_law_X4_count : GoodIn wsL_law wsX4_count := goodIn_r _ [378, 12, 352, 379, 380, 381, 81, 82, 83, 382, 383, 17, 384, 21, 385, 98, 99, 100, 11, 101, 41, 386, 387, 388, 389, 495, 496, 497, 498, 499, 500, 501, 502, 503, 504, 505, 506, 507, 508, 509, 510, 511, 512, 513, 514, 515, 516, 517, 518, 519, 520, 521, 522, 523, 524, 525] (by decide +kernel) (by decide +kernel)
set_option maxRecDepth 20000 in
theorem gL_law_X4_count : GoodIn wsL_law (wsV RL 13 RX4 yX4_count wsX4_count) := goodIn_app (goodIn_of _ (by decide +kernel)) ggL_law_X4_count
set_option maxRecDepth 20000 in
theorem ggL_law_L_digest : GoodIn wsL_law wsL_digest := goodIn_r _ [392, 393, 394, 395, 375, 376, 377, 2, 378, 12, 352, 379, 380, 381, 81, 82, 83, 382, 383, 17, 384, 21, 385, 98, 99, 100, 11, 101, 41, 386, 387, 388, 389, 396, 397, 398, 399, 400, 401, 235, 236, 402, 237, 238, 403, 248, 249, 250, 33, 229, 230, 404, 405, 406, 407, 408, 409, 353, 255, 256, 410, 411, 412, 413, 414, 415, 416, 417, 418, 220, 221, 419, 420, 421, 422, 38, 423, 424, 425, 426, 427, 354, 355, 356, 357, 264, 265, 266, 267, 428, 292, 293, 294, 37, 39, 40, 272, 273, 274, 275, 429, 269, 270, 271, 226, 227, 228, 276, 277, 278, 279, 280, 281, 282, 283, 284, 285, 286, 287, 288, 289, 290, 30, 80, 346, 347, 348, 349, 350, 351, 358, 359, 360, 495, 496, 497, 498, 499, 500, 501, 502, 503, 504, 505, 506, 507, 508, 509, 510, 511, 512, 513, 514, 515, 516, 517, 518, 519, 520, 521, 522, 523, 524, 525] (by decide +kernel) (by decide +kernel)
set_option maxRecDepth 20000 in
theorem gL_law_L_digest : GoodIn wsL_law (va_wsS RL 83 yL_digest wsL_digest) := goodIn_app (goodIn_of _ (by decide +kernel)) ggL_law_L_digest
set_option maxRecDepth 20000 in
theorem ggL_law_L_ballots : GoodIn wsL_law wsL_ballots := goodIn_r _ [432, 411, 412, 413, 2, 414, 12, 415, 416, 417, 418, 220, 221, 419, 420, 421, 11, 422, 38, 229, 230, 396, 397, 398, 399, 380, 400, 401, 235, 236, 402, 237, 238, 403, 248, 249, 250, 33, 433, 434, 435, 436, 17, 93, 94, 95, 16, 96, 48, 69, 70, 71, 72, 73, 29, 30, 74, 75, 76, 32, 34, 35, 36, 37, 39, 40, 41, 42, 77, 78, 79, 80, 81, 82, 83, 84, 85, 86, 87, 437, 217, 218, 219, 222, 223, 224, 225, 226, 227, 228, 102, 103, 104, 105, 106, 107, 108, 109, 68, 110, 375, 376, 377, 378, 352, 379, 381, 382, 383, 384, 21, 385, 98, 99, 100, 101, 386, 387, 388, 389, 361, 362, 363, 364, 365, 232, 233, 234, 239, 240, 241, 242, 243, 244, 245, 246, 247, 371, 372, 368, 373, 374, 423, 424, 425, 426, 427, 353, 255, 256, 410, 354, 355, 356, 357, 264, 265, 266, 267, 428, 292, 293, 294, 272, 273, 274, 275, 429, 269, 270, 271, 276, 277, 278, 279, 280, 281, 282, 283, 284, 285, 286, 287, 288, 289, 290, 438, 439, 440, 441, 442, 252, 253, 254, 257, 258, 259, 260, 261, 262, 263, 268, 291, 346, 347, 348, 349, 350, 351, 358, 359, 360, 404, 405, 406, 407, 408, 409, 443, 444, 445, 446, 447, 296, 297, 298, 299, 300, 301, 302, 303, 304, 305, 306, 495, 496, 497, 498, 499, 500, 501, 502, 503, 504, 505, 506, 507, 508, 509, 510, 511, 512, 513, 514, 515, 516, 517, 518, 519, 520, 521, 522, 523, 524, 525] (by decide +kernel) (by decide +kernel)
set_option maxRecDepth 20000 in
theorem gL_law_L_ballots : GoodIn wsL_law (va_wsS RL 98 yL_ballots wsL_ballots) := goodIn_app (goodIn_of _ (by decide +kernel)) ggL_law_L_ballots
set_option maxRecDepth 20000 in
theorem ggL_law_L_others : GoodIn wsL_law wsL_others := goodIn_r _ [450, 396, 397, 398, 2, 399, 12, 380, 400, 401, 235, 236, 402, 237, 238, 403, 248, 249, 11, 250, 33, 229, 230, 451, 452, 453, 454, 17, 93, 94, 95, 16, 96, 48, 69, 70, 71, 72, 73, 29, 30, 74, 75, 76, 32, 34, 35, 36, 37, 38, 39, 40, 41, 42, 77, 78, 79, 80, 81, 82, 83, 84, 85, 86, 87, 455, 308, 309, 310, 280, 281, 282, 283, 284, 285, 286, 102, 103, 104, 105, 106, 107, 108, 109, 68, 110, 375, 376, 377, 378, 352, 379, 381, 382, 383, 384, 21, 385, 98, 99, 100, 101, 386, 387, 388, 389, 456, 457, 368, 458, 404, 405, 406, 407, 408, 409, 353, 255, 256, 410, 334, 335, 336, 337, 338, 339, 340, 341, 267, 247, 342, 343, 344, 345, 371, 372, 373, 374, 459, 460, 461, 462, 463, 464, 465, 466, 467, 468, 469, 495, 496, 497, 498, 499, 500, 501, 502, 503, 504, 505, 506, 507, 508, 509, 510, 511, 512, 513, 514, 515, 516, 517, 518, 519, 520, 521, 522, 523, 524, 525] (by decide +kernel) (by decide +kernel)
set_option maxRecDepth 20000 in
theorem gL_law_L_others : GoodIn wsL_law (va_wsS RL 102 yL_others wsL_others) := goodIn_app (goodIn_of _ (by decide +kernel)) ggL_law_L_others
set_option maxRecDepth 20000 in
theorem ggL_law_L_performs : GoodIn wsL_law wsL_performs := goodIn_r _ [472, 473, 474, 475, 2, 476, 21, 477, 478, 479, 20, 480, 132, 481, 482, 483, 484, 485, 486, 487, 488, 53, 411, 412, 413, 414, 12, 415, 416, 417, 418, 220, 221, 419, 420, 421, 11, 422, 38, 229, 230, 396, 397, 398, 399, 380, 400, 401, 235, 236, 402, 237, 238, 403, 248, 249, 250, 33, 375, 376, 377, 378, 352, 379, 381, 81, 82, 83, 382, 383, 17, 384, 385, 98, 99, 100, 101, 41, 386, 387, 388, 389, 111, 112, 113, 114, 25, 115, 116, 117, 118, 24, 119, 120, 121, 122, 123, 124, 125, 126, 57, 58, 127, 128, 129, 130, 131, 133, 134, 135, 136, 137, 138, 139, 140, 141, 142, 143, 144, 145, 146, 147, 148, 149, 150, 151, 152, 153, 154, 155, 156, 157, 158, 159, 160, 161, 162, 163, 164, 165, 166, 167, 168, 169, 170, 171, 172, 173, 174, 175, 176, 177, 178, 179, 180, 181, 182, 183, 184, 185, 186, 187, 188, 189, 190, 191, 192, 193, 194, 195, 196, 197, 198, 199, 200, 59, 201, 202, 203, 204, 205, 206, 207, 208, 209, 210, 211, 93, 94, 95, 16, 96, 48, 69, 70, 71, 72, 73, 29, 30, 74, 75, 76, 32, 34, 35, 36, 37, 39, 40, 42, 77, 78, 79, 80, 84, 85, 86, 87, 212, 213, 214, 215, 216, 217, 218, 219, 222, 223, 224, 225, 226, 227, 228, 231, 232, 233, 234, 239, 240, 241, 242, 243, 244, 245, 246, 247, 251, 252, 253, 254, 255, 256, 257, 258, 259, 260, 261, 262, 263, 264, 265, 266, 267, 268, 269, 270, 271, 272, 273, 274, 275, 276, 277, 278, 279, 280, 281, 282, 283, 284, 285, 286, 287, 288, 289, 290, 291, 292, 293, 294, 295, 296, 297, 298, 299, 300, 301, 302, 303, 304, 305, 306, 307, 308, 309, 310, 311, 312, 313, 314, 315, 316, 317, 318, 319, 320, 321, 322, 323, 324, 325, 326, 327, 328, 329, 106, 107, 108, 109, 68, 110, 330, 331, 332, 333, 390, 391, 368, 392, 393, 394, 395, 404, 405, 406, 407, 408, 409, 353, 410, 423, 424, 425, 426, 427, 354, 355, 356, 357, 428, 429, 346, 347, 348, 349, 350, 351, 358, 359, 360, 60, 61, 62, 63, 64, 65, 66, 67, 361, 362, 363, 364, 365, 102, 103, 104, 105, 495, 496, 497, 498, 499, 500, 501, 502, 503, 504, 524, 525, 505, 506, 507, 508, 509, 510, 511, 512, 513, 514, 515, 516, 517, 518, 519, 520, 521, 522, 523, 526, 527, 528, 529, 530, 531] (by decide +kernel) (by decide +kernel)
set_option maxRecDepth 20000 in
theorem gL_law_L_performs : GoodIn wsL_law (va_wsS RL 105 yL_performs wsL_performs) := goodIn_app (goodIn_of _ (by decide +kernel)) ggL_law_L_performs
set_option maxRecDepth 20000 in
theorem ggL_law_L_slots : GoodIn wsL_law wsL_slots := goodIn_r _ [491, 375, 376, 377, 2, 378, 12, 352, 379, 380, 381, 81, 82, 83, 382, 383, 17, 384, 21, 385, 98, 99, 100, 11, 101, 41, 386, 387, 388, 389, 346, 347, 348, 349, 350, 351, 353, 255, 256, 354, 355, 356, 357, 264, 265, 266, 267, 358, 273, 274, 275, 359, 277, 278, 279, 280, 281, 282, 283, 284, 285, 286, 287, 288, 289, 290, 30, 80, 360, 456, 457, 368, 458, 404, 405, 406, 407, 408, 409, 401, 235, 236, 410, 229, 230, 396, 397, 398, 399, 400, 402, 237, 238, 403, 248, 249, 250, 33, 495, 496, 497, 498, 499, 500, 501, 502, 503, 504, 505, 506, 507, 508, 509, 510, 511, 512, 513, 514, 515, 516, 517, 518, 519, 520, 521, 522, 523, 524, 525] (by decide +kernel) (by decide +kernel)
set_option maxRecDepth 20000 in
theorem gL_law_L_slots : GoodIn wsL_law (va_wsS RL 109 yL_slots wsL_slots) := goodIn_app (goodIn_of _ (by decide +kernel)) ggL_law_L_slots
set_option maxRecDepth 20000 in
theorem ggL_law_L_proposers : GoodIn wsL_law wsL_proposers := goodIn_r _ [494, 411, 412, 413, 2, 414, 12, 415, 416, 417, 418, 220, 221, 419, 420, 421, 11, 422, 38, 229, 230, 396, 397, 398, 399, 380, 400, 401, 235, 236, 402, 237, 238, 403, 248, 249, 250, 33, 423, 424, 425, 426, 427, 353, 255, 256, 410, 354, 355, 356, 357, 264, 265, 266, 267, 99, 100, 101, 41, 428, 292, 293, 294, 37, 39, 40, 272, 273, 274, 275, 429, 269, 270, 271, 226, 227, 82, 228, 276, 277, 278, 279, 280, 281, 282, 283, 284, 285, 286, 287, 288, 289, 290, 30, 80, 81, 83, 375, 376, 377, 378, 352, 379, 381, 382, 383, 17, 384, 21, 385, 98, 386, 387, 388, 389, 346, 347, 348, 349, 350, 351, 358, 359, 360, 456, 457, 368, 458, 495, 496, 497, 498, 499, 500, 501, 502, 503, 504, 505, 506, 507, 508, 509, 510, 511, 512, 513, 514, 515, 516, 517, 518, 519, 520, 521, 522, 523, 524, 525] (by decide +kernel) (by decide +kernel)
set_option maxRecDepth 20000 in
theorem gL_law_L_proposers : GoodIn wsL_law (va_wsS RL 113 yL_proposers wsL_proposers) := goodIn_app (goodIn_of _ (by decide +kernel)) ggL_law_L_proposers
theorem dL_law_0 : decode cL_law 0 = .ok (.new 14, 3) := by decide +kernel
theorem dL_law_3 : decode cL_law 3 = .ok (.dup, 1) := by decide +kernel
theorem dL_law_4 : decode cL_law 4 = .ok (.invokespecial 90, 3) := by decide +kernel
theorem dL_law_7 : decode cL_law 7 = .ok (.astore_n 1, 1) := by decide +kernel
theorem dL_law_8 : decode cL_law 8 = .ok (.aload_n 1, 1) := by decide +kernel
theorem dL_law_9 : decode cL_law 9 = .ok (.invokevirtual 87, 3) := by decide +kernel
theorem dL_law_12 : decode cL_law 12 = .ok (.bipush (-5), 2) := by decide +kernel
theorem dL_law_14 : decode cL_law 14 = .ok (.if_icmp .ne 63, 3) := by decide +kernel
theorem dL_law_17 : decode cL_law 17 = .ok (.aload_n 1, 1) := by decide +kernel
theorem dL_law_18 : decode cL_law 18 = .ok (.invokevirtual 91, 3) := by decide +kernel
theorem dL_law_21 : decode cL_law 21 = .ok (.bipush (-5), 2) := by decide +kernel
theorem dL_law_23 : decode cL_law 23 = .ok (.if_icmp .ne 54, 3) := by decide +kernel
theorem dL_law_26 : decode cL_law 26 = .ok (.aload_n 1, 1) := by decide +kernel
theorem dL_law_27 : decode cL_law 27 = .ok (.invokevirtual 77, 3) := by decide +kernel
theorem dL_law_30 : decode cL_law 30 = .ok (.bipush (-100), 2) := by decide +kernel
theorem dL_law_32 : decode cL_law 32 = .ok (.if_icmp .ne 45, 3) := by decide +kernel
theorem dL_law_35 : decode cL_law 35 = .ok (.aload_n 1, 1) := by decide +kernel
theorem dL_law_36 : decode cL_law 36 = .ok (.iconst 0, 1) := by decide +kernel
theorem dL_law_37 : decode cL_law 37 = .ok (.invokevirtual 80, 3) := by decide +kernel
theorem dL_law_40 : decode cL_law 40 = .ok (.bipush (-5), 2) := by decide +kernel
theorem dL_law_42 : decode cL_law 42 = .ok (.if_icmp .ne 35, 3) := by decide +kernel
theorem dL_law_45 : decode cL_law 45 = .ok (.aload_n 1, 1) := by decide +kernel
theorem dL_law_46 : decode cL_law 46 = .ok (.iconst 1, 1) := by decide +kernel
theorem dL_law_47 : decode cL_law 47 = .ok (.invokevirtual 62, 3) := by decide +kernel
theorem dL_law_50 : decode cL_law 50 = .ok (.bipush (-4), 2) := by decide +kernel
theorem dL_law_52 : decode cL_law 52 = .ok (.if_icmp .ne 25, 3) := by decide +kernel
theorem dL_law_55 : decode cL_law 55 = .ok (.aload_n 1, 1) := by decide +kernel
theorem dL_law_56 : decode cL_law 56 = .ok (.iconst 4, 1) := by decide +kernel
