/-! the words of the law's calls -/
set_option maxRecDepth 20000 in
theorem ggL_law_X4_type : GoodIn wsL_law wsX4_type := goodIn_r _ [359, 24, 360, 361, 362, 23, 363, 364, 56, 712, 713, 714, 715, 716, 717, 718, 719, 720, 721, 756, 757] (by decide +kernel) (by decide +kernel)
set_option maxRecDepth 20000 in
theorem gL_law_X4_type : GoodIn wsL_law (wsV RL 45 RX4 yX4_type wsX4_type) := goodIn_app (goodIn_of _ (by decide +kernel)) ggL_law_X4_type
set_option maxRecDepth 20000 in
theorem ggL_law_X5_type : GoodIn wsL_law wsX5_type := goodIn_r _ [368, 369, 70, 722, 723, 724, 725, 726, 727, 728, 729, 730, 731, 732, 733, 734, 735, 736] (by decide +kernel) (by decide +kernel)
set_option maxRecDepth 20000 in
theorem gL_law_X5_type : GoodIn wsL_law (wsV RL 49 RX5 yX5_type wsX5_type) := goodIn_app (goodIn_of _ (by decide +kernel)) ggL_law_X5_type
set_option maxRecDepth 20000 in
theorem ggL_law_X4_clearText : GoodIn wsL_law wsX4_clearText := goodIn_r _ [373, 24, 374, 375, 376, 23, 377, 364, 712, 713, 714, 715, 716, 717, 718, 719, 720, 721, 756, 757] (by decide +kernel) (by decide +kernel)
set_option maxRecDepth 20000 in
theorem gL_law_X4_clearText : GoodIn wsL_law (wsV RL 50 RX4 yX4_clearText wsX4_clearText) := goodIn_app (goodIn_of _ (by decide +kernel)) ggL_law_X4_clearText
set_option maxRecDepth 20000 in
theorem ggL_law_X5_clearText : GoodIn wsL_law wsX5_clearText := goodIn_r _ [381, 369, 722, 723, 724, 725, 726, 727, 728, 729, 730, 731, 732, 733, 734, 735, 736] (by decide +kernel) (by decide +kernel)
set_option maxRecDepth 20000 in
theorem gL_law_X5_clearText : GoodIn wsL_law (wsV RL 54 RX5 yX5_clearText wsX5_clearText) := goodIn_app (goodIn_of _ (by decide +kernel)) ggL_law_X5_clearText
set_option maxRecDepth 20000 in
theorem ggL_law_X4_perform : GoodIn wsL_law wsX4_perform := goodIn_r _ [385, 28, 24, 20, 15, 386, 387, 388, 389, 27, 390, 391, 392, 393, 394, 395, 396, 397, 60, 61, 398, 399, 400, 401, 23, 402, 364, 56, 403, 404, 405, 406, 407, 408, 409, 410, 411, 412, 413, 414, 415, 416, 417, 418, 419, 420, 421, 422, 423, 424, 425, 426, 427, 428, 429, 430, 431, 432, 433, 434, 435, 436, 437, 438, 439, 440, 441, 442, 443, 444, 445, 446, 447, 448, 449, 450, 451, 452, 453, 454, 455, 456, 457, 458, 459, 460, 461, 462, 463, 464, 465, 466, 467, 468, 469, 470, 62, 471, 472, 473, 474, 475, 476, 477, 478, 479, 480, 481, 78, 79, 80, 19, 81, 51, 82, 83, 84, 85, 14, 86, 32, 33, 87, 88, 89, 35, 36, 37, 38, 39, 40, 41, 42, 43, 44, 45, 90, 91, 92, 93, 94, 95, 96, 97, 98, 99, 100, 482, 483, 484, 485, 486, 172, 173, 174, 175, 2, 176, 177, 178, 179, 180, 181, 182, 183, 184, 185, 487, 204, 205, 206, 105, 106, 107, 108, 207, 208, 209, 210, 211, 212, 213, 214, 215, 216, 217, 218, 488, 238, 239, 240, 241, 242, 243, 244, 245, 246, 247, 248, 249, 250, 251, 252, 253, 254, 255, 256, 257, 258, 259, 260, 261, 262, 263, 264, 265, 266, 267, 268, 109, 110, 111, 112, 113, 114, 115, 269, 270, 271, 272, 273, 274, 275, 276, 489, 325, 326, 327, 328, 329, 330, 331, 332, 333, 334, 335, 490, 102, 103, 104, 491, 492, 493, 494, 495, 496, 497, 498, 499, 500, 501, 502, 503, 504, 505, 506, 507, 508, 509, 120, 121, 122, 123, 124, 125, 712, 713, 714, 715, 716, 717, 718, 719, 720, 721, 758, 759, 760, 761, 762, 763, 756, 757, 753, 754, 755, 737, 738, 739, 740, 741, 742, 743, 744, 745, 746, 747, 748, 749, 750, 751, 752] (by decide +kernel) (by decide +kernel)
set_option maxRecDepth 20000 in
theorem gL_law_X4_perform : GoodIn wsL_law (wsV RL 55 RX4 yX4_perform wsX4_perform) := goodIn_app (goodIn_of _ (by decide +kernel)) ggL_law_X4_perform
set_option maxRecDepth 20000 in
theorem ggL_law_X5_perform : GoodIn wsL_law wsX5_perform := goodIn_r _ [513, 514, 67, 73, 140, 515, 72, 516, 71, 517, 518, 519, 520, 5, 521, 369, 70, 522, 523, 524, 525, 526, 527, 528, 529, 530, 531, 532, 533, 133, 134, 135, 534, 535, 536, 537, 538, 539, 540, 541, 542, 187, 188, 189, 190, 191, 192, 136, 137, 138, 139, 141, 68, 193, 194, 195, 196, 197, 198, 543, 220, 221, 222, 130, 131, 132, 223, 224, 225, 226, 227, 228, 229, 230, 231, 232, 544, 278, 279, 280, 281, 282, 283, 284, 285, 286, 287, 288, 289, 290, 291, 292, 293, 294, 295, 296, 297, 298, 299, 300, 301, 302, 303, 304, 305, 306, 307, 308, 309, 310, 311, 146, 147, 148, 312, 313, 314, 315, 316, 317, 318, 319, 545, 337, 338, 339, 546, 127, 128, 129, 142, 143, 144, 145, 722, 723, 724, 725, 726, 727, 728, 729, 730, 731, 732, 733, 734, 735, 736] (by decide +kernel) (by decide +kernel)
set_option maxRecDepth 20000 in
theorem gL_law_X5_perform : GoodIn wsL_law (wsV RL 58 RX5 yX5_perform wsX5_perform) := goodIn_app (goodIn_of _ (by decide +kernel)) ggL_law_X5_perform
set_option maxRecDepth 20000 in
theorem ggL_law_X4_refusal : GoodIn wsL_law wsX4_refusal := goodIn_r _ [550, 498, 499, 500, 501, 712, 713, 714, 715, 716, 717, 718, 719, 720, 721] (by decide +kernel) (by decide +kernel)
set_option maxRecDepth 20000 in
theorem gL_law_X4_refusal : GoodIn wsL_law (wsV RL 59 RX4 yX4_refusal wsX4_refusal) := goodIn_app (goodIn_of _ (by decide +kernel)) ggL_law_X4_refusal
set_option maxRecDepth 20000 in
theorem ggL_law_X5_refusal : GoodIn wsL_law wsX5_refusal := goodIn_r _ [554, 72, 516, 517, 133, 134, 5, 135, 722, 723, 724, 725, 726, 727, 728, 729, 730, 731, 732, 733, 734, 735, 736] (by decide +kernel) (by decide +kernel)
set_option maxRecDepth 20000 in
theorem gL_law_X5_refusal : GoodIn wsL_law (wsV RL 62 RX5 yX5_refusal wsX5_refusal) := goodIn_app (goodIn_of _ (by decide +kernel)) ggL_law_X5_refusal
