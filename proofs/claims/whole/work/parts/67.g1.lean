/-! the words of the law's calls -/
set_option maxRecDepth 20000 in
theorem ggL_law_X4_promise : GoodIn wsL_law wsX4_promise := goodIn_r _ [202, 20, 15, 78, 79, 80, 19, 81, 51, 82, 83, 84, 85, 14, 86, 32, 33, 87, 88, 89, 35, 36, 37, 38, 39, 40, 41, 42, 43, 44, 45, 90, 91, 92, 93, 94, 95, 96, 97, 98, 99, 100, 203, 204, 205, 206, 175, 2, 176, 105, 106, 107, 108, 207, 208, 209, 210, 181, 182, 183, 211, 212, 213, 214, 184, 185, 215, 216, 217, 218, 116, 117, 118, 119, 120, 121, 122, 123, 124, 125, 712, 713, 714, 715, 716, 717, 718, 719, 720, 721, 753, 754, 755, 737, 738, 739, 740, 741, 742, 743, 744, 745, 746, 747, 748, 749, 750, 751, 752] (by decide +kernel) (by decide +kernel)
set_option maxRecDepth 20000 in
theorem gL_law_X4_promise : GoodIn wsL_law (wsV RL 27 RX4 yX4_promise wsX4_promise) := goodIn_app (goodIn_of _ (by decide +kernel)) ggL_law_X4_promise
set_option maxRecDepth 20000 in
theorem ggL_law_X5_promise : GoodIn wsL_law wsX5_promise := goodIn_r _ [222, 67, 190, 191, 5, 192, 133, 134, 135, 130, 131, 132, 223, 224, 225, 136, 137, 138, 139, 140, 141, 68, 226, 227, 228, 229, 230, 231, 232, 196, 197, 198, 722, 723, 724, 725, 726, 727, 728, 729, 730, 731, 732, 733, 734, 735, 736] (by decide +kernel) (by decide +kernel)
set_option maxRecDepth 20000 in
theorem gL_law_X5_promise : GoodIn wsL_law (wsV RL 31 RX5 yX5_promise wsX5_promise) := goodIn_app (goodIn_of _ (by decide +kernel)) ggL_law_X5_promise
set_option maxRecDepth 20000 in
theorem ggL_law_X4_propose : GoodIn wsL_law wsX4_propose := goodIn_r _ [236, 20, 15, 78, 79, 80, 19, 81, 51, 82, 83, 84, 85, 14, 86, 32, 33, 87, 88, 89, 35, 36, 37, 38, 39, 40, 41, 42, 43, 44, 45, 90, 91, 92, 93, 94, 95, 96, 97, 98, 99, 100, 237, 238, 239, 240, 175, 2, 176, 241, 242, 243, 244, 245, 246, 247, 248, 249, 250, 251, 252, 253, 254, 255, 256, 257, 258, 259, 260, 181, 182, 183, 261, 262, 263, 264, 265, 266, 267, 268, 109, 110, 111, 112, 113, 114, 115, 269, 270, 271, 272, 184, 185, 273, 274, 275, 276, 107, 108, 116, 117, 118, 119, 120, 121, 122, 123, 124, 125, 712, 713, 714, 715, 716, 717, 718, 719, 720, 721, 753, 754, 755, 737, 738, 739, 740, 741, 742, 743, 744, 745, 746, 747, 748, 749, 750, 751, 752] (by decide +kernel) (by decide +kernel)
set_option maxRecDepth 20000 in
theorem gL_law_X4_propose : GoodIn wsL_law (wsV RL 32 RX4 yX4_propose wsX4_propose) := goodIn_app (goodIn_of _ (by decide +kernel)) ggL_law_X4_propose
set_option maxRecDepth 20000 in
theorem ggL_law_X5_propose : GoodIn wsL_law wsX5_propose := goodIn_r _ [280, 67, 190, 191, 5, 192, 133, 134, 135, 281, 282, 283, 284, 285, 286, 287, 288, 289, 290, 291, 292, 293, 294, 295, 296, 297, 298, 299, 300, 301, 302, 303, 304, 305, 306, 307, 308, 309, 310, 311, 146, 147, 148, 312, 313, 314, 315, 193, 194, 195, 136, 137, 138, 139, 140, 141, 68, 316, 317, 318, 319, 196, 197, 198, 223, 224, 225, 722, 723, 724, 725, 726, 727, 728, 729, 730, 731, 732, 733, 734, 735, 736] (by decide +kernel) (by decide +kernel)
set_option maxRecDepth 20000 in
theorem gL_law_X5_propose : GoodIn wsL_law (wsV RL 36 RX5 yX5_propose wsX5_propose) := goodIn_app (goodIn_of _ (by decide +kernel)) ggL_law_X5_propose
set_option maxRecDepth 20000 in
theorem ggL_law_X4_vote : GoodIn wsL_law wsX4_vote := goodIn_r _ [323, 20, 15, 78, 79, 80, 19, 81, 51, 82, 83, 84, 85, 14, 86, 32, 33, 87, 88, 89, 35, 36, 37, 38, 39, 40, 41, 42, 43, 44, 45, 90, 91, 92, 93, 94, 95, 96, 97, 98, 99, 100, 324, 325, 326, 327, 175, 2, 176, 241, 242, 105, 106, 328, 329, 330, 331, 184, 185, 107, 108, 261, 262, 263, 264, 207, 208, 209, 210, 181, 182, 183, 332, 333, 334, 335, 109, 110, 111, 112, 113, 114, 115, 269, 270, 271, 272, 116, 117, 118, 119, 120, 121, 122, 123, 124, 125, 712, 713, 714, 715, 716, 717, 718, 719, 720, 721, 753, 754, 755, 737, 738, 739, 740, 741, 742, 743, 744, 745, 746, 747, 748, 749, 750, 751, 752] (by decide +kernel) (by decide +kernel)
set_option maxRecDepth 20000 in
theorem gL_law_X4_vote : GoodIn wsL_law (wsV RL 37 RX4 yX4_vote wsX4_vote) := goodIn_app (goodIn_of _ (by decide +kernel)) ggL_law_X4_vote
set_option maxRecDepth 20000 in
theorem ggL_law_X5_vote : GoodIn wsL_law wsX5_vote := goodIn_r _ [339, 67, 190, 191, 5, 192, 133, 134, 135, 281, 282, 283, 130, 131, 132, 193, 194, 195, 284, 285, 286, 287, 308, 309, 310, 311, 296, 297, 298, 299, 223, 224, 225, 230, 231, 232, 136, 137, 138, 139, 140, 141, 68, 226, 227, 228, 229, 312, 313, 314, 315, 146, 147, 148, 722, 723, 724, 725, 726, 727, 728, 729, 730, 731, 732, 733, 734, 735, 736] (by decide +kernel) (by decide +kernel)
set_option maxRecDepth 20000 in
theorem gL_law_X5_vote : GoodIn wsL_law (wsV RL 40 RX5 yX5_vote wsX5_vote) := goodIn_app (goodIn_of _ (by decide +kernel)) ggL_law_X5_vote
set_option maxRecDepth 20000 in
theorem ggL_law_X4_trim : GoodIn wsL_law wsX4_trim := goodIn_r _ [343, 20, 15, 78, 79, 80, 19, 81, 51, 82, 83, 84, 85, 14, 86, 32, 33, 87, 88, 89, 35, 36, 37, 38, 39, 40, 41, 42, 43, 44, 45, 90, 91, 92, 93, 94, 95, 96, 97, 98, 99, 100, 344, 345, 346, 347, 241, 2, 242, 253, 254, 255, 256, 215, 216, 217, 218, 184, 185, 348, 349, 350, 351, 116, 117, 118, 119, 120, 121, 122, 123, 124, 125, 712, 713, 714, 715, 716, 717, 718, 719, 720, 721, 753, 754, 755, 737, 738, 739, 740, 741, 742, 743, 744, 745, 746, 747, 748, 749, 750, 751, 752] (by decide +kernel) (by decide +kernel)
set_option maxRecDepth 20000 in
theorem gL_law_X4_trim : GoodIn wsL_law (wsV RL 41 RX4 yX4_trim wsX4_trim) := goodIn_app (goodIn_of _ (by decide +kernel)) ggL_law_X4_trim
set_option maxRecDepth 20000 in
theorem ggL_law_X5_trim : GoodIn wsL_law wsX5_trim := goodIn_r _ [355, 67, 281, 282, 5, 283, 133, 134, 135, 292, 293, 294, 295, 296, 297, 298, 299, 284, 285, 286, 287, 136, 137, 138, 139, 140, 141, 68, 230, 231, 232, 722, 723, 724, 725, 726, 727, 728, 729, 730, 731, 732, 733, 734, 735, 736] (by decide +kernel) (by decide +kernel)
set_option maxRecDepth 20000 in
theorem gL_law_X5_trim : GoodIn wsL_law (wsV RL 44 RX5 yX5_trim wsX5_trim) := goodIn_app (goodIn_of _ (by decide +kernel)) ggL_law_X5_trim
