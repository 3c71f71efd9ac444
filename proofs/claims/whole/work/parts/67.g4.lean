/-! the words of the law's calls -/
set_option maxRecDepth 20000 in
theorem ggL_law_X4_voted : GoodIn wsL_law wsX4_voted := goodIn_r _ [607, 15, 608, 609, 593, 105, 2, 106, 610, 241, 242, 611, 184, 185, 712, 713, 714, 715, 716, 717, 718, 719, 720, 721, 737, 738, 739, 740, 741, 742, 743, 744, 745, 746, 747, 748, 749, 750, 751, 752] (by decide +kernel) (by decide +kernel)
set_option maxRecDepth 20000 in
theorem gL_law_X4_voted : GoodIn wsL_law (wsV RL 79 RX4 yX4_voted wsX4_voted) := goodIn_app (goodIn_of _ (by decide +kernel)) ggL_law_X4_voted
set_option maxRecDepth 20000 in
theorem ggL_law_X5_voted : GoodIn wsL_law wsX5_voted := goodIn_r _ [615, 67, 130, 131, 5, 132, 133, 134, 135, 281, 282, 283, 230, 231, 232, 722, 723, 724, 725, 726, 727, 728, 729, 730, 731, 732, 733, 734, 735, 736] (by decide +kernel) (by decide +kernel)
set_option maxRecDepth 20000 in
theorem gL_law_X5_voted : GoodIn wsL_law (wsV RL 82 RX5 yX5_voted wsX5_voted) := goodIn_app (goodIn_of _ (by decide +kernel)) ggL_law_X5_voted
set_option maxRecDepth 20000 in
theorem ggL_law_X4_proposer : GoodIn wsL_law wsX4_proposer := goodIn_r _ [619, 15, 620, 621, 622, 623, 175, 2, 176, 624, 625, 626, 14, 627, 41, 184, 185, 712, 713, 714, 715, 716, 717, 718, 719, 720, 721, 737, 738, 739, 740, 741, 742, 743, 744, 745, 746, 747, 748, 749, 750, 751, 752] (by decide +kernel) (by decide +kernel)
set_option maxRecDepth 20000 in
theorem gL_law_X4_proposer : GoodIn wsL_law (wsV RL 83 RX4 yX4_proposer wsX4_proposer) := goodIn_app (goodIn_of _ (by decide +kernel)) ggL_law_X4_proposer
set_option maxRecDepth 20000 in
theorem ggL_law_X5_proposer : GoodIn wsL_law wsX5_proposer := goodIn_r _ [631, 67, 190, 191, 5, 192, 133, 134, 135, 632, 633, 634, 635, 193, 194, 195, 722, 723, 724, 725, 726, 727, 728, 729, 730, 731, 732, 733, 734, 735, 736] (by decide +kernel) (by decide +kernel)
set_option maxRecDepth 20000 in
theorem gL_law_X5_proposer : GoodIn wsL_law (wsV RL 86 RX5 yX5_proposer wsX5_proposer) := goodIn_app (goodIn_of _ (by decide +kernel)) ggL_law_X5_proposer
set_option maxRecDepth 20000 in
theorem ggL_law_X4_proposed : GoodIn wsL_law wsX4_proposed := goodIn_r _ [639, 15, 640, 623, 175, 2, 176, 610, 241, 242, 611, 184, 185, 641, 642, 643, 644, 250, 251, 14, 252, 253, 254, 255, 256, 44, 645, 274, 275, 276, 40, 42, 43, 261, 262, 263, 264, 107, 108, 646, 258, 259, 260, 181, 182, 95, 183, 265, 266, 267, 268, 109, 110, 111, 112, 113, 114, 115, 269, 270, 271, 272, 33, 93, 94, 96, 712, 713, 714, 715, 716, 717, 718, 719, 720, 721, 737, 738, 739, 740, 741, 742, 743, 744, 745, 746, 747, 748, 749, 750, 751, 752] (by decide +kernel) (by decide +kernel)
set_option maxRecDepth 20000 in
theorem gL_law_X4_proposed : GoodIn wsL_law (wsV RL 87 RX4 yX4_proposed wsX4_proposed) := goodIn_app (goodIn_of _ (by decide +kernel)) ggL_law_X4_proposed
set_option maxRecDepth 20000 in
theorem ggL_law_X5_proposed : GoodIn wsL_law wsX5_proposed := goodIn_r _ [650, 67, 190, 191, 5, 192, 133, 134, 135, 281, 282, 283, 193, 194, 195, 288, 289, 290, 291, 292, 293, 294, 295, 296, 297, 298, 299, 316, 317, 318, 319, 308, 309, 310, 311, 196, 197, 198, 223, 224, 225, 300, 301, 302, 303, 304, 305, 306, 307, 146, 147, 148, 312, 313, 314, 315, 722, 723, 724, 725, 726, 727, 728, 729, 730, 731, 732, 733, 734, 735, 736] (by decide +kernel) (by decide +kernel)
set_option maxRecDepth 20000 in
theorem gL_law_X5_proposed : GoodIn wsL_law (wsV RL 90 RX5 yX5_proposed wsX5_proposed) := goodIn_app (goodIn_of _ (by decide +kernel)) ggL_law_X5_proposed
set_option maxRecDepth 20000 in
theorem ggL_law_X4_slot : GoodIn wsL_law wsX4_slot := goodIn_r _ [654, 15, 655, 656, 657, 610, 241, 2, 242, 641, 642, 643, 644, 250, 251, 14, 252, 253, 254, 255, 256, 44, 658, 262, 263, 264, 659, 266, 267, 268, 109, 110, 111, 112, 113, 114, 115, 269, 270, 271, 272, 33, 93, 94, 95, 96, 660, 712, 713, 714, 715, 716, 717, 718, 719, 720, 721, 737, 738, 739, 740, 741, 742, 743, 744, 745, 746, 747, 748, 749, 750, 751, 752] (by decide +kernel) (by decide +kernel)
set_option maxRecDepth 20000 in
theorem gL_law_X4_slot : GoodIn wsL_law (wsV RL 91 RX4 yX4_slot wsX4_slot) := goodIn_app (goodIn_of _ (by decide +kernel)) ggL_law_X4_slot
set_option maxRecDepth 20000 in
theorem ggL_law_X5_slot : GoodIn wsL_law wsX5_slot := goodIn_r _ [664, 67, 281, 282, 5, 283, 133, 134, 135, 296, 297, 298, 299, 288, 289, 290, 291, 292, 293, 294, 295, 308, 309, 310, 311, 304, 305, 306, 307, 146, 147, 148, 312, 313, 314, 315, 284, 285, 286, 287, 722, 723, 724, 725, 726, 727, 728, 729, 730, 731, 732, 733, 734, 735, 736] (by decide +kernel) (by decide +kernel)
set_option maxRecDepth 20000 in
theorem gL_law_X5_slot : GoodIn wsL_law (wsV RL 94 RX5 yX5_slot wsX5_slot) := goodIn_app (goodIn_of _ (by decide +kernel)) ggL_law_X5_slot
