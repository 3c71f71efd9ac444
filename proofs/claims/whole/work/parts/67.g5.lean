/-! the words of the law's calls -/
set_option maxRecDepth 20000 in
theorem ggL_law_X4_could : GoodIn wsL_law wsX4_could := goodIn_r _ [668, 15, 657, 610, 241, 2, 242, 644, 250, 251, 14, 252, 253, 254, 255, 256, 44, 669, 670, 671, 672, 35, 261, 262, 263, 264, 332, 333, 334, 335, 36, 107, 108, 184, 185, 109, 110, 111, 112, 113, 114, 115, 269, 270, 271, 272, 33, 93, 94, 95, 96, 712, 713, 714, 715, 716, 717, 718, 719, 720, 721, 737, 738, 739, 740, 741, 742, 743, 744, 745, 746, 747, 748, 749, 750, 751, 752] (by decide +kernel) (by decide +kernel)
set_option maxRecDepth 20000 in
theorem gL_law_X4_could : GoodIn wsL_law (wsV RL 95 RX4 yX4_could wsX4_could) := goodIn_app (goodIn_of _ (by decide +kernel)) ggL_law_X4_could
set_option maxRecDepth 20000 in
theorem ggL_law_X5_could : GoodIn wsL_law wsX5_could := goodIn_r _ [676, 67, 281, 282, 5, 283, 133, 134, 135, 284, 285, 286, 287, 288, 289, 290, 291, 292, 293, 294, 295, 296, 297, 298, 299, 308, 309, 310, 311, 223, 224, 225, 230, 231, 232, 312, 313, 314, 315, 146, 147, 148, 722, 723, 724, 725, 726, 727, 728, 729, 730, 731, 732, 733, 734, 735, 736] (by decide +kernel) (by decide +kernel)
set_option maxRecDepth 20000 in
theorem gL_law_X5_could : GoodIn wsL_law (wsV RL 98 RX5 yX5_could wsX5_could) := goodIn_app (goodIn_of _ (by decide +kernel)) ggL_law_X5_could
set_option maxRecDepth 20000 in
theorem ggL_law_X4_witness : GoodIn wsL_law wsX4_witness := goodIn_r _ [680, 681, 157, 2, 158, 682, 110, 111, 112, 113, 114, 115, 683, 684, 685, 594, 107, 108] (by decide +kernel) (by decide +kernel)
set_option maxRecDepth 20000 in
theorem gL_law_X4_witness : GoodIn wsL_law (wsV RL 99 RX4 yX4_witness wsX4_witness) := goodIn_app (goodIn_of _ (by decide +kernel)) ggL_law_X4_witness
set_option maxRecDepth 20000 in
theorem ggL_law_X5_witness : GoodIn wsL_law wsX5_witness := goodIn_r _ [689, 133, 134, 5, 135, 146, 147, 148, 223, 224, 225] (by decide +kernel) (by decide +kernel)
set_option maxRecDepth 20000 in
theorem gL_law_X5_witness : GoodIn wsL_law (wsV RL 103 RX5 yX5_witness wsX5_witness) := goodIn_app (goodIn_of _ (by decide +kernel)) ggL_law_X5_witness
set_option maxRecDepth 20000 in
theorem ggL_law_X4_count : GoodIn wsL_law wsX4_count := goodIn_r _ [693, 15, 657, 694, 591, 695, 94, 95, 96, 696, 697, 20, 698, 24, 699, 573, 254, 255, 14, 256, 44, 700, 701, 702, 703, 712, 713, 714, 715, 716, 717, 718, 719, 720, 721, 737, 738, 739, 740, 741, 742, 743, 744, 745, 746, 747, 748, 749, 750, 751, 752, 753, 754, 755, 756, 757] (by decide +kernel) (by decide +kernel)
set_option maxRecDepth 20000 in
theorem gL_law_X4_count : GoodIn wsL_law (wsV RL 104 RX4 yX4_count wsX4_count) := goodIn_app (goodIn_of _ (by decide +kernel)) ggL_law_X4_count
set_option maxRecDepth 20000 in
theorem ggL_law_X5_count : GoodIn wsL_law wsX5_count := goodIn_r _ [707, 67, 141, 369, 292, 293, 294, 5, 295, 296, 297, 298, 299, 708, 709, 710, 711, 142, 143, 144, 145, 722, 723, 724, 725, 726, 727, 728, 729, 730, 731, 732, 733, 734, 735, 736] (by decide +kernel) (by decide +kernel)
set_option maxRecDepth 20000 in
theorem gL_law_X5_count : GoodIn wsL_law (wsV RL 107 RX5 yX5_count wsX5_count) := goodIn_app (goodIn_of _ (by decide +kernel)) ggL_law_X5_count
