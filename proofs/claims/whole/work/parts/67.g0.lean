/-! the words of the law's calls -/
set_option maxRecDepth 20000 in
theorem ggL_law_X4_init : GoodIn wsL_law wsX4_init := goodIn_r _ [8, 9, 10, 11, 12, 13, 14, 15, 16, 17, 18, 19, 20, 21, 22, 23, 24, 25, 26, 27, 28, 29, 30, 31, 32, 33, 34, 35, 36, 37, 38, 39, 40, 41, 42, 43, 44, 45, 46, 47, 48, 49, 50, 51, 52, 53, 54, 55, 56, 57, 58, 59, 60, 61, 62, 737, 738, 739, 740, 741, 742, 743, 744, 745, 746, 747, 748, 749, 750, 751, 752, 712, 713, 714, 715, 716, 717, 718, 719, 720, 721, 753, 754, 755, 756, 757, 758, 759, 760, 761, 762, 763] (by decide +kernel) (by decide +kernel)
set_option maxRecDepth 20000 in
theorem gL_law_X4_init : GoodIn wsL_law (wsX4_init) := ggL_law_X4_init
set_option maxRecDepth 20000 in
theorem ggL_law_X5_init : GoodIn wsL_law wsX5_init := goodIn_r _ [65, 66, 10, 11, 34, 67, 68, 69, 55, 70, 71, 72, 73, 722, 723, 724, 725, 726, 727, 728, 729, 730, 731, 732, 733, 734, 735, 736] (by decide +kernel) (by decide +kernel)
set_option maxRecDepth 20000 in
theorem gL_law_X5_init : GoodIn wsL_law (wsX5_init) := ggL_law_X5_init
set_option maxRecDepth 20000 in
theorem ggL_law_X4_setUp : GoodIn wsL_law wsX4_setUp := goodIn_r _ [77, 20, 15, 78, 79, 80, 19, 81, 51, 82, 83, 84, 85, 14, 86, 32, 33, 87, 88, 89, 35, 36, 37, 38, 39, 40, 41, 42, 43, 44, 45, 90, 91, 92, 93, 94, 95, 96, 97, 98, 99, 100, 101, 102, 103, 104, 105, 2, 106, 107, 108, 109, 110, 111, 112, 113, 114, 115, 116, 117, 118, 119, 120, 121, 122, 123, 124, 125, 712, 713, 714, 715, 716, 717, 718, 719, 720, 721, 753, 754, 755, 737, 738, 739, 740, 741, 742, 743, 744, 745, 746, 747, 748, 749, 750, 751, 752] (by decide +kernel) (by decide +kernel)
set_option maxRecDepth 20000 in
theorem gL_law_X4_setUp : GoodIn wsL_law (wsV RL 13 RX4 yX4_setUp wsX4_setUp) := goodIn_app (goodIn_of _ (by decide +kernel)) ggL_law_X4_setUp
set_option maxRecDepth 20000 in
theorem ggL_law_X5_setUp : GoodIn wsL_law wsX5_setUp := goodIn_r _ [129, 67, 130, 131, 5, 132, 133, 134, 135, 136, 137, 138, 139, 140, 141, 68, 142, 143, 144, 145, 146, 147, 148, 722, 723, 724, 725, 726, 727, 728, 729, 730, 731, 732, 733, 734, 735, 736] (by decide +kernel) (by decide +kernel)
set_option maxRecDepth 20000 in
theorem gL_law_X5_setUp : GoodIn wsL_law (wsV RL 17 RX5 yX5_setUp wsX5_setUp) := goodIn_app (goodIn_of _ (by decide +kernel)) ggL_law_X5_setUp
set_option maxRecDepth 20000 in
theorem ggL_law_X4_setSecond : GoodIn wsL_law wsX4_setSecond := goodIn_r _ [152, 20, 15, 78, 79, 80, 19, 81, 51, 82, 83, 84, 85, 14, 86, 32, 33, 87, 88, 89, 35, 36, 37, 38, 39, 40, 41, 42, 43, 44, 45, 90, 91, 92, 93, 94, 95, 96, 97, 98, 99, 100, 153, 154, 155, 156, 157, 2, 158, 159, 160, 161, 162, 116, 117, 118, 119, 120, 121, 122, 123, 124, 125, 712, 713, 714, 715, 716, 717, 718, 719, 720, 721, 753, 754, 755, 737, 738, 739, 740, 741, 742, 743, 744, 745, 746, 747, 748, 749, 750, 751, 752] (by decide +kernel) (by decide +kernel)
set_option maxRecDepth 20000 in
theorem gL_law_X4_setSecond : GoodIn wsL_law (wsV RL 18 RX4 yX4_setSecond wsX4_setSecond) := goodIn_app (goodIn_of _ (by decide +kernel)) ggL_law_X4_setSecond
set_option maxRecDepth 20000 in
theorem ggL_law_X5_setSecond : GoodIn wsL_law wsX5_setSecond := goodIn_r _ [166, 67, 133, 134, 5, 135, 136, 137, 138, 139, 140, 141, 68, 722, 723, 724, 725, 726, 727, 728, 729, 730, 731, 732, 733, 734, 735, 736] (by decide +kernel) (by decide +kernel)
set_option maxRecDepth 20000 in
theorem gL_law_X5_setSecond : GoodIn wsL_law (wsV RL 22 RX5 yX5_setSecond wsX5_setSecond) := goodIn_app (goodIn_of _ (by decide +kernel)) ggL_law_X5_setSecond
set_option maxRecDepth 20000 in
theorem ggL_law_X4_prepare : GoodIn wsL_law wsX4_prepare := goodIn_r _ [170, 20, 15, 78, 79, 80, 19, 81, 51, 82, 83, 84, 85, 14, 86, 32, 33, 87, 88, 89, 35, 36, 37, 38, 39, 40, 41, 42, 43, 44, 45, 90, 91, 92, 93, 94, 95, 96, 97, 98, 99, 100, 171, 172, 173, 174, 175, 2, 176, 177, 178, 179, 180, 181, 182, 183, 184, 185, 116, 117, 118, 119, 120, 121, 122, 123, 124, 125, 712, 713, 714, 715, 716, 717, 718, 719, 720, 721, 753, 754, 755, 737, 738, 739, 740, 741, 742, 743, 744, 745, 746, 747, 748, 749, 750, 751, 752] (by decide +kernel) (by decide +kernel)
set_option maxRecDepth 20000 in
theorem gL_law_X4_prepare : GoodIn wsL_law (wsV RL 23 RX4 yX4_prepare wsX4_prepare) := goodIn_app (goodIn_of _ (by decide +kernel)) ggL_law_X4_prepare
set_option maxRecDepth 20000 in
theorem ggL_law_X5_prepare : GoodIn wsL_law wsX5_prepare := goodIn_r _ [189, 67, 190, 191, 5, 192, 133, 134, 135, 136, 137, 138, 139, 140, 141, 68, 193, 194, 195, 196, 197, 198, 722, 723, 724, 725, 726, 727, 728, 729, 730, 731, 732, 733, 734, 735, 736] (by decide +kernel) (by decide +kernel)
set_option maxRecDepth 20000 in
theorem gL_law_X5_prepare : GoodIn wsL_law (wsV RL 26 RX5 yX5_prepare wsX5_prepare) := goodIn_app (goodIn_of _ (by decide +kernel)) ggL_law_X5_prepare
