/-! the words of the law's calls -/
set_option maxRecDepth 20000 in
theorem ggL_law_X4_undo : GoodIn wsL_law wsX4_undo := goodIn_r _ [558, 20, 15, 559, 560, 561, 19, 562, 124, 82, 51, 83, 84, 85, 14, 86, 32, 33, 87, 88, 89, 35, 36, 37, 38, 39, 40, 41, 42, 43, 44, 45, 90, 91, 92, 93, 94, 95, 96, 97, 98, 99, 100, 712, 713, 714, 715, 716, 717, 718, 719, 720, 721, 753, 754, 755, 737, 738, 739, 740, 741, 742, 743, 744, 745, 746, 747, 748, 749, 750, 751, 752] (by decide +kernel) (by decide +kernel)
set_option maxRecDepth 20000 in
theorem gL_law_X4_undo : GoodIn wsL_law (wsV RL 63 RX4 yX4_undo wsX4_undo) := goodIn_app (goodIn_of _ (by decide +kernel)) ggL_law_X4_undo
set_option maxRecDepth 20000 in
theorem ggL_law_X5_undo : GoodIn wsL_law wsX5_undo := goodIn_r _ [566, 141, 67, 68, 722, 723, 724, 725, 726, 727, 728, 729, 730, 731, 732, 733, 734, 735, 736] (by decide +kernel) (by decide +kernel)
set_option maxRecDepth 20000 in
theorem gL_law_X5_undo : GoodIn wsL_law (wsV RL 66 RX5 yX5_undo wsX5_undo) := goodIn_app (goodIn_of _ (by decide +kernel)) ggL_law_X5_undo
set_option maxRecDepth 20000 in
theorem ggL_law_X4_keep : GoodIn wsL_law wsX4_keep := goodIn_r _ [570, 16, 15, 571, 572, 84, 85, 14, 86, 32, 33, 87, 88, 89, 35, 36, 37, 38, 39, 40, 41, 42, 43, 44, 45, 90, 91, 92, 93, 94, 95, 96, 97, 98, 99, 100, 573, 254, 255, 256, 712, 713, 714, 715, 716, 717, 718, 719, 720, 721, 737, 738, 739, 740, 741, 742, 743, 744, 745, 746, 747, 748, 749, 750, 751, 752] (by decide +kernel) (by decide +kernel)
set_option maxRecDepth 20000 in
theorem gL_law_X4_keep : GoodIn wsL_law (wsV RL 67 RX4 yX4_keep wsX4_keep) := goodIn_app (goodIn_of _ (by decide +kernel)) ggL_law_X4_keep
set_option maxRecDepth 20000 in
theorem ggL_law_X5_keep : GoodIn wsL_law wsX5_keep := goodIn_r _ [577, 67, 69, 578, 534, 535, 536, 5, 537, 292, 293, 294, 295, 296, 297, 298, 299, 722, 723, 724, 725, 726, 727, 728, 729, 730, 731, 732, 733, 734, 735, 736] (by decide +kernel) (by decide +kernel)
set_option maxRecDepth 20000 in
theorem gL_law_X5_keep : GoodIn wsL_law (wsV RL 70 RX5 yX5_keep wsX5_keep) := goodIn_app (goodIn_of _ (by decide +kernel)) ggL_law_X5_keep
set_option maxRecDepth 20000 in
theorem ggL_law_X4_restore : GoodIn wsL_law wsX4_restore := goodIn_r _ [582, 571, 20, 15, 16, 78, 79, 80, 19, 81, 51, 82, 83, 84, 85, 14, 86, 32, 33, 87, 88, 89, 35, 36, 37, 38, 39, 40, 41, 42, 43, 44, 45, 90, 91, 92, 93, 94, 95, 96, 97, 98, 99, 100, 572, 573, 254, 255, 256, 116, 117, 118, 2, 119, 120, 121, 122, 123, 124, 125, 712, 713, 714, 715, 716, 717, 718, 719, 720, 721, 753, 754, 755, 737, 738, 739, 740, 741, 742, 743, 744, 745, 746, 747, 748, 749, 750, 751, 752] (by decide +kernel) (by decide +kernel)
set_option maxRecDepth 20000 in
theorem gL_law_X4_restore : GoodIn wsL_law (wsV RL 71 RX4 yX4_restore wsX4_restore) := goodIn_app (goodIn_of _ (by decide +kernel)) ggL_law_X4_restore
set_option maxRecDepth 20000 in
theorem ggL_law_X5_restore : GoodIn wsL_law wsX5_restore := goodIn_r _ [586, 578, 69, 67, 136, 137, 138, 5, 139, 140, 141, 68, 534, 535, 536, 537, 292, 293, 294, 295, 296, 297, 298, 299, 722, 723, 724, 725, 726, 727, 728, 729, 730, 731, 732, 733, 734, 735, 736] (by decide +kernel) (by decide +kernel)
set_option maxRecDepth 20000 in
theorem gL_law_X5_restore : GoodIn wsL_law (wsV RL 74 RX5 yX5_restore wsX5_restore) := goodIn_app (goodIn_of _ (by decide +kernel)) ggL_law_X5_restore
set_option maxRecDepth 20000 in
theorem ggL_law_X4_acceptor : GoodIn wsL_law wsX4_acceptor := goodIn_r _ [590, 15, 591, 592, 593, 105, 2, 106, 594, 107, 108, 595, 216, 217, 14, 218, 36, 184, 185, 712, 713, 714, 715, 716, 717, 718, 719, 720, 721, 737, 738, 739, 740, 741, 742, 743, 744, 745, 746, 747, 748, 749, 750, 751, 752] (by decide +kernel) (by decide +kernel)
set_option maxRecDepth 20000 in
theorem gL_law_X4_acceptor : GoodIn wsL_law (wsV RL 75 RX4 yX4_acceptor wsX4_acceptor) := goodIn_app (goodIn_of _ (by decide +kernel)) ggL_law_X4_acceptor
set_option maxRecDepth 20000 in
theorem ggL_law_X5_acceptor : GoodIn wsL_law wsX5_acceptor := goodIn_r _ [599, 67, 130, 131, 5, 132, 133, 134, 135, 600, 601, 602, 603, 230, 231, 232, 722, 723, 724, 725, 726, 727, 728, 729, 730, 731, 732, 733, 734, 735, 736] (by decide +kernel) (by decide +kernel)
set_option maxRecDepth 20000 in
theorem gL_law_X5_acceptor : GoodIn wsL_law (wsV RL 78 RX5 yX5_acceptor wsX5_acceptor) := goodIn_app (goodIn_of _ (by decide +kernel)) ggL_law_X5_acceptor
