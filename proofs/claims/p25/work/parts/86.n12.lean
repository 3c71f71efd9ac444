/-! names of the law -/
theorem dL_ballots_777 : decode cL_ballots 777 = .ok (.iconst 0, 1) := by decide +kernel
theorem dL_ballots_778 : decode cL_ballots 778 = .ok (.invokevirtual 35, 3) := by decide +kernel
theorem dL_ballots_781 : decode cL_ballots 781 = .ok (.iload 14, 2) := by decide +kernel
theorem dL_ballots_783 : decode cL_ballots 783 = .ok (.ifCond .le 8, 3) := by decide +kernel
theorem dL_ballots_786 : decode cL_ballots 786 = .ok (.iload 14, 2) := by decide +kernel
theorem dL_ballots_788 : decode cL_ballots 788 = .ok (.goto 17, 3) := by decide +kernel
theorem dL_ballots_791 : decode cL_ballots 791 = .ok (.iload 17, 2) := by decide +kernel
theorem dL_ballots_793 : decode cL_ballots 793 = .ok (.iload 15, 2) := by decide +kernel
theorem dL_ballots_795 : decode cL_ballots 795 = .ok (.if_icmp .lt 8, 3) := by decide +kernel
theorem dL_ballots_798 : decode cL_ballots 798 = .ok (.iload 10, 2) := by decide +kernel
theorem dL_ballots_800 : decode cL_ballots 800 = .ok (.goto 5, 3) := by decide +kernel
theorem dL_ballots_803 : decode cL_ballots 803 = .ok (.bipush (-5), 2) := by decide +kernel
theorem dL_ballots_805 : decode cL_ballots 805 = .ok (.if_icmp .ne 7, 3) := by decide +kernel
theorem dL_ballots_808 : decode cL_ballots 808 = .ok (.iconst 1, 1) := by decide +kernel
theorem dL_ballots_809 : decode cL_ballots 809 = .ok (.goto 4, 3) := by decide +kernel
theorem dL_ballots_812 : decode cL_ballots 812 = .ok (.iconst 0, 1) := by decide +kernel
theorem dL_ballots_813 : decode cL_ballots 813 = .ok (.ireturn, 1) := by decide +kernel
set_option maxRecDepth 20000 in
theorem ggL_others_X4_acceptor : GoodIn wsL_others wsX4_acceptor := goodIn_r _ [5, 6, 7, 8, 9, 10, 4, 11, 12, 13, 14, 15, 16, 17, 18, 19, 20, 21, 22, 149, 150, 151, 152, 153, 154, 155, 156, 157, 158, 159, 160, 161, 162, 163, 164, 165, 166, 167, 168, 169, 170, 171, 172, 173, 174] (by decide +kernel) (by decide +kernel)
set_option maxRecDepth 20000 in
theorem gL_others_X4_acceptor : GoodIn wsL_others (wsV RL 19 RX4 yX4_acceptor wsX4_acceptor) := goodIn_app (goodIn_of _ (by decide +kernel)) ggL_others_X4_acceptor
set_option maxRecDepth 20000 in
theorem ggL_others_X4_setUp : GoodIn wsL_others wsX4_setUp := goodIn_r _ [26, 27, 6, 28, 29, 30, 31, 32, 33, 34, 35, 36, 37, 18, 38, 39, 40, 41, 42, 43, 44, 20, 45, 46, 47, 48, 49, 50, 51, 52, 53, 54, 55, 56, 57, 58, 59, 60, 61, 62, 63, 64, 65, 66, 67, 68, 10, 4, 11, 13, 14, 69, 70, 71, 72, 73, 74, 75, 76, 77, 78, 79, 80, 81, 82, 83, 84, 85, 149, 150, 151, 152, 153, 154, 155, 156, 157, 158, 175, 176, 177, 159, 160, 161, 162, 163, 164, 165, 166, 167, 168, 169, 170, 171, 172, 173, 174] (by decide +kernel) (by decide +kernel)
set_option maxRecDepth 20000 in
theorem gL_others_X4_setUp : GoodIn wsL_others (wsV RL 58 RX4 yX4_setUp wsX4_setUp) := goodIn_app (goodIn_of _ (by decide +kernel)) ggL_others_X4_setUp
set_option maxRecDepth 20000 in
theorem ggL_others_X4_count : GoodIn wsL_others wsX4_count := goodIn_r _ [89, 6, 90, 91, 7, 92, 58, 59, 60, 93, 94, 27, 95, 96, 97, 98, 99, 100, 18, 101, 52, 102, 103, 104, 105, 149, 150, 151, 152, 153, 154, 155, 156, 157, 158, 159, 160, 161, 162, 163, 164, 165, 166, 167, 168, 169, 170, 171, 172, 173, 174, 175, 176, 177, 178, 179] (by decide +kernel) (by decide +kernel)
set_option maxRecDepth 20000 in
theorem gL_others_X4_count : GoodIn wsL_others (wsV RL 13 RX4 yX4_count wsX4_count) := goodIn_app (goodIn_of _ (by decide +kernel)) ggL_others_X4_count
set_option maxRecDepth 20000 in
theorem ggL_others_L_bits : GoodIn wsL_others wsL_bits := goodIn_r _ [109] (by decide +kernel) (by decide +kernel)
set_option maxRecDepth 20000 in
theorem gL_others_L_bits : GoodIn wsL_others (va_wsS RL 38 yL_bits wsL_bits) := goodIn_app (goodIn_of _ (by decide +kernel)) ggL_others_L_bits
set_option maxRecDepth 20000 in
theorem ggL_others_X4_voted : GoodIn wsL_others wsX4_voted := goodIn_r _ [113, 6, 114, 115, 9, 10, 4, 11, 116, 117, 118, 119, 21, 22, 149, 150, 151, 152, 153, 154, 155, 156, 157, 158, 159, 160, 161, 162, 163, 164, 165, 166, 167, 168, 169, 170, 171, 172, 173, 174] (by decide +kernel) (by decide +kernel)
set_option maxRecDepth 20000 in
theorem gL_others_X4_voted : GoodIn wsL_others (wsV RL 25 RX4 yX4_voted wsX4_voted) := goodIn_app (goodIn_of _ (by decide +kernel)) ggL_others_X4_voted
set_option maxRecDepth 20000 in
theorem ggL_others_X4_trim : GoodIn wsL_others wsX4_trim := goodIn_r _ [123, 27, 6, 28, 29, 30, 31, 32, 33, 34, 35, 36, 37, 18, 38, 39, 40, 41, 42, 43, 44, 20, 45, 46, 47, 48, 49, 50, 51, 52, 53, 54, 55, 56, 57, 58, 59, 60, 61, 62, 63, 64, 124, 125, 126, 127, 117, 4, 118, 128, 99, 100, 101, 129, 16, 17, 19, 21, 22, 130, 131, 132, 133, 76, 77, 78, 79, 80, 81, 82, 83, 84, 85, 149, 150, 151, 152, 153, 154, 155, 156, 157, 158, 175, 176, 177, 159, 160, 161, 162, 163, 164, 165, 166, 167, 168, 169, 170, 171, 172, 173, 174] (by decide +kernel) (by decide +kernel)
set_option maxRecDepth 20000 in
theorem gL_others_X4_trim : GoodIn wsL_others (wsV RL 62 RX4 yX4_trim wsX4_trim) := goodIn_app (goodIn_of _ (by decide +kernel)) ggL_others_X4_trim
set_option maxRecDepth 20000 in
theorem ggL_others_L_low : GoodIn wsL_others wsL_low := goodIn_r _ [136, 137] (by decide +kernel) (by decide +kernel)
set_option maxRecDepth 20000 in
theorem gL_others_L_low : GoodIn wsL_others (va_wsS RL 49 yL_low wsL_low) := goodIn_app (goodIn_of _ (by decide +kernel)) ggL_others_L_low
set_option maxRecDepth 20000 in
theorem ggL_others_X4_witness : GoodIn wsL_others wsX4_witness := goodIn_r _ [141, 142, 143, 4, 144, 145, 70, 71, 72, 73, 74, 75, 146, 147, 148, 12, 13, 14] (by decide +kernel) (by decide +kernel)
set_option maxRecDepth 20000 in
theorem gL_others_X4_witness : GoodIn wsL_others (wsV RL 65 RX4 yX4_witness wsX4_witness) := goodIn_app (goodIn_of _ (by decide +kernel)) ggL_others_X4_witness
theorem dL_others_0 : decode cL_others 0 = .ok (.iload_n 1, 1) := by decide +kernel
theorem dL_others_1 : decode cL_others 1 = .ok (.bipush 10, 2) := by decide +kernel
theorem dL_others_3 : decode cL_others 3 = .ok (.if_icmp .ne 92, 3) := by decide +kernel
theorem dL_others_6 : decode cL_others 6 = .ok (.iload 5, 2) := by decide +kernel
theorem dL_others_8 : decode cL_others 8 = .ok (.iconst 3, 1) := by decide +kernel
theorem dL_others_9 : decode cL_others 9 = .ok (.iand, 1) := by decide +kernel
theorem dL_others_10 : decode cL_others 10 = .ok (.ifCond .le 7, 3) := by decide +kernel
theorem dL_others_13 : decode cL_others 13 = .ok (.iconst 1, 1) := by decide +kernel
theorem dL_others_14 : decode cL_others 14 = .ok (.goto 4, 3) := by decide +kernel
theorem dL_others_17 : decode cL_others 17 = .ok (.iconst 0, 1) := by decide +kernel
theorem dL_others_18 : decode cL_others 18 = .ok (.istore 6, 2) := by decide +kernel
theorem dL_others_20 : decode cL_others 20 = .ok (.aload_n 0, 1) := by decide +kernel
theorem dL_others_21 : decode cL_others 21 = .ok (.iload_n 2, 1) := by decide +kernel
theorem dL_others_22 : decode cL_others 22 = .ok (.iconst 0, 1) := by decide +kernel
theorem dL_others_23 : decode cL_others 23 = .ok (.invokevirtual 19, 3) := by decide +kernel
theorem dL_others_26 : decode cL_others 26 = .ok (.iconst 1, 1) := by decide +kernel
theorem dL_others_27 : decode cL_others 27 = .ok (.if_icmp .ne 7, 3) := by decide +kernel
theorem dL_others_30 : decode cL_others 30 = .ok (.iconst 1, 1) := by decide +kernel
theorem dL_others_31 : decode cL_others 31 = .ok (.goto 4, 3) := by decide +kernel
theorem dL_others_34 : decode cL_others 34 = .ok (.iconst 0, 1) := by decide +kernel
theorem dL_others_35 : decode cL_others 35 = .ok (.istore 7, 2) := by decide +kernel
