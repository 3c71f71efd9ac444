/-! names of the law -/
theorem dL_slots_516 : decode cL_slots 516 = .ok (.if_icmp .ne 19, 3) := by decide +kernel
theorem dL_slots_519 : decode cL_slots 519 = .ok (.aload_n 0, 1) := by decide +kernel
theorem dL_slots_520 : decode cL_slots 520 = .ok (.iconst 1, 1) := by decide +kernel
theorem dL_slots_521 : decode cL_slots 521 = .ok (.bipush 6, 2) := by decide +kernel
theorem dL_slots_523 : decode cL_slots 523 = .ok (.invokevirtual 35, 3) := by decide +kernel
theorem dL_slots_526 : decode cL_slots 526 = .ok (.bipush (-2), 2) := by decide +kernel
theorem dL_slots_528 : decode cL_slots 528 = .ok (.if_icmp .ne 7, 3) := by decide +kernel
theorem dL_slots_531 : decode cL_slots 531 = .ok (.iconst 1, 1) := by decide +kernel
theorem dL_slots_532 : decode cL_slots 532 = .ok (.goto 4, 3) := by decide +kernel
theorem dL_slots_535 : decode cL_slots 535 = .ok (.iconst 0, 1) := by decide +kernel
theorem dL_slots_536 : decode cL_slots 536 = .ok (.ireturn, 1) := by decide +kernel
set_option maxRecDepth 20000 in
theorem ggL_proposers_X4_proposer : GoodIn wsL_proposers wsX4_proposer := goodIn_r _ [5, 6, 7, 8, 9, 10, 11, 4, 12, 13, 14, 15, 16, 17, 18, 19, 20, 128, 129, 130, 131, 132, 133, 134, 135, 136, 137, 138, 139, 140, 141, 142, 143, 144, 145, 146, 147, 148, 149, 150, 151, 152, 153] (by decide +kernel) (by decide +kernel)
set_option maxRecDepth 20000 in
theorem gL_proposers_X4_proposer : GoodIn wsL_proposers (wsV RL 29 RX4 yX4_proposer wsX4_proposer) := goodIn_app (goodIn_of _ (by decide +kernel)) ggL_proposers_X4_proposer
set_option maxRecDepth 20000 in
theorem ggL_proposers_X4_acceptor : GoodIn wsL_proposers wsX4_acceptor := goodIn_r _ [24, 6, 25, 26, 27, 28, 4, 29, 30, 31, 32, 33, 34, 35, 16, 36, 37, 19, 20, 128, 129, 130, 131, 132, 133, 134, 135, 136, 137, 138, 139, 140, 141, 142, 143, 144, 145, 146, 147, 148, 149, 150, 151, 152, 153] (by decide +kernel) (by decide +kernel)
set_option maxRecDepth 20000 in
theorem gL_proposers_X4_acceptor : GoodIn wsL_proposers (wsV RL 19 RX4 yX4_acceptor wsX4_acceptor) := goodIn_app (goodIn_of _ (by decide +kernel)) ggL_proposers_X4_acceptor
set_option maxRecDepth 20000 in
theorem ggL_proposers_X4_proposed : GoodIn wsL_proposers wsX4_proposed := goodIn_r _ [41, 6, 42, 10, 11, 4, 12, 43, 44, 45, 46, 19, 20, 47, 48, 49, 50, 51, 52, 16, 53, 54, 55, 56, 57, 58, 59, 60, 61, 62, 63, 64, 65, 66, 67, 68, 69, 31, 32, 70, 71, 72, 73, 74, 75, 76, 77, 78, 79, 80, 81, 82, 83, 84, 85, 86, 87, 88, 89, 90, 91, 92, 93, 94, 95, 96, 128, 129, 130, 131, 132, 133, 134, 135, 136, 137, 138, 139, 140, 141, 142, 143, 144, 145, 146, 147, 148, 149, 150, 151, 152, 153] (by decide +kernel) (by decide +kernel)
set_option maxRecDepth 20000 in
theorem gL_proposers_X4_proposed : GoodIn wsL_proposers (wsV RL 32 RX4 yX4_proposed wsX4_proposed) := goodIn_app (goodIn_of _ (by decide +kernel)) ggL_proposers_X4_proposed
set_option maxRecDepth 20000 in
theorem ggL_proposers_X4_count : GoodIn wsL_proposers wsX4_count := goodIn_r _ [100, 6, 101, 102, 25, 103, 95, 76, 96, 104, 105, 106, 107, 108, 109, 110, 55, 56, 16, 57, 58, 111, 112, 113, 114, 128, 129, 130, 131, 132, 133, 134, 135, 136, 137, 138, 139, 140, 141, 142, 143, 144, 145, 146, 147, 148, 149, 150, 151, 152, 153, 154, 155, 156, 157, 158] (by decide +kernel) (by decide +kernel)
set_option maxRecDepth 20000 in
theorem gL_proposers_X4_count : GoodIn wsL_proposers (wsV RL 13 RX4 yX4_count wsX4_count) := goodIn_app (goodIn_of _ (by decide +kernel)) ggL_proposers_X4_count
set_option maxRecDepth 20000 in
theorem ggL_proposers_X4_slot : GoodIn wsL_proposers wsX4_slot := goodIn_r _ [118, 6, 119, 120, 101, 43, 44, 4, 45, 47, 48, 49, 50, 51, 52, 16, 53, 54, 55, 56, 57, 58, 121, 67, 68, 69, 122, 79, 80, 81, 82, 83, 84, 85, 86, 87, 88, 89, 90, 91, 92, 93, 94, 95, 76, 96, 123, 128, 129, 130, 131, 132, 133, 134, 135, 136, 137, 138, 139, 140, 141, 142, 143, 144, 145, 146, 147, 148, 149, 150, 151, 152, 153] (by decide +kernel) (by decide +kernel)
set_option maxRecDepth 20000 in
theorem gL_proposers_X4_slot : GoodIn wsL_proposers (wsV RL 35 RX4 yX4_slot wsX4_slot) := goodIn_app (goodIn_of _ (by decide +kernel)) ggL_proposers_X4_slot
set_option maxRecDepth 20000 in
theorem ggL_proposers_L_bits : GoodIn wsL_proposers wsL_bits := goodIn_r _ [127] (by decide +kernel) (by decide +kernel)
set_option maxRecDepth 20000 in
theorem gL_proposers_L_bits : GoodIn wsL_proposers (va_wsS RL 38 yL_bits wsL_bits) := goodIn_app (goodIn_of _ (by decide +kernel)) ggL_proposers_L_bits
theorem dL_proposers_0 : decode cL_proposers 0 = .ok (.iconst 0, 1) := by decide +kernel
theorem dL_proposers_1 : decode cL_proposers 1 = .ok (.istore_n 1, 1) := by decide +kernel
theorem dL_proposers_2 : decode cL_proposers 2 = .ok (.iload_n 1, 1) := by decide +kernel
theorem dL_proposers_3 : decode cL_proposers 3 = .ok (.iconst 3, 1) := by decide +kernel
theorem dL_proposers_4 : decode cL_proposers 4 = .ok (.if_icmp .ge 307, 3) := by decide +kernel
theorem dL_proposers_7 : decode cL_proposers 7 = .ok (.aload_n 0, 1) := by decide +kernel
theorem dL_proposers_8 : decode cL_proposers 8 = .ok (.iload_n 1, 1) := by decide +kernel
theorem dL_proposers_9 : decode cL_proposers 9 = .ok (.iconst 0, 1) := by decide +kernel
theorem dL_proposers_10 : decode cL_proposers 10 = .ok (.invokevirtual 29, 3) := by decide +kernel
theorem dL_proposers_13 : decode cL_proposers 13 = .ok (.istore_n 2, 1) := by decide +kernel
theorem dL_proposers_14 : decode cL_proposers 14 = .ok (.aload_n 0, 1) := by decide +kernel
theorem dL_proposers_15 : decode cL_proposers 15 = .ok (.iload_n 1, 1) := by decide +kernel
theorem dL_proposers_16 : decode cL_proposers 16 = .ok (.iconst 2, 1) := by decide +kernel
theorem dL_proposers_17 : decode cL_proposers 17 = .ok (.invokevirtual 29, 3) := by decide +kernel
theorem dL_proposers_20 : decode cL_proposers 20 = .ok (.istore_n 3, 1) := by decide +kernel
theorem dL_proposers_21 : decode cL_proposers 21 = .ok (.iconst 0, 1) := by decide +kernel
theorem dL_proposers_22 : decode cL_proposers 22 = .ok (.istore 4, 2) := by decide +kernel
theorem dL_proposers_24 : decode cL_proposers 24 = .ok (.iload_n 2, 1) := by decide +kernel
theorem dL_proposers_25 : decode cL_proposers 25 = .ok (.ifCond .le 14, 3) := by decide +kernel
theorem dL_proposers_28 : decode cL_proposers 28 = .ok (.iload_n 2, 1) := by decide +kernel
theorem dL_proposers_29 : decode cL_proposers 29 = .ok (.iconst 3, 1) := by decide +kernel
theorem dL_proposers_30 : decode cL_proposers 30 = .ok (.irem, 1) := by decide +kernel
theorem dL_proposers_31 : decode cL_proposers 31 = .ok (.iload_n 1, 1) := by decide +kernel
theorem dL_proposers_32 : decode cL_proposers 32 = .ok (.iconst 1, 1) := by decide +kernel
theorem dL_proposers_33 : decode cL_proposers 33 = .ok (.iadd, 1) := by decide +kernel
theorem dL_proposers_34 : decode cL_proposers 34 = .ok (.iconst 3, 1) := by decide +kernel
theorem dL_proposers_35 : decode cL_proposers 35 = .ok (.irem, 1) := by decide +kernel
theorem dL_proposers_36 : decode cL_proposers 36 = .ok (.if_icmp .ne 11, 3) := by decide +kernel
theorem dL_proposers_39 : decode cL_proposers 39 = .ok (.iload_n 2, 1) := by decide +kernel
theorem dL_proposers_40 : decode cL_proposers 40 = .ok (.ifCond .ne 9, 3) := by decide +kernel
theorem dL_proposers_43 : decode cL_proposers 43 = .ok (.iload_n 3, 1) := by decide +kernel
theorem dL_proposers_44 : decode cL_proposers 44 = .ok (.ifCond .eq 5, 3) := by decide +kernel
theorem dL_proposers_47 : decode cL_proposers 47 = .ok (.iconst 0, 1) := by decide +kernel
theorem dL_proposers_48 : decode cL_proposers 48 = .ok (.ireturn, 1) := by decide +kernel
theorem dL_proposers_49 : decode cL_proposers 49 = .ok (.iconst 0, 1) := by decide +kernel
theorem dL_proposers_50 : decode cL_proposers 50 = .ok (.istore 5, 2) := by decide +kernel
theorem dL_proposers_52 : decode cL_proposers 52 = .ok (.iload 5, 2) := by decide +kernel
theorem dL_proposers_54 : decode cL_proposers 54 = .ok (.bipush 6, 2) := by decide +kernel
theorem dL_proposers_56 : decode cL_proposers 56 = .ok (.if_icmp .ge 32, 3) := by decide +kernel
theorem dL_proposers_59 : decode cL_proposers 59 = .ok (.iload_n 3, 1) := by decide +kernel
theorem dL_proposers_60 : decode cL_proposers 60 = .ok (.iload 5, 2) := by decide +kernel
theorem dL_proposers_62 : decode cL_proposers 62 = .ok (.ishr, 1) := by decide +kernel
theorem dL_proposers_63 : decode cL_proposers 63 = .ok (.iconst 1, 1) := by decide +kernel
theorem dL_proposers_64 : decode cL_proposers 64 = .ok (.iand, 1) := by decide +kernel
theorem dL_proposers_65 : decode cL_proposers 65 = .ok (.iconst 1, 1) := by decide +kernel
