theorem dX5_init_0 : decode cX5_init 0 = .ok (.aload_n 0, 1) := by decide +kernel
theorem dX5_init_1 : decode cX5_init 1 = .ok (.invokespecial 1, 3) := by decide +kernel
theorem dX5_init_4 : decode cX5_init 4 = .ok (.aload_n 0, 1) := by decide +kernel
theorem dX5_init_5 : decode cX5_init 5 = .ok (.sipush 873, 3) := by decide +kernel
theorem dX5_init_8 : decode cX5_init 8 = .ok (.newarray .int, 2) := by decide +kernel
theorem dX5_init_10 : decode cX5_init 10 = .ok (.putfield 7, 3) := by decide +kernel
theorem dX5_init_13 : decode cX5_init 13 = .ok (.aload_n 0, 1) := by decide +kernel
theorem dX5_init_14 : decode cX5_init 14 = .ok (.sipush 3492, 3) := by decide +kernel
theorem dX5_init_17 : decode cX5_init 17 = .ok (.newarray .int, 2) := by decide +kernel
theorem dX5_init_19 : decode cX5_init 19 = .ok (.putfield 13, 3) := by decide +kernel
theorem dX5_init_22 : decode cX5_init 22 = .ok (.aload_n 0, 1) := by decide +kernel
theorem dX5_init_23 : decode cX5_init 23 = .ok (.sipush 873, 3) := by decide +kernel
theorem dX5_init_26 : decode cX5_init 26 = .ok (.newarray .int, 2) := by decide +kernel
theorem dX5_init_28 : decode cX5_init 28 = .ok (.putfield 16, 3) := by decide +kernel
theorem dX5_init_31 : decode cX5_init 31 = .ok (.aload_n 0, 1) := by decide +kernel
theorem dX5_init_32 : decode cX5_init 32 = .ok (.bipush 60, 2) := by decide +kernel
theorem dX5_init_34 : decode cX5_init 34 = .ok (.newarray .char, 2) := by decide +kernel
theorem dX5_init_36 : decode cX5_init 36 = .ok (.putfield 19, 3) := by decide +kernel
theorem dX5_init_39 : decode cX5_init 39 = .ok (.aload_n 0, 1) := by decide +kernel
theorem dX5_init_40 : decode cX5_init 40 = .ok (.sipush 155, 3) := by decide +kernel
theorem dX5_init_43 : decode cX5_init 43 = .ok (.newarray .int, 2) := by decide +kernel
theorem dX5_init_45 : decode cX5_init 45 = .ok (.putfield 23, 3) := by decide +kernel
theorem dX5_init_48 : decode cX5_init 48 = .ok (.aload_n 0, 1) := by decide +kernel
theorem dX5_init_49 : decode cX5_init 49 = .ok (.iconst (-1), 1) := by decide +kernel
theorem dX5_init_50 : decode cX5_init 50 = .ok (.putfield 26, 3) := by decide +kernel
theorem dX5_init_53 : decode cX5_init 53 = .ok (.aload_n 0, 1) := by decide +kernel
theorem dX5_init_54 : decode cX5_init 54 = .ok (.sipush 873, 3) := by decide +kernel
theorem dX5_init_57 : decode cX5_init 57 = .ok (.newarray .int, 2) := by decide +kernel
theorem dX5_init_59 : decode cX5_init 59 = .ok (.putfield 30, 3) := by decide +kernel
theorem dX5_init_62 : decode cX5_init 62 = .ok (.iconst 0, 1) := by decide +kernel
theorem dX5_init_63 : decode cX5_init 63 = .ok (.istore_n 1, 1) := by decide +kernel
theorem dX5_init_64 : decode cX5_init 64 = .ok (.iload_n 1, 1) := by decide +kernel
theorem dX5_init_65 : decode cX5_init 65 = .ok (.bipush 6, 2) := by decide +kernel
theorem dX5_init_67 : decode cX5_init 67 = .ok (.if_icmp .ge 18, 3) := by decide +kernel
theorem dX5_init_70 : decode cX5_init 70 = .ok (.aload_n 0, 1) := by decide +kernel
theorem dX5_init_71 : decode cX5_init 71 = .ok (.getfield 7, 3) := by decide +kernel
theorem dX5_init_74 : decode cX5_init 74 = .ok (.iconst 0, 1) := by decide +kernel
theorem dX5_init_75 : decode cX5_init 75 = .ok (.iload_n 1, 1) := by decide +kernel
theorem dX5_init_76 : decode cX5_init 76 = .ok (.iadd, 1) := by decide +kernel
theorem dX5_init_77 : decode cX5_init 77 = .ok (.iconst 1, 1) := by decide +kernel
theorem dX5_init_78 : decode cX5_init 78 = .ok (.iastore, 1) := by decide +kernel
theorem dX5_init_79 : decode cX5_init 79 = .ok (.iinc 1 1, 3) := by decide +kernel
theorem dX5_init_82 : decode cX5_init 82 = .ok (.goto (-18), 3) := by decide +kernel
theorem dX5_init_85 : decode cX5_init 85 = .ok (.aload_n 0, 1) := by decide +kernel
theorem dX5_init_86 : decode cX5_init 86 = .ok (.getfield 7, 3) := by decide +kernel
theorem dX5_init_89 : decode cX5_init 89 = .ok (.sipush 870, 3) := by decide +kernel
theorem dX5_init_92 : decode cX5_init 92 = .ok (.iconst 2, 1) := by decide +kernel
theorem dX5_init_93 : decode cX5_init 93 = .ok (.iastore, 1) := by decide +kernel
theorem dX5_init_94 : decode cX5_init 94 = .ok (.return_, 1) := by decide +kernel
theorem dX5_in_0 : decode cX5_in 0 = .ok (.iload_n 0, 1) := by decide +kernel
theorem dX5_in_1 : decode cX5_in 1 = .ok (.iload_n 1, 1) := by decide +kernel
theorem dX5_in_2 : decode cX5_in 2 = .ok (.if_icmp .lt 12, 3) := by decide +kernel
theorem dX5_in_5 : decode cX5_in 5 = .ok (.iload_n 0, 1) := by decide +kernel
theorem dX5_in_6 : decode cX5_in 6 = .ok (.iload_n 2, 1) := by decide +kernel
theorem dX5_in_7 : decode cX5_in 7 = .ok (.if_icmp .gt 7, 3) := by decide +kernel
theorem dX5_in_10 : decode cX5_in 10 = .ok (.iconst 1, 1) := by decide +kernel
theorem dX5_in_11 : decode cX5_in 11 = .ok (.goto 4, 3) := by decide +kernel
theorem dX5_in_14 : decode cX5_in 14 = .ok (.iconst 0, 1) := by decide +kernel
theorem dX5_in_15 : decode cX5_in 15 = .ok (.ireturn, 1) := by decide +kernel
set_option maxRecDepth 20000 in
theorem ggX5_noAcceptor_X5_in : GoodIn wsX5_noAcceptor wsX5_in := goodIn_r _ [4] (by decide +kernel) (by decide +kernel)
set_option maxRecDepth 20000 in
theorem gX5_noAcceptor_X5_in : GoodIn wsX5_noAcceptor (va_wsS RX5 33 yX5_in wsX5_in) := goodIn_app (goodIn_of _ (by decide +kernel)) ggX5_noAcceptor_X5_in
theorem dX5_noAcceptor_0 : decode cX5_noAcceptor 0 = .ok (.iload_n 0, 1) := by decide +kernel
theorem dX5_noAcceptor_1 : decode cX5_noAcceptor 1 = .ok (.iconst 0, 1) := by decide +kernel
theorem dX5_noAcceptor_2 : decode cX5_noAcceptor 2 = .ok (.iconst 5, 1) := by decide +kernel
theorem dX5_noAcceptor_3 : decode cX5_noAcceptor 3 = .ok (.invokestatic 33, 3) := by decide +kernel
theorem dX5_noAcceptor_6 : decode cX5_noAcceptor 6 = .ok (.ifCond .ne 7, 3) := by decide +kernel
theorem dX5_noAcceptor_9 : decode cX5_noAcceptor 9 = .ok (.iconst 1, 1) := by decide +kernel
theorem dX5_noAcceptor_10 : decode cX5_noAcceptor 10 = .ok (.goto 4, 3) := by decide +kernel
theorem dX5_noAcceptor_13 : decode cX5_noAcceptor 13 = .ok (.iconst 0, 1) := by decide +kernel
theorem dX5_noAcceptor_14 : decode cX5_noAcceptor 14 = .ok (.ireturn, 1) := by decide +kernel
set_option maxRecDepth 20000 in
theorem ggX5_noProposer_X5_in : GoodIn wsX5_noProposer wsX5_in := goodIn_r _ [4] (by decide +kernel) (by decide +kernel)
set_option maxRecDepth 20000 in
theorem gX5_noProposer_X5_in : GoodIn wsX5_noProposer (va_wsS RX5 33 yX5_in wsX5_in) := goodIn_app (goodIn_of _ (by decide +kernel)) ggX5_noProposer_X5_in
theorem dX5_noProposer_0 : decode cX5_noProposer 0 = .ok (.iload_n 0, 1) := by decide +kernel
theorem dX5_noProposer_1 : decode cX5_noProposer 1 = .ok (.iconst 0, 1) := by decide +kernel
theorem dX5_noProposer_2 : decode cX5_noProposer 2 = .ok (.iconst 2, 1) := by decide +kernel
theorem dX5_noProposer_3 : decode cX5_noProposer 3 = .ok (.invokestatic 33, 3) := by decide +kernel
theorem dX5_noProposer_6 : decode cX5_noProposer 6 = .ok (.ifCond .ne 7, 3) := by decide +kernel
theorem dX5_noProposer_9 : decode cX5_noProposer 9 = .ok (.iconst 1, 1) := by decide +kernel
theorem dX5_noProposer_10 : decode cX5_noProposer 10 = .ok (.goto 4, 3) := by decide +kernel
theorem dX5_noProposer_13 : decode cX5_noProposer 13 = .ok (.iconst 0, 1) := by decide +kernel
theorem dX5_noProposer_14 : decode cX5_noProposer 14 = .ok (.ireturn, 1) := by decide +kernel
set_option maxRecDepth 20000 in
theorem ggX5_noSlot_X5_in : GoodIn wsX5_noSlot wsX5_in := goodIn_r _ [4] (by decide +kernel) (by decide +kernel)
set_option maxRecDepth 20000 in
theorem gX5_noSlot_X5_in : GoodIn wsX5_noSlot (va_wsS RX5 33 yX5_in wsX5_in) := goodIn_app (goodIn_of _ (by decide +kernel)) ggX5_noSlot_X5_in
theorem dX5_noSlot_0 : decode cX5_noSlot 0 = .ok (.iload_n 0, 1) := by decide +kernel
theorem dX5_noSlot_1 : decode cX5_noSlot 1 = .ok (.iconst 1, 1) := by decide +kernel
theorem dX5_noSlot_2 : decode cX5_noSlot 2 = .ok (.bipush 16, 2) := by decide +kernel
theorem dX5_noSlot_4 : decode cX5_noSlot 4 = .ok (.invokestatic 33, 3) := by decide +kernel
theorem dX5_noSlot_7 : decode cX5_noSlot 7 = .ok (.ifCond .ne 7, 3) := by decide +kernel
theorem dX5_noSlot_10 : decode cX5_noSlot 10 = .ok (.iconst 1, 1) := by decide +kernel
theorem dX5_noSlot_11 : decode cX5_noSlot 11 = .ok (.goto 4, 3) := by decide +kernel
theorem dX5_noSlot_14 : decode cX5_noSlot 14 = .ok (.iconst 0, 1) := by decide +kernel
theorem dX5_noSlot_15 : decode cX5_noSlot 15 = .ok (.ireturn, 1) := by decide +kernel
theorem dX5_isIn_0 : decode cX5_isIn 0 = .ok (.iload_n 0, 1) := by decide +kernel
theorem dX5_isIn_1 : decode cX5_isIn 1 = .ok (.iload_n 1, 1) := by decide +kernel
theorem dX5_isIn_2 : decode cX5_isIn 2 = .ok (.ishr, 1) := by decide +kernel
theorem dX5_isIn_3 : decode cX5_isIn 3 = .ok (.iconst 1, 1) := by decide +kernel
theorem dX5_isIn_4 : decode cX5_isIn 4 = .ok (.iand, 1) := by decide +kernel
theorem dX5_isIn_5 : decode cX5_isIn 5 = .ok (.iconst 1, 1) := by decide +kernel
theorem dX5_isIn_6 : decode cX5_isIn 6 = .ok (.if_icmp .ne 7, 3) := by decide +kernel
theorem dX5_isIn_9 : decode cX5_isIn 9 = .ok (.iconst 1, 1) := by decide +kernel
theorem dX5_isIn_10 : decode cX5_isIn 10 = .ok (.goto 4, 3) := by decide +kernel
theorem dX5_isIn_13 : decode cX5_isIn 13 = .ok (.iconst 0, 1) := by decide +kernel
theorem dX5_isIn_14 : decode cX5_isIn 14 = .ok (.ireturn, 1) := by decide +kernel
theorem dX5_bits_0 : decode cX5_bits 0 = .ok (.iconst 0, 1) := by decide +kernel
theorem dX5_bits_1 : decode cX5_bits 1 = .ok (.istore_n 1, 1) := by decide +kernel
theorem dX5_bits_2 : decode cX5_bits 2 = .ok (.iconst 0, 1) := by decide +kernel
theorem dX5_bits_3 : decode cX5_bits 3 = .ok (.istore_n 2, 1) := by decide +kernel
theorem dX5_bits_4 : decode cX5_bits 4 = .ok (.iload_n 2, 1) := by decide +kernel
theorem dX5_bits_5 : decode cX5_bits 5 = .ok (.bipush 6, 2) := by decide +kernel
theorem dX5_bits_7 : decode cX5_bits 7 = .ok (.if_icmp .ge 17, 3) := by decide +kernel
theorem dX5_bits_10 : decode cX5_bits 10 = .ok (.iload_n 1, 1) := by decide +kernel
theorem dX5_bits_11 : decode cX5_bits 11 = .ok (.iload_n 0, 1) := by decide +kernel
theorem dX5_bits_12 : decode cX5_bits 12 = .ok (.iload_n 2, 1) := by decide +kernel
theorem dX5_bits_13 : decode cX5_bits 13 = .ok (.ishr, 1) := by decide +kernel
theorem dX5_bits_14 : decode cX5_bits 14 = .ok (.iconst 1, 1) := by decide +kernel
theorem dX5_bits_15 : decode cX5_bits 15 = .ok (.iand, 1) := by decide +kernel
theorem dX5_bits_16 : decode cX5_bits 16 = .ok (.iadd, 1) := by decide +kernel
theorem dX5_bits_17 : decode cX5_bits 17 = .ok (.istore_n 1, 1) := by decide +kernel
theorem dX5_bits_18 : decode cX5_bits 18 = .ok (.iinc 2 1, 3) := by decide +kernel
theorem dX5_bits_21 : decode cX5_bits 21 = .ok (.goto (-17), 3) := by decide +kernel
theorem dX5_bits_24 : decode cX5_bits 24 = .ok (.iload_n 1, 1) := by decide +kernel
theorem dX5_bits_25 : decode cX5_bits 25 = .ok (.ireturn, 1) := by decide +kernel
theorem dX5_voteAt_0 : decode cX5_voteAt 0 = .ok (.bipush 12, 2) := by decide +kernel
theorem dX5_voteAt_2 : decode cX5_voteAt 2 = .ok (.iconst 2, 1) := by decide +kernel
theorem dX5_voteAt_3 : decode cX5_voteAt 3 = .ok (.bipush 16, 2) := by decide +kernel
theorem dX5_voteAt_5 : decode cX5_voteAt 5 = .ok (.iload_n 0, 1) := by decide +kernel
theorem dX5_voteAt_6 : decode cX5_voteAt 6 = .ok (.imul, 1) := by decide +kernel
theorem dX5_voteAt_7 : decode cX5_voteAt 7 = .ok (.iload_n 1, 1) := by decide +kernel
theorem dX5_voteAt_8 : decode cX5_voteAt 8 = .ok (.iadd, 1) := by decide +kernel
theorem dX5_voteAt_9 : decode cX5_voteAt 9 = .ok (.iconst 1, 1) := by decide +kernel
theorem dX5_voteAt_10 : decode cX5_voteAt 10 = .ok (.isub, 1) := by decide +kernel
theorem dX5_voteAt_11 : decode cX5_voteAt 11 = .ok (.imul, 1) := by decide +kernel
theorem dX5_voteAt_12 : decode cX5_voteAt 12 = .ok (.iadd, 1) := by decide +kernel
theorem dX5_voteAt_13 : decode cX5_voteAt 13 = .ok (.ireturn, 1) := by decide +kernel
theorem dX5_toldAt_0 : decode cX5_toldAt 0 = .ok (.sipush 213, 3) := by decide +kernel
theorem dX5_toldAt_3 : decode cX5_toldAt 3 = .ok (.iconst 2, 1) := by decide +kernel
theorem dX5_toldAt_4 : decode cX5_toldAt 4 = .ok (.bipush 16, 2) := by decide +kernel
theorem dX5_toldAt_6 : decode cX5_toldAt 6 = .ok (.bipush 6, 2) := by decide +kernel
theorem dX5_toldAt_8 : decode cX5_toldAt 8 = .ok (.iload_n 0, 1) := by decide +kernel
theorem dX5_toldAt_9 : decode cX5_toldAt 9 = .ok (.imul, 1) := by decide +kernel
theorem dX5_toldAt_10 : decode cX5_toldAt 10 = .ok (.iload_n 1, 1) := by decide +kernel
theorem dX5_toldAt_11 : decode cX5_toldAt 11 = .ok (.iadd, 1) := by decide +kernel
theorem dX5_toldAt_12 : decode cX5_toldAt 12 = .ok (.imul, 1) := by decide +kernel
theorem dX5_toldAt_13 : decode cX5_toldAt 13 = .ok (.iload_n 2, 1) := by decide +kernel
theorem dX5_toldAt_14 : decode cX5_toldAt 14 = .ok (.iadd, 1) := by decide +kernel
theorem dX5_toldAt_15 : decode cX5_toldAt 15 = .ok (.iconst 1, 1) := by decide +kernel
theorem dX5_toldAt_16 : decode cX5_toldAt 16 = .ok (.isub, 1) := by decide +kernel
theorem dX5_toldAt_17 : decode cX5_toldAt 17 = .ok (.imul, 1) := by decide +kernel
theorem dX5_toldAt_18 : decode cX5_toldAt 18 = .ok (.iadd, 1) := by decide +kernel
theorem dX5_toldAt_19 : decode cX5_toldAt 19 = .ok (.ireturn, 1) := by decide +kernel
theorem dX5_proposedAt_0 : decode cX5_proposedAt 0 = .ok (.sipush 789, 3) := by decide +kernel
theorem dX5_proposedAt_3 : decode cX5_proposedAt 3 = .ok (.bipush 16, 2) := by decide +kernel
theorem dX5_proposedAt_5 : decode cX5_proposedAt 5 = .ok (.iload_n 0, 1) := by decide +kernel
theorem dX5_proposedAt_6 : decode cX5_proposedAt 6 = .ok (.imul, 1) := by decide +kernel
theorem dX5_proposedAt_7 : decode cX5_proposedAt 7 = .ok (.iadd, 1) := by decide +kernel
theorem dX5_proposedAt_8 : decode cX5_proposedAt 8 = .ok (.iload_n 1, 1) := by decide +kernel
theorem dX5_proposedAt_9 : decode cX5_proposedAt 9 = .ok (.iadd, 1) := by decide +kernel
theorem dX5_proposedAt_10 : decode cX5_proposedAt 10 = .ok (.iconst 1, 1) := by decide +kernel
theorem dX5_proposedAt_11 : decode cX5_proposedAt 11 = .ok (.isub, 1) := by decide +kernel
theorem dX5_proposedAt_12 : decode cX5_proposedAt 12 = .ok (.ireturn, 1) := by decide +kernel
theorem dX5_chosen_0 : decode cX5_chosen 0 = .ok (.aload_n 0, 1) := by decide +kernel
theorem dX5_chosen_1 : decode cX5_chosen 1 = .ok (.getfield 7, 3) := by decide +kernel
theorem dX5_chosen_4 : decode cX5_chosen 4 = .ok (.sipush 837, 3) := by decide +kernel
theorem dX5_chosen_7 : decode cX5_chosen 7 = .ok (.iload_n 1, 1) := by decide +kernel
theorem dX5_chosen_8 : decode cX5_chosen 8 = .ok (.iadd, 1) := by decide +kernel
theorem dX5_chosen_9 : decode cX5_chosen 9 = .ok (.iconst 1, 1) := by decide +kernel
theorem dX5_chosen_10 : decode cX5_chosen 10 = .ok (.isub, 1) := by decide +kernel
theorem dX5_chosen_11 : decode cX5_chosen 11 = .ok (.iaload, 1) := by decide +kernel
theorem dX5_chosen_12 : decode cX5_chosen 12 = .ok (.ireturn, 1) := by decide +kernel
theorem dX5_record_0 : decode cX5_record 0 = .ok (.aload_n 0, 1) := by decide +kernel
theorem dX5_record_1 : decode cX5_record 1 = .ok (.getfield 37, 3) := by decide +kernel
theorem dX5_record_4 : decode cX5_record 4 = .ok (.ifCond .eq 4, 3) := by decide +kernel
theorem dX5_record_7 : decode cX5_record 7 = .ok (.return_, 1) := by decide +kernel
theorem dX5_record_8 : decode cX5_record 8 = .ok (.aload_n 0, 1) := by decide +kernel
theorem dX5_record_9 : decode cX5_record 9 = .ok (.getfield 41, 3) := by decide +kernel
theorem dX5_record_12 : decode cX5_record 12 = .ok (.iconst 4, 1) := by decide +kernel
theorem dX5_record_13 : decode cX5_record 13 = .ok (.if_icmp .ne 44, 3) := by decide +kernel
theorem dX5_record_16 : decode cX5_record 16 = .ok (.iconst 0, 1) := by decide +kernel
theorem dX5_record_17 : decode cX5_record 17 = .ok (.istore_n 1, 1) := by decide +kernel
theorem dX5_record_18 : decode cX5_record 18 = .ok (.iload_n 1, 1) := by decide +kernel
theorem dX5_record_19 : decode cX5_record 19 = .ok (.sipush 2619, 3) := by decide +kernel
theorem dX5_record_22 : decode cX5_record 22 = .ok (.if_icmp .ge 25, 3) := by decide +kernel
theorem dX5_record_25 : decode cX5_record 25 = .ok (.aload_n 0, 1) := by decide +kernel
theorem dX5_record_26 : decode cX5_record 26 = .ok (.getfield 13, 3) := by decide +kernel
theorem dX5_record_29 : decode cX5_record 29 = .ok (.iload_n 1, 1) := by decide +kernel
theorem dX5_record_30 : decode cX5_record 30 = .ok (.aload_n 0, 1) := by decide +kernel
theorem dX5_record_31 : decode cX5_record 31 = .ok (.getfield 13, 3) := by decide +kernel
theorem dX5_record_34 : decode cX5_record 34 = .ok (.iload_n 1, 1) := by decide +kernel
theorem dX5_record_35 : decode cX5_record 35 = .ok (.sipush 873, 3) := by decide +kernel
theorem dX5_record_38 : decode cX5_record 38 = .ok (.iadd, 1) := by decide +kernel
theorem dX5_record_39 : decode cX5_record 39 = .ok (.iaload, 1) := by decide +kernel
theorem dX5_record_40 : decode cX5_record 40 = .ok (.iastore, 1) := by decide +kernel
theorem dX5_record_41 : decode cX5_record 41 = .ok (.iinc 1 1, 3) := by decide +kernel
theorem dX5_record_44 : decode cX5_record 44 = .ok (.goto (-26), 3) := by decide +kernel
theorem dX5_record_47 : decode cX5_record 47 = .ok (.aload_n 0, 1) := by decide +kernel
theorem dX5_record_48 : decode cX5_record 48 = .ok (.dup, 1) := by decide +kernel
theorem dX5_record_49 : decode cX5_record 49 = .ok (.getfield 41, 3) := by decide +kernel
theorem dX5_record_52 : decode cX5_record 52 = .ok (.iconst 1, 1) := by decide +kernel
theorem dX5_record_53 : decode cX5_record 53 = .ok (.isub, 1) := by decide +kernel
theorem dX5_record_54 : decode cX5_record 54 = .ok (.putfield 41, 3) := by decide +kernel
theorem dX5_record_57 : decode cX5_record 57 = .ok (.iconst 0, 1) := by decide +kernel
theorem dX5_record_58 : decode cX5_record 58 = .ok (.istore_n 1, 1) := by decide +kernel
theorem dX5_record_59 : decode cX5_record 59 = .ok (.iload_n 1, 1) := by decide +kernel
theorem dX5_record_60 : decode cX5_record 60 = .ok (.sipush 873, 3) := by decide +kernel
theorem dX5_record_63 : decode cX5_record 63 = .ok (.if_icmp .ge 30, 3) := by decide +kernel
theorem dX5_record_66 : decode cX5_record 66 = .ok (.aload_n 0, 1) := by decide +kernel
theorem dX5_record_67 : decode cX5_record 67 = .ok (.getfield 13, 3) := by decide +kernel
theorem dX5_record_70 : decode cX5_record 70 = .ok (.sipush 873, 3) := by decide +kernel
theorem dX5_record_73 : decode cX5_record 73 = .ok (.aload_n 0, 1) := by decide +kernel
theorem dX5_record_74 : decode cX5_record 74 = .ok (.getfield 41, 3) := by decide +kernel
theorem dX5_record_77 : decode cX5_record 77 = .ok (.imul, 1) := by decide +kernel
theorem dX5_record_78 : decode cX5_record 78 = .ok (.iload_n 1, 1) := by decide +kernel
theorem dX5_record_79 : decode cX5_record 79 = .ok (.iadd, 1) := by decide +kernel
theorem dX5_record_80 : decode cX5_record 80 = .ok (.aload_n 0, 1) := by decide +kernel
theorem dX5_record_81 : decode cX5_record 81 = .ok (.getfield 7, 3) := by decide +kernel
theorem dX5_record_84 : decode cX5_record 84 = .ok (.iload_n 1, 1) := by decide +kernel
theorem dX5_record_85 : decode cX5_record 85 = .ok (.iaload, 1) := by decide +kernel
theorem dX5_record_86 : decode cX5_record 86 = .ok (.iastore, 1) := by decide +kernel
theorem dX5_record_87 : decode cX5_record 87 = .ok (.iinc 1 1, 3) := by decide +kernel
theorem dX5_record_90 : decode cX5_record 90 = .ok (.goto (-31), 3) := by decide +kernel
theorem dX5_record_93 : decode cX5_record 93 = .ok (.aload_n 0, 1) := by decide +kernel
theorem dX5_record_94 : decode cX5_record 94 = .ok (.dup, 1) := by decide +kernel
theorem dX5_record_95 : decode cX5_record 95 = .ok (.getfield 41, 3) := by decide +kernel
theorem dX5_record_98 : decode cX5_record 98 = .ok (.iconst 1, 1) := by decide +kernel
theorem dX5_record_99 : decode cX5_record 99 = .ok (.iadd, 1) := by decide +kernel
theorem dX5_record_100 : decode cX5_record 100 = .ok (.putfield 41, 3) := by decide +kernel
theorem dX5_record_103 : decode cX5_record 103 = .ok (.return_, 1) := by decide +kernel
set_option maxRecDepth 20000 in
theorem ggX5_prefix_X5_chosen : GoodIn wsX5_prefix wsX5_chosen := goodIn_r _ [5, 6, 7, 8, 9, 10, 11, 12, 13, 14, 15, 16, 17, 18, 19, 20, 21] (by decide +kernel) (by decide +kernel)
set_option maxRecDepth 20000 in
theorem gX5_prefix_X5_chosen : GoodIn wsX5_prefix (wsV RX5 44 RX5 yX5_chosen wsX5_chosen) := goodIn_app (goodIn_of _ (by decide +kernel)) ggX5_prefix_X5_chosen
theorem dX5_prefix_0 : decode cX5_prefix 0 = .ok (.iconst 0, 1) := by decide +kernel
theorem dX5_prefix_1 : decode cX5_prefix 1 = .ok (.istore_n 1, 1) := by decide +kernel
theorem dX5_prefix_2 : decode cX5_prefix 2 = .ok (.iload_n 1, 1) := by decide +kernel
theorem dX5_prefix_3 : decode cX5_prefix 3 = .ok (.bipush 16, 2) := by decide +kernel
theorem dX5_prefix_5 : decode cX5_prefix 5 = .ok (.if_icmp .ge 19, 3) := by decide +kernel
theorem dX5_prefix_8 : decode cX5_prefix 8 = .ok (.aload_n 0, 1) := by decide +kernel
theorem dX5_prefix_9 : decode cX5_prefix 9 = .ok (.iload_n 1, 1) := by decide +kernel
theorem dX5_prefix_10 : decode cX5_prefix 10 = .ok (.iconst 1, 1) := by decide +kernel
theorem dX5_prefix_11 : decode cX5_prefix 11 = .ok (.iadd, 1) := by decide +kernel
theorem dX5_prefix_12 : decode cX5_prefix 12 = .ok (.invokevirtual 44, 3) := by decide +kernel
theorem dX5_prefix_15 : decode cX5_prefix 15 = .ok (.ifCond .le 9, 3) := by decide +kernel
theorem dX5_prefix_18 : decode cX5_prefix 18 = .ok (.iinc 1 1, 3) := by decide +kernel
theorem dX5_prefix_21 : decode cX5_prefix 21 = .ok (.goto (-19), 3) := by decide +kernel
theorem dX5_prefix_24 : decode cX5_prefix 24 = .ok (.iload_n 1, 1) := by decide +kernel
theorem dX5_prefix_25 : decode cX5_prefix 25 = .ok (.ireturn, 1) := by decide +kernel
set_option maxRecDepth 20000 in
theorem ggX5_isOpen_X5_prefix : GoodIn wsX5_isOpen wsX5_prefix := goodIn_r _ [5, 6, 7, 8, 4, 9, 10, 11, 12, 13, 14, 15, 16, 17, 18, 19, 20, 21, 22, 23, 24, 25] (by decide +kernel) (by decide +kernel)
set_option maxRecDepth 20000 in
theorem gX5_isOpen_X5_prefix : GoodIn wsX5_isOpen (wsV RX5 48 RX5 yX5_prefix wsX5_prefix) := goodIn_app (goodIn_of _ (by decide +kernel)) ggX5_isOpen_X5_prefix
theorem dX5_isOpen_0 : decode cX5_isOpen 0 = .ok (.aload_n 0, 1) := by decide +kernel
theorem dX5_isOpen_1 : decode cX5_isOpen 1 = .ok (.invokevirtual 48, 3) := by decide +kernel
theorem dX5_isOpen_4 : decode cX5_isOpen 4 = .ok (.iload_n 1, 1) := by decide +kernel
theorem dX5_isOpen_5 : decode cX5_isOpen 5 = .ok (.iconst 3, 1) := by decide +kernel
theorem dX5_isOpen_6 : decode cX5_isOpen 6 = .ok (.isub, 1) := by decide +kernel
theorem dX5_isOpen_7 : decode cX5_isOpen 7 = .ok (.if_icmp .lt 7, 3) := by decide +kernel
theorem dX5_isOpen_10 : decode cX5_isOpen 10 = .ok (.iconst 1, 1) := by decide +kernel
theorem dX5_isOpen_11 : decode cX5_isOpen 11 = .ok (.goto 4, 3) := by decide +kernel
theorem dX5_isOpen_14 : decode cX5_isOpen 14 = .ok (.iconst 0, 1) := by decide +kernel
theorem dX5_isOpen_15 : decode cX5_isOpen 15 = .ok (.ireturn, 1) := by decide +kernel
theorem dX5_isTrimmed_0 : decode cX5_isTrimmed 0 = .ok (.iload_n 1, 1) := by decide +kernel
theorem dX5_isTrimmed_1 : decode cX5_isTrimmed 1 = .ok (.aload_n 0, 1) := by decide +kernel
theorem dX5_isTrimmed_2 : decode cX5_isTrimmed 2 = .ok (.getfield 7, 3) := by decide +kernel
theorem dX5_isTrimmed_5 : decode cX5_isTrimmed 5 = .ok (.sipush 869, 3) := by decide +kernel
theorem dX5_isTrimmed_8 : decode cX5_isTrimmed 8 = .ok (.iaload, 1) := by decide +kernel
theorem dX5_isTrimmed_9 : decode cX5_isTrimmed 9 = .ok (.if_icmp .gt 7, 3) := by decide +kernel
theorem dX5_isTrimmed_12 : decode cX5_isTrimmed 12 = .ok (.iconst 1, 1) := by decide +kernel
theorem dX5_isTrimmed_13 : decode cX5_isTrimmed 13 = .ok (.goto 4, 3) := by decide +kernel
theorem dX5_isTrimmed_16 : decode cX5_isTrimmed 16 = .ok (.iconst 0, 1) := by decide +kernel
theorem dX5_isTrimmed_17 : decode cX5_isTrimmed 17 = .ok (.ireturn, 1) := by decide +kernel
set_option maxRecDepth 20000 in
theorem ggX5_voters_X5_chosen : GoodIn wsX5_voters wsX5_chosen := goodIn_r _ [5, 6, 7, 8, 9, 10, 11, 12, 13, 14, 15, 16, 17, 18, 19, 20, 21] (by decide +kernel) (by decide +kernel)
set_option maxRecDepth 20000 in
theorem gX5_voters_X5_chosen : GoodIn wsX5_voters (wsV RX5 44 RX5 yX5_chosen wsX5_chosen) := goodIn_app (goodIn_of _ (by decide +kernel)) ggX5_voters_X5_chosen
theorem dX5_voters_0 : decode cX5_voters 0 = .ok (.iload_n 1, 1) := by decide +kernel
theorem dX5_voters_1 : decode cX5_voters 1 = .ok (.iconst 3, 1) := by decide +kernel
theorem dX5_voters_2 : decode cX5_voters 2 = .ok (.isub, 1) := by decide +kernel
theorem dX5_voters_3 : decode cX5_voters 3 = .ok (.istore_n 2, 1) := by decide +kernel
theorem dX5_voters_4 : decode cX5_voters 4 = .ok (.iload_n 2, 1) := by decide +kernel
theorem dX5_voters_5 : decode cX5_voters 5 = .ok (.ifCond .le 28, 3) := by decide +kernel
theorem dX5_voters_8 : decode cX5_voters 8 = .ok (.aload_n 0, 1) := by decide +kernel
theorem dX5_voters_9 : decode cX5_voters 9 = .ok (.iload_n 2, 1) := by decide +kernel
theorem dX5_voters_10 : decode cX5_voters 10 = .ok (.invokevirtual 44, 3) := by decide +kernel
theorem dX5_voters_13 : decode cX5_voters 13 = .ok (.bipush 100, 2) := by decide +kernel
theorem dX5_voters_15 : decode cX5_voters 15 = .ok (.if_icmp .le 12, 3) := by decide +kernel
theorem dX5_voters_18 : decode cX5_voters 18 = .ok (.aload_n 0, 1) := by decide +kernel
theorem dX5_voters_19 : decode cX5_voters 19 = .ok (.iload_n 2, 1) := by decide +kernel
theorem dX5_voters_20 : decode cX5_voters 20 = .ok (.invokevirtual 44, 3) := by decide +kernel
theorem dX5_voters_23 : decode cX5_voters 23 = .ok (.bipush 100, 2) := by decide +kernel
theorem dX5_voters_25 : decode cX5_voters 25 = .ok (.isub, 1) := by decide +kernel
theorem dX5_voters_26 : decode cX5_voters 26 = .ok (.ireturn, 1) := by decide +kernel
theorem dX5_voters_27 : decode cX5_voters 27 = .ok (.iinc 2 (-1), 3) := by decide +kernel
theorem dX5_voters_30 : decode cX5_voters 30 = .ok (.goto (-26), 3) := by decide +kernel
theorem dX5_voters_33 : decode cX5_voters 33 = .ok (.bipush 7, 2) := by decide +kernel
theorem dX5_voters_35 : decode cX5_voters 35 = .ok (.ireturn, 1) := by decide +kernel
set_option maxRecDepth 20000 in
theorem ggX5_secondSize_X5_voters : GoodIn wsX5_secondSize wsX5_voters := goodIn_r _ [6, 7, 8, 9, 5, 10, 1, 14, 15, 16, 17, 18, 19, 20, 21, 22, 23, 24, 25, 26, 27, 28] (by decide +kernel) (by decide +kernel)
set_option maxRecDepth 20000 in
theorem gX5_secondSize_X5_voters : GoodIn wsX5_secondSize (wsV RX5 52 RX5 yX5_voters wsX5_voters) := goodIn_app (goodIn_of _ (by decide +kernel)) ggX5_secondSize_X5_voters
set_option maxRecDepth 20000 in
theorem ggX5_secondSize_X5_bits : GoodIn wsX5_secondSize wsX5_bits := goodIn_r _ [13] (by decide +kernel) (by decide +kernel)
set_option maxRecDepth 20000 in
theorem gX5_secondSize_X5_bits : GoodIn wsX5_secondSize (va_wsS RX5 55 yX5_bits wsX5_bits) := goodIn_app (goodIn_of _ (by decide +kernel)) ggX5_secondSize_X5_bits
theorem dX5_secondSize_0 : decode cX5_secondSize 0 = .ok (.aload_n 0, 1) := by decide +kernel
theorem dX5_secondSize_1 : decode cX5_secondSize 1 = .ok (.iload_n 1, 1) := by decide +kernel
theorem dX5_secondSize_2 : decode cX5_secondSize 2 = .ok (.invokevirtual 52, 3) := by decide +kernel
theorem dX5_secondSize_5 : decode cX5_secondSize 5 = .ok (.invokestatic 55, 3) := by decide +kernel
theorem dX5_secondSize_8 : decode cX5_secondSize 8 = .ok (.istore_n 2, 1) := by decide +kernel
theorem dX5_secondSize_9 : decode cX5_secondSize 9 = .ok (.aload_n 0, 1) := by decide +kernel
theorem dX5_secondSize_10 : decode cX5_secondSize 10 = .ok (.getfield 7, 3) := by decide +kernel
theorem dX5_secondSize_13 : decode cX5_secondSize 13 = .ok (.sipush 870, 3) := by decide +kernel
theorem dX5_secondSize_16 : decode cX5_secondSize 16 = .ok (.iaload, 1) := by decide +kernel
theorem dX5_secondSize_17 : decode cX5_secondSize 17 = .ok (.iload_n 2, 1) := by decide +kernel
theorem dX5_secondSize_18 : decode cX5_secondSize 18 = .ok (.if_icmp .ge 14, 3) := by decide +kernel
theorem dX5_secondSize_21 : decode cX5_secondSize 21 = .ok (.aload_n 0, 1) := by decide +kernel
theorem dX5_secondSize_22 : decode cX5_secondSize 22 = .ok (.getfield 7, 3) := by decide +kernel
theorem dX5_secondSize_25 : decode cX5_secondSize 25 = .ok (.sipush 870, 3) := by decide +kernel
theorem dX5_secondSize_28 : decode cX5_secondSize 28 = .ok (.iaload, 1) := by decide +kernel
theorem dX5_secondSize_29 : decode cX5_secondSize 29 = .ok (.goto 4, 3) := by decide +kernel
theorem dX5_secondSize_32 : decode cX5_secondSize 32 = .ok (.iload_n 2, 1) := by decide +kernel
theorem dX5_secondSize_33 : decode cX5_secondSize 33 = .ok (.ireturn, 1) := by decide +kernel
set_option maxRecDepth 20000 in
theorem ggX5_firstSize_X5_voters : GoodIn wsX5_firstSize wsX5_voters := goodIn_r _ [5, 6, 7, 8, 4, 9, 10, 18, 19, 20, 21, 22, 23, 24, 25, 26, 27, 28, 29, 30, 31, 32] (by decide +kernel) (by decide +kernel)
set_option maxRecDepth 20000 in
theorem gX5_firstSize_X5_voters : GoodIn wsX5_firstSize (wsV RX5 52 RX5 yX5_voters wsX5_voters) := goodIn_app (goodIn_of _ (by decide +kernel)) ggX5_firstSize_X5_voters
set_option maxRecDepth 20000 in
theorem ggX5_firstSize_X5_bits : GoodIn wsX5_firstSize wsX5_bits := goodIn_r _ [13] (by decide +kernel) (by decide +kernel)
set_option maxRecDepth 20000 in
theorem gX5_firstSize_X5_bits : GoodIn wsX5_firstSize (va_wsS RX5 55 yX5_bits wsX5_bits) := goodIn_app (goodIn_of _ (by decide +kernel)) ggX5_firstSize_X5_bits
set_option maxRecDepth 20000 in
theorem ggX5_firstSize_X5_secondSize : GoodIn wsX5_firstSize wsX5_secondSize := goodIn_r _ [17, 10, 1, 2, 3, 4, 5, 6, 7, 8, 9, 11, 12, 13, 18, 19, 20, 21, 22, 23, 24, 25, 26, 27, 28, 29, 30, 31, 32] (by decide +kernel) (by decide +kernel)
set_option maxRecDepth 20000 in
theorem gX5_firstSize_X5_secondSize : GoodIn wsX5_firstSize (wsV RX5 58 RX5 yX5_secondSize wsX5_secondSize) := goodIn_app (goodIn_of _ (by decide +kernel)) ggX5_firstSize_X5_secondSize
theorem dX5_firstSize_0 : decode cX5_firstSize 0 = .ok (.aload_n 0, 1) := by decide +kernel
theorem dX5_firstSize_1 : decode cX5_firstSize 1 = .ok (.iload_n 1, 1) := by decide +kernel
theorem dX5_firstSize_2 : decode cX5_firstSize 2 = .ok (.invokevirtual 52, 3) := by decide +kernel
theorem dX5_firstSize_5 : decode cX5_firstSize 5 = .ok (.invokestatic 55, 3) := by decide +kernel
theorem dX5_firstSize_8 : decode cX5_firstSize 8 = .ok (.iconst 1, 1) := by decide +kernel
theorem dX5_firstSize_9 : decode cX5_firstSize 9 = .ok (.iadd, 1) := by decide +kernel
theorem dX5_firstSize_10 : decode cX5_firstSize 10 = .ok (.aload_n 0, 1) := by decide +kernel
theorem dX5_firstSize_11 : decode cX5_firstSize 11 = .ok (.iload_n 1, 1) := by decide +kernel
theorem dX5_firstSize_12 : decode cX5_firstSize 12 = .ok (.invokevirtual 58, 3) := by decide +kernel
theorem dX5_firstSize_15 : decode cX5_firstSize 15 = .ok (.isub, 1) := by decide +kernel
theorem dX5_firstSize_16 : decode cX5_firstSize 16 = .ok (.ireturn, 1) := by decide +kernel
theorem dX5_ups_0 : decode cX5_ups 0 = .ok (.iconst 0, 1) := by decide +kernel
theorem dX5_ups_1 : decode cX5_ups 1 = .ok (.istore_n 1, 1) := by decide +kernel
theorem dX5_ups_2 : decode cX5_ups 2 = .ok (.iconst 0, 1) := by decide +kernel
theorem dX5_ups_3 : decode cX5_ups 3 = .ok (.istore_n 2, 1) := by decide +kernel
theorem dX5_ups_4 : decode cX5_ups 4 = .ok (.iload_n 2, 1) := by decide +kernel
theorem dX5_ups_5 : decode cX5_ups 5 = .ok (.bipush 6, 2) := by decide +kernel
theorem dX5_ups_7 : decode cX5_ups 7 = .ok (.if_icmp .ge 22, 3) := by decide +kernel
theorem dX5_ups_10 : decode cX5_ups 10 = .ok (.iload_n 1, 1) := by decide +kernel
theorem dX5_ups_11 : decode cX5_ups 11 = .ok (.aload_n 0, 1) := by decide +kernel
theorem dX5_ups_12 : decode cX5_ups 12 = .ok (.getfield 7, 3) := by decide +kernel
theorem dX5_ups_15 : decode cX5_ups 15 = .ok (.iconst 0, 1) := by decide +kernel
theorem dX5_ups_16 : decode cX5_ups 16 = .ok (.iload_n 2, 1) := by decide +kernel
theorem dX5_ups_17 : decode cX5_ups 17 = .ok (.iadd, 1) := by decide +kernel
theorem dX5_ups_18 : decode cX5_ups 18 = .ok (.iaload, 1) := by decide +kernel
theorem dX5_ups_19 : decode cX5_ups 19 = .ok (.iload_n 2, 1) := by decide +kernel
theorem dX5_ups_20 : decode cX5_ups 20 = .ok (.ishl, 1) := by decide +kernel
theorem dX5_ups_21 : decode cX5_ups 21 = .ok (.ior, 1) := by decide +kernel
theorem dX5_ups_22 : decode cX5_ups 22 = .ok (.istore_n 1, 1) := by decide +kernel
theorem dX5_ups_23 : decode cX5_ups 23 = .ok (.iinc 2 1, 3) := by decide +kernel
theorem dX5_ups_26 : decode cX5_ups 26 = .ok (.goto (-22), 3) := by decide +kernel
theorem dX5_ups_29 : decode cX5_ups 29 = .ok (.iload_n 1, 1) := by decide +kernel
theorem dX5_ups_30 : decode cX5_ups 30 = .ok (.ireturn, 1) := by decide +kernel
set_option maxRecDepth 20000 in
theorem ggX5_setUp_X5_noAcceptor : GoodIn wsX5_setUp wsX5_noAcceptor := goodIn_r _ [5, 6, 7, 4, 8] (by decide +kernel) (by decide +kernel)
set_option maxRecDepth 20000 in
theorem gX5_setUp_X5_noAcceptor : GoodIn wsX5_setUp (va_wsS RX5 61 yX5_noAcceptor wsX5_noAcceptor) := goodIn_app (goodIn_of _ (by decide +kernel)) ggX5_setUp_X5_noAcceptor
set_option maxRecDepth 20000 in
theorem ggX5_setUp_X5_record : GoodIn wsX5_setUp wsX5_record := goodIn_r _ [12, 13, 14, 15, 1, 23, 24, 25, 26, 27, 28, 29, 30, 31, 32, 33, 34, 35, 36, 37] (by decide +kernel) (by decide +kernel)
set_option maxRecDepth 20000 in
theorem gX5_setUp_X5_record : GoodIn wsX5_setUp (wsV RX5 65 RX5 yX5_record wsX5_record) := goodIn_app (goodIn_of _ (by decide +kernel)) ggX5_setUp_X5_record
set_option maxRecDepth 20000 in
theorem ggX5_setUp_X5_ups : GoodIn wsX5_setUp wsX5_ups := goodIn_r _ [19, 1, 23, 24, 25, 26, 27, 28, 29, 30, 31, 32, 33, 34, 35, 36, 37] (by decide +kernel) (by decide +kernel)
set_option maxRecDepth 20000 in
theorem gX5_setUp_X5_ups : GoodIn wsX5_setUp (wsV RX5 68 RX5 yX5_ups wsX5_ups) := goodIn_app (goodIn_of _ (by decide +kernel)) ggX5_setUp_X5_ups
set_option maxRecDepth 20000 in
theorem ggX5_setUp_X5_bits : GoodIn wsX5_setUp wsX5_bits := goodIn_r _ [22] (by decide +kernel) (by decide +kernel)
set_option maxRecDepth 20000 in
theorem gX5_setUp_X5_bits : GoodIn wsX5_setUp (va_wsS RX5 55 yX5_bits wsX5_bits) := goodIn_app (goodIn_of _ (by decide +kernel)) ggX5_setUp_X5_bits
theorem dX5_setUp_0 : decode cX5_setUp 0 = .ok (.iload_n 1, 1) := by decide +kernel
theorem dX5_setUp_1 : decode cX5_setUp 1 = .ok (.invokestatic 61, 3) := by decide +kernel
theorem dX5_setUp_4 : decode cX5_setUp 4 = .ok (.ifCond .eq 5, 3) := by decide +kernel
theorem dX5_setUp_7 : decode cX5_setUp 7 = .ok (.iconst (-1), 1) := by decide +kernel
theorem dX5_setUp_8 : decode cX5_setUp 8 = .ok (.ireturn, 1) := by decide +kernel
theorem dX5_setUp_9 : decode cX5_setUp 9 = .ok (.aload_n 0, 1) := by decide +kernel
theorem dX5_setUp_10 : decode cX5_setUp 10 = .ok (.getfield 7, 3) := by decide +kernel
theorem dX5_setUp_13 : decode cX5_setUp 13 = .ok (.iconst 0, 1) := by decide +kernel
theorem dX5_setUp_14 : decode cX5_setUp 14 = .ok (.iload_n 1, 1) := by decide +kernel
theorem dX5_setUp_15 : decode cX5_setUp 15 = .ok (.iadd, 1) := by decide +kernel
theorem dX5_setUp_16 : decode cX5_setUp 16 = .ok (.iaload, 1) := by decide +kernel
theorem dX5_setUp_17 : decode cX5_setUp 17 = .ok (.iconst 1, 1) := by decide +kernel
theorem dX5_setUp_18 : decode cX5_setUp 18 = .ok (.if_icmp .ne 7, 3) := by decide +kernel
theorem dX5_setUp_21 : decode cX5_setUp 21 = .ok (.iconst 1, 1) := by decide +kernel
theorem dX5_setUp_22 : decode cX5_setUp 22 = .ok (.goto 4, 3) := by decide +kernel
theorem dX5_setUp_25 : decode cX5_setUp 25 = .ok (.iconst 0, 1) := by decide +kernel
theorem dX5_setUp_26 : decode cX5_setUp 26 = .ok (.iload_n 2, 1) := by decide +kernel
theorem dX5_setUp_27 : decode cX5_setUp 27 = .ok (.if_icmp .ne 6, 3) := by decide +kernel
theorem dX5_setUp_30 : decode cX5_setUp 30 = .ok (.bipush (-5), 2) := by decide +kernel
theorem dX5_setUp_32 : decode cX5_setUp 32 = .ok (.ireturn, 1) := by decide +kernel
theorem dX5_setUp_33 : decode cX5_setUp 33 = .ok (.aload_n 0, 1) := by decide +kernel
theorem dX5_setUp_34 : decode cX5_setUp 34 = .ok (.invokevirtual 65, 3) := by decide +kernel
theorem dX5_setUp_37 : decode cX5_setUp 37 = .ok (.aload_n 0, 1) := by decide +kernel
theorem dX5_setUp_38 : decode cX5_setUp 38 = .ok (.getfield 7, 3) := by decide +kernel
theorem dX5_setUp_41 : decode cX5_setUp 41 = .ok (.iconst 0, 1) := by decide +kernel
theorem dX5_setUp_42 : decode cX5_setUp 42 = .ok (.iload_n 1, 1) := by decide +kernel
theorem dX5_setUp_43 : decode cX5_setUp 43 = .ok (.iadd, 1) := by decide +kernel
theorem dX5_setUp_44 : decode cX5_setUp 44 = .ok (.iload_n 2, 1) := by decide +kernel
theorem dX5_setUp_45 : decode cX5_setUp 45 = .ok (.ifCond .eq 7, 3) := by decide +kernel
theorem dX5_setUp_48 : decode cX5_setUp 48 = .ok (.iconst 1, 1) := by decide +kernel
theorem dX5_setUp_49 : decode cX5_setUp 49 = .ok (.goto 4, 3) := by decide +kernel
theorem dX5_setUp_52 : decode cX5_setUp 52 = .ok (.iconst 0, 1) := by decide +kernel
theorem dX5_setUp_53 : decode cX5_setUp 53 = .ok (.iastore, 1) := by decide +kernel
theorem dX5_setUp_54 : decode cX5_setUp 54 = .ok (.aload_n 0, 1) := by decide +kernel
theorem dX5_setUp_55 : decode cX5_setUp 55 = .ok (.invokevirtual 68, 3) := by decide +kernel
theorem dX5_setUp_58 : decode cX5_setUp 58 = .ok (.invokestatic 55, 3) := by decide +kernel
theorem dX5_setUp_61 : decode cX5_setUp 61 = .ok (.ireturn, 1) := by decide +kernel
set_option maxRecDepth 20000 in
theorem ggX5_setSecond_X5_in : GoodIn wsX5_setSecond wsX5_in := goodIn_r _ [5] (by decide +kernel) (by decide +kernel)
set_option maxRecDepth 20000 in
theorem gX5_setSecond_X5_in : GoodIn wsX5_setSecond (va_wsS RX5 33 yX5_in wsX5_in) := goodIn_app (goodIn_of _ (by decide +kernel)) ggX5_setSecond_X5_in
set_option maxRecDepth 20000 in
theorem ggX5_setSecond_X5_record : GoodIn wsX5_setSecond wsX5_record := goodIn_r _ [9, 10, 11, 12, 1, 13, 14, 15, 16, 17, 18, 19, 20, 21, 22, 23, 24, 25, 26, 27] (by decide +kernel) (by decide +kernel)
set_option maxRecDepth 20000 in
theorem gX5_setSecond_X5_record : GoodIn wsX5_setSecond (wsV RX5 65 RX5 yX5_record wsX5_record) := goodIn_app (goodIn_of _ (by decide +kernel)) ggX5_setSecond_X5_record
theorem dX5_setSecond_0 : decode cX5_setSecond 0 = .ok (.iload_n 1, 1) := by decide +kernel
theorem dX5_setSecond_1 : decode cX5_setSecond 1 = .ok (.iconst 1, 1) := by decide +kernel
theorem dX5_setSecond_2 : decode cX5_setSecond 2 = .ok (.bipush 6, 2) := by decide +kernel
theorem dX5_setSecond_4 : decode cX5_setSecond 4 = .ok (.invokestatic 33, 3) := by decide +kernel
theorem dX5_setSecond_7 : decode cX5_setSecond 7 = .ok (.ifCond .ne 6, 3) := by decide +kernel
theorem dX5_setSecond_10 : decode cX5_setSecond 10 = .ok (.bipush (-2), 2) := by decide +kernel
theorem dX5_setSecond_12 : decode cX5_setSecond 12 = .ok (.ireturn, 1) := by decide +kernel
theorem dX5_setSecond_13 : decode cX5_setSecond 13 = .ok (.iconst 0, 1) := by decide +kernel
theorem dX5_setSecond_14 : decode cX5_setSecond 14 = .ok (.istore_n 2, 1) := by decide +kernel
theorem dX5_setSecond_15 : decode cX5_setSecond 15 = .ok (.iload_n 2, 1) := by decide +kernel
theorem dX5_setSecond_16 : decode cX5_setSecond 16 = .ok (.iconst 3, 1) := by decide +kernel
theorem dX5_setSecond_17 : decode cX5_setSecond 17 = .ok (.if_icmp .ge 25, 3) := by decide +kernel
theorem dX5_setSecond_20 : decode cX5_setSecond 20 = .ok (.aload_n 0, 1) := by decide +kernel
theorem dX5_setSecond_21 : decode cX5_setSecond 21 = .ok (.getfield 7, 3) := by decide +kernel
theorem dX5_setSecond_24 : decode cX5_setSecond 24 = .ok (.sipush 204, 3) := by decide +kernel
theorem dX5_setSecond_27 : decode cX5_setSecond 27 = .ok (.iload_n 2, 1) := by decide +kernel
theorem dX5_setSecond_28 : decode cX5_setSecond 28 = .ok (.iadd, 1) := by decide +kernel
theorem dX5_setSecond_29 : decode cX5_setSecond 29 = .ok (.iaload, 1) := by decide +kernel
theorem dX5_setSecond_30 : decode cX5_setSecond 30 = .ok (.ifCond .le 6, 3) := by decide +kernel
theorem dX5_setSecond_33 : decode cX5_setSecond 33 = .ok (.bipush (-4), 2) := by decide +kernel
theorem dX5_setSecond_35 : decode cX5_setSecond 35 = .ok (.ireturn, 1) := by decide +kernel
theorem dX5_setSecond_36 : decode cX5_setSecond 36 = .ok (.iinc 2 1, 3) := by decide +kernel
theorem dX5_setSecond_39 : decode cX5_setSecond 39 = .ok (.goto (-24), 3) := by decide +kernel
theorem dX5_setSecond_42 : decode cX5_setSecond 42 = .ok (.aload_n 0, 1) := by decide +kernel
theorem dX5_setSecond_43 : decode cX5_setSecond 43 = .ok (.getfield 7, 3) := by decide +kernel
theorem dX5_setSecond_46 : decode cX5_setSecond 46 = .ok (.sipush 870, 3) := by decide +kernel
theorem dX5_setSecond_49 : decode cX5_setSecond 49 = .ok (.iaload, 1) := by decide +kernel
theorem dX5_setSecond_50 : decode cX5_setSecond 50 = .ok (.istore_n 2, 1) := by decide +kernel
theorem dX5_setSecond_51 : decode cX5_setSecond 51 = .ok (.iload_n 2, 1) := by decide +kernel
theorem dX5_setSecond_52 : decode cX5_setSecond 52 = .ok (.iload_n 1, 1) := by decide +kernel
theorem dX5_setSecond_53 : decode cX5_setSecond 53 = .ok (.if_icmp .ne 6, 3) := by decide +kernel
theorem dX5_setSecond_56 : decode cX5_setSecond 56 = .ok (.bipush (-5), 2) := by decide +kernel
theorem dX5_setSecond_58 : decode cX5_setSecond 58 = .ok (.ireturn, 1) := by decide +kernel
theorem dX5_setSecond_59 : decode cX5_setSecond 59 = .ok (.aload_n 0, 1) := by decide +kernel
theorem dX5_setSecond_60 : decode cX5_setSecond 60 = .ok (.invokevirtual 65, 3) := by decide +kernel
theorem dX5_setSecond_63 : decode cX5_setSecond 63 = .ok (.aload_n 0, 1) := by decide +kernel
theorem dX5_setSecond_64 : decode cX5_setSecond 64 = .ok (.getfield 7, 3) := by decide +kernel
theorem dX5_setSecond_67 : decode cX5_setSecond 67 = .ok (.sipush 870, 3) := by decide +kernel
theorem dX5_setSecond_70 : decode cX5_setSecond 70 = .ok (.iload_n 1, 1) := by decide +kernel
theorem dX5_setSecond_71 : decode cX5_setSecond 71 = .ok (.iastore, 1) := by decide +kernel
theorem dX5_setSecond_72 : decode cX5_setSecond 72 = .ok (.iload_n 2, 1) := by decide +kernel
theorem dX5_setSecond_73 : decode cX5_setSecond 73 = .ok (.ireturn, 1) := by decide +kernel
set_option maxRecDepth 20000 in
theorem ggX5_prepare_X5_noProposer : GoodIn wsX5_prepare wsX5_noProposer := goodIn_r _ [5, 6, 7, 4, 8] (by decide +kernel) (by decide +kernel)
set_option maxRecDepth 20000 in
theorem gX5_prepare_X5_noProposer : GoodIn wsX5_prepare (va_wsS RX5 71 yX5_noProposer wsX5_noProposer) := goodIn_app (goodIn_of _ (by decide +kernel)) ggX5_prepare_X5_noProposer
set_option maxRecDepth 20000 in
theorem ggX5_prepare_X5_record : GoodIn wsX5_prepare wsX5_record := goodIn_r _ [12, 13, 14, 15, 1, 22, 23, 24, 25, 26, 27, 28, 29, 30, 31, 32, 33, 34, 35, 36] (by decide +kernel) (by decide +kernel)
set_option maxRecDepth 20000 in
theorem gX5_prepare_X5_record : GoodIn wsX5_prepare (wsV RX5 65 RX5 yX5_record wsX5_record) := goodIn_app (goodIn_of _ (by decide +kernel)) ggX5_prepare_X5_record
set_option maxRecDepth 20000 in
theorem ggX5_prepare_X5_proposedAt : GoodIn wsX5_prepare wsX5_proposedAt := goodIn_r _ [18] (by decide +kernel) (by decide +kernel)
set_option maxRecDepth 20000 in
theorem gX5_prepare_X5_proposedAt : GoodIn wsX5_prepare (va_wsS RX5 74 yX5_proposedAt wsX5_proposedAt) := goodIn_app (goodIn_of _ (by decide +kernel)) ggX5_prepare_X5_proposedAt
set_option maxRecDepth 20000 in
theorem ggX5_prepare_X5_toldAt : GoodIn wsX5_prepare wsX5_toldAt := goodIn_r _ [21] (by decide +kernel) (by decide +kernel)
set_option maxRecDepth 20000 in
theorem gX5_prepare_X5_toldAt : GoodIn wsX5_prepare (va_wsS RX5 78 yX5_toldAt wsX5_toldAt) := goodIn_app (goodIn_of _ (by decide +kernel)) ggX5_prepare_X5_toldAt
theorem dX5_prepare_0 : decode cX5_prepare 0 = .ok (.iload_n 1, 1) := by decide +kernel
theorem dX5_prepare_1 : decode cX5_prepare 1 = .ok (.invokestatic 71, 3) := by decide +kernel
theorem dX5_prepare_4 : decode cX5_prepare 4 = .ok (.ifCond .eq 5, 3) := by decide +kernel
theorem dX5_prepare_7 : decode cX5_prepare 7 = .ok (.iconst (-1), 1) := by decide +kernel
theorem dX5_prepare_8 : decode cX5_prepare 8 = .ok (.ireturn, 1) := by decide +kernel
theorem dX5_prepare_9 : decode cX5_prepare 9 = .ok (.aload_n 0, 1) := by decide +kernel
theorem dX5_prepare_10 : decode cX5_prepare 10 = .ok (.getfield 7, 3) := by decide +kernel
theorem dX5_prepare_13 : decode cX5_prepare 13 = .ok (.sipush 204, 3) := by decide +kernel
theorem dX5_prepare_16 : decode cX5_prepare 16 = .ok (.iload_n 1, 1) := by decide +kernel
theorem dX5_prepare_17 : decode cX5_prepare 17 = .ok (.iadd, 1) := by decide +kernel
theorem dX5_prepare_18 : decode cX5_prepare 18 = .ok (.iaload, 1) := by decide +kernel
theorem dX5_prepare_19 : decode cX5_prepare 19 = .ok (.aload_n 0, 1) := by decide +kernel
theorem dX5_prepare_20 : decode cX5_prepare 20 = .ok (.getfield 7, 3) := by decide +kernel
theorem dX5_prepare_23 : decode cX5_prepare 23 = .ok (.sipush 207, 3) := by decide +kernel
theorem dX5_prepare_26 : decode cX5_prepare 26 = .ok (.iload_n 1, 1) := by decide +kernel
theorem dX5_prepare_27 : decode cX5_prepare 27 = .ok (.iadd, 1) := by decide +kernel
theorem dX5_prepare_28 : decode cX5_prepare 28 = .ok (.iaload, 1) := by decide +kernel
theorem dX5_prepare_29 : decode cX5_prepare 29 = .ok (.if_icmp .le 16, 3) := by decide +kernel
theorem dX5_prepare_32 : decode cX5_prepare 32 = .ok (.aload_n 0, 1) := by decide +kernel
theorem dX5_prepare_33 : decode cX5_prepare 33 = .ok (.getfield 7, 3) := by decide +kernel
theorem dX5_prepare_36 : decode cX5_prepare 36 = .ok (.sipush 204, 3) := by decide +kernel
theorem dX5_prepare_39 : decode cX5_prepare 39 = .ok (.iload_n 1, 1) := by decide +kernel
theorem dX5_prepare_40 : decode cX5_prepare 40 = .ok (.iadd, 1) := by decide +kernel
theorem dX5_prepare_41 : decode cX5_prepare 41 = .ok (.iaload, 1) := by decide +kernel
theorem dX5_prepare_42 : decode cX5_prepare 42 = .ok (.goto 13, 3) := by decide +kernel
theorem dX5_prepare_45 : decode cX5_prepare 45 = .ok (.aload_n 0, 1) := by decide +kernel
theorem dX5_prepare_46 : decode cX5_prepare 46 = .ok (.getfield 7, 3) := by decide +kernel
theorem dX5_prepare_49 : decode cX5_prepare 49 = .ok (.sipush 207, 3) := by decide +kernel
theorem dX5_prepare_52 : decode cX5_prepare 52 = .ok (.iload_n 1, 1) := by decide +kernel
theorem dX5_prepare_53 : decode cX5_prepare 53 = .ok (.iadd, 1) := by decide +kernel
theorem dX5_prepare_54 : decode cX5_prepare 54 = .ok (.iaload, 1) := by decide +kernel
theorem dX5_prepare_55 : decode cX5_prepare 55 = .ok (.istore_n 2, 1) := by decide +kernel
theorem dX5_prepare_56 : decode cX5_prepare 56 = .ok (.iload_n 1, 1) := by decide +kernel
theorem dX5_prepare_57 : decode cX5_prepare 57 = .ok (.iconst 1, 1) := by decide +kernel
theorem dX5_prepare_58 : decode cX5_prepare 58 = .ok (.iadd, 1) := by decide +kernel
theorem dX5_prepare_59 : decode cX5_prepare 59 = .ok (.istore_n 3, 1) := by decide +kernel
theorem dX5_prepare_60 : decode cX5_prepare 60 = .ok (.iload_n 3, 1) := by decide +kernel
theorem dX5_prepare_61 : decode cX5_prepare 61 = .ok (.iload_n 2, 1) := by decide +kernel
theorem dX5_prepare_62 : decode cX5_prepare 62 = .ok (.if_icmp .gt 9, 3) := by decide +kernel
theorem dX5_prepare_65 : decode cX5_prepare 65 = .ok (.iinc 3 3, 3) := by decide +kernel
theorem dX5_prepare_68 : decode cX5_prepare 68 = .ok (.goto (-8), 3) := by decide +kernel
theorem dX5_prepare_71 : decode cX5_prepare 71 = .ok (.iload_n 3, 1) := by decide +kernel
theorem dX5_prepare_72 : decode cX5_prepare 72 = .ok (.sipush 999, 3) := by decide +kernel
theorem dX5_prepare_75 : decode cX5_prepare 75 = .ok (.if_icmp .le 6, 3) := by decide +kernel
theorem dX5_prepare_78 : decode cX5_prepare 78 = .ok (.bipush (-3), 2) := by decide +kernel
theorem dX5_prepare_80 : decode cX5_prepare 80 = .ok (.ireturn, 1) := by decide +kernel
theorem dX5_prepare_81 : decode cX5_prepare 81 = .ok (.aload_n 0, 1) := by decide +kernel
theorem dX5_prepare_82 : decode cX5_prepare 82 = .ok (.invokevirtual 65, 3) := by decide +kernel
theorem dX5_prepare_85 : decode cX5_prepare 85 = .ok (.aload_n 0, 1) := by decide +kernel
theorem dX5_prepare_86 : decode cX5_prepare 86 = .ok (.getfield 7, 3) := by decide +kernel
theorem dX5_prepare_89 : decode cX5_prepare 89 = .ok (.sipush 204, 3) := by decide +kernel
theorem dX5_prepare_92 : decode cX5_prepare 92 = .ok (.iload_n 1, 1) := by decide +kernel
theorem dX5_prepare_93 : decode cX5_prepare 93 = .ok (.iadd, 1) := by decide +kernel
theorem dX5_prepare_94 : decode cX5_prepare 94 = .ok (.iload_n 3, 1) := by decide +kernel
theorem dX5_prepare_95 : decode cX5_prepare 95 = .ok (.iastore, 1) := by decide +kernel
theorem dX5_prepare_96 : decode cX5_prepare 96 = .ok (.aload_n 0, 1) := by decide +kernel
theorem dX5_prepare_97 : decode cX5_prepare 97 = .ok (.getfield 7, 3) := by decide +kernel
theorem dX5_prepare_100 : decode cX5_prepare 100 = .ok (.sipush 210, 3) := by decide +kernel
theorem dX5_prepare_103 : decode cX5_prepare 103 = .ok (.iload_n 1, 1) := by decide +kernel
theorem dX5_prepare_104 : decode cX5_prepare 104 = .ok (.iadd, 1) := by decide +kernel
theorem dX5_prepare_105 : decode cX5_prepare 105 = .ok (.iconst 0, 1) := by decide +kernel
theorem dX5_prepare_106 : decode cX5_prepare 106 = .ok (.iastore, 1) := by decide +kernel
theorem dX5_prepare_107 : decode cX5_prepare 107 = .ok (.iconst 1, 1) := by decide +kernel
theorem dX5_prepare_108 : decode cX5_prepare 108 = .ok (.istore 4, 2) := by decide +kernel
theorem dX5_prepare_110 : decode cX5_prepare 110 = .ok (.iload 4, 2) := by decide +kernel
theorem dX5_prepare_112 : decode cX5_prepare 112 = .ok (.bipush 16, 2) := by decide +kernel
theorem dX5_prepare_114 : decode cX5_prepare 114 = .ok (.if_icmp .gt 67, 3) := by decide +kernel
theorem dX5_prepare_117 : decode cX5_prepare 117 = .ok (.aload_n 0, 1) := by decide +kernel
theorem dX5_prepare_118 : decode cX5_prepare 118 = .ok (.getfield 7, 3) := by decide +kernel
theorem dX5_prepare_121 : decode cX5_prepare 121 = .ok (.iload_n 1, 1) := by decide +kernel
theorem dX5_prepare_122 : decode cX5_prepare 122 = .ok (.iload 4, 2) := by decide +kernel
theorem dX5_prepare_124 : decode cX5_prepare 124 = .ok (.invokestatic 74, 3) := by decide +kernel
theorem dX5_prepare_127 : decode cX5_prepare 127 = .ok (.iconst 0, 1) := by decide +kernel
theorem dX5_prepare_128 : decode cX5_prepare 128 = .ok (.iastore, 1) := by decide +kernel
theorem dX5_prepare_129 : decode cX5_prepare 129 = .ok (.iconst 0, 1) := by decide +kernel
theorem dX5_prepare_130 : decode cX5_prepare 130 = .ok (.istore 5, 2) := by decide +kernel
theorem dX5_prepare_132 : decode cX5_prepare 132 = .ok (.iload 5, 2) := by decide +kernel
theorem dX5_prepare_134 : decode cX5_prepare 134 = .ok (.bipush 6, 2) := by decide +kernel
theorem dX5_prepare_136 : decode cX5_prepare 136 = .ok (.if_icmp .ge 39, 3) := by decide +kernel
theorem dX5_prepare_139 : decode cX5_prepare 139 = .ok (.aload_n 0, 1) := by decide +kernel
theorem dX5_prepare_140 : decode cX5_prepare 140 = .ok (.getfield 7, 3) := by decide +kernel
theorem dX5_prepare_143 : decode cX5_prepare 143 = .ok (.iload_n 1, 1) := by decide +kernel
theorem dX5_prepare_144 : decode cX5_prepare 144 = .ok (.iload 5, 2) := by decide +kernel
theorem dX5_prepare_146 : decode cX5_prepare 146 = .ok (.iload 4, 2) := by decide +kernel
theorem dX5_prepare_148 : decode cX5_prepare 148 = .ok (.invokestatic 78, 3) := by decide +kernel
theorem dX5_prepare_151 : decode cX5_prepare 151 = .ok (.iconst 0, 1) := by decide +kernel
theorem dX5_prepare_152 : decode cX5_prepare 152 = .ok (.iastore, 1) := by decide +kernel
theorem dX5_prepare_153 : decode cX5_prepare 153 = .ok (.aload_n 0, 1) := by decide +kernel
theorem dX5_prepare_154 : decode cX5_prepare 154 = .ok (.getfield 7, 3) := by decide +kernel
theorem dX5_prepare_157 : decode cX5_prepare 157 = .ok (.iload_n 1, 1) := by decide +kernel
theorem dX5_prepare_158 : decode cX5_prepare 158 = .ok (.iload 5, 2) := by decide +kernel
theorem dX5_prepare_160 : decode cX5_prepare 160 = .ok (.iload 4, 2) := by decide +kernel
theorem dX5_prepare_162 : decode cX5_prepare 162 = .ok (.invokestatic 78, 3) := by decide +kernel
theorem dX5_prepare_165 : decode cX5_prepare 165 = .ok (.iconst 1, 1) := by decide +kernel
theorem dX5_prepare_166 : decode cX5_prepare 166 = .ok (.iadd, 1) := by decide +kernel
theorem dX5_prepare_167 : decode cX5_prepare 167 = .ok (.iconst 0, 1) := by decide +kernel
theorem dX5_prepare_168 : decode cX5_prepare 168 = .ok (.iastore, 1) := by decide +kernel
theorem dX5_prepare_169 : decode cX5_prepare 169 = .ok (.iinc 5 1, 3) := by decide +kernel
theorem dX5_prepare_172 : decode cX5_prepare 172 = .ok (.goto (-40), 3) := by decide +kernel
theorem dX5_prepare_175 : decode cX5_prepare 175 = .ok (.iinc 4 1, 3) := by decide +kernel
theorem dX5_prepare_178 : decode cX5_prepare 178 = .ok (.goto (-68), 3) := by decide +kernel
theorem dX5_prepare_181 : decode cX5_prepare 181 = .ok (.iload_n 3, 1) := by decide +kernel
theorem dX5_prepare_182 : decode cX5_prepare 182 = .ok (.ireturn, 1) := by decide +kernel
theorem dX5_refuses_0 : decode cX5_refuses 0 = .ok (.aload_n 0, 1) := by decide +kernel
theorem dX5_refuses_1 : decode cX5_refuses 1 = .ok (.getfield 7, 3) := by decide +kernel
theorem dX5_refuses_4 : decode cX5_refuses 4 = .ok (.bipush 6, 2) := by decide +kernel
theorem dX5_refuses_6 : decode cX5_refuses 6 = .ok (.iload_n 2, 1) := by decide +kernel
theorem dX5_refuses_7 : decode cX5_refuses 7 = .ok (.iadd, 1) := by decide +kernel
theorem dX5_refuses_8 : decode cX5_refuses 8 = .ok (.iaload, 1) := by decide +kernel
theorem dX5_refuses_9 : decode cX5_refuses 9 = .ok (.istore 4, 2) := by decide +kernel
theorem dX5_refuses_11 : decode cX5_refuses 11 = .ok (.aload_n 0, 1) := by decide +kernel
theorem dX5_refuses_12 : decode cX5_refuses 12 = .ok (.getfield 7, 3) := by decide +kernel
theorem dX5_refuses_15 : decode cX5_refuses 15 = .ok (.sipush 207, 3) := by decide +kernel
theorem dX5_refuses_18 : decode cX5_refuses 18 = .ok (.iload_n 1, 1) := by decide +kernel
theorem dX5_refuses_19 : decode cX5_refuses 19 = .ok (.iadd, 1) := by decide +kernel
theorem dX5_refuses_20 : decode cX5_refuses 20 = .ok (.iload 4, 2) := by decide +kernel
theorem dX5_refuses_22 : decode cX5_refuses 22 = .ok (.aload_n 0, 1) := by decide +kernel
theorem dX5_refuses_23 : decode cX5_refuses 23 = .ok (.getfield 7, 3) := by decide +kernel
theorem dX5_refuses_26 : decode cX5_refuses 26 = .ok (.sipush 207, 3) := by decide +kernel
theorem dX5_refuses_29 : decode cX5_refuses 29 = .ok (.iload_n 1, 1) := by decide +kernel
theorem dX5_refuses_30 : decode cX5_refuses 30 = .ok (.iadd, 1) := by decide +kernel
theorem dX5_refuses_31 : decode cX5_refuses 31 = .ok (.iaload, 1) := by decide +kernel
theorem dX5_refuses_32 : decode cX5_refuses 32 = .ok (.if_icmp .le 8, 3) := by decide +kernel
theorem dX5_refuses_35 : decode cX5_refuses 35 = .ok (.iload 4, 2) := by decide +kernel
theorem dX5_refuses_37 : decode cX5_refuses 37 = .ok (.goto 13, 3) := by decide +kernel
theorem dX5_refuses_40 : decode cX5_refuses 40 = .ok (.aload_n 0, 1) := by decide +kernel
theorem dX5_refuses_41 : decode cX5_refuses 41 = .ok (.getfield 7, 3) := by decide +kernel
theorem dX5_refuses_44 : decode cX5_refuses 44 = .ok (.sipush 207, 3) := by decide +kernel
theorem dX5_refuses_47 : decode cX5_refuses 47 = .ok (.iload_n 1, 1) := by decide +kernel
theorem dX5_refuses_48 : decode cX5_refuses 48 = .ok (.iadd, 1) := by decide +kernel
theorem dX5_refuses_49 : decode cX5_refuses 49 = .ok (.iaload, 1) := by decide +kernel
theorem dX5_refuses_50 : decode cX5_refuses 50 = .ok (.iastore, 1) := by decide +kernel
theorem dX5_refuses_51 : decode cX5_refuses 51 = .ok (.aload_n 0, 1) := by decide +kernel
theorem dX5_refuses_52 : decode cX5_refuses 52 = .ok (.getfield 7, 3) := by decide +kernel
theorem dX5_refuses_55 : decode cX5_refuses 55 = .ok (.iload_n 3, 1) := by decide +kernel
theorem dX5_refuses_56 : decode cX5_refuses 56 = .ok (.dup2, 1) := by decide +kernel
theorem dX5_refuses_57 : decode cX5_refuses 57 = .ok (.iaload, 1) := by decide +kernel
theorem dX5_refuses_58 : decode cX5_refuses 58 = .ok (.iconst 1, 1) := by decide +kernel
theorem dX5_refuses_59 : decode cX5_refuses 59 = .ok (.iadd, 1) := by decide +kernel
theorem dX5_refuses_60 : decode cX5_refuses 60 = .ok (.iastore, 1) := by decide +kernel
theorem dX5_refuses_61 : decode cX5_refuses 61 = .ok (.bipush 100, 2) := by decide +kernel
theorem dX5_refuses_63 : decode cX5_refuses 63 = .ok (.iload 4, 2) := by decide +kernel
theorem dX5_refuses_65 : decode cX5_refuses 65 = .ok (.iadd, 1) := by decide +kernel
theorem dX5_refuses_66 : decode cX5_refuses 66 = .ok (.ireturn, 1) := by decide +kernel
set_option maxRecDepth 20000 in
theorem ggX5_promise_X5_noProposer : GoodIn wsX5_promise wsX5_noProposer := goodIn_r _ [5, 6, 7, 4, 8] (by decide +kernel) (by decide +kernel)
set_option maxRecDepth 20000 in
theorem gX5_promise_X5_noProposer : GoodIn wsX5_promise (va_wsS RX5 71 yX5_noProposer wsX5_noProposer) := goodIn_app (goodIn_of _ (by decide +kernel)) ggX5_promise_X5_noProposer
set_option maxRecDepth 20000 in
theorem ggX5_promise_X5_noAcceptor : GoodIn wsX5_promise wsX5_noAcceptor := goodIn_r _ [11, 6, 7, 4, 8] (by decide +kernel) (by decide +kernel)
set_option maxRecDepth 20000 in
theorem gX5_promise_X5_noAcceptor : GoodIn wsX5_promise (va_wsS RX5 61 yX5_noAcceptor wsX5_noAcceptor) := goodIn_app (goodIn_of _ (by decide +kernel)) ggX5_promise_X5_noAcceptor
set_option maxRecDepth 20000 in
theorem ggX5_promise_X5_isIn : GoodIn wsX5_promise wsX5_isIn := goodIn_r _ [14] (by decide +kernel) (by decide +kernel)
set_option maxRecDepth 20000 in
theorem gX5_promise_X5_isIn : GoodIn wsX5_promise (va_wsS RX5 82 yX5_isIn wsX5_isIn) := goodIn_app (goodIn_of _ (by decide +kernel)) ggX5_promise_X5_isIn
set_option maxRecDepth 20000 in
theorem ggX5_promise_X5_record : GoodIn wsX5_promise wsX5_record := goodIn_r _ [18, 19, 20, 21, 1, 32, 33, 34, 35, 36, 37, 38, 39, 40, 41, 42, 43, 44, 45, 46] (by decide +kernel) (by decide +kernel)
set_option maxRecDepth 20000 in
theorem gX5_promise_X5_record : GoodIn wsX5_promise (wsV RX5 65 RX5 yX5_record wsX5_record) := goodIn_app (goodIn_of _ (by decide +kernel)) ggX5_promise_X5_record
set_option maxRecDepth 20000 in
theorem ggX5_promise_X5_refuses : GoodIn wsX5_promise wsX5_refuses := goodIn_r _ [25, 1, 32, 33, 34, 35, 36, 37, 38, 39, 40, 41, 42, 43, 44, 45, 46] (by decide +kernel) (by decide +kernel)
set_option maxRecDepth 20000 in
theorem gX5_promise_X5_refuses : GoodIn wsX5_promise (wsV RX5 86 RX5 yX5_refuses wsX5_refuses) := goodIn_app (goodIn_of _ (by decide +kernel)) ggX5_promise_X5_refuses
set_option maxRecDepth 20000 in
theorem ggX5_promise_X5_voteAt : GoodIn wsX5_promise wsX5_voteAt := goodIn_r _ [28] (by decide +kernel) (by decide +kernel)
set_option maxRecDepth 20000 in
theorem gX5_promise_X5_voteAt : GoodIn wsX5_promise (va_wsS RX5 89 yX5_voteAt wsX5_voteAt) := goodIn_app (goodIn_of _ (by decide +kernel)) ggX5_promise_X5_voteAt
set_option maxRecDepth 20000 in
theorem ggX5_promise_X5_toldAt : GoodIn wsX5_promise wsX5_toldAt := goodIn_r _ [31] (by decide +kernel) (by decide +kernel)
set_option maxRecDepth 20000 in
theorem gX5_promise_X5_toldAt : GoodIn wsX5_promise (va_wsS RX5 78 yX5_toldAt wsX5_toldAt) := goodIn_app (goodIn_of _ (by decide +kernel)) ggX5_promise_X5_toldAt
theorem dX5_promise_0 : decode cX5_promise 0 = .ok (.iload_n 1, 1) := by decide +kernel
theorem dX5_promise_1 : decode cX5_promise 1 = .ok (.invokestatic 71, 3) := by decide +kernel
theorem dX5_promise_4 : decode cX5_promise 4 = .ok (.ifCond .ne 10, 3) := by decide +kernel
theorem dX5_promise_7 : decode cX5_promise 7 = .ok (.iload_n 2, 1) := by decide +kernel
theorem dX5_promise_8 : decode cX5_promise 8 = .ok (.invokestatic 61, 3) := by decide +kernel
theorem dX5_promise_11 : decode cX5_promise 11 = .ok (.ifCond .eq 5, 3) := by decide +kernel
theorem dX5_promise_14 : decode cX5_promise 14 = .ok (.iconst (-1), 1) := by decide +kernel
theorem dX5_promise_15 : decode cX5_promise 15 = .ok (.ireturn, 1) := by decide +kernel
theorem dX5_promise_16 : decode cX5_promise 16 = .ok (.aload_n 0, 1) := by decide +kernel
theorem dX5_promise_17 : decode cX5_promise 17 = .ok (.getfield 7, 3) := by decide +kernel
theorem dX5_promise_20 : decode cX5_promise 20 = .ok (.sipush 204, 3) := by decide +kernel
theorem dX5_promise_23 : decode cX5_promise 23 = .ok (.iload_n 1, 1) := by decide +kernel
theorem dX5_promise_24 : decode cX5_promise 24 = .ok (.iadd, 1) := by decide +kernel
theorem dX5_promise_25 : decode cX5_promise 25 = .ok (.iaload, 1) := by decide +kernel
theorem dX5_promise_26 : decode cX5_promise 26 = .ok (.istore_n 3, 1) := by decide +kernel
theorem dX5_promise_27 : decode cX5_promise 27 = .ok (.iload_n 3, 1) := by decide +kernel
theorem dX5_promise_28 : decode cX5_promise 28 = .ok (.ifCond .eq 14, 3) := by decide +kernel
theorem dX5_promise_31 : decode cX5_promise 31 = .ok (.aload_n 0, 1) := by decide +kernel
theorem dX5_promise_32 : decode cX5_promise 32 = .ok (.getfield 7, 3) := by decide +kernel
theorem dX5_promise_35 : decode cX5_promise 35 = .ok (.iconst 0, 1) := by decide +kernel
theorem dX5_promise_36 : decode cX5_promise 36 = .ok (.iload_n 2, 1) := by decide +kernel
theorem dX5_promise_37 : decode cX5_promise 37 = .ok (.iadd, 1) := by decide +kernel
theorem dX5_promise_38 : decode cX5_promise 38 = .ok (.iaload, 1) := by decide +kernel
theorem dX5_promise_39 : decode cX5_promise 39 = .ok (.ifCond .ne 6, 3) := by decide +kernel
theorem dX5_promise_42 : decode cX5_promise 42 = .ok (.bipush (-4), 2) := by decide +kernel
theorem dX5_promise_44 : decode cX5_promise 44 = .ok (.ireturn, 1) := by decide +kernel
theorem dX5_promise_45 : decode cX5_promise 45 = .ok (.aload_n 0, 1) := by decide +kernel
theorem dX5_promise_46 : decode cX5_promise 46 = .ok (.getfield 7, 3) := by decide +kernel
theorem dX5_promise_49 : decode cX5_promise 49 = .ok (.sipush 210, 3) := by decide +kernel
theorem dX5_promise_52 : decode cX5_promise 52 = .ok (.iload_n 1, 1) := by decide +kernel
theorem dX5_promise_53 : decode cX5_promise 53 = .ok (.iadd, 1) := by decide +kernel
theorem dX5_promise_54 : decode cX5_promise 54 = .ok (.iaload, 1) := by decide +kernel
theorem dX5_promise_55 : decode cX5_promise 55 = .ok (.iload_n 2, 1) := by decide +kernel
theorem dX5_promise_56 : decode cX5_promise 56 = .ok (.invokestatic 82, 3) := by decide +kernel
theorem dX5_promise_59 : decode cX5_promise 59 = .ok (.ifCond .eq 6, 3) := by decide +kernel
theorem dX5_promise_62 : decode cX5_promise 62 = .ok (.bipush (-5), 2) := by decide +kernel
theorem dX5_promise_64 : decode cX5_promise 64 = .ok (.ireturn, 1) := by decide +kernel
theorem dX5_promise_65 : decode cX5_promise 65 = .ok (.aload_n 0, 1) := by decide +kernel
theorem dX5_promise_66 : decode cX5_promise 66 = .ok (.invokevirtual 65, 3) := by decide +kernel
theorem dX5_promise_69 : decode cX5_promise 69 = .ok (.iload_n 3, 1) := by decide +kernel
theorem dX5_promise_70 : decode cX5_promise 70 = .ok (.aload_n 0, 1) := by decide +kernel
theorem dX5_promise_71 : decode cX5_promise 71 = .ok (.getfield 7, 3) := by decide +kernel
theorem dX5_promise_74 : decode cX5_promise 74 = .ok (.bipush 6, 2) := by decide +kernel
theorem dX5_promise_76 : decode cX5_promise 76 = .ok (.iload_n 2, 1) := by decide +kernel
theorem dX5_promise_77 : decode cX5_promise 77 = .ok (.iadd, 1) := by decide +kernel
theorem dX5_promise_78 : decode cX5_promise 78 = .ok (.iaload, 1) := by decide +kernel
theorem dX5_promise_79 : decode cX5_promise 79 = .ok (.if_icmp .gt 13, 3) := by decide +kernel
theorem dX5_promise_82 : decode cX5_promise 82 = .ok (.aload_n 0, 1) := by decide +kernel
theorem dX5_promise_83 : decode cX5_promise 83 = .ok (.iload_n 1, 1) := by decide +kernel
theorem dX5_promise_84 : decode cX5_promise 84 = .ok (.iload_n 2, 1) := by decide +kernel
theorem dX5_promise_85 : decode cX5_promise 85 = .ok (.sipush 871, 3) := by decide +kernel
theorem dX5_promise_88 : decode cX5_promise 88 = .ok (.invokevirtual 86, 3) := by decide +kernel
theorem dX5_promise_91 : decode cX5_promise 91 = .ok (.ireturn, 1) := by decide +kernel
theorem dX5_promise_92 : decode cX5_promise 92 = .ok (.aload_n 0, 1) := by decide +kernel
theorem dX5_promise_93 : decode cX5_promise 93 = .ok (.getfield 7, 3) := by decide +kernel
theorem dX5_promise_96 : decode cX5_promise 96 = .ok (.bipush 6, 2) := by decide +kernel
theorem dX5_promise_98 : decode cX5_promise 98 = .ok (.iload_n 2, 1) := by decide +kernel
theorem dX5_promise_99 : decode cX5_promise 99 = .ok (.iadd, 1) := by decide +kernel
theorem dX5_promise_100 : decode cX5_promise 100 = .ok (.iload_n 3, 1) := by decide +kernel
theorem dX5_promise_101 : decode cX5_promise 101 = .ok (.iastore, 1) := by decide +kernel
theorem dX5_promise_102 : decode cX5_promise 102 = .ok (.aload_n 0, 1) := by decide +kernel
theorem dX5_promise_103 : decode cX5_promise 103 = .ok (.getfield 7, 3) := by decide +kernel
theorem dX5_promise_106 : decode cX5_promise 106 = .ok (.sipush 210, 3) := by decide +kernel
theorem dX5_promise_109 : decode cX5_promise 109 = .ok (.iload_n 1, 1) := by decide +kernel
theorem dX5_promise_110 : decode cX5_promise 110 = .ok (.iadd, 1) := by decide +kernel
theorem dX5_promise_111 : decode cX5_promise 111 = .ok (.dup2, 1) := by decide +kernel
theorem dX5_promise_112 : decode cX5_promise 112 = .ok (.iaload, 1) := by decide +kernel
theorem dX5_promise_113 : decode cX5_promise 113 = .ok (.iconst 1, 1) := by decide +kernel
theorem dX5_promise_114 : decode cX5_promise 114 = .ok (.iload_n 2, 1) := by decide +kernel
theorem dX5_promise_115 : decode cX5_promise 115 = .ok (.ishl, 1) := by decide +kernel
theorem dX5_promise_116 : decode cX5_promise 116 = .ok (.ior, 1) := by decide +kernel
theorem dX5_promise_117 : decode cX5_promise 117 = .ok (.iastore, 1) := by decide +kernel
theorem dX5_promise_118 : decode cX5_promise 118 = .ok (.iconst 0, 1) := by decide +kernel
theorem dX5_promise_119 : decode cX5_promise 119 = .ok (.istore 4, 2) := by decide +kernel
theorem dX5_promise_121 : decode cX5_promise 121 = .ok (.iconst 1, 1) := by decide +kernel
theorem dX5_promise_122 : decode cX5_promise 122 = .ok (.istore 5, 2) := by decide +kernel
theorem dX5_promise_124 : decode cX5_promise 124 = .ok (.iload 5, 2) := by decide +kernel
theorem dX5_promise_126 : decode cX5_promise 126 = .ok (.bipush 16, 2) := by decide +kernel
theorem dX5_promise_128 : decode cX5_promise 128 = .ok (.if_icmp .gt 78, 3) := by decide +kernel
theorem dX5_promise_131 : decode cX5_promise 131 = .ok (.iload_n 2, 1) := by decide +kernel
theorem dX5_promise_132 : decode cX5_promise 132 = .ok (.iload 5, 2) := by decide +kernel
theorem dX5_promise_134 : decode cX5_promise 134 = .ok (.invokestatic 89, 3) := by decide +kernel
theorem dX5_promise_137 : decode cX5_promise 137 = .ok (.istore 6, 2) := by decide +kernel
theorem dX5_promise_139 : decode cX5_promise 139 = .ok (.iload_n 1, 1) := by decide +kernel
theorem dX5_promise_140 : decode cX5_promise 140 = .ok (.iload_n 2, 1) := by decide +kernel
theorem dX5_promise_141 : decode cX5_promise 141 = .ok (.iload 5, 2) := by decide +kernel
theorem dX5_promise_143 : decode cX5_promise 143 = .ok (.invokestatic 78, 3) := by decide +kernel
theorem dX5_promise_146 : decode cX5_promise 146 = .ok (.istore 7, 2) := by decide +kernel
theorem dX5_promise_148 : decode cX5_promise 148 = .ok (.aload_n 0, 1) := by decide +kernel
theorem dX5_promise_149 : decode cX5_promise 149 = .ok (.getfield 7, 3) := by decide +kernel
theorem dX5_promise_152 : decode cX5_promise 152 = .ok (.iload 7, 2) := by decide +kernel
theorem dX5_promise_154 : decode cX5_promise 154 = .ok (.aload_n 0, 1) := by decide +kernel
theorem dX5_promise_155 : decode cX5_promise 155 = .ok (.getfield 7, 3) := by decide +kernel
theorem dX5_promise_158 : decode cX5_promise 158 = .ok (.iload 6, 2) := by decide +kernel
theorem dX5_promise_160 : decode cX5_promise 160 = .ok (.iaload, 1) := by decide +kernel
theorem dX5_promise_161 : decode cX5_promise 161 = .ok (.iastore, 1) := by decide +kernel
theorem dX5_promise_162 : decode cX5_promise 162 = .ok (.aload_n 0, 1) := by decide +kernel
theorem dX5_promise_163 : decode cX5_promise 163 = .ok (.getfield 7, 3) := by decide +kernel
theorem dX5_promise_166 : decode cX5_promise 166 = .ok (.iload 7, 2) := by decide +kernel
theorem dX5_promise_168 : decode cX5_promise 168 = .ok (.iconst 1, 1) := by decide +kernel
theorem dX5_promise_169 : decode cX5_promise 169 = .ok (.iadd, 1) := by decide +kernel
theorem dX5_promise_170 : decode cX5_promise 170 = .ok (.aload_n 0, 1) := by decide +kernel
theorem dX5_promise_171 : decode cX5_promise 171 = .ok (.getfield 7, 3) := by decide +kernel
theorem dX5_promise_174 : decode cX5_promise 174 = .ok (.iload 6, 2) := by decide +kernel
theorem dX5_promise_176 : decode cX5_promise 176 = .ok (.iconst 1, 1) := by decide +kernel
theorem dX5_promise_177 : decode cX5_promise 177 = .ok (.iadd, 1) := by decide +kernel
theorem dX5_promise_178 : decode cX5_promise 178 = .ok (.iaload, 1) := by decide +kernel
theorem dX5_promise_179 : decode cX5_promise 179 = .ok (.iastore, 1) := by decide +kernel
theorem dX5_promise_180 : decode cX5_promise 180 = .ok (.iload 4, 2) := by decide +kernel
theorem dX5_promise_182 : decode cX5_promise 182 = .ok (.aload_n 0, 1) := by decide +kernel
theorem dX5_promise_183 : decode cX5_promise 183 = .ok (.getfield 7, 3) := by decide +kernel
theorem dX5_promise_186 : decode cX5_promise 186 = .ok (.iload 6, 2) := by decide +kernel
theorem dX5_promise_188 : decode cX5_promise 188 = .ok (.iaload, 1) := by decide +kernel
theorem dX5_promise_189 : decode cX5_promise 189 = .ok (.ifCond .le 7, 3) := by decide +kernel
theorem dX5_promise_192 : decode cX5_promise 192 = .ok (.iconst 1, 1) := by decide +kernel
theorem dX5_promise_193 : decode cX5_promise 193 = .ok (.goto 4, 3) := by decide +kernel
theorem dX5_promise_196 : decode cX5_promise 196 = .ok (.iconst 0, 1) := by decide +kernel
theorem dX5_promise_197 : decode cX5_promise 197 = .ok (.iadd, 1) := by decide +kernel
theorem dX5_promise_198 : decode cX5_promise 198 = .ok (.istore 4, 2) := by decide +kernel
theorem dX5_promise_200 : decode cX5_promise 200 = .ok (.iinc 5 1, 3) := by decide +kernel
theorem dX5_promise_203 : decode cX5_promise 203 = .ok (.goto (-79), 3) := by decide +kernel
theorem dX5_promise_206 : decode cX5_promise 206 = .ok (.iload 4, 2) := by decide +kernel
theorem dX5_promise_208 : decode cX5_promise 208 = .ok (.ireturn, 1) := by decide +kernel
set_option maxRecDepth 20000 in
theorem ggX5_bound_X5_voters : GoodIn wsX5_bound wsX5_voters := goodIn_r _ [6, 7, 8, 9, 5, 10, 1, 17, 18, 19, 20, 21, 22, 23, 24, 25, 26, 27, 28, 29, 30, 31] (by decide +kernel) (by decide +kernel)
set_option maxRecDepth 20000 in
theorem gX5_bound_X5_voters : GoodIn wsX5_bound (wsV RX5 52 RX5 yX5_voters wsX5_voters) := goodIn_app (goodIn_of _ (by decide +kernel)) ggX5_bound_X5_voters
set_option maxRecDepth 20000 in
theorem ggX5_bound_X5_toldAt : GoodIn wsX5_bound wsX5_toldAt := goodIn_r _ [13] (by decide +kernel) (by decide +kernel)
set_option maxRecDepth 20000 in
theorem gX5_bound_X5_toldAt : GoodIn wsX5_bound (va_wsS RX5 78 yX5_toldAt wsX5_toldAt) := goodIn_app (goodIn_of _ (by decide +kernel)) ggX5_bound_X5_toldAt
set_option maxRecDepth 20000 in
theorem ggX5_bound_X5_isIn : GoodIn wsX5_bound wsX5_isIn := goodIn_r _ [16] (by decide +kernel) (by decide +kernel)
set_option maxRecDepth 20000 in
theorem gX5_bound_X5_isIn : GoodIn wsX5_bound (va_wsS RX5 82 yX5_isIn wsX5_isIn) := goodIn_app (goodIn_of _ (by decide +kernel)) ggX5_bound_X5_isIn
theorem dX5_bound_0 : decode cX5_bound 0 = .ok (.aload_n 0, 1) := by decide +kernel
theorem dX5_bound_1 : decode cX5_bound 1 = .ok (.iload_n 2, 1) := by decide +kernel
theorem dX5_bound_2 : decode cX5_bound 2 = .ok (.invokevirtual 52, 3) := by decide +kernel
theorem dX5_bound_5 : decode cX5_bound 5 = .ok (.aload_n 0, 1) := by decide +kernel
theorem dX5_bound_6 : decode cX5_bound 6 = .ok (.getfield 7, 3) := by decide +kernel
theorem dX5_bound_9 : decode cX5_bound 9 = .ok (.sipush 210, 3) := by decide +kernel
theorem dX5_bound_12 : decode cX5_bound 12 = .ok (.iload_n 1, 1) := by decide +kernel
theorem dX5_bound_13 : decode cX5_bound 13 = .ok (.iadd, 1) := by decide +kernel
theorem dX5_bound_14 : decode cX5_bound 14 = .ok (.iaload, 1) := by decide +kernel
theorem dX5_bound_15 : decode cX5_bound 15 = .ok (.iand, 1) := by decide +kernel
theorem dX5_bound_16 : decode cX5_bound 16 = .ok (.istore_n 3, 1) := by decide +kernel
theorem dX5_bound_17 : decode cX5_bound 17 = .ok (.iconst 0, 1) := by decide +kernel
theorem dX5_bound_18 : decode cX5_bound 18 = .ok (.istore 4, 2) := by decide +kernel
theorem dX5_bound_20 : decode cX5_bound 20 = .ok (.iconst 0, 1) := by decide +kernel
theorem dX5_bound_21 : decode cX5_bound 21 = .ok (.istore 5, 2) := by decide +kernel
theorem dX5_bound_23 : decode cX5_bound 23 = .ok (.iconst 0, 1) := by decide +kernel
theorem dX5_bound_24 : decode cX5_bound 24 = .ok (.istore 6, 2) := by decide +kernel
theorem dX5_bound_26 : decode cX5_bound 26 = .ok (.iload 6, 2) := by decide +kernel
theorem dX5_bound_28 : decode cX5_bound 28 = .ok (.bipush 6, 2) := by decide +kernel
theorem dX5_bound_30 : decode cX5_bound 30 = .ok (.if_icmp .ge 59, 3) := by decide +kernel
theorem dX5_bound_33 : decode cX5_bound 33 = .ok (.iload_n 1, 1) := by decide +kernel
theorem dX5_bound_34 : decode cX5_bound 34 = .ok (.iload 6, 2) := by decide +kernel
theorem dX5_bound_36 : decode cX5_bound 36 = .ok (.iload_n 2, 1) := by decide +kernel
theorem dX5_bound_37 : decode cX5_bound 37 = .ok (.invokestatic 78, 3) := by decide +kernel
theorem dX5_bound_40 : decode cX5_bound 40 = .ok (.istore 7, 2) := by decide +kernel
theorem dX5_bound_42 : decode cX5_bound 42 = .ok (.iload_n 3, 1) := by decide +kernel
theorem dX5_bound_43 : decode cX5_bound 43 = .ok (.iload 6, 2) := by decide +kernel
theorem dX5_bound_45 : decode cX5_bound 45 = .ok (.invokestatic 82, 3) := by decide +kernel
theorem dX5_bound_48 : decode cX5_bound 48 = .ok (.ifCond .eq 35, 3) := by decide +kernel
theorem dX5_bound_51 : decode cX5_bound 51 = .ok (.aload_n 0, 1) := by decide +kernel
theorem dX5_bound_52 : decode cX5_bound 52 = .ok (.getfield 7, 3) := by decide +kernel
theorem dX5_bound_55 : decode cX5_bound 55 = .ok (.iload 7, 2) := by decide +kernel
theorem dX5_bound_57 : decode cX5_bound 57 = .ok (.iaload, 1) := by decide +kernel
theorem dX5_bound_58 : decode cX5_bound 58 = .ok (.iload 4, 2) := by decide +kernel
theorem dX5_bound_60 : decode cX5_bound 60 = .ok (.if_icmp .le 23, 3) := by decide +kernel
theorem dX5_bound_63 : decode cX5_bound 63 = .ok (.aload_n 0, 1) := by decide +kernel
theorem dX5_bound_64 : decode cX5_bound 64 = .ok (.getfield 7, 3) := by decide +kernel
theorem dX5_bound_67 : decode cX5_bound 67 = .ok (.iload 7, 2) := by decide +kernel
theorem dX5_bound_69 : decode cX5_bound 69 = .ok (.iaload, 1) := by decide +kernel
theorem dX5_bound_70 : decode cX5_bound 70 = .ok (.istore 4, 2) := by decide +kernel
theorem dX5_bound_72 : decode cX5_bound 72 = .ok (.aload_n 0, 1) := by decide +kernel
theorem dX5_bound_73 : decode cX5_bound 73 = .ok (.getfield 7, 3) := by decide +kernel
theorem dX5_bound_76 : decode cX5_bound 76 = .ok (.iload 7, 2) := by decide +kernel
theorem dX5_bound_78 : decode cX5_bound 78 = .ok (.iconst 1, 1) := by decide +kernel
theorem dX5_bound_79 : decode cX5_bound 79 = .ok (.iadd, 1) := by decide +kernel
theorem dX5_bound_80 : decode cX5_bound 80 = .ok (.iaload, 1) := by decide +kernel
theorem dX5_bound_81 : decode cX5_bound 81 = .ok (.istore 5, 2) := by decide +kernel
theorem dX5_bound_83 : decode cX5_bound 83 = .ok (.iinc 6 1, 3) := by decide +kernel
theorem dX5_bound_86 : decode cX5_bound 86 = .ok (.goto (-60), 3) := by decide +kernel
theorem dX5_bound_89 : decode cX5_bound 89 = .ok (.iload 5, 2) := by decide +kernel
theorem dX5_bound_91 : decode cX5_bound 91 = .ok (.ireturn, 1) := by decide +kernel
set_option maxRecDepth 20000 in
theorem ggX5_lacking_X5_firstSize : GoodIn wsX5_lacking wsX5_firstSize := goodIn_r _ [6, 7, 8, 9, 5, 10, 11, 12, 13, 14, 1, 15, 16, 17, 18, 19, 20, 21, 22, 23, 24, 25, 26, 27, 28, 29, 30, 31, 32, 33, 34, 35, 36] (by decide +kernel) (by decide +kernel)
set_option maxRecDepth 20000 in
theorem gX5_lacking_X5_firstSize : GoodIn wsX5_lacking (wsV RX5 92 RX5 yX5_firstSize wsX5_firstSize) := goodIn_app (goodIn_of _ (by decide +kernel)) ggX5_lacking_X5_firstSize
set_option maxRecDepth 20000 in
theorem ggX5_lacking_X5_voters : GoodIn wsX5_lacking wsX5_voters := goodIn_r _ [10, 11, 12, 13, 5, 14, 1, 22, 23, 24, 25, 26, 27, 28, 29, 30, 31, 32, 33, 34, 35, 36] (by decide +kernel) (by decide +kernel)
set_option maxRecDepth 20000 in
theorem gX5_lacking_X5_voters : GoodIn wsX5_lacking (wsV RX5 52 RX5 yX5_voters wsX5_voters) := goodIn_app (goodIn_of _ (by decide +kernel)) ggX5_lacking_X5_voters
set_option maxRecDepth 20000 in
theorem ggX5_lacking_X5_bits : GoodIn wsX5_lacking wsX5_bits := goodIn_r _ [17] (by decide +kernel) (by decide +kernel)
set_option maxRecDepth 20000 in
theorem gX5_lacking_X5_bits : GoodIn wsX5_lacking (va_wsS RX5 55 yX5_bits wsX5_bits) := goodIn_app (goodIn_of _ (by decide +kernel)) ggX5_lacking_X5_bits
theorem dX5_lacking_0 : decode cX5_lacking 0 = .ok (.aload_n 0, 1) := by decide +kernel
theorem dX5_lacking_1 : decode cX5_lacking 1 = .ok (.iload_n 2, 1) := by decide +kernel
theorem dX5_lacking_2 : decode cX5_lacking 2 = .ok (.invokevirtual 92, 3) := by decide +kernel
theorem dX5_lacking_5 : decode cX5_lacking 5 = .ok (.aload_n 0, 1) := by decide +kernel
theorem dX5_lacking_6 : decode cX5_lacking 6 = .ok (.iload_n 2, 1) := by decide +kernel
theorem dX5_lacking_7 : decode cX5_lacking 7 = .ok (.invokevirtual 52, 3) := by decide +kernel
theorem dX5_lacking_10 : decode cX5_lacking 10 = .ok (.aload_n 0, 1) := by decide +kernel
theorem dX5_lacking_11 : decode cX5_lacking 11 = .ok (.getfield 7, 3) := by decide +kernel
theorem dX5_lacking_14 : decode cX5_lacking 14 = .ok (.sipush 210, 3) := by decide +kernel
theorem dX5_lacking_17 : decode cX5_lacking 17 = .ok (.iload_n 1, 1) := by decide +kernel
theorem dX5_lacking_18 : decode cX5_lacking 18 = .ok (.iadd, 1) := by decide +kernel
theorem dX5_lacking_19 : decode cX5_lacking 19 = .ok (.iaload, 1) := by decide +kernel
theorem dX5_lacking_20 : decode cX5_lacking 20 = .ok (.iand, 1) := by decide +kernel
theorem dX5_lacking_21 : decode cX5_lacking 21 = .ok (.invokestatic 55, 3) := by decide +kernel
theorem dX5_lacking_24 : decode cX5_lacking 24 = .ok (.isub, 1) := by decide +kernel
theorem dX5_lacking_25 : decode cX5_lacking 25 = .ok (.istore_n 3, 1) := by decide +kernel
theorem dX5_lacking_26 : decode cX5_lacking 26 = .ok (.iload_n 3, 1) := by decide +kernel
theorem dX5_lacking_27 : decode cX5_lacking 27 = .ok (.ifCond .le 7, 3) := by decide +kernel
theorem dX5_lacking_30 : decode cX5_lacking 30 = .ok (.iload_n 3, 1) := by decide +kernel
theorem dX5_lacking_31 : decode cX5_lacking 31 = .ok (.goto 4, 3) := by decide +kernel
theorem dX5_lacking_34 : decode cX5_lacking 34 = .ok (.iconst 0, 1) := by decide +kernel
theorem dX5_lacking_35 : decode cX5_lacking 35 = .ok (.ireturn, 1) := by decide +kernel
set_option maxRecDepth 20000 in
theorem ggX5_propose_X5_noProposer : GoodIn wsX5_propose wsX5_noProposer := goodIn_r _ [5, 6, 7, 4, 8] (by decide +kernel) (by decide +kernel)
set_option maxRecDepth 20000 in
theorem gX5_propose_X5_noProposer : GoodIn wsX5_propose (va_wsS RX5 71 yX5_noProposer wsX5_noProposer) := goodIn_app (goodIn_of _ (by decide +kernel)) ggX5_propose_X5_noProposer
set_option maxRecDepth 20000 in
theorem ggX5_propose_X5_noSlot : GoodIn wsX5_propose wsX5_noSlot := goodIn_r _ [11, 6, 7, 4, 8] (by decide +kernel) (by decide +kernel)
set_option maxRecDepth 20000 in
theorem gX5_propose_X5_noSlot : GoodIn wsX5_propose (va_wsS RX5 95 yX5_noSlot wsX5_noSlot) := goodIn_app (goodIn_of _ (by decide +kernel)) ggX5_propose_X5_noSlot
set_option maxRecDepth 20000 in
theorem ggX5_propose_X5_in : GoodIn wsX5_propose wsX5_in := goodIn_r _ [8] (by decide +kernel) (by decide +kernel)
set_option maxRecDepth 20000 in
theorem gX5_propose_X5_in : GoodIn wsX5_propose (va_wsS RX5 33 yX5_in wsX5_in) := goodIn_app (goodIn_of _ (by decide +kernel)) ggX5_propose_X5_in
set_option maxRecDepth 20000 in
theorem ggX5_propose_X5_isTrimmed : GoodIn wsX5_propose wsX5_isTrimmed := goodIn_r _ [15, 1, 67, 68, 69, 70, 71, 72, 73, 74, 75, 76, 77, 78, 79, 80, 81] (by decide +kernel) (by decide +kernel)
set_option maxRecDepth 20000 in
theorem gX5_propose_X5_isTrimmed : GoodIn wsX5_propose (wsV RX5 98 RX5 yX5_isTrimmed wsX5_isTrimmed) := goodIn_app (goodIn_of _ (by decide +kernel)) ggX5_propose_X5_isTrimmed
set_option maxRecDepth 20000 in
theorem ggX5_propose_X5_isOpen : GoodIn wsX5_propose wsX5_isOpen := goodIn_r _ [19, 20, 21, 22, 4, 23, 24, 25, 26, 27, 1, 67, 68, 69, 70, 71, 72, 73, 74, 75, 76, 77, 78, 79, 80, 81] (by decide +kernel) (by decide +kernel)
set_option maxRecDepth 20000 in
theorem gX5_propose_X5_isOpen : GoodIn wsX5_propose (wsV RX5 101 RX5 yX5_isOpen wsX5_isOpen) := goodIn_app (goodIn_of _ (by decide +kernel)) ggX5_propose_X5_isOpen
set_option maxRecDepth 20000 in
theorem ggX5_propose_X5_lacking : GoodIn wsX5_propose wsX5_lacking := goodIn_r _ [31, 1, 32, 33, 34, 4, 35, 36, 37, 38, 39, 24, 25, 26, 27, 40, 41, 42, 43, 44, 45, 46, 67, 68, 69, 70, 71, 72, 73, 74, 75, 76, 77, 78, 79, 80, 81] (by decide +kernel) (by decide +kernel)
set_option maxRecDepth 20000 in
theorem gX5_propose_X5_lacking : GoodIn wsX5_propose (wsV RX5 104 RX5 yX5_lacking wsX5_lacking) := goodIn_app (goodIn_of _ (by decide +kernel)) ggX5_propose_X5_lacking
set_option maxRecDepth 20000 in
theorem ggX5_propose_X5_proposedAt : GoodIn wsX5_propose wsX5_proposedAt := goodIn_r _ [49] (by decide +kernel) (by decide +kernel)
set_option maxRecDepth 20000 in
theorem gX5_propose_X5_proposedAt : GoodIn wsX5_propose (va_wsS RX5 74 yX5_proposedAt wsX5_proposedAt) := goodIn_app (goodIn_of _ (by decide +kernel)) ggX5_propose_X5_proposedAt
set_option maxRecDepth 20000 in
theorem ggX5_propose_X5_record : GoodIn wsX5_propose wsX5_record := goodIn_r _ [53, 54, 55, 56, 1, 67, 68, 69, 70, 71, 72, 73, 74, 75, 76, 77, 78, 79, 80, 81] (by decide +kernel) (by decide +kernel)
set_option maxRecDepth 20000 in
theorem gX5_propose_X5_record : GoodIn wsX5_propose (wsV RX5 65 RX5 yX5_record wsX5_record) := goodIn_app (goodIn_of _ (by decide +kernel)) ggX5_propose_X5_record
set_option maxRecDepth 20000 in
theorem ggX5_propose_X5_bound : GoodIn wsX5_propose wsX5_bound := goodIn_r _ [60, 1, 36, 37, 38, 4, 39, 24, 25, 26, 27, 61, 62, 63, 64, 65, 66, 67, 68, 69, 70, 71, 72, 73, 74, 75, 76, 77, 78, 79, 80, 81] (by decide +kernel) (by decide +kernel)
set_option maxRecDepth 20000 in
theorem gX5_propose_X5_bound : GoodIn wsX5_propose (wsV RX5 107 RX5 yX5_bound wsX5_bound) := goodIn_app (goodIn_of _ (by decide +kernel)) ggX5_propose_X5_bound
theorem dX5_propose_0 : decode cX5_propose 0 = .ok (.iload_n 1, 1) := by decide +kernel
theorem dX5_propose_1 : decode cX5_propose 1 = .ok (.invokestatic 71, 3) := by decide +kernel
theorem dX5_propose_4 : decode cX5_propose 4 = .ok (.ifCond .ne 10, 3) := by decide +kernel
theorem dX5_propose_7 : decode cX5_propose 7 = .ok (.iload_n 2, 1) := by decide +kernel
theorem dX5_propose_8 : decode cX5_propose 8 = .ok (.invokestatic 95, 3) := by decide +kernel
theorem dX5_propose_11 : decode cX5_propose 11 = .ok (.ifCond .eq 5, 3) := by decide +kernel
theorem dX5_propose_14 : decode cX5_propose 14 = .ok (.iconst (-1), 1) := by decide +kernel
theorem dX5_propose_15 : decode cX5_propose 15 = .ok (.ireturn, 1) := by decide +kernel
theorem dX5_propose_16 : decode cX5_propose 16 = .ok (.iload_n 3, 1) := by decide +kernel
theorem dX5_propose_17 : decode cX5_propose 17 = .ok (.iconst 1, 1) := by decide +kernel
theorem dX5_propose_18 : decode cX5_propose 18 = .ok (.bipush 99, 2) := by decide +kernel
theorem dX5_propose_20 : decode cX5_propose 20 = .ok (.invokestatic 33, 3) := by decide +kernel
theorem dX5_propose_23 : decode cX5_propose 23 = .ok (.ifCond .ne 18, 3) := by decide +kernel
theorem dX5_propose_26 : decode cX5_propose 26 = .ok (.iload_n 3, 1) := by decide +kernel
theorem dX5_propose_27 : decode cX5_propose 27 = .ok (.bipush 101, 2) := by decide +kernel
theorem dX5_propose_29 : decode cX5_propose 29 = .ok (.sipush 163, 3) := by decide +kernel
theorem dX5_propose_32 : decode cX5_propose 32 = .ok (.invokestatic 33, 3) := by decide +kernel
theorem dX5_propose_35 : decode cX5_propose 35 = .ok (.ifCond .ne 6, 3) := by decide +kernel
theorem dX5_propose_38 : decode cX5_propose 38 = .ok (.bipush (-2), 2) := by decide +kernel
theorem dX5_propose_40 : decode cX5_propose 40 = .ok (.ireturn, 1) := by decide +kernel
theorem dX5_propose_41 : decode cX5_propose 41 = .ok (.aload_n 0, 1) := by decide +kernel
theorem dX5_propose_42 : decode cX5_propose 42 = .ok (.getfield 7, 3) := by decide +kernel
theorem dX5_propose_45 : decode cX5_propose 45 = .ok (.sipush 204, 3) := by decide +kernel
theorem dX5_propose_48 : decode cX5_propose 48 = .ok (.iload_n 1, 1) := by decide +kernel
theorem dX5_propose_49 : decode cX5_propose 49 = .ok (.iadd, 1) := by decide +kernel
theorem dX5_propose_50 : decode cX5_propose 50 = .ok (.iaload, 1) := by decide +kernel
theorem dX5_propose_51 : decode cX5_propose 51 = .ok (.ifCond .eq 41, 3) := by decide +kernel
theorem dX5_propose_54 : decode cX5_propose 54 = .ok (.aload_n 0, 1) := by decide +kernel
theorem dX5_propose_55 : decode cX5_propose 55 = .ok (.iload_n 2, 1) := by decide +kernel
theorem dX5_propose_56 : decode cX5_propose 56 = .ok (.invokevirtual 98, 3) := by decide +kernel
theorem dX5_propose_59 : decode cX5_propose 59 = .ok (.ifCond .ne 33, 3) := by decide +kernel
theorem dX5_propose_62 : decode cX5_propose 62 = .ok (.aload_n 0, 1) := by decide +kernel
theorem dX5_propose_63 : decode cX5_propose 63 = .ok (.iload_n 2, 1) := by decide +kernel
theorem dX5_propose_64 : decode cX5_propose 64 = .ok (.invokevirtual 101, 3) := by decide +kernel
theorem dX5_propose_67 : decode cX5_propose 67 = .ok (.ifCond .eq 25, 3) := by decide +kernel
theorem dX5_propose_70 : decode cX5_propose 70 = .ok (.aload_n 0, 1) := by decide +kernel
theorem dX5_propose_71 : decode cX5_propose 71 = .ok (.iload_n 1, 1) := by decide +kernel
theorem dX5_propose_72 : decode cX5_propose 72 = .ok (.iload_n 2, 1) := by decide +kernel
theorem dX5_propose_73 : decode cX5_propose 73 = .ok (.invokevirtual 104, 3) := by decide +kernel
theorem dX5_propose_76 : decode cX5_propose 76 = .ok (.ifCond .gt 16, 3) := by decide +kernel
theorem dX5_propose_79 : decode cX5_propose 79 = .ok (.aload_n 0, 1) := by decide +kernel
theorem dX5_propose_80 : decode cX5_propose 80 = .ok (.getfield 7, 3) := by decide +kernel
theorem dX5_propose_83 : decode cX5_propose 83 = .ok (.iload_n 1, 1) := by decide +kernel
theorem dX5_propose_84 : decode cX5_propose 84 = .ok (.iload_n 2, 1) := by decide +kernel
theorem dX5_propose_85 : decode cX5_propose 85 = .ok (.invokestatic 74, 3) := by decide +kernel
theorem dX5_propose_88 : decode cX5_propose 88 = .ok (.iaload, 1) := by decide +kernel
theorem dX5_propose_89 : decode cX5_propose 89 = .ok (.ifCond .le 6, 3) := by decide +kernel
theorem dX5_propose_92 : decode cX5_propose 92 = .ok (.bipush (-4), 2) := by decide +kernel
theorem dX5_propose_94 : decode cX5_propose 94 = .ok (.ireturn, 1) := by decide +kernel
theorem dX5_propose_95 : decode cX5_propose 95 = .ok (.aload_n 0, 1) := by decide +kernel
theorem dX5_propose_96 : decode cX5_propose 96 = .ok (.invokevirtual 65, 3) := by decide +kernel
theorem dX5_propose_99 : decode cX5_propose 99 = .ok (.aload_n 0, 1) := by decide +kernel
theorem dX5_propose_100 : decode cX5_propose 100 = .ok (.iload_n 1, 1) := by decide +kernel
theorem dX5_propose_101 : decode cX5_propose 101 = .ok (.iload_n 2, 1) := by decide +kernel
theorem dX5_propose_102 : decode cX5_propose 102 = .ok (.invokevirtual 107, 3) := by decide +kernel
theorem dX5_propose_105 : decode cX5_propose 105 = .ok (.istore 4, 2) := by decide +kernel
theorem dX5_propose_107 : decode cX5_propose 107 = .ok (.aload_n 0, 1) := by decide +kernel
theorem dX5_propose_108 : decode cX5_propose 108 = .ok (.getfield 7, 3) := by decide +kernel
theorem dX5_propose_111 : decode cX5_propose 111 = .ok (.iload_n 1, 1) := by decide +kernel
theorem dX5_propose_112 : decode cX5_propose 112 = .ok (.iload_n 2, 1) := by decide +kernel
theorem dX5_propose_113 : decode cX5_propose 113 = .ok (.invokestatic 74, 3) := by decide +kernel
theorem dX5_propose_116 : decode cX5_propose 116 = .ok (.iload 4, 2) := by decide +kernel
theorem dX5_propose_118 : decode cX5_propose 118 = .ok (.ifCond .le 8, 3) := by decide +kernel
theorem dX5_propose_121 : decode cX5_propose 121 = .ok (.iload 4, 2) := by decide +kernel
theorem dX5_propose_123 : decode cX5_propose 123 = .ok (.goto 4, 3) := by decide +kernel
theorem dX5_propose_126 : decode cX5_propose 126 = .ok (.iload_n 3, 1) := by decide +kernel
theorem dX5_propose_127 : decode cX5_propose 127 = .ok (.iastore, 1) := by decide +kernel
theorem dX5_propose_128 : decode cX5_propose 128 = .ok (.aload_n 0, 1) := by decide +kernel
theorem dX5_propose_129 : decode cX5_propose 129 = .ok (.getfield 7, 3) := by decide +kernel
theorem dX5_propose_132 : decode cX5_propose 132 = .ok (.iload_n 1, 1) := by decide +kernel
theorem dX5_propose_133 : decode cX5_propose 133 = .ok (.iload_n 2, 1) := by decide +kernel
theorem dX5_propose_134 : decode cX5_propose 134 = .ok (.invokestatic 74, 3) := by decide +kernel
theorem dX5_propose_137 : decode cX5_propose 137 = .ok (.iaload, 1) := by decide +kernel
theorem dX5_propose_138 : decode cX5_propose 138 = .ok (.ireturn, 1) := by decide +kernel
set_option maxRecDepth 20000 in
theorem ggX5_vote_X5_noProposer : GoodIn wsX5_vote wsX5_noProposer := goodIn_r _ [5, 6, 7, 4, 8] (by decide +kernel) (by decide +kernel)
set_option maxRecDepth 20000 in
theorem gX5_vote_X5_noProposer : GoodIn wsX5_vote (va_wsS RX5 71 yX5_noProposer wsX5_noProposer) := goodIn_app (goodIn_of _ (by decide +kernel)) ggX5_vote_X5_noProposer
set_option maxRecDepth 20000 in
theorem ggX5_vote_X5_noSlot : GoodIn wsX5_vote wsX5_noSlot := goodIn_r _ [11, 6, 7, 4, 8] (by decide +kernel) (by decide +kernel)
set_option maxRecDepth 20000 in
theorem gX5_vote_X5_noSlot : GoodIn wsX5_vote (va_wsS RX5 95 yX5_noSlot wsX5_noSlot) := goodIn_app (goodIn_of _ (by decide +kernel)) ggX5_vote_X5_noSlot
set_option maxRecDepth 20000 in
theorem ggX5_vote_X5_noAcceptor : GoodIn wsX5_vote wsX5_noAcceptor := goodIn_r _ [14, 6, 7, 4, 8] (by decide +kernel) (by decide +kernel)
set_option maxRecDepth 20000 in
theorem gX5_vote_X5_noAcceptor : GoodIn wsX5_vote (va_wsS RX5 61 yX5_noAcceptor wsX5_noAcceptor) := goodIn_app (goodIn_of _ (by decide +kernel)) ggX5_vote_X5_noAcceptor
set_option maxRecDepth 20000 in
theorem ggX5_vote_X5_proposedAt : GoodIn wsX5_vote wsX5_proposedAt := goodIn_r _ [17] (by decide +kernel) (by decide +kernel)
set_option maxRecDepth 20000 in
theorem gX5_vote_X5_proposedAt : GoodIn wsX5_vote (va_wsS RX5 74 yX5_proposedAt wsX5_proposedAt) := goodIn_app (goodIn_of _ (by decide +kernel)) ggX5_vote_X5_proposedAt
set_option maxRecDepth 20000 in
theorem ggX5_vote_X5_isTrimmed : GoodIn wsX5_vote wsX5_isTrimmed := goodIn_r _ [21, 1, 54, 55, 56, 57, 58, 59, 60, 61, 62, 63, 64, 65, 66, 67, 68] (by decide +kernel) (by decide +kernel)
set_option maxRecDepth 20000 in
theorem gX5_vote_X5_isTrimmed : GoodIn wsX5_vote (wsV RX5 98 RX5 yX5_isTrimmed wsX5_isTrimmed) := goodIn_app (goodIn_of _ (by decide +kernel)) ggX5_vote_X5_isTrimmed
set_option maxRecDepth 20000 in
theorem ggX5_vote_X5_voters : GoodIn wsX5_vote wsX5_voters := goodIn_r _ [25, 26, 27, 28, 4, 29, 1, 54, 55, 56, 57, 58, 59, 60, 61, 62, 63, 64, 65, 66, 67, 68] (by decide +kernel) (by decide +kernel)
set_option maxRecDepth 20000 in
theorem gX5_vote_X5_voters : GoodIn wsX5_vote (wsV RX5 52 RX5 yX5_voters wsX5_voters) := goodIn_app (goodIn_of _ (by decide +kernel)) ggX5_vote_X5_voters
set_option maxRecDepth 20000 in
theorem ggX5_vote_X5_isIn : GoodIn wsX5_vote wsX5_isIn := goodIn_r _ [32] (by decide +kernel) (by decide +kernel)
set_option maxRecDepth 20000 in
theorem gX5_vote_X5_isIn : GoodIn wsX5_vote (va_wsS RX5 82 yX5_isIn wsX5_isIn) := goodIn_app (goodIn_of _ (by decide +kernel)) ggX5_vote_X5_isIn
set_option maxRecDepth 20000 in
theorem ggX5_vote_X5_voteAt : GoodIn wsX5_vote wsX5_voteAt := goodIn_r _ [35] (by decide +kernel) (by decide +kernel)
set_option maxRecDepth 20000 in
theorem gX5_vote_X5_voteAt : GoodIn wsX5_vote (va_wsS RX5 89 yX5_voteAt wsX5_voteAt) := goodIn_app (goodIn_of _ (by decide +kernel)) ggX5_vote_X5_voteAt
set_option maxRecDepth 20000 in
theorem ggX5_vote_X5_record : GoodIn wsX5_vote wsX5_record := goodIn_r _ [39, 40, 41, 42, 1, 54, 55, 56, 57, 58, 59, 60, 61, 62, 63, 64, 65, 66, 67, 68] (by decide +kernel) (by decide +kernel)
set_option maxRecDepth 20000 in
theorem gX5_vote_X5_record : GoodIn wsX5_vote (wsV RX5 65 RX5 yX5_record wsX5_record) := goodIn_app (goodIn_of _ (by decide +kernel)) ggX5_vote_X5_record
set_option maxRecDepth 20000 in
theorem ggX5_vote_X5_refuses : GoodIn wsX5_vote wsX5_refuses := goodIn_r _ [46, 1, 54, 55, 56, 57, 58, 59, 60, 61, 62, 63, 64, 65, 66, 67, 68] (by decide +kernel) (by decide +kernel)
set_option maxRecDepth 20000 in
theorem gX5_vote_X5_refuses : GoodIn wsX5_vote (wsV RX5 86 RX5 yX5_refuses wsX5_refuses) := goodIn_app (goodIn_of _ (by decide +kernel)) ggX5_vote_X5_refuses
set_option maxRecDepth 20000 in
theorem ggX5_vote_X5_secondSize : GoodIn wsX5_vote wsX5_secondSize := goodIn_r _ [50, 1, 22, 23, 24, 4, 25, 26, 27, 28, 29, 51, 52, 53, 54, 55, 56, 57, 58, 59, 60, 61, 62, 63, 64, 65, 66, 67, 68] (by decide +kernel) (by decide +kernel)
set_option maxRecDepth 20000 in
theorem gX5_vote_X5_secondSize : GoodIn wsX5_vote (wsV RX5 58 RX5 yX5_secondSize wsX5_secondSize) := goodIn_app (goodIn_of _ (by decide +kernel)) ggX5_vote_X5_secondSize
set_option maxRecDepth 20000 in
theorem ggX5_vote_X5_chosen : GoodIn wsX5_vote wsX5_chosen := goodIn_r _ [29, 1, 54, 55, 56, 57, 58, 59, 60, 61, 62, 63, 64, 65, 66, 67, 68] (by decide +kernel) (by decide +kernel)
set_option maxRecDepth 20000 in
theorem gX5_vote_X5_chosen : GoodIn wsX5_vote (wsV RX5 44 RX5 yX5_chosen wsX5_chosen) := goodIn_app (goodIn_of _ (by decide +kernel)) ggX5_vote_X5_chosen
theorem dX5_vote_0 : decode cX5_vote 0 = .ok (.iload_n 1, 1) := by decide +kernel
theorem dX5_vote_1 : decode cX5_vote 1 = .ok (.invokestatic 71, 3) := by decide +kernel
theorem dX5_vote_4 : decode cX5_vote 4 = .ok (.ifCond .ne 17, 3) := by decide +kernel
theorem dX5_vote_7 : decode cX5_vote 7 = .ok (.iload_n 2, 1) := by decide +kernel
theorem dX5_vote_8 : decode cX5_vote 8 = .ok (.invokestatic 95, 3) := by decide +kernel
theorem dX5_vote_11 : decode cX5_vote 11 = .ok (.ifCond .ne 10, 3) := by decide +kernel
theorem dX5_vote_14 : decode cX5_vote 14 = .ok (.iload_n 3, 1) := by decide +kernel
theorem dX5_vote_15 : decode cX5_vote 15 = .ok (.invokestatic 61, 3) := by decide +kernel
theorem dX5_vote_18 : decode cX5_vote 18 = .ok (.ifCond .eq 5, 3) := by decide +kernel
theorem dX5_vote_21 : decode cX5_vote 21 = .ok (.iconst (-1), 1) := by decide +kernel
theorem dX5_vote_22 : decode cX5_vote 22 = .ok (.ireturn, 1) := by decide +kernel
theorem dX5_vote_23 : decode cX5_vote 23 = .ok (.aload_n 0, 1) := by decide +kernel
theorem dX5_vote_24 : decode cX5_vote 24 = .ok (.getfield 7, 3) := by decide +kernel
theorem dX5_vote_27 : decode cX5_vote 27 = .ok (.iload_n 1, 1) := by decide +kernel
theorem dX5_vote_28 : decode cX5_vote 28 = .ok (.iload_n 2, 1) := by decide +kernel
theorem dX5_vote_29 : decode cX5_vote 29 = .ok (.invokestatic 74, 3) := by decide +kernel
theorem dX5_vote_32 : decode cX5_vote 32 = .ok (.iaload, 1) := by decide +kernel
theorem dX5_vote_33 : decode cX5_vote 33 = .ok (.istore 4, 2) := by decide +kernel
theorem dX5_vote_35 : decode cX5_vote 35 = .ok (.iload 4, 2) := by decide +kernel
theorem dX5_vote_37 : decode cX5_vote 37 = .ok (.ifCond .eq 34, 3) := by decide +kernel
theorem dX5_vote_40 : decode cX5_vote 40 = .ok (.aload_n 0, 1) := by decide +kernel
theorem dX5_vote_41 : decode cX5_vote 41 = .ok (.iload_n 2, 1) := by decide +kernel
theorem dX5_vote_42 : decode cX5_vote 42 = .ok (.invokevirtual 98, 3) := by decide +kernel
theorem dX5_vote_45 : decode cX5_vote 45 = .ok (.ifCond .ne 26, 3) := by decide +kernel
theorem dX5_vote_48 : decode cX5_vote 48 = .ok (.aload_n 0, 1) := by decide +kernel
theorem dX5_vote_49 : decode cX5_vote 49 = .ok (.getfield 7, 3) := by decide +kernel
theorem dX5_vote_52 : decode cX5_vote 52 = .ok (.iconst 0, 1) := by decide +kernel
theorem dX5_vote_53 : decode cX5_vote 53 = .ok (.iload_n 3, 1) := by decide +kernel
theorem dX5_vote_54 : decode cX5_vote 54 = .ok (.iadd, 1) := by decide +kernel
theorem dX5_vote_55 : decode cX5_vote 55 = .ok (.iaload, 1) := by decide +kernel
theorem dX5_vote_56 : decode cX5_vote 56 = .ok (.ifCond .eq 15, 3) := by decide +kernel
theorem dX5_vote_59 : decode cX5_vote 59 = .ok (.aload_n 0, 1) := by decide +kernel
theorem dX5_vote_60 : decode cX5_vote 60 = .ok (.iload_n 2, 1) := by decide +kernel
theorem dX5_vote_61 : decode cX5_vote 61 = .ok (.invokevirtual 52, 3) := by decide +kernel
theorem dX5_vote_64 : decode cX5_vote 64 = .ok (.iload_n 3, 1) := by decide +kernel
theorem dX5_vote_65 : decode cX5_vote 65 = .ok (.invokestatic 82, 3) := by decide +kernel
theorem dX5_vote_68 : decode cX5_vote 68 = .ok (.ifCond .ne 6, 3) := by decide +kernel
theorem dX5_vote_71 : decode cX5_vote 71 = .ok (.bipush (-4), 2) := by decide +kernel
theorem dX5_vote_73 : decode cX5_vote 73 = .ok (.ireturn, 1) := by decide +kernel
theorem dX5_vote_74 : decode cX5_vote 74 = .ok (.aload_n 0, 1) := by decide +kernel
theorem dX5_vote_75 : decode cX5_vote 75 = .ok (.getfield 7, 3) := by decide +kernel
theorem dX5_vote_78 : decode cX5_vote 78 = .ok (.sipush 204, 3) := by decide +kernel
theorem dX5_vote_81 : decode cX5_vote 81 = .ok (.iload_n 1, 1) := by decide +kernel
theorem dX5_vote_82 : decode cX5_vote 82 = .ok (.iadd, 1) := by decide +kernel
theorem dX5_vote_83 : decode cX5_vote 83 = .ok (.iaload, 1) := by decide +kernel
theorem dX5_vote_84 : decode cX5_vote 84 = .ok (.istore 5, 2) := by decide +kernel
theorem dX5_vote_86 : decode cX5_vote 86 = .ok (.iload_n 3, 1) := by decide +kernel
theorem dX5_vote_87 : decode cX5_vote 87 = .ok (.iload_n 2, 1) := by decide +kernel
theorem dX5_vote_88 : decode cX5_vote 88 = .ok (.invokestatic 89, 3) := by decide +kernel
theorem dX5_vote_91 : decode cX5_vote 91 = .ok (.istore 6, 2) := by decide +kernel
theorem dX5_vote_93 : decode cX5_vote 93 = .ok (.aload_n 0, 1) := by decide +kernel
theorem dX5_vote_94 : decode cX5_vote 94 = .ok (.getfield 7, 3) := by decide +kernel
theorem dX5_vote_97 : decode cX5_vote 97 = .ok (.iload 6, 2) := by decide +kernel
theorem dX5_vote_99 : decode cX5_vote 99 = .ok (.iaload, 1) := by decide +kernel
theorem dX5_vote_100 : decode cX5_vote 100 = .ok (.iload 5, 2) := by decide +kernel
theorem dX5_vote_102 : decode cX5_vote 102 = .ok (.if_icmp .ne 6, 3) := by decide +kernel
theorem dX5_vote_105 : decode cX5_vote 105 = .ok (.bipush (-5), 2) := by decide +kernel
theorem dX5_vote_107 : decode cX5_vote 107 = .ok (.ireturn, 1) := by decide +kernel
theorem dX5_vote_108 : decode cX5_vote 108 = .ok (.aload_n 0, 1) := by decide +kernel
theorem dX5_vote_109 : decode cX5_vote 109 = .ok (.invokevirtual 65, 3) := by decide +kernel
theorem dX5_vote_112 : decode cX5_vote 112 = .ok (.iload 5, 2) := by decide +kernel
theorem dX5_vote_114 : decode cX5_vote 114 = .ok (.aload_n 0, 1) := by decide +kernel
theorem dX5_vote_115 : decode cX5_vote 115 = .ok (.getfield 7, 3) := by decide +kernel
theorem dX5_vote_118 : decode cX5_vote 118 = .ok (.bipush 6, 2) := by decide +kernel
theorem dX5_vote_120 : decode cX5_vote 120 = .ok (.iload_n 3, 1) := by decide +kernel
theorem dX5_vote_121 : decode cX5_vote 121 = .ok (.iadd, 1) := by decide +kernel
theorem dX5_vote_122 : decode cX5_vote 122 = .ok (.iaload, 1) := by decide +kernel
theorem dX5_vote_123 : decode cX5_vote 123 = .ok (.if_icmp .ge 13, 3) := by decide +kernel
theorem dX5_vote_126 : decode cX5_vote 126 = .ok (.aload_n 0, 1) := by decide +kernel
theorem dX5_vote_127 : decode cX5_vote 127 = .ok (.iload_n 1, 1) := by decide +kernel
theorem dX5_vote_128 : decode cX5_vote 128 = .ok (.iload_n 3, 1) := by decide +kernel
theorem dX5_vote_129 : decode cX5_vote 129 = .ok (.sipush 872, 3) := by decide +kernel
theorem dX5_vote_132 : decode cX5_vote 132 = .ok (.invokevirtual 86, 3) := by decide +kernel
theorem dX5_vote_135 : decode cX5_vote 135 = .ok (.ireturn, 1) := by decide +kernel
theorem dX5_vote_136 : decode cX5_vote 136 = .ok (.aload_n 0, 1) := by decide +kernel
theorem dX5_vote_137 : decode cX5_vote 137 = .ok (.getfield 7, 3) := by decide +kernel
theorem dX5_vote_140 : decode cX5_vote 140 = .ok (.bipush 6, 2) := by decide +kernel
theorem dX5_vote_142 : decode cX5_vote 142 = .ok (.iload_n 3, 1) := by decide +kernel
theorem dX5_vote_143 : decode cX5_vote 143 = .ok (.iadd, 1) := by decide +kernel
theorem dX5_vote_144 : decode cX5_vote 144 = .ok (.iload 5, 2) := by decide +kernel
theorem dX5_vote_146 : decode cX5_vote 146 = .ok (.iastore, 1) := by decide +kernel
theorem dX5_vote_147 : decode cX5_vote 147 = .ok (.aload_n 0, 1) := by decide +kernel
theorem dX5_vote_148 : decode cX5_vote 148 = .ok (.getfield 7, 3) := by decide +kernel
theorem dX5_vote_151 : decode cX5_vote 151 = .ok (.iload 6, 2) := by decide +kernel
theorem dX5_vote_153 : decode cX5_vote 153 = .ok (.iload 5, 2) := by decide +kernel
theorem dX5_vote_155 : decode cX5_vote 155 = .ok (.iastore, 1) := by decide +kernel
theorem dX5_vote_156 : decode cX5_vote 156 = .ok (.aload_n 0, 1) := by decide +kernel
theorem dX5_vote_157 : decode cX5_vote 157 = .ok (.getfield 7, 3) := by decide +kernel
theorem dX5_vote_160 : decode cX5_vote 160 = .ok (.iload 6, 2) := by decide +kernel
theorem dX5_vote_162 : decode cX5_vote 162 = .ok (.iconst 1, 1) := by decide +kernel
theorem dX5_vote_163 : decode cX5_vote 163 = .ok (.iadd, 1) := by decide +kernel
theorem dX5_vote_164 : decode cX5_vote 164 = .ok (.iload 4, 2) := by decide +kernel
theorem dX5_vote_166 : decode cX5_vote 166 = .ok (.iastore, 1) := by decide +kernel
theorem dX5_vote_167 : decode cX5_vote 167 = .ok (.iconst 0, 1) := by decide +kernel
theorem dX5_vote_168 : decode cX5_vote 168 = .ok (.istore 7, 2) := by decide +kernel
theorem dX5_vote_170 : decode cX5_vote 170 = .ok (.iconst 0, 1) := by decide +kernel
theorem dX5_vote_171 : decode cX5_vote 171 = .ok (.istore 8, 2) := by decide +kernel
theorem dX5_vote_173 : decode cX5_vote 173 = .ok (.iload 8, 2) := by decide +kernel
theorem dX5_vote_175 : decode cX5_vote 175 = .ok (.bipush 6, 2) := by decide +kernel
theorem dX5_vote_177 : decode cX5_vote 177 = .ok (.if_icmp .ge 48, 3) := by decide +kernel
theorem dX5_vote_180 : decode cX5_vote 180 = .ok (.iload 7, 2) := by decide +kernel
theorem dX5_vote_182 : decode cX5_vote 182 = .ok (.aload_n 0, 1) := by decide +kernel
theorem dX5_vote_183 : decode cX5_vote 183 = .ok (.iload_n 2, 1) := by decide +kernel
theorem dX5_vote_184 : decode cX5_vote 184 = .ok (.invokevirtual 52, 3) := by decide +kernel
theorem dX5_vote_187 : decode cX5_vote 187 = .ok (.iload 8, 2) := by decide +kernel
theorem dX5_vote_189 : decode cX5_vote 189 = .ok (.invokestatic 82, 3) := by decide +kernel
theorem dX5_vote_192 : decode cX5_vote 192 = .ok (.ifCond .eq 23, 3) := by decide +kernel
theorem dX5_vote_195 : decode cX5_vote 195 = .ok (.aload_n 0, 1) := by decide +kernel
theorem dX5_vote_196 : decode cX5_vote 196 = .ok (.getfield 7, 3) := by decide +kernel
theorem dX5_vote_199 : decode cX5_vote 199 = .ok (.iload 8, 2) := by decide +kernel
theorem dX5_vote_201 : decode cX5_vote 201 = .ok (.iload_n 2, 1) := by decide +kernel
theorem dX5_vote_202 : decode cX5_vote 202 = .ok (.invokestatic 89, 3) := by decide +kernel
theorem dX5_vote_205 : decode cX5_vote 205 = .ok (.iaload, 1) := by decide +kernel
theorem dX5_vote_206 : decode cX5_vote 206 = .ok (.iload 5, 2) := by decide +kernel
theorem dX5_vote_208 : decode cX5_vote 208 = .ok (.if_icmp .ne 7, 3) := by decide +kernel
theorem dX5_vote_211 : decode cX5_vote 211 = .ok (.iconst 1, 1) := by decide +kernel
theorem dX5_vote_212 : decode cX5_vote 212 = .ok (.goto 4, 3) := by decide +kernel
theorem dX5_vote_215 : decode cX5_vote 215 = .ok (.iconst 0, 1) := by decide +kernel
theorem dX5_vote_216 : decode cX5_vote 216 = .ok (.iadd, 1) := by decide +kernel
theorem dX5_vote_217 : decode cX5_vote 217 = .ok (.istore 7, 2) := by decide +kernel
theorem dX5_vote_219 : decode cX5_vote 219 = .ok (.iinc 8 1, 3) := by decide +kernel
theorem dX5_vote_222 : decode cX5_vote 222 = .ok (.goto (-49), 3) := by decide +kernel
theorem dX5_vote_225 : decode cX5_vote 225 = .ok (.iload 7, 2) := by decide +kernel
theorem dX5_vote_227 : decode cX5_vote 227 = .ok (.aload_n 0, 1) := by decide +kernel
theorem dX5_vote_228 : decode cX5_vote 228 = .ok (.iload_n 2, 1) := by decide +kernel
theorem dX5_vote_229 : decode cX5_vote 229 = .ok (.invokevirtual 58, 3) := by decide +kernel
theorem dX5_vote_232 : decode cX5_vote 232 = .ok (.if_icmp .lt 39, 3) := by decide +kernel
theorem dX5_vote_235 : decode cX5_vote 235 = .ok (.aload_n 0, 1) := by decide +kernel
theorem dX5_vote_236 : decode cX5_vote 236 = .ok (.iload_n 2, 1) := by decide +kernel
theorem dX5_vote_237 : decode cX5_vote 237 = .ok (.invokevirtual 44, 3) := by decide +kernel
theorem dX5_vote_240 : decode cX5_vote 240 = .ok (.ifCond .ne 31, 3) := by decide +kernel
theorem dX5_vote_243 : decode cX5_vote 243 = .ok (.aload_n 0, 1) := by decide +kernel
theorem dX5_vote_244 : decode cX5_vote 244 = .ok (.getfield 7, 3) := by decide +kernel
theorem dX5_vote_247 : decode cX5_vote 247 = .ok (.sipush 837, 3) := by decide +kernel
theorem dX5_vote_250 : decode cX5_vote 250 = .ok (.iload_n 2, 1) := by decide +kernel
theorem dX5_vote_251 : decode cX5_vote 251 = .ok (.iadd, 1) := by decide +kernel
theorem dX5_vote_252 : decode cX5_vote 252 = .ok (.iconst 1, 1) := by decide +kernel
theorem dX5_vote_253 : decode cX5_vote 253 = .ok (.isub, 1) := by decide +kernel
theorem dX5_vote_254 : decode cX5_vote 254 = .ok (.iload 4, 2) := by decide +kernel
theorem dX5_vote_256 : decode cX5_vote 256 = .ok (.iastore, 1) := by decide +kernel
theorem dX5_vote_257 : decode cX5_vote 257 = .ok (.aload_n 0, 1) := by decide +kernel
theorem dX5_vote_258 : decode cX5_vote 258 = .ok (.getfield 7, 3) := by decide +kernel
theorem dX5_vote_261 : decode cX5_vote 261 = .ok (.sipush 853, 3) := by decide +kernel
theorem dX5_vote_264 : decode cX5_vote 264 = .ok (.iload_n 2, 1) := by decide +kernel
theorem dX5_vote_265 : decode cX5_vote 265 = .ok (.iadd, 1) := by decide +kernel
theorem dX5_vote_266 : decode cX5_vote 266 = .ok (.iconst 1, 1) := by decide +kernel
theorem dX5_vote_267 : decode cX5_vote 267 = .ok (.isub, 1) := by decide +kernel
theorem dX5_vote_268 : decode cX5_vote 268 = .ok (.iload 5, 2) := by decide +kernel
theorem dX5_vote_270 : decode cX5_vote 270 = .ok (.iastore, 1) := by decide +kernel
theorem dX5_vote_271 : decode cX5_vote 271 = .ok (.iload 7, 2) := by decide +kernel
theorem dX5_vote_273 : decode cX5_vote 273 = .ok (.ireturn, 1) := by decide +kernel
set_option maxRecDepth 20000 in
theorem ggX5_trim_X5_noSlot : GoodIn wsX5_trim wsX5_noSlot := goodIn_r _ [5, 6, 7, 4, 8] (by decide +kernel) (by decide +kernel)
set_option maxRecDepth 20000 in
theorem gX5_trim_X5_noSlot : GoodIn wsX5_trim (va_wsS RX5 95 yX5_noSlot wsX5_noSlot) := goodIn_app (goodIn_of _ (by decide +kernel)) ggX5_trim_X5_noSlot
set_option maxRecDepth 20000 in
theorem ggX5_trim_X5_prefix : GoodIn wsX5_trim wsX5_prefix := goodIn_r _ [12, 13, 14, 15, 4, 16, 1, 31, 32, 33, 34, 35, 36, 37, 38, 39, 40, 41, 42, 43, 44, 45] (by decide +kernel) (by decide +kernel)
set_option maxRecDepth 20000 in
theorem gX5_trim_X5_prefix : GoodIn wsX5_trim (wsV RX5 48 RX5 yX5_prefix wsX5_prefix) := goodIn_app (goodIn_of _ (by decide +kernel)) ggX5_trim_X5_prefix
set_option maxRecDepth 20000 in
theorem ggX5_trim_X5_isTrimmed : GoodIn wsX5_trim wsX5_isTrimmed := goodIn_r _ [20, 1, 31, 32, 33, 34, 35, 36, 37, 38, 39, 40, 41, 42, 43, 44, 45] (by decide +kernel) (by decide +kernel)
set_option maxRecDepth 20000 in
theorem gX5_trim_X5_isTrimmed : GoodIn wsX5_trim (wsV RX5 98 RX5 yX5_isTrimmed wsX5_isTrimmed) := goodIn_app (goodIn_of _ (by decide +kernel)) ggX5_trim_X5_isTrimmed
set_option maxRecDepth 20000 in
theorem ggX5_trim_X5_record : GoodIn wsX5_trim wsX5_record := goodIn_r _ [24, 25, 26, 27, 1, 31, 32, 33, 34, 35, 36, 37, 38, 39, 40, 41, 42, 43, 44, 45] (by decide +kernel) (by decide +kernel)
set_option maxRecDepth 20000 in
theorem gX5_trim_X5_record : GoodIn wsX5_trim (wsV RX5 65 RX5 yX5_record wsX5_record) := goodIn_app (goodIn_of _ (by decide +kernel)) ggX5_trim_X5_record
set_option maxRecDepth 20000 in
theorem ggX5_trim_X5_voteAt : GoodIn wsX5_trim wsX5_voteAt := goodIn_r _ [30] (by decide +kernel) (by decide +kernel)
set_option maxRecDepth 20000 in
theorem gX5_trim_X5_voteAt : GoodIn wsX5_trim (va_wsS RX5 89 yX5_voteAt wsX5_voteAt) := goodIn_app (goodIn_of _ (by decide +kernel)) ggX5_trim_X5_voteAt
theorem dX5_trim_0 : decode cX5_trim 0 = .ok (.iload_n 1, 1) := by decide +kernel
theorem dX5_trim_1 : decode cX5_trim 1 = .ok (.invokestatic 95, 3) := by decide +kernel
theorem dX5_trim_4 : decode cX5_trim 4 = .ok (.ifCond .eq 5, 3) := by decide +kernel
theorem dX5_trim_7 : decode cX5_trim 7 = .ok (.iconst (-1), 1) := by decide +kernel
theorem dX5_trim_8 : decode cX5_trim 8 = .ok (.ireturn, 1) := by decide +kernel
theorem dX5_trim_9 : decode cX5_trim 9 = .ok (.iload_n 1, 1) := by decide +kernel
theorem dX5_trim_10 : decode cX5_trim 10 = .ok (.aload_n 0, 1) := by decide +kernel
theorem dX5_trim_11 : decode cX5_trim 11 = .ok (.invokevirtual 48, 3) := by decide +kernel
theorem dX5_trim_14 : decode cX5_trim 14 = .ok (.if_icmp .le 6, 3) := by decide +kernel
theorem dX5_trim_17 : decode cX5_trim 17 = .ok (.bipush (-4), 2) := by decide +kernel
theorem dX5_trim_19 : decode cX5_trim 19 = .ok (.ireturn, 1) := by decide +kernel
theorem dX5_trim_20 : decode cX5_trim 20 = .ok (.aload_n 0, 1) := by decide +kernel
theorem dX5_trim_21 : decode cX5_trim 21 = .ok (.iload_n 1, 1) := by decide +kernel
theorem dX5_trim_22 : decode cX5_trim 22 = .ok (.invokevirtual 98, 3) := by decide +kernel
theorem dX5_trim_25 : decode cX5_trim 25 = .ok (.ifCond .eq 6, 3) := by decide +kernel
theorem dX5_trim_28 : decode cX5_trim 28 = .ok (.bipush (-5), 2) := by decide +kernel
theorem dX5_trim_30 : decode cX5_trim 30 = .ok (.ireturn, 1) := by decide +kernel
theorem dX5_trim_31 : decode cX5_trim 31 = .ok (.aload_n 0, 1) := by decide +kernel
theorem dX5_trim_32 : decode cX5_trim 32 = .ok (.invokevirtual 65, 3) := by decide +kernel
theorem dX5_trim_35 : decode cX5_trim 35 = .ok (.aload_n 0, 1) := by decide +kernel
theorem dX5_trim_36 : decode cX5_trim 36 = .ok (.getfield 7, 3) := by decide +kernel
theorem dX5_trim_39 : decode cX5_trim 39 = .ok (.sipush 869, 3) := by decide +kernel
theorem dX5_trim_42 : decode cX5_trim 42 = .ok (.iload_n 1, 1) := by decide +kernel
theorem dX5_trim_43 : decode cX5_trim 43 = .ok (.iastore, 1) := by decide +kernel
theorem dX5_trim_44 : decode cX5_trim 44 = .ok (.iconst 0, 1) := by decide +kernel
theorem dX5_trim_45 : decode cX5_trim 45 = .ok (.istore_n 2, 1) := by decide +kernel
theorem dX5_trim_46 : decode cX5_trim 46 = .ok (.iconst 0, 1) := by decide +kernel
theorem dX5_trim_47 : decode cX5_trim 47 = .ok (.istore_n 3, 1) := by decide +kernel
theorem dX5_trim_48 : decode cX5_trim 48 = .ok (.iload_n 3, 1) := by decide +kernel
theorem dX5_trim_49 : decode cX5_trim 49 = .ok (.bipush 6, 2) := by decide +kernel
theorem dX5_trim_51 : decode cX5_trim 51 = .ok (.if_icmp .ge 72, 3) := by decide +kernel
theorem dX5_trim_54 : decode cX5_trim 54 = .ok (.iconst 1, 1) := by decide +kernel
theorem dX5_trim_55 : decode cX5_trim 55 = .ok (.istore 4, 2) := by decide +kernel
theorem dX5_trim_57 : decode cX5_trim 57 = .ok (.iload 4, 2) := by decide +kernel
theorem dX5_trim_59 : decode cX5_trim 59 = .ok (.iload_n 1, 1) := by decide +kernel
theorem dX5_trim_60 : decode cX5_trim 60 = .ok (.if_icmp .gt 57, 3) := by decide +kernel
theorem dX5_trim_63 : decode cX5_trim 63 = .ok (.iload_n 2, 1) := by decide +kernel
theorem dX5_trim_64 : decode cX5_trim 64 = .ok (.aload_n 0, 1) := by decide +kernel
theorem dX5_trim_65 : decode cX5_trim 65 = .ok (.getfield 7, 3) := by decide +kernel
theorem dX5_trim_68 : decode cX5_trim 68 = .ok (.iload_n 3, 1) := by decide +kernel
theorem dX5_trim_69 : decode cX5_trim 69 = .ok (.iload 4, 2) := by decide +kernel
theorem dX5_trim_71 : decode cX5_trim 71 = .ok (.invokestatic 89, 3) := by decide +kernel
theorem dX5_trim_74 : decode cX5_trim 74 = .ok (.iaload, 1) := by decide +kernel
theorem dX5_trim_75 : decode cX5_trim 75 = .ok (.ifCond .le 7, 3) := by decide +kernel
theorem dX5_trim_78 : decode cX5_trim 78 = .ok (.iconst 1, 1) := by decide +kernel
theorem dX5_trim_79 : decode cX5_trim 79 = .ok (.goto 4, 3) := by decide +kernel
theorem dX5_trim_82 : decode cX5_trim 82 = .ok (.iconst 0, 1) := by decide +kernel
theorem dX5_trim_83 : decode cX5_trim 83 = .ok (.iadd, 1) := by decide +kernel
theorem dX5_trim_84 : decode cX5_trim 84 = .ok (.istore_n 2, 1) := by decide +kernel
theorem dX5_trim_85 : decode cX5_trim 85 = .ok (.aload_n 0, 1) := by decide +kernel
theorem dX5_trim_86 : decode cX5_trim 86 = .ok (.getfield 7, 3) := by decide +kernel
theorem dX5_trim_89 : decode cX5_trim 89 = .ok (.iload_n 3, 1) := by decide +kernel
theorem dX5_trim_90 : decode cX5_trim 90 = .ok (.iload 4, 2) := by decide +kernel
theorem dX5_trim_92 : decode cX5_trim 92 = .ok (.invokestatic 89, 3) := by decide +kernel
theorem dX5_trim_95 : decode cX5_trim 95 = .ok (.iconst 0, 1) := by decide +kernel
theorem dX5_trim_96 : decode cX5_trim 96 = .ok (.iastore, 1) := by decide +kernel
theorem dX5_trim_97 : decode cX5_trim 97 = .ok (.aload_n 0, 1) := by decide +kernel
theorem dX5_trim_98 : decode cX5_trim 98 = .ok (.getfield 7, 3) := by decide +kernel
theorem dX5_trim_101 : decode cX5_trim 101 = .ok (.iload_n 3, 1) := by decide +kernel
theorem dX5_trim_102 : decode cX5_trim 102 = .ok (.iload 4, 2) := by decide +kernel
theorem dX5_trim_104 : decode cX5_trim 104 = .ok (.invokestatic 89, 3) := by decide +kernel
theorem dX5_trim_107 : decode cX5_trim 107 = .ok (.iconst 1, 1) := by decide +kernel
theorem dX5_trim_108 : decode cX5_trim 108 = .ok (.iadd, 1) := by decide +kernel
theorem dX5_trim_109 : decode cX5_trim 109 = .ok (.iconst 0, 1) := by decide +kernel
theorem dX5_trim_110 : decode cX5_trim 110 = .ok (.iastore, 1) := by decide +kernel
theorem dX5_trim_111 : decode cX5_trim 111 = .ok (.iinc 4 1, 3) := by decide +kernel
theorem dX5_trim_114 : decode cX5_trim 114 = .ok (.goto (-57), 3) := by decide +kernel
theorem dX5_trim_117 : decode cX5_trim 117 = .ok (.iinc 3 1, 3) := by decide +kernel
theorem dX5_trim_120 : decode cX5_trim 120 = .ok (.goto (-72), 3) := by decide +kernel
theorem dX5_trim_123 : decode cX5_trim 123 = .ok (.iload_n 2, 1) := by decide +kernel
theorem dX5_trim_124 : decode cX5_trim 124 = .ok (.ireturn, 1) := by decide +kernel
theorem dX5_type_0 : decode cX5_type 0 = .ok (.aload_n 0, 1) := by decide +kernel
theorem dX5_type_1 : decode cX5_type 1 = .ok (.getfield 110, 3) := by decide +kernel
theorem dX5_type_4 : decode cX5_type 4 = .ok (.bipush 60, 2) := by decide +kernel
theorem dX5_type_6 : decode cX5_type 6 = .ok (.if_icmp .ne 6, 3) := by decide +kernel
theorem dX5_type_9 : decode cX5_type 9 = .ok (.bipush (-3), 2) := by decide +kernel
theorem dX5_type_11 : decode cX5_type 11 = .ok (.ireturn, 1) := by decide +kernel
theorem dX5_type_12 : decode cX5_type 12 = .ok (.aload_n 0, 1) := by decide +kernel
theorem dX5_type_13 : decode cX5_type 13 = .ok (.getfield 19, 3) := by decide +kernel
theorem dX5_type_16 : decode cX5_type 16 = .ok (.aload_n 0, 1) := by decide +kernel
theorem dX5_type_17 : decode cX5_type 17 = .ok (.getfield 110, 3) := by decide +kernel
theorem dX5_type_20 : decode cX5_type 20 = .ok (.iload_n 1, 1) := by decide +kernel
theorem dX5_type_21 : decode cX5_type 21 = .ok (.castore, 1) := by decide +kernel
theorem dX5_type_22 : decode cX5_type 22 = .ok (.aload_n 0, 1) := by decide +kernel
theorem dX5_type_23 : decode cX5_type 23 = .ok (.dup, 1) := by decide +kernel
theorem dX5_type_24 : decode cX5_type 24 = .ok (.getfield 110, 3) := by decide +kernel
theorem dX5_type_27 : decode cX5_type 27 = .ok (.iconst 1, 1) := by decide +kernel
theorem dX5_type_28 : decode cX5_type 28 = .ok (.iadd, 1) := by decide +kernel
theorem dX5_type_29 : decode cX5_type 29 = .ok (.putfield 110, 3) := by decide +kernel
theorem dX5_type_32 : decode cX5_type 32 = .ok (.aload_n 0, 1) := by decide +kernel
theorem dX5_type_33 : decode cX5_type 33 = .ok (.getfield 110, 3) := by decide +kernel
theorem dX5_type_36 : decode cX5_type 36 = .ok (.ireturn, 1) := by decide +kernel
theorem dX5_clearText_0 : decode cX5_clearText 0 = .ok (.aload_n 0, 1) := by decide +kernel
theorem dX5_clearText_1 : decode cX5_clearText 1 = .ok (.getfield 110, 3) := by decide +kernel
theorem dX5_clearText_4 : decode cX5_clearText 4 = .ok (.istore_n 1, 1) := by decide +kernel
theorem dX5_clearText_5 : decode cX5_clearText 5 = .ok (.aload_n 0, 1) := by decide +kernel
theorem dX5_clearText_6 : decode cX5_clearText 6 = .ok (.iconst 0, 1) := by decide +kernel
theorem dX5_clearText_7 : decode cX5_clearText 7 = .ok (.putfield 110, 3) := by decide +kernel
theorem dX5_clearText_10 : decode cX5_clearText 10 = .ok (.iload_n 1, 1) := by decide +kernel
theorem dX5_clearText_11 : decode cX5_clearText 11 = .ok (.ireturn, 1) := by decide +kernel
set_option maxRecDepth 20000 in
theorem ggX5_isBetween_X5_in : GoodIn wsX5_isBetween wsX5_in := goodIn_r _ [7] (by decide +kernel) (by decide +kernel)
set_option maxRecDepth 20000 in
theorem gX5_isBetween_X5_in : GoodIn wsX5_isBetween (va_wsS RX5 33 yX5_in wsX5_in) := goodIn_app (goodIn_of _ (by decide +kernel)) ggX5_isBetween_X5_in
theorem dX5_isBetween_0 : decode cX5_isBetween 0 = .ok (.aload_n 0, 1) := by decide +kernel
theorem dX5_isBetween_1 : decode cX5_isBetween 1 = .ok (.getfield 113, 3) := by decide +kernel
theorem dX5_isBetween_4 : decode cX5_isBetween 4 = .ok (.aload_n 0, 1) := by decide +kernel
theorem dX5_isBetween_5 : decode cX5_isBetween 5 = .ok (.getfield 110, 3) := by decide +kernel
theorem dX5_isBetween_8 : decode cX5_isBetween 8 = .ok (.if_icmp .ge 24, 3) := by decide +kernel
theorem dX5_isBetween_11 : decode cX5_isBetween 11 = .ok (.aload_n 0, 1) := by decide +kernel
theorem dX5_isBetween_12 : decode cX5_isBetween 12 = .ok (.getfield 19, 3) := by decide +kernel
theorem dX5_isBetween_15 : decode cX5_isBetween 15 = .ok (.aload_n 0, 1) := by decide +kernel
theorem dX5_isBetween_16 : decode cX5_isBetween 16 = .ok (.getfield 113, 3) := by decide +kernel
theorem dX5_isBetween_19 : decode cX5_isBetween 19 = .ok (.caload, 1) := by decide +kernel
theorem dX5_isBetween_20 : decode cX5_isBetween 20 = .ok (.iload_n 1, 1) := by decide +kernel
theorem dX5_isBetween_21 : decode cX5_isBetween 21 = .ok (.iload_n 2, 1) := by decide +kernel
theorem dX5_isBetween_22 : decode cX5_isBetween 22 = .ok (.invokestatic 33, 3) := by decide +kernel
theorem dX5_isBetween_25 : decode cX5_isBetween 25 = .ok (.ifCond .eq 7, 3) := by decide +kernel
theorem dX5_isBetween_28 : decode cX5_isBetween 28 = .ok (.iconst 1, 1) := by decide +kernel
theorem dX5_isBetween_29 : decode cX5_isBetween 29 = .ok (.goto 4, 3) := by decide +kernel
theorem dX5_isBetween_32 : decode cX5_isBetween 32 = .ok (.iconst 0, 1) := by decide +kernel
theorem dX5_isBetween_33 : decode cX5_isBetween 33 = .ok (.ireturn, 1) := by decide +kernel
set_option maxRecDepth 20000 in
theorem ggX5_takes_X5_isBetween : GoodIn wsX5_takes wsX5_isBetween := goodIn_r _ [9, 1, 10, 2, 11, 12, 8, 13, 14, 15, 16, 17, 18, 19, 20, 21, 22, 23, 24, 25, 26, 27, 28] (by decide +kernel) (by decide +kernel)
set_option maxRecDepth 20000 in
theorem gX5_takes_X5_isBetween : GoodIn wsX5_takes (wsV RX5 116 RX5 yX5_isBetween wsX5_isBetween) := goodIn_app (goodIn_of _ (by decide +kernel)) ggX5_takes_X5_isBetween
theorem dX5_takes_0 : decode cX5_takes 0 = .ok (.iload_n 1, 1) := by decide +kernel
theorem dX5_takes_1 : decode cX5_takes 1 = .ok (.iconst 1, 1) := by decide +kernel
theorem dX5_takes_2 : decode cX5_takes 2 = .ok (.if_icmp .le 26, 3) := by decide +kernel
theorem dX5_takes_5 : decode cX5_takes 5 = .ok (.aload_n 0, 1) := by decide +kernel
theorem dX5_takes_6 : decode cX5_takes 6 = .ok (.bipush 44, 2) := by decide +kernel
theorem dX5_takes_8 : decode cX5_takes 8 = .ok (.bipush 44, 2) := by decide +kernel
theorem dX5_takes_10 : decode cX5_takes 10 = .ok (.invokevirtual 116, 3) := by decide +kernel
theorem dX5_takes_13 : decode cX5_takes 13 = .ok (.ifCond .ne 5, 3) := by decide +kernel
theorem dX5_takes_16 : decode cX5_takes 16 = .ok (.iconst 0, 1) := by decide +kernel
theorem dX5_takes_17 : decode cX5_takes 17 = .ok (.ireturn, 1) := by decide +kernel
theorem dX5_takes_18 : decode cX5_takes 18 = .ok (.aload_n 0, 1) := by decide +kernel
theorem dX5_takes_19 : decode cX5_takes 19 = .ok (.dup, 1) := by decide +kernel
theorem dX5_takes_20 : decode cX5_takes 20 = .ok (.getfield 113, 3) := by decide +kernel
theorem dX5_takes_23 : decode cX5_takes 23 = .ok (.iconst 1, 1) := by decide +kernel
theorem dX5_takes_24 : decode cX5_takes 24 = .ok (.iadd, 1) := by decide +kernel
theorem dX5_takes_25 : decode cX5_takes 25 = .ok (.putfield 113, 3) := by decide +kernel
theorem dX5_takes_28 : decode cX5_takes 28 = .ok (.iload_n 2, 1) := by decide +kernel
theorem dX5_takes_29 : decode cX5_takes 29 = .ok (.ifCond .le 19, 3) := by decide +kernel
theorem dX5_takes_32 : decode cX5_takes 32 = .ok (.aload_n 0, 1) := by decide +kernel
theorem dX5_takes_33 : decode cX5_takes 33 = .ok (.bipush 48, 2) := by decide +kernel
theorem dX5_takes_35 : decode cX5_takes 35 = .ok (.bipush 48, 2) := by decide +kernel
theorem dX5_takes_37 : decode cX5_takes 37 = .ok (.iload_n 2, 1) := by decide +kernel
theorem dX5_takes_38 : decode cX5_takes 38 = .ok (.iadd, 1) := by decide +kernel
theorem dX5_takes_39 : decode cX5_takes 39 = .ok (.invokevirtual 116, 3) := by decide +kernel
theorem dX5_takes_42 : decode cX5_takes 42 = .ok (.ifCond .ne 19, 3) := by decide +kernel
theorem dX5_takes_45 : decode cX5_takes 45 = .ok (.goto 14, 3) := by decide +kernel
theorem dX5_takes_48 : decode cX5_takes 48 = .ok (.aload_n 0, 1) := by decide +kernel
theorem dX5_takes_49 : decode cX5_takes 49 = .ok (.bipush 49, 2) := by decide +kernel
theorem dX5_takes_51 : decode cX5_takes 51 = .ok (.bipush 57, 2) := by decide +kernel
theorem dX5_takes_53 : decode cX5_takes 53 = .ok (.invokevirtual 116, 3) := by decide +kernel
theorem dX5_takes_56 : decode cX5_takes 56 = .ok (.ifCond .ne 5, 3) := by decide +kernel
theorem dX5_takes_59 : decode cX5_takes 59 = .ok (.iconst 0, 1) := by decide +kernel
theorem dX5_takes_60 : decode cX5_takes 60 = .ok (.ireturn, 1) := by decide +kernel
theorem dX5_takes_61 : decode cX5_takes 61 = .ok (.aload_n 0, 1) := by decide +kernel
theorem dX5_takes_62 : decode cX5_takes 62 = .ok (.getfield 19, 3) := by decide +kernel
theorem dX5_takes_65 : decode cX5_takes 65 = .ok (.aload_n 0, 1) := by decide +kernel
theorem dX5_takes_66 : decode cX5_takes 66 = .ok (.getfield 113, 3) := by decide +kernel
theorem dX5_takes_69 : decode cX5_takes 69 = .ok (.caload, 1) := by decide +kernel
theorem dX5_takes_70 : decode cX5_takes 70 = .ok (.bipush 48, 2) := by decide +kernel
theorem dX5_takes_72 : decode cX5_takes 72 = .ok (.isub, 1) := by decide +kernel
theorem dX5_takes_73 : decode cX5_takes 73 = .ok (.istore_n 3, 1) := by decide +kernel
theorem dX5_takes_74 : decode cX5_takes 74 = .ok (.aload_n 0, 1) := by decide +kernel
theorem dX5_takes_75 : decode cX5_takes 75 = .ok (.dup, 1) := by decide +kernel
theorem dX5_takes_76 : decode cX5_takes 76 = .ok (.getfield 113, 3) := by decide +kernel
theorem dX5_takes_79 : decode cX5_takes 79 = .ok (.iconst 1, 1) := by decide +kernel
theorem dX5_takes_80 : decode cX5_takes 80 = .ok (.iadd, 1) := by decide +kernel
theorem dX5_takes_81 : decode cX5_takes 81 = .ok (.putfield 113, 3) := by decide +kernel
theorem dX5_takes_84 : decode cX5_takes 84 = .ok (.iconst 0, 1) := by decide +kernel
theorem dX5_takes_85 : decode cX5_takes 85 = .ok (.istore 4, 2) := by decide +kernel
theorem dX5_takes_87 : decode cX5_takes 87 = .ok (.iload 4, 2) := by decide +kernel
theorem dX5_takes_89 : decode cX5_takes 89 = .ok (.iconst 2, 1) := by decide +kernel
theorem dX5_takes_90 : decode cX5_takes 90 = .ok (.if_icmp .ge 52, 3) := by decide +kernel
theorem dX5_takes_93 : decode cX5_takes 93 = .ok (.iload_n 2, 1) := by decide +kernel
theorem dX5_takes_94 : decode cX5_takes 94 = .ok (.ifCond .ne 48, 3) := by decide +kernel
theorem dX5_takes_97 : decode cX5_takes 97 = .ok (.aload_n 0, 1) := by decide +kernel
theorem dX5_takes_98 : decode cX5_takes 98 = .ok (.bipush 48, 2) := by decide +kernel
theorem dX5_takes_100 : decode cX5_takes 100 = .ok (.bipush 57, 2) := by decide +kernel
theorem dX5_takes_102 : decode cX5_takes 102 = .ok (.invokevirtual 116, 3) := by decide +kernel
theorem dX5_takes_105 : decode cX5_takes 105 = .ok (.ifCond .eq 37, 3) := by decide +kernel
theorem dX5_takes_108 : decode cX5_takes 108 = .ok (.bipush 10, 2) := by decide +kernel
theorem dX5_takes_110 : decode cX5_takes 110 = .ok (.iload_n 3, 1) := by decide +kernel
theorem dX5_takes_111 : decode cX5_takes 111 = .ok (.imul, 1) := by decide +kernel
theorem dX5_takes_112 : decode cX5_takes 112 = .ok (.aload_n 0, 1) := by decide +kernel
theorem dX5_takes_113 : decode cX5_takes 113 = .ok (.getfield 19, 3) := by decide +kernel
theorem dX5_takes_116 : decode cX5_takes 116 = .ok (.aload_n 0, 1) := by decide +kernel
theorem dX5_takes_117 : decode cX5_takes 117 = .ok (.getfield 113, 3) := by decide +kernel
theorem dX5_takes_120 : decode cX5_takes 120 = .ok (.caload, 1) := by decide +kernel
theorem dX5_takes_121 : decode cX5_takes 121 = .ok (.iadd, 1) := by decide +kernel
theorem dX5_takes_122 : decode cX5_takes 122 = .ok (.bipush 48, 2) := by decide +kernel
theorem dX5_takes_124 : decode cX5_takes 124 = .ok (.isub, 1) := by decide +kernel
theorem dX5_takes_125 : decode cX5_takes 125 = .ok (.istore_n 3, 1) := by decide +kernel
theorem dX5_takes_126 : decode cX5_takes 126 = .ok (.aload_n 0, 1) := by decide +kernel
theorem dX5_takes_127 : decode cX5_takes 127 = .ok (.dup, 1) := by decide +kernel
theorem dX5_takes_128 : decode cX5_takes 128 = .ok (.getfield 113, 3) := by decide +kernel
theorem dX5_takes_131 : decode cX5_takes 131 = .ok (.iconst 1, 1) := by decide +kernel
theorem dX5_takes_132 : decode cX5_takes 132 = .ok (.iadd, 1) := by decide +kernel
theorem dX5_takes_133 : decode cX5_takes 133 = .ok (.putfield 113, 3) := by decide +kernel
theorem dX5_takes_136 : decode cX5_takes 136 = .ok (.iinc 4 1, 3) := by decide +kernel
theorem dX5_takes_139 : decode cX5_takes 139 = .ok (.goto (-52), 3) := by decide +kernel
theorem dX5_takes_142 : decode cX5_takes 142 = .ok (.aload_n 0, 1) := by decide +kernel
theorem dX5_takes_143 : decode cX5_takes 143 = .ok (.getfield 23, 3) := by decide +kernel
theorem dX5_takes_146 : decode cX5_takes 146 = .ok (.iconst 5, 1) := by decide +kernel
theorem dX5_takes_147 : decode cX5_takes 147 = .ok (.aload_n 0, 1) := by decide +kernel
theorem dX5_takes_148 : decode cX5_takes 148 = .ok (.getfield 119, 3) := by decide +kernel
theorem dX5_takes_151 : decode cX5_takes 151 = .ok (.imul, 1) := by decide +kernel
theorem dX5_takes_152 : decode cX5_takes 152 = .ok (.iload_n 1, 1) := by decide +kernel
theorem dX5_takes_153 : decode cX5_takes 153 = .ok (.iadd, 1) := by decide +kernel
theorem dX5_takes_154 : decode cX5_takes 154 = .ok (.iload_n 3, 1) := by decide +kernel
theorem dX5_takes_155 : decode cX5_takes 155 = .ok (.iastore, 1) := by decide +kernel
theorem dX5_takes_156 : decode cX5_takes 156 = .ok (.iconst 1, 1) := by decide +kernel
theorem dX5_takes_157 : decode cX5_takes 157 = .ok (.ireturn, 1) := by decide +kernel
set_option maxRecDepth 20000 in
theorem ggX5_takesOrder_X5_takes : GoodIn wsX5_takesOrder wsX5_takes := goodIn_r _ [10, 1, 3, 4, 5, 11, 12, 13, 9, 14, 2, 15, 16, 17, 18, 19, 20, 21, 22, 23, 24, 25, 26, 27, 28, 29, 30, 31, 32] (by decide +kernel) (by decide +kernel)
set_option maxRecDepth 20000 in
theorem gX5_takesOrder_X5_takes : GoodIn wsX5_takesOrder (wsV RX5 122 RX5 yX5_takes wsX5_takes) := goodIn_app (goodIn_of _ (by decide +kernel)) ggX5_takesOrder_X5_takes
theorem dX5_takesOrder_0 : decode cX5_takesOrder 0 = .ok (.aload_n 0, 1) := by decide +kernel
theorem dX5_takesOrder_1 : decode cX5_takesOrder 1 = .ok (.getfield 113, 3) := by decide +kernel
theorem dX5_takesOrder_4 : decode cX5_takesOrder 4 = .ok (.aload_n 0, 1) := by decide +kernel
theorem dX5_takesOrder_5 : decode cX5_takesOrder 5 = .ok (.getfield 110, 3) := by decide +kernel
theorem dX5_takesOrder_8 : decode cX5_takesOrder 8 = .ok (.if_icmp .ne 5, 3) := by decide +kernel
theorem dX5_takesOrder_11 : decode cX5_takesOrder 11 = .ok (.iconst 0, 1) := by decide +kernel
theorem dX5_takesOrder_12 : decode cX5_takesOrder 12 = .ok (.ireturn, 1) := by decide +kernel
theorem dX5_takesOrder_13 : decode cX5_takesOrder 13 = .ok (.aload_n 0, 1) := by decide +kernel
theorem dX5_takesOrder_14 : decode cX5_takesOrder 14 = .ok (.getfield 19, 3) := by decide +kernel
theorem dX5_takesOrder_17 : decode cX5_takesOrder 17 = .ok (.aload_n 0, 1) := by decide +kernel
theorem dX5_takesOrder_18 : decode cX5_takesOrder 18 = .ok (.getfield 113, 3) := by decide +kernel
theorem dX5_takesOrder_21 : decode cX5_takesOrder 21 = .ok (.caload, 1) := by decide +kernel
theorem dX5_takesOrder_22 : decode cX5_takesOrder 22 = .ok (.istore_n 1, 1) := by decide +kernel
theorem dX5_takesOrder_23 : decode cX5_takesOrder 23 = .ok (.aload_n 0, 1) := by decide +kernel
theorem dX5_takesOrder_24 : decode cX5_takesOrder 24 = .ok (.getfield 23, 3) := by decide +kernel
theorem dX5_takesOrder_27 : decode cX5_takesOrder 27 = .ok (.iconst 5, 1) := by decide +kernel
theorem dX5_takesOrder_28 : decode cX5_takesOrder 28 = .ok (.aload_n 0, 1) := by decide +kernel
theorem dX5_takesOrder_29 : decode cX5_takesOrder 29 = .ok (.getfield 119, 3) := by decide +kernel
theorem dX5_takesOrder_32 : decode cX5_takesOrder 32 = .ok (.imul, 1) := by decide +kernel
theorem dX5_takesOrder_33 : decode cX5_takesOrder 33 = .ok (.iload_n 1, 1) := by decide +kernel
theorem dX5_takesOrder_34 : decode cX5_takesOrder 34 = .ok (.iastore, 1) := by decide +kernel
theorem dX5_takesOrder_35 : decode cX5_takesOrder 35 = .ok (.aload_n 0, 1) := by decide +kernel
theorem dX5_takesOrder_36 : decode cX5_takesOrder 36 = .ok (.getfield 23, 3) := by decide +kernel
theorem dX5_takesOrder_39 : decode cX5_takesOrder 39 = .ok (.iconst 5, 1) := by decide +kernel
theorem dX5_takesOrder_40 : decode cX5_takesOrder 40 = .ok (.aload_n 0, 1) := by decide +kernel
theorem dX5_takesOrder_41 : decode cX5_takesOrder 41 = .ok (.getfield 119, 3) := by decide +kernel
theorem dX5_takesOrder_44 : decode cX5_takesOrder 44 = .ok (.imul, 1) := by decide +kernel
theorem dX5_takesOrder_45 : decode cX5_takesOrder 45 = .ok (.iconst 4, 1) := by decide +kernel
theorem dX5_takesOrder_46 : decode cX5_takesOrder 46 = .ok (.iadd, 1) := by decide +kernel
theorem dX5_takesOrder_47 : decode cX5_takesOrder 47 = .ok (.aload_n 0, 1) := by decide +kernel
theorem dX5_takesOrder_48 : decode cX5_takesOrder 48 = .ok (.getfield 113, 3) := by decide +kernel
theorem dX5_takesOrder_51 : decode cX5_takesOrder 51 = .ok (.iastore, 1) := by decide +kernel
theorem dX5_takesOrder_52 : decode cX5_takesOrder 52 = .ok (.iload_n 1, 1) := by decide +kernel
theorem dX5_takesOrder_53 : decode cX5_takesOrder 53 = .ok (.bipush 110, 2) := by decide +kernel
theorem dX5_takesOrder_55 : decode cX5_takesOrder 55 = .ok (.if_icmp .eq 33, 3) := by decide +kernel
theorem dX5_takesOrder_58 : decode cX5_takesOrder 58 = .ok (.iload_n 1, 1) := by decide +kernel
theorem dX5_takesOrder_59 : decode cX5_takesOrder 59 = .ok (.bipush 121, 2) := by decide +kernel
theorem dX5_takesOrder_61 : decode cX5_takesOrder 61 = .ok (.if_icmp .eq 27, 3) := by decide +kernel
theorem dX5_takesOrder_64 : decode cX5_takesOrder 64 = .ok (.iload_n 1, 1) := by decide +kernel
theorem dX5_takesOrder_65 : decode cX5_takesOrder 65 = .ok (.bipush 118, 2) := by decide +kernel
theorem dX5_takesOrder_67 : decode cX5_takesOrder 67 = .ok (.if_icmp .eq 21, 3) := by decide +kernel
theorem dX5_takesOrder_70 : decode cX5_takesOrder 70 = .ok (.iload_n 1, 1) := by decide +kernel
theorem dX5_takesOrder_71 : decode cX5_takesOrder 71 = .ok (.bipush 97, 2) := by decide +kernel
theorem dX5_takesOrder_73 : decode cX5_takesOrder 73 = .ok (.if_icmp .eq 15, 3) := by decide +kernel
theorem dX5_takesOrder_76 : decode cX5_takesOrder 76 = .ok (.iload_n 1, 1) := by decide +kernel
theorem dX5_takesOrder_77 : decode cX5_takesOrder 77 = .ok (.bipush 100, 2) := by decide +kernel
theorem dX5_takesOrder_79 : decode cX5_takesOrder 79 = .ok (.if_icmp .eq 9, 3) := by decide +kernel
theorem dX5_takesOrder_82 : decode cX5_takesOrder 82 = .ok (.iload_n 1, 1) := by decide +kernel
theorem dX5_takesOrder_83 : decode cX5_takesOrder 83 = .ok (.bipush 117, 2) := by decide +kernel
theorem dX5_takesOrder_85 : decode cX5_takesOrder 85 = .ok (.if_icmp .ne 7, 3) := by decide +kernel
theorem dX5_takesOrder_88 : decode cX5_takesOrder 88 = .ok (.iconst 1, 1) := by decide +kernel
theorem dX5_takesOrder_89 : decode cX5_takesOrder 89 = .ok (.goto 4, 3) := by decide +kernel
theorem dX5_takesOrder_92 : decode cX5_takesOrder 92 = .ok (.iconst 0, 1) := by decide +kernel
theorem dX5_takesOrder_93 : decode cX5_takesOrder 93 = .ok (.istore_n 2, 1) := by decide +kernel
theorem dX5_takesOrder_94 : decode cX5_takesOrder 94 = .ok (.aload_n 0, 1) := by decide +kernel
theorem dX5_takesOrder_95 : decode cX5_takesOrder 95 = .ok (.dup, 1) := by decide +kernel
theorem dX5_takesOrder_96 : decode cX5_takesOrder 96 = .ok (.getfield 113, 3) := by decide +kernel
theorem dX5_takesOrder_99 : decode cX5_takesOrder 99 = .ok (.iload_n 2, 1) := by decide +kernel
theorem dX5_takesOrder_100 : decode cX5_takesOrder 100 = .ok (.ifCond .eq 7, 3) := by decide +kernel
theorem dX5_takesOrder_103 : decode cX5_takesOrder 103 = .ok (.iconst 1, 1) := by decide +kernel
theorem dX5_takesOrder_104 : decode cX5_takesOrder 104 = .ok (.goto 4, 3) := by decide +kernel
theorem dX5_takesOrder_107 : decode cX5_takesOrder 107 = .ok (.iconst 0, 1) := by decide +kernel
theorem dX5_takesOrder_108 : decode cX5_takesOrder 108 = .ok (.iadd, 1) := by decide +kernel
theorem dX5_takesOrder_109 : decode cX5_takesOrder 109 = .ok (.putfield 113, 3) := by decide +kernel
theorem dX5_takesOrder_112 : decode cX5_takesOrder 112 = .ok (.iload_n 2, 1) := by decide +kernel
theorem dX5_takesOrder_113 : decode cX5_takesOrder 113 = .ok (.ifCond .eq 28, 3) := by decide +kernel
theorem dX5_takesOrder_116 : decode cX5_takesOrder 116 = .ok (.aload_n 0, 1) := by decide +kernel
theorem dX5_takesOrder_117 : decode cX5_takesOrder 117 = .ok (.iconst 1, 1) := by decide +kernel
theorem dX5_takesOrder_118 : decode cX5_takesOrder 118 = .ok (.iload_n 1, 1) := by decide +kernel
theorem dX5_takesOrder_119 : decode cX5_takesOrder 119 = .ok (.bipush 100, 2) := by decide +kernel
theorem dX5_takesOrder_121 : decode cX5_takesOrder 121 = .ok (.if_icmp .eq 9, 3) := by decide +kernel
theorem dX5_takesOrder_124 : decode cX5_takesOrder 124 = .ok (.iload_n 1, 1) := by decide +kernel
theorem dX5_takesOrder_125 : decode cX5_takesOrder 125 = .ok (.bipush 117, 2) := by decide +kernel
theorem dX5_takesOrder_127 : decode cX5_takesOrder 127 = .ok (.if_icmp .ne 7, 3) := by decide +kernel
theorem dX5_takesOrder_130 : decode cX5_takesOrder 130 = .ok (.iconst 5, 1) := by decide +kernel
theorem dX5_takesOrder_131 : decode cX5_takesOrder 131 = .ok (.goto 4, 3) := by decide +kernel
theorem dX5_takesOrder_134 : decode cX5_takesOrder 134 = .ok (.iconst 2, 1) := by decide +kernel
theorem dX5_takesOrder_135 : decode cX5_takesOrder 135 = .ok (.invokevirtual 122, 3) := by decide +kernel
theorem dX5_takesOrder_138 : decode cX5_takesOrder 138 = .ok (.ifCond .ne 5, 3) := by decide +kernel
theorem dX5_takesOrder_141 : decode cX5_takesOrder 141 = .ok (.iconst 0, 1) := by decide +kernel
theorem dX5_takesOrder_142 : decode cX5_takesOrder 142 = .ok (.ireturn, 1) := by decide +kernel
theorem dX5_takesOrder_143 : decode cX5_takesOrder 143 = .ok (.iload_n 1, 1) := by decide +kernel
theorem dX5_takesOrder_144 : decode cX5_takesOrder 144 = .ok (.bipush 121, 2) := by decide +kernel
theorem dX5_takesOrder_146 : decode cX5_takesOrder 146 = .ok (.if_icmp .ne 10, 3) := by decide +kernel
theorem dX5_takesOrder_149 : decode cX5_takesOrder 149 = .ok (.aload_n 0, 1) := by decide +kernel
theorem dX5_takesOrder_150 : decode cX5_takesOrder 150 = .ok (.iconst 2, 1) := by decide +kernel
theorem dX5_takesOrder_151 : decode cX5_takesOrder 151 = .ok (.iconst 5, 1) := by decide +kernel
theorem dX5_takesOrder_152 : decode cX5_takesOrder 152 = .ok (.invokevirtual 122, 3) := by decide +kernel
theorem dX5_takesOrder_155 : decode cX5_takesOrder 155 = .ok (.ireturn, 1) := by decide +kernel
theorem dX5_takesOrder_156 : decode cX5_takesOrder 156 = .ok (.iload_n 1, 1) := by decide +kernel
theorem dX5_takesOrder_157 : decode cX5_takesOrder 157 = .ok (.bipush 118, 2) := by decide +kernel
theorem dX5_takesOrder_159 : decode cX5_takesOrder 159 = .ok (.if_icmp .eq 9, 3) := by decide +kernel
theorem dX5_takesOrder_162 : decode cX5_takesOrder 162 = .ok (.iload_n 1, 1) := by decide +kernel
theorem dX5_takesOrder_163 : decode cX5_takesOrder 163 = .ok (.bipush 97, 2) := by decide +kernel
theorem dX5_takesOrder_165 : decode cX5_takesOrder 165 = .ok (.if_icmp .ne 31, 3) := by decide +kernel
theorem dX5_takesOrder_168 : decode cX5_takesOrder 168 = .ok (.aload_n 0, 1) := by decide +kernel
theorem dX5_takesOrder_169 : decode cX5_takesOrder 169 = .ok (.iconst 2, 1) := by decide +kernel
theorem dX5_takesOrder_170 : decode cX5_takesOrder 170 = .ok (.iconst 0, 1) := by decide +kernel
theorem dX5_takesOrder_171 : decode cX5_takesOrder 171 = .ok (.invokevirtual 122, 3) := by decide +kernel
theorem dX5_takesOrder_174 : decode cX5_takesOrder 174 = .ok (.ifCond .eq 26, 3) := by decide +kernel
theorem dX5_takesOrder_177 : decode cX5_takesOrder 177 = .ok (.aload_n 0, 1) := by decide +kernel
theorem dX5_takesOrder_178 : decode cX5_takesOrder 178 = .ok (.iconst 3, 1) := by decide +kernel
theorem dX5_takesOrder_179 : decode cX5_takesOrder 179 = .ok (.iload_n 1, 1) := by decide +kernel
theorem dX5_takesOrder_180 : decode cX5_takesOrder 180 = .ok (.bipush 118, 2) := by decide +kernel
theorem dX5_takesOrder_182 : decode cX5_takesOrder 182 = .ok (.if_icmp .ne 7, 3) := by decide +kernel
theorem dX5_takesOrder_185 : decode cX5_takesOrder 185 = .ok (.iconst 0, 1) := by decide +kernel
theorem dX5_takesOrder_186 : decode cX5_takesOrder 186 = .ok (.goto 4, 3) := by decide +kernel
theorem dX5_takesOrder_189 : decode cX5_takesOrder 189 = .ok (.iconst 5, 1) := by decide +kernel
theorem dX5_takesOrder_190 : decode cX5_takesOrder 190 = .ok (.invokevirtual 122, 3) := by decide +kernel
theorem dX5_takesOrder_193 : decode cX5_takesOrder 193 = .ok (.ifCond .eq 7, 3) := by decide +kernel
theorem dX5_takesOrder_196 : decode cX5_takesOrder 196 = .ok (.iconst 1, 1) := by decide +kernel
theorem dX5_takesOrder_197 : decode cX5_takesOrder 197 = .ok (.goto 4, 3) := by decide +kernel
theorem dX5_takesOrder_200 : decode cX5_takesOrder 200 = .ok (.iconst 0, 1) := by decide +kernel
theorem dX5_takesOrder_201 : decode cX5_takesOrder 201 = .ok (.ireturn, 1) := by decide +kernel
set_option maxRecDepth 20000 in
theorem ggX5_isRead_X5_takesOrder : GoodIn wsX5_isRead wsX5_takesOrder := goodIn_r _ [9, 1, 3, 4, 10, 2, 11, 12, 13, 8, 14, 15, 16, 17, 18, 19, 20, 21, 22, 23, 24, 25, 26, 27, 28, 29, 30, 31, 32, 33, 34, 35, 36] (by decide +kernel) (by decide +kernel)
set_option maxRecDepth 20000 in
theorem gX5_isRead_X5_takesOrder : GoodIn wsX5_isRead (wsV RX5 125 RX5 yX5_takesOrder wsX5_takesOrder) := goodIn_app (goodIn_of _ (by decide +kernel)) ggX5_isRead_X5_takesOrder
theorem dX5_isRead_0 : decode cX5_isRead 0 = .ok (.aload_n 0, 1) := by decide +kernel
theorem dX5_isRead_1 : decode cX5_isRead 1 = .ok (.iconst 0, 1) := by decide +kernel
theorem dX5_isRead_2 : decode cX5_isRead 2 = .ok (.putfield 113, 3) := by decide +kernel
theorem dX5_isRead_5 : decode cX5_isRead 5 = .ok (.aload_n 0, 1) := by decide +kernel
theorem dX5_isRead_6 : decode cX5_isRead 6 = .ok (.iconst 0, 1) := by decide +kernel
theorem dX5_isRead_7 : decode cX5_isRead 7 = .ok (.putfield 119, 3) := by decide +kernel
theorem dX5_isRead_10 : decode cX5_isRead 10 = .ok (.iconst 1, 1) := by decide +kernel
theorem dX5_isRead_11 : decode cX5_isRead 11 = .ok (.istore_n 1, 1) := by decide +kernel
theorem dX5_isRead_12 : decode cX5_isRead 12 = .ok (.iload_n 1, 1) := by decide +kernel
theorem dX5_isRead_13 : decode cX5_isRead 13 = .ok (.ifCond .eq 80, 3) := by decide +kernel
theorem dX5_isRead_16 : decode cX5_isRead 16 = .ok (.aload_n 0, 1) := by decide +kernel
theorem dX5_isRead_17 : decode cX5_isRead 17 = .ok (.invokevirtual 125, 3) := by decide +kernel
theorem dX5_isRead_20 : decode cX5_isRead 20 = .ok (.ifCond .ne 5, 3) := by decide +kernel
theorem dX5_isRead_23 : decode cX5_isRead 23 = .ok (.iconst 0, 1) := by decide +kernel
theorem dX5_isRead_24 : decode cX5_isRead 24 = .ok (.ireturn, 1) := by decide +kernel
theorem dX5_isRead_25 : decode cX5_isRead 25 = .ok (.aload_n 0, 1) := by decide +kernel
theorem dX5_isRead_26 : decode cX5_isRead 26 = .ok (.dup, 1) := by decide +kernel
theorem dX5_isRead_27 : decode cX5_isRead 27 = .ok (.getfield 119, 3) := by decide +kernel
theorem dX5_isRead_30 : decode cX5_isRead 30 = .ok (.iconst 1, 1) := by decide +kernel
theorem dX5_isRead_31 : decode cX5_isRead 31 = .ok (.iadd, 1) := by decide +kernel
theorem dX5_isRead_32 : decode cX5_isRead 32 = .ok (.putfield 119, 3) := by decide +kernel
theorem dX5_isRead_35 : decode cX5_isRead 35 = .ok (.aload_n 0, 1) := by decide +kernel
theorem dX5_isRead_36 : decode cX5_isRead 36 = .ok (.getfield 113, 3) := by decide +kernel
theorem dX5_isRead_39 : decode cX5_isRead 39 = .ok (.aload_n 0, 1) := by decide +kernel
theorem dX5_isRead_40 : decode cX5_isRead 40 = .ok (.getfield 110, 3) := by decide +kernel
theorem dX5_isRead_43 : decode cX5_isRead 43 = .ok (.if_icmp .ge 7, 3) := by decide +kernel
theorem dX5_isRead_46 : decode cX5_isRead 46 = .ok (.iconst 1, 1) := by decide +kernel
theorem dX5_isRead_47 : decode cX5_isRead 47 = .ok (.goto 4, 3) := by decide +kernel
theorem dX5_isRead_50 : decode cX5_isRead 50 = .ok (.iconst 0, 1) := by decide +kernel
theorem dX5_isRead_51 : decode cX5_isRead 51 = .ok (.istore_n 1, 1) := by decide +kernel
theorem dX5_isRead_52 : decode cX5_isRead 52 = .ok (.iload_n 1, 1) := by decide +kernel
theorem dX5_isRead_53 : decode cX5_isRead 53 = .ok (.ifCond .eq 19, 3) := by decide +kernel
theorem dX5_isRead_56 : decode cX5_isRead 56 = .ok (.aload_n 0, 1) := by decide +kernel
theorem dX5_isRead_57 : decode cX5_isRead 57 = .ok (.getfield 19, 3) := by decide +kernel
theorem dX5_isRead_60 : decode cX5_isRead 60 = .ok (.aload_n 0, 1) := by decide +kernel
theorem dX5_isRead_61 : decode cX5_isRead 61 = .ok (.getfield 113, 3) := by decide +kernel
theorem dX5_isRead_64 : decode cX5_isRead 64 = .ok (.caload, 1) := by decide +kernel
theorem dX5_isRead_65 : decode cX5_isRead 65 = .ok (.bipush 59, 2) := by decide +kernel
theorem dX5_isRead_67 : decode cX5_isRead 67 = .ok (.if_icmp .eq 5, 3) := by decide +kernel
theorem dX5_isRead_70 : decode cX5_isRead 70 = .ok (.iconst 0, 1) := by decide +kernel
theorem dX5_isRead_71 : decode cX5_isRead 71 = .ok (.ireturn, 1) := by decide +kernel
theorem dX5_isRead_72 : decode cX5_isRead 72 = .ok (.aload_n 0, 1) := by decide +kernel
theorem dX5_isRead_73 : decode cX5_isRead 73 = .ok (.dup, 1) := by decide +kernel
theorem dX5_isRead_74 : decode cX5_isRead 74 = .ok (.getfield 113, 3) := by decide +kernel
theorem dX5_isRead_77 : decode cX5_isRead 77 = .ok (.iload_n 1, 1) := by decide +kernel
theorem dX5_isRead_78 : decode cX5_isRead 78 = .ok (.ifCond .eq 7, 3) := by decide +kernel
theorem dX5_isRead_81 : decode cX5_isRead 81 = .ok (.iconst 1, 1) := by decide +kernel
theorem dX5_isRead_82 : decode cX5_isRead 82 = .ok (.goto 4, 3) := by decide +kernel
theorem dX5_isRead_85 : decode cX5_isRead 85 = .ok (.iconst 0, 1) := by decide +kernel
theorem dX5_isRead_86 : decode cX5_isRead 86 = .ok (.iadd, 1) := by decide +kernel
theorem dX5_isRead_87 : decode cX5_isRead 87 = .ok (.putfield 113, 3) := by decide +kernel
theorem dX5_isRead_90 : decode cX5_isRead 90 = .ok (.goto (-78), 3) := by decide +kernel
theorem dX5_isRead_93 : decode cX5_isRead 93 = .ok (.iconst 1, 1) := by decide +kernel
theorem dX5_isRead_94 : decode cX5_isRead 94 = .ok (.ireturn, 1) := by decide +kernel
set_option maxRecDepth 20000 in
theorem ggX5_does_X5_prepare : GoodIn wsX5_does wsX5_prepare := goodIn_r _ [6, 7, 8, 9, 5, 10, 11, 12, 13, 14, 15, 16, 17, 18, 19, 20, 21, 22, 23, 24, 25, 26, 102, 103, 104, 105, 106, 107, 108, 109, 110, 111, 112, 113, 114, 115, 116] (by decide +kernel) (by decide +kernel)
set_option maxRecDepth 20000 in
theorem gX5_does_X5_prepare : GoodIn wsX5_does (wsV RX5 129 RX5 yX5_prepare wsX5_prepare) := goodIn_app (goodIn_of _ (by decide +kernel)) ggX5_does_X5_prepare
set_option maxRecDepth 20000 in
theorem ggX5_does_X5_promise : GoodIn wsX5_does wsX5_promise := goodIn_r _ [30, 7, 8, 9, 5, 10, 11, 12, 13, 31, 32, 33, 34, 35, 36, 14, 15, 16, 17, 18, 19, 20, 37, 38, 39, 40, 41, 42, 43, 24, 25, 26, 102, 103, 104, 105, 106, 107, 108, 109, 110, 111, 112, 113, 114, 115, 116] (by decide +kernel) (by decide +kernel)
set_option maxRecDepth 20000 in
theorem gX5_does_X5_promise : GoodIn wsX5_does (wsV RX5 132 RX5 yX5_promise wsX5_promise) := goodIn_app (goodIn_of _ (by decide +kernel)) ggX5_does_X5_promise
set_option maxRecDepth 20000 in
theorem ggX5_does_X5_propose : GoodIn wsX5_does wsX5_propose := goodIn_r _ [47, 7, 8, 9, 5, 10, 11, 12, 13, 48, 49, 50, 51, 52, 53, 54, 55, 56, 57, 58, 59, 60, 61, 62, 63, 64, 65, 66, 67, 68, 69, 70, 71, 72, 73, 74, 75, 76, 77, 78, 79, 80, 81, 82, 83, 84, 85, 21, 22, 23, 14, 15, 16, 17, 18, 19, 20, 86, 87, 88, 89, 24, 25, 26, 34, 35, 36, 102, 103, 104, 105, 106, 107, 108, 109, 110, 111, 112, 113, 114, 115, 116] (by decide +kernel) (by decide +kernel)
set_option maxRecDepth 20000 in
theorem gX5_does_X5_propose : GoodIn wsX5_does (wsV RX5 135 RX5 yX5_propose wsX5_propose) := goodIn_app (goodIn_of _ (by decide +kernel)) ggX5_does_X5_propose
set_option maxRecDepth 20000 in
theorem ggX5_does_X5_vote : GoodIn wsX5_does wsX5_vote := goodIn_r _ [93, 7, 8, 9, 5, 10, 11, 12, 13, 48, 49, 50, 31, 32, 33, 21, 22, 23, 51, 52, 53, 54, 75, 76, 77, 78, 63, 64, 65, 66, 34, 35, 36, 41, 42, 43, 14, 15, 16, 17, 18, 19, 20, 37, 38, 39, 40, 82, 83, 84, 85, 79, 80, 81, 102, 103, 104, 105, 106, 107, 108, 109, 110, 111, 112, 113, 114, 115, 116] (by decide +kernel) (by decide +kernel)
set_option maxRecDepth 20000 in
theorem gX5_does_X5_vote : GoodIn wsX5_does (wsV RX5 138 RX5 yX5_vote wsX5_vote) := goodIn_app (goodIn_of _ (by decide +kernel)) ggX5_does_X5_vote
set_option maxRecDepth 20000 in
theorem ggX5_does_X5_setUp : GoodIn wsX5_does wsX5_setUp := goodIn_r _ [97, 7, 31, 32, 5, 33, 11, 12, 13, 14, 15, 16, 17, 18, 19, 20, 98, 99, 100, 101, 79, 80, 81, 102, 103, 104, 105, 106, 107, 108, 109, 110, 111, 112, 113, 114, 115, 116] (by decide +kernel) (by decide +kernel)
set_option maxRecDepth 20000 in
theorem gX5_does_X5_setUp : GoodIn wsX5_does (wsV RX5 141 RX5 yX5_setUp wsX5_setUp) := goodIn_app (goodIn_of _ (by decide +kernel)) ggX5_does_X5_setUp
theorem dX5_does_0 : decode cX5_does 0 = .ok (.aload_n 0, 1) := by decide +kernel
theorem dX5_does_1 : decode cX5_does 1 = .ok (.getfield 23, 3) := by decide +kernel
theorem dX5_does_4 : decode cX5_does 4 = .ok (.iconst 5, 1) := by decide +kernel
theorem dX5_does_5 : decode cX5_does 5 = .ok (.iload_n 1, 1) := by decide +kernel
theorem dX5_does_6 : decode cX5_does 6 = .ok (.imul, 1) := by decide +kernel
theorem dX5_does_7 : decode cX5_does 7 = .ok (.iconst 1, 1) := by decide +kernel
theorem dX5_does_8 : decode cX5_does 8 = .ok (.iadd, 1) := by decide +kernel
theorem dX5_does_9 : decode cX5_does 9 = .ok (.iaload, 1) := by decide +kernel
theorem dX5_does_10 : decode cX5_does 10 = .ok (.istore_n 2, 1) := by decide +kernel
theorem dX5_does_11 : decode cX5_does 11 = .ok (.aload_n 0, 1) := by decide +kernel
theorem dX5_does_12 : decode cX5_does 12 = .ok (.getfield 23, 3) := by decide +kernel
theorem dX5_does_15 : decode cX5_does 15 = .ok (.iconst 5, 1) := by decide +kernel
theorem dX5_does_16 : decode cX5_does 16 = .ok (.iload_n 1, 1) := by decide +kernel
theorem dX5_does_17 : decode cX5_does 17 = .ok (.imul, 1) := by decide +kernel
theorem dX5_does_18 : decode cX5_does 18 = .ok (.iconst 2, 1) := by decide +kernel
theorem dX5_does_19 : decode cX5_does 19 = .ok (.iadd, 1) := by decide +kernel
theorem dX5_does_20 : decode cX5_does 20 = .ok (.iaload, 1) := by decide +kernel
theorem dX5_does_21 : decode cX5_does 21 = .ok (.istore_n 3, 1) := by decide +kernel
theorem dX5_does_22 : decode cX5_does 22 = .ok (.aload_n 0, 1) := by decide +kernel
theorem dX5_does_23 : decode cX5_does 23 = .ok (.getfield 23, 3) := by decide +kernel
theorem dX5_does_26 : decode cX5_does 26 = .ok (.iconst 5, 1) := by decide +kernel
theorem dX5_does_27 : decode cX5_does 27 = .ok (.iload_n 1, 1) := by decide +kernel
theorem dX5_does_28 : decode cX5_does 28 = .ok (.imul, 1) := by decide +kernel
theorem dX5_does_29 : decode cX5_does 29 = .ok (.iconst 3, 1) := by decide +kernel
theorem dX5_does_30 : decode cX5_does 30 = .ok (.iadd, 1) := by decide +kernel
theorem dX5_does_31 : decode cX5_does 31 = .ok (.iaload, 1) := by decide +kernel
theorem dX5_does_32 : decode cX5_does 32 = .ok (.istore 4, 2) := by decide +kernel
theorem dX5_does_34 : decode cX5_does 34 = .ok (.aload_n 0, 1) := by decide +kernel
theorem dX5_does_35 : decode cX5_does 35 = .ok (.getfield 23, 3) := by decide +kernel
theorem dX5_does_38 : decode cX5_does 38 = .ok (.iconst 5, 1) := by decide +kernel
theorem dX5_does_39 : decode cX5_does 39 = .ok (.iload_n 1, 1) := by decide +kernel
theorem dX5_does_40 : decode cX5_does 40 = .ok (.imul, 1) := by decide +kernel
theorem dX5_does_41 : decode cX5_does 41 = .ok (.iaload, 1) := by decide +kernel
theorem dX5_does_42 : decode cX5_does 42 = .ok (.lookupswitch 73 #[(97, 64), (110, 42), (118, 55), (121, 48)], 42) := by decide +kernel
theorem dX5_does_84 : decode cX5_does 84 = .ok (.aload_n 0, 1) := by decide +kernel
theorem dX5_does_85 : decode cX5_does 85 = .ok (.iload_n 2, 1) := by decide +kernel
theorem dX5_does_86 : decode cX5_does 86 = .ok (.invokevirtual 129, 3) := by decide +kernel
theorem dX5_does_89 : decode cX5_does 89 = .ok (.ireturn, 1) := by decide +kernel
theorem dX5_does_90 : decode cX5_does 90 = .ok (.aload_n 0, 1) := by decide +kernel
theorem dX5_does_91 : decode cX5_does 91 = .ok (.iload_n 2, 1) := by decide +kernel
theorem dX5_does_92 : decode cX5_does 92 = .ok (.iload_n 3, 1) := by decide +kernel
theorem dX5_does_93 : decode cX5_does 93 = .ok (.invokevirtual 132, 3) := by decide +kernel
theorem dX5_does_96 : decode cX5_does 96 = .ok (.ireturn, 1) := by decide +kernel
theorem dX5_does_97 : decode cX5_does 97 = .ok (.aload_n 0, 1) := by decide +kernel
theorem dX5_does_98 : decode cX5_does 98 = .ok (.iload_n 2, 1) := by decide +kernel
theorem dX5_does_99 : decode cX5_does 99 = .ok (.iload_n 3, 1) := by decide +kernel
theorem dX5_does_100 : decode cX5_does 100 = .ok (.iload 4, 2) := by decide +kernel
theorem dX5_does_102 : decode cX5_does 102 = .ok (.invokevirtual 135, 3) := by decide +kernel
theorem dX5_does_105 : decode cX5_does 105 = .ok (.ireturn, 1) := by decide +kernel
theorem dX5_does_106 : decode cX5_does 106 = .ok (.aload_n 0, 1) := by decide +kernel
theorem dX5_does_107 : decode cX5_does 107 = .ok (.iload_n 2, 1) := by decide +kernel
theorem dX5_does_108 : decode cX5_does 108 = .ok (.iload_n 3, 1) := by decide +kernel
theorem dX5_does_109 : decode cX5_does 109 = .ok (.iload 4, 2) := by decide +kernel
theorem dX5_does_111 : decode cX5_does 111 = .ok (.invokevirtual 138, 3) := by decide +kernel
theorem dX5_does_114 : decode cX5_does 114 = .ok (.ireturn, 1) := by decide +kernel
theorem dX5_does_115 : decode cX5_does 115 = .ok (.aload_n 0, 1) := by decide +kernel
theorem dX5_does_116 : decode cX5_does 116 = .ok (.iload_n 2, 1) := by decide +kernel
theorem dX5_does_117 : decode cX5_does 117 = .ok (.aload_n 0, 1) := by decide +kernel
theorem dX5_does_118 : decode cX5_does 118 = .ok (.getfield 23, 3) := by decide +kernel
theorem dX5_does_121 : decode cX5_does 121 = .ok (.iconst 5, 1) := by decide +kernel
theorem dX5_does_122 : decode cX5_does 122 = .ok (.iload_n 1, 1) := by decide +kernel
theorem dX5_does_123 : decode cX5_does 123 = .ok (.imul, 1) := by decide +kernel
theorem dX5_does_124 : decode cX5_does 124 = .ok (.iaload, 1) := by decide +kernel
theorem dX5_does_125 : decode cX5_does 125 = .ok (.bipush 117, 2) := by decide +kernel
theorem dX5_does_127 : decode cX5_does 127 = .ok (.if_icmp .ne 7, 3) := by decide +kernel
theorem dX5_does_130 : decode cX5_does 130 = .ok (.iconst 1, 1) := by decide +kernel
theorem dX5_does_131 : decode cX5_does 131 = .ok (.goto 4, 3) := by decide +kernel
theorem dX5_does_134 : decode cX5_does 134 = .ok (.iconst 0, 1) := by decide +kernel
theorem dX5_does_135 : decode cX5_does 135 = .ok (.invokevirtual 141, 3) := by decide +kernel
theorem dX5_does_138 : decode cX5_does 138 = .ok (.ireturn, 1) := by decide +kernel
theorem dX5_copies_0 : decode cX5_copies 0 = .ok (.iconst 0, 1) := by decide +kernel
theorem dX5_copies_1 : decode cX5_copies 1 = .ok (.istore_n 3, 1) := by decide +kernel
theorem dX5_copies_2 : decode cX5_copies 2 = .ok (.iload_n 3, 1) := by decide +kernel
theorem dX5_copies_3 : decode cX5_copies 3 = .ok (.sipush 873, 3) := by decide +kernel
theorem dX5_copies_6 : decode cX5_copies 6 = .ok (.if_icmp .ge 15, 3) := by decide +kernel
theorem dX5_copies_9 : decode cX5_copies 9 = .ok (.aload_n 2, 1) := by decide +kernel
theorem dX5_copies_10 : decode cX5_copies 10 = .ok (.iload_n 3, 1) := by decide +kernel
theorem dX5_copies_11 : decode cX5_copies 11 = .ok (.aload_n 1, 1) := by decide +kernel
theorem dX5_copies_12 : decode cX5_copies 12 = .ok (.iload_n 3, 1) := by decide +kernel
theorem dX5_copies_13 : decode cX5_copies 13 = .ok (.iaload, 1) := by decide +kernel
theorem dX5_copies_14 : decode cX5_copies 14 = .ok (.iastore, 1) := by decide +kernel
theorem dX5_copies_15 : decode cX5_copies 15 = .ok (.iinc 3 1, 3) := by decide +kernel
theorem dX5_copies_18 : decode cX5_copies 18 = .ok (.goto (-16), 3) := by decide +kernel
theorem dX5_copies_21 : decode cX5_copies 21 = .ok (.return_, 1) := by decide +kernel
set_option maxRecDepth 20000 in
theorem ggX5_perform_X5_isRead : GoodIn wsX5_perform wsX5_isRead := goodIn_r _ [14, 1, 5, 15, 16, 17, 18, 19, 13, 20, 8, 21, 22, 23, 24, 25, 26, 27, 28, 29, 30, 31, 134, 135, 136, 137, 138, 139, 140, 141, 142, 143, 144, 145, 146, 147, 148] (by decide +kernel) (by decide +kernel)
set_option maxRecDepth 20000 in
theorem gX5_perform_X5_isRead : GoodIn wsX5_perform (wsV RX5 145 RX5 yX5_isRead wsX5_isRead) := goodIn_app (goodIn_of _ (by decide +kernel)) ggX5_perform_X5_isRead
set_option maxRecDepth 20000 in
theorem ggX5_perform_X5_copies : GoodIn wsX5_perform wsX5_copies := goodIn_r _ [35] (by decide +kernel) (by decide +kernel)
set_option maxRecDepth 20000 in
theorem gX5_perform_X5_copies : GoodIn wsX5_perform (wsV RX5 148 RX5 yX5_copies wsX5_copies) := goodIn_app (goodIn_of _ (by decide +kernel)) ggX5_perform_X5_copies
set_option maxRecDepth 20000 in
theorem ggX5_perform_X5_does : GoodIn wsX5_perform wsX5_does := goodIn_r _ [39, 8, 40, 41, 42, 13, 43, 2, 44, 45, 46, 29, 30, 31, 47, 48, 49, 50, 4, 51, 52, 53, 54, 55, 56, 57, 58, 59, 60, 61, 62, 63, 64, 65, 66, 67, 68, 69, 70, 71, 72, 73, 74, 75, 76, 77, 78, 79, 80, 81, 82, 83, 84, 85, 86, 87, 88, 89, 90, 91, 92, 93, 94, 95, 96, 97, 98, 99, 100, 101, 102, 103, 104, 105, 106, 107, 108, 109, 110, 111, 112, 113, 114, 115, 116, 117, 118, 119, 120, 121, 122, 123, 124, 125, 126, 127, 128, 129, 130, 131, 132, 133, 134, 135, 136, 137, 138, 139, 140, 141, 142, 143, 144, 145, 146, 147, 148] (by decide +kernel) (by decide +kernel)
set_option maxRecDepth 20000 in
theorem gX5_perform_X5_does : GoodIn wsX5_perform (wsV RX5 152 RX5 yX5_does wsX5_does) := goodIn_app (goodIn_of _ (by decide +kernel)) ggX5_perform_X5_does
set_option maxRecDepth 20000 in
theorem ggX5_perform_X5_record : GoodIn wsX5_perform wsX5_record := goodIn_r _ [50, 4, 51, 52, 2, 134, 135, 136, 137, 138, 139, 140, 141, 142, 143, 144, 145, 146, 147, 148] (by decide +kernel) (by decide +kernel)
set_option maxRecDepth 20000 in
theorem gX5_perform_X5_record : GoodIn wsX5_perform (wsV RX5 65 RX5 yX5_record wsX5_record) := goodIn_app (goodIn_of _ (by decide +kernel)) ggX5_perform_X5_record
theorem dX5_perform_0 : decode cX5_perform 0 = .ok (.aload_n 0, 1) := by decide +kernel
theorem dX5_perform_1 : decode cX5_perform 1 = .ok (.invokevirtual 145, 3) := by decide +kernel
theorem dX5_perform_4 : decode cX5_perform 4 = .ok (.ifCond .ne 11, 3) := by decide +kernel
theorem dX5_perform_7 : decode cX5_perform 7 = .ok (.bipush (-100), 2) := by decide +kernel
theorem dX5_perform_9 : decode cX5_perform 9 = .ok (.aload_n 0, 1) := by decide +kernel
theorem dX5_perform_10 : decode cX5_perform 10 = .ok (.getfield 113, 3) := by decide +kernel
theorem dX5_perform_13 : decode cX5_perform 13 = .ok (.isub, 1) := by decide +kernel
theorem dX5_perform_14 : decode cX5_perform 14 = .ok (.ireturn, 1) := by decide +kernel
theorem dX5_perform_15 : decode cX5_perform 15 = .ok (.aload_n 0, 1) := by decide +kernel
theorem dX5_perform_16 : decode cX5_perform 16 = .ok (.aload_n 0, 1) := by decide +kernel
theorem dX5_perform_17 : decode cX5_perform 17 = .ok (.getfield 7, 3) := by decide +kernel
theorem dX5_perform_20 : decode cX5_perform 20 = .ok (.aload_n 0, 1) := by decide +kernel
theorem dX5_perform_21 : decode cX5_perform 21 = .ok (.getfield 30, 3) := by decide +kernel
theorem dX5_perform_24 : decode cX5_perform 24 = .ok (.invokevirtual 148, 3) := by decide +kernel
theorem dX5_perform_27 : decode cX5_perform 27 = .ok (.aload_n 0, 1) := by decide +kernel
theorem dX5_perform_28 : decode cX5_perform 28 = .ok (.iconst 1, 1) := by decide +kernel
theorem dX5_perform_29 : decode cX5_perform 29 = .ok (.putfield 37, 3) := by decide +kernel
theorem dX5_perform_32 : decode cX5_perform 32 = .ok (.iconst 0, 1) := by decide +kernel
theorem dX5_perform_33 : decode cX5_perform 33 = .ok (.istore_n 1, 1) := by decide +kernel
theorem dX5_perform_34 : decode cX5_perform 34 = .ok (.iconst 0, 1) := by decide +kernel
theorem dX5_perform_35 : decode cX5_perform 35 = .ok (.istore_n 2, 1) := by decide +kernel
theorem dX5_perform_36 : decode cX5_perform 36 = .ok (.iload_n 2, 1) := by decide +kernel
theorem dX5_perform_37 : decode cX5_perform 37 = .ok (.aload_n 0, 1) := by decide +kernel
theorem dX5_perform_38 : decode cX5_perform 38 = .ok (.getfield 119, 3) := by decide +kernel
theorem dX5_perform_41 : decode cX5_perform 41 = .ok (.if_icmp .ge 25, 3) := by decide +kernel
theorem dX5_perform_44 : decode cX5_perform 44 = .ok (.iload_n 1, 1) := by decide +kernel
theorem dX5_perform_45 : decode cX5_perform 45 = .ok (.ifCond .ge 9, 3) := by decide +kernel
theorem dX5_perform_48 : decode cX5_perform 48 = .ok (.iload_n 1, 1) := by decide +kernel
theorem dX5_perform_49 : decode cX5_perform 49 = .ok (.bipush (-5), 2) := by decide +kernel
theorem dX5_perform_51 : decode cX5_perform 51 = .ok (.if_icmp .ne 15, 3) := by decide +kernel
theorem dX5_perform_54 : decode cX5_perform 54 = .ok (.aload_n 0, 1) := by decide +kernel
theorem dX5_perform_55 : decode cX5_perform 55 = .ok (.iload_n 2, 1) := by decide +kernel
theorem dX5_perform_56 : decode cX5_perform 56 = .ok (.invokevirtual 152, 3) := by decide +kernel
theorem dX5_perform_59 : decode cX5_perform 59 = .ok (.istore_n 1, 1) := by decide +kernel
theorem dX5_perform_60 : decode cX5_perform 60 = .ok (.iinc 2 1, 3) := by decide +kernel
theorem dX5_perform_63 : decode cX5_perform 63 = .ok (.goto (-27), 3) := by decide +kernel
theorem dX5_perform_66 : decode cX5_perform 66 = .ok (.aload_n 0, 1) := by decide +kernel
theorem dX5_perform_67 : decode cX5_perform 67 = .ok (.iconst 0, 1) := by decide +kernel
theorem dX5_perform_68 : decode cX5_perform 68 = .ok (.putfield 37, 3) := by decide +kernel
theorem dX5_perform_71 : decode cX5_perform 71 = .ok (.iload_n 1, 1) := by decide +kernel
theorem dX5_perform_72 : decode cX5_perform 72 = .ok (.ifCond .ge 53, 3) := by decide +kernel
theorem dX5_perform_75 : decode cX5_perform 75 = .ok (.iload_n 1, 1) := by decide +kernel
theorem dX5_perform_76 : decode cX5_perform 76 = .ok (.bipush (-5), 2) := by decide +kernel
theorem dX5_perform_78 : decode cX5_perform 78 = .ok (.if_icmp .eq 47, 3) := by decide +kernel
theorem dX5_perform_81 : decode cX5_perform 81 = .ok (.aload_n 0, 1) := by decide +kernel
theorem dX5_perform_82 : decode cX5_perform 82 = .ok (.aload_n 0, 1) := by decide +kernel
theorem dX5_perform_83 : decode cX5_perform 83 = .ok (.getfield 30, 3) := by decide +kernel
theorem dX5_perform_86 : decode cX5_perform 86 = .ok (.aload_n 0, 1) := by decide +kernel
theorem dX5_perform_87 : decode cX5_perform 87 = .ok (.getfield 7, 3) := by decide +kernel
theorem dX5_perform_90 : decode cX5_perform 90 = .ok (.invokevirtual 148, 3) := by decide +kernel
theorem dX5_perform_93 : decode cX5_perform 93 = .ok (.aload_n 0, 1) := by decide +kernel
theorem dX5_perform_94 : decode cX5_perform 94 = .ok (.iload_n 2, 1) := by decide +kernel
theorem dX5_perform_95 : decode cX5_perform 95 = .ok (.iconst 1, 1) := by decide +kernel
theorem dX5_perform_96 : decode cX5_perform 96 = .ok (.isub, 1) := by decide +kernel
theorem dX5_perform_97 : decode cX5_perform 97 = .ok (.putfield 26, 3) := by decide +kernel
theorem dX5_perform_100 : decode cX5_perform 100 = .ok (.aload_n 0, 1) := by decide +kernel
theorem dX5_perform_101 : decode cX5_perform 101 = .ok (.iload_n 1, 1) := by decide +kernel
theorem dX5_perform_102 : decode cX5_perform 102 = .ok (.putfield 155, 3) := by decide +kernel
theorem dX5_perform_105 : decode cX5_perform 105 = .ok (.aload_n 0, 1) := by decide +kernel
theorem dX5_perform_106 : decode cX5_perform 106 = .ok (.aload_n 0, 1) := by decide +kernel
theorem dX5_perform_107 : decode cX5_perform 107 = .ok (.getfield 23, 3) := by decide +kernel
theorem dX5_perform_110 : decode cX5_perform 110 = .ok (.iconst 5, 1) := by decide +kernel
theorem dX5_perform_111 : decode cX5_perform 111 = .ok (.aload_n 0, 1) := by decide +kernel
theorem dX5_perform_112 : decode cX5_perform 112 = .ok (.getfield 26, 3) := by decide +kernel
theorem dX5_perform_115 : decode cX5_perform 115 = .ok (.imul, 1) := by decide +kernel
theorem dX5_perform_116 : decode cX5_perform 116 = .ok (.iconst 4, 1) := by decide +kernel
theorem dX5_perform_117 : decode cX5_perform 117 = .ok (.iadd, 1) := by decide +kernel
theorem dX5_perform_118 : decode cX5_perform 118 = .ok (.iaload, 1) := by decide +kernel
theorem dX5_perform_119 : decode cX5_perform 119 = .ok (.putfield 158, 3) := by decide +kernel
theorem dX5_perform_122 : decode cX5_perform 122 = .ok (.bipush (-4), 2) := by decide +kernel
theorem dX5_perform_124 : decode cX5_perform 124 = .ok (.ireturn, 1) := by decide +kernel
theorem dX5_perform_125 : decode cX5_perform 125 = .ok (.iconst 0, 1) := by decide +kernel
theorem dX5_perform_126 : decode cX5_perform 126 = .ok (.istore_n 3, 1) := by decide +kernel
theorem dX5_perform_127 : decode cX5_perform 127 = .ok (.iload_n 3, 1) := by decide +kernel
theorem dX5_perform_128 : decode cX5_perform 128 = .ok (.sipush 873, 3) := by decide +kernel
theorem dX5_perform_131 : decode cX5_perform 131 = .ok (.if_icmp .ge 37, 3) := by decide +kernel
theorem dX5_perform_134 : decode cX5_perform 134 = .ok (.aload_n 0, 1) := by decide +kernel
theorem dX5_perform_135 : decode cX5_perform 135 = .ok (.getfield 7, 3) := by decide +kernel
theorem dX5_perform_138 : decode cX5_perform 138 = .ok (.iload_n 3, 1) := by decide +kernel
theorem dX5_perform_139 : decode cX5_perform 139 = .ok (.iaload, 1) := by decide +kernel
theorem dX5_perform_140 : decode cX5_perform 140 = .ok (.istore 4, 2) := by decide +kernel
theorem dX5_perform_142 : decode cX5_perform 142 = .ok (.aload_n 0, 1) := by decide +kernel
theorem dX5_perform_143 : decode cX5_perform 143 = .ok (.getfield 7, 3) := by decide +kernel
theorem dX5_perform_146 : decode cX5_perform 146 = .ok (.iload_n 3, 1) := by decide +kernel
theorem dX5_perform_147 : decode cX5_perform 147 = .ok (.aload_n 0, 1) := by decide +kernel
theorem dX5_perform_148 : decode cX5_perform 148 = .ok (.getfield 30, 3) := by decide +kernel
theorem dX5_perform_151 : decode cX5_perform 151 = .ok (.iload_n 3, 1) := by decide +kernel
theorem dX5_perform_152 : decode cX5_perform 152 = .ok (.iaload, 1) := by decide +kernel
theorem dX5_perform_153 : decode cX5_perform 153 = .ok (.iastore, 1) := by decide +kernel
theorem dX5_perform_154 : decode cX5_perform 154 = .ok (.aload_n 0, 1) := by decide +kernel
theorem dX5_perform_155 : decode cX5_perform 155 = .ok (.getfield 30, 3) := by decide +kernel
theorem dX5_perform_158 : decode cX5_perform 158 = .ok (.iload_n 3, 1) := by decide +kernel
theorem dX5_perform_159 : decode cX5_perform 159 = .ok (.iload 4, 2) := by decide +kernel
theorem dX5_perform_161 : decode cX5_perform 161 = .ok (.iastore, 1) := by decide +kernel
theorem dX5_perform_162 : decode cX5_perform 162 = .ok (.iinc 3 1, 3) := by decide +kernel
theorem dX5_perform_165 : decode cX5_perform 165 = .ok (.goto (-38), 3) := by decide +kernel
theorem dX5_perform_168 : decode cX5_perform 168 = .ok (.aload_n 0, 1) := by decide +kernel
theorem dX5_perform_169 : decode cX5_perform 169 = .ok (.invokevirtual 65, 3) := by decide +kernel
theorem dX5_perform_172 : decode cX5_perform 172 = .ok (.aload_n 0, 1) := by decide +kernel
theorem dX5_perform_173 : decode cX5_perform 173 = .ok (.aload_n 0, 1) := by decide +kernel
theorem dX5_perform_174 : decode cX5_perform 174 = .ok (.getfield 30, 3) := by decide +kernel
theorem dX5_perform_177 : decode cX5_perform 177 = .ok (.aload_n 0, 1) := by decide +kernel
theorem dX5_perform_178 : decode cX5_perform 178 = .ok (.getfield 7, 3) := by decide +kernel
theorem dX5_perform_181 : decode cX5_perform 181 = .ok (.invokevirtual 148, 3) := by decide +kernel
theorem dX5_perform_184 : decode cX5_perform 184 = .ok (.aload_n 0, 1) := by decide +kernel
theorem dX5_perform_185 : decode cX5_perform 185 = .ok (.getfield 119, 3) := by decide +kernel
theorem dX5_perform_188 : decode cX5_perform 188 = .ok (.ireturn, 1) := by decide +kernel
set_option maxRecDepth 20000 in
theorem ggX5_refusal_X5_in : GoodIn wsX5_refusal wsX5_in := goodIn_r _ [7] (by decide +kernel) (by decide +kernel)
set_option maxRecDepth 20000 in
theorem gX5_refusal_X5_in : GoodIn wsX5_refusal (va_wsS RX5 33 yX5_in wsX5_in) := goodIn_app (goodIn_of _ (by decide +kernel)) ggX5_refusal_X5_in
theorem dX5_refusal_0 : decode cX5_refusal 0 = .ok (.iload_n 1, 1) := by decide +kernel
theorem dX5_refusal_1 : decode cX5_refusal 1 = .ok (.iconst 0, 1) := by decide +kernel
theorem dX5_refusal_2 : decode cX5_refusal 2 = .ok (.iconst 2, 1) := by decide +kernel
theorem dX5_refusal_3 : decode cX5_refusal 3 = .ok (.invokestatic 33, 3) := by decide +kernel
theorem dX5_refusal_6 : decode cX5_refusal 6 = .ok (.ifCond .ne 6, 3) := by decide +kernel
theorem dX5_refusal_9 : decode cX5_refusal 9 = .ok (.bipush (-2), 2) := by decide +kernel
theorem dX5_refusal_11 : decode cX5_refusal 11 = .ok (.ireturn, 1) := by decide +kernel
theorem dX5_refusal_12 : decode cX5_refusal 12 = .ok (.aload_n 0, 1) := by decide +kernel
theorem dX5_refusal_13 : decode cX5_refusal 13 = .ok (.getfield 26, 3) := by decide +kernel
theorem dX5_refusal_16 : decode cX5_refusal 16 = .ok (.ifCond .ge 8, 3) := by decide +kernel
theorem dX5_refusal_19 : decode cX5_refusal 19 = .ok (.bipush (-5), 2) := by decide +kernel
theorem dX5_refusal_21 : decode cX5_refusal 21 = .ok (.goto 30, 3) := by decide +kernel
theorem dX5_refusal_24 : decode cX5_refusal 24 = .ok (.iload_n 1, 1) := by decide +kernel
theorem dX5_refusal_25 : decode cX5_refusal 25 = .ok (.ifCond .ne 10, 3) := by decide +kernel
theorem dX5_refusal_28 : decode cX5_refusal 28 = .ok (.aload_n 0, 1) := by decide +kernel
theorem dX5_refusal_29 : decode cX5_refusal 29 = .ok (.getfield 26, 3) := by decide +kernel
theorem dX5_refusal_32 : decode cX5_refusal 32 = .ok (.goto 19, 3) := by decide +kernel
theorem dX5_refusal_35 : decode cX5_refusal 35 = .ok (.iload_n 1, 1) := by decide +kernel
theorem dX5_refusal_36 : decode cX5_refusal 36 = .ok (.iconst 1, 1) := by decide +kernel
theorem dX5_refusal_37 : decode cX5_refusal 37 = .ok (.if_icmp .ne 10, 3) := by decide +kernel
theorem dX5_refusal_40 : decode cX5_refusal 40 = .ok (.aload_n 0, 1) := by decide +kernel
theorem dX5_refusal_41 : decode cX5_refusal 41 = .ok (.getfield 155, 3) := by decide +kernel
theorem dX5_refusal_44 : decode cX5_refusal 44 = .ok (.goto 7, 3) := by decide +kernel
theorem dX5_refusal_47 : decode cX5_refusal 47 = .ok (.aload_n 0, 1) := by decide +kernel
theorem dX5_refusal_48 : decode cX5_refusal 48 = .ok (.getfield 158, 3) := by decide +kernel
theorem dX5_refusal_51 : decode cX5_refusal 51 = .ok (.ireturn, 1) := by decide +kernel
theorem dX5_undo_0 : decode cX5_undo 0 = .ok (.aload_n 0, 1) := by decide +kernel
theorem dX5_undo_1 : decode cX5_undo 1 = .ok (.getfield 41, 3) := by decide +kernel
theorem dX5_undo_4 : decode cX5_undo 4 = .ok (.ifCond .ne 6, 3) := by decide +kernel
theorem dX5_undo_7 : decode cX5_undo 7 = .ok (.bipush (-5), 2) := by decide +kernel
theorem dX5_undo_9 : decode cX5_undo 9 = .ok (.ireturn, 1) := by decide +kernel
theorem dX5_undo_10 : decode cX5_undo 10 = .ok (.aload_n 0, 1) := by decide +kernel
theorem dX5_undo_11 : decode cX5_undo 11 = .ok (.dup, 1) := by decide +kernel
theorem dX5_undo_12 : decode cX5_undo 12 = .ok (.getfield 41, 3) := by decide +kernel
theorem dX5_undo_15 : decode cX5_undo 15 = .ok (.iconst 1, 1) := by decide +kernel
theorem dX5_undo_16 : decode cX5_undo 16 = .ok (.isub, 1) := by decide +kernel
theorem dX5_undo_17 : decode cX5_undo 17 = .ok (.putfield 41, 3) := by decide +kernel
theorem dX5_undo_20 : decode cX5_undo 20 = .ok (.iconst 0, 1) := by decide +kernel
theorem dX5_undo_21 : decode cX5_undo 21 = .ok (.istore_n 1, 1) := by decide +kernel
theorem dX5_undo_22 : decode cX5_undo 22 = .ok (.iload_n 1, 1) := by decide +kernel
theorem dX5_undo_23 : decode cX5_undo 23 = .ok (.sipush 873, 3) := by decide +kernel
theorem dX5_undo_26 : decode cX5_undo 26 = .ok (.if_icmp .ge 30, 3) := by decide +kernel
theorem dX5_undo_29 : decode cX5_undo 29 = .ok (.aload_n 0, 1) := by decide +kernel
theorem dX5_undo_30 : decode cX5_undo 30 = .ok (.getfield 7, 3) := by decide +kernel
theorem dX5_undo_33 : decode cX5_undo 33 = .ok (.iload_n 1, 1) := by decide +kernel
theorem dX5_undo_34 : decode cX5_undo 34 = .ok (.aload_n 0, 1) := by decide +kernel
theorem dX5_undo_35 : decode cX5_undo 35 = .ok (.getfield 13, 3) := by decide +kernel
theorem dX5_undo_38 : decode cX5_undo 38 = .ok (.sipush 873, 3) := by decide +kernel
theorem dX5_undo_41 : decode cX5_undo 41 = .ok (.aload_n 0, 1) := by decide +kernel
theorem dX5_undo_42 : decode cX5_undo 42 = .ok (.getfield 41, 3) := by decide +kernel
theorem dX5_undo_45 : decode cX5_undo 45 = .ok (.imul, 1) := by decide +kernel
theorem dX5_undo_46 : decode cX5_undo 46 = .ok (.iload_n 1, 1) := by decide +kernel
theorem dX5_undo_47 : decode cX5_undo 47 = .ok (.iadd, 1) := by decide +kernel
theorem dX5_undo_48 : decode cX5_undo 48 = .ok (.iaload, 1) := by decide +kernel
theorem dX5_undo_49 : decode cX5_undo 49 = .ok (.iastore, 1) := by decide +kernel
theorem dX5_undo_50 : decode cX5_undo 50 = .ok (.iinc 1 1, 3) := by decide +kernel
theorem dX5_undo_53 : decode cX5_undo 53 = .ok (.goto (-31), 3) := by decide +kernel
theorem dX5_undo_56 : decode cX5_undo 56 = .ok (.aload_n 0, 1) := by decide +kernel
theorem dX5_undo_57 : decode cX5_undo 57 = .ok (.getfield 41, 3) := by decide +kernel
theorem dX5_undo_60 : decode cX5_undo 60 = .ok (.ireturn, 1) := by decide +kernel
set_option maxRecDepth 20000 in
theorem ggX5_keep_X5_copies : GoodIn wsX5_keep wsX5_copies := goodIn_r _ [8] (by decide +kernel) (by decide +kernel)
set_option maxRecDepth 20000 in
theorem gX5_keep_X5_copies : GoodIn wsX5_keep (wsV RX5 148 RX5 yX5_copies wsX5_copies) := goodIn_app (goodIn_of _ (by decide +kernel)) ggX5_keep_X5_copies
set_option maxRecDepth 20000 in
theorem ggX5_keep_X5_prefix : GoodIn wsX5_keep wsX5_prefix := goodIn_r _ [12, 13, 14, 15, 7, 16, 1, 17, 18, 19, 20, 21, 22, 23, 24, 25, 26, 27, 28, 29, 30, 31] (by decide +kernel) (by decide +kernel)
set_option maxRecDepth 20000 in
theorem gX5_keep_X5_prefix : GoodIn wsX5_keep (wsV RX5 48 RX5 yX5_prefix wsX5_prefix) := goodIn_app (goodIn_of _ (by decide +kernel)) ggX5_keep_X5_prefix
theorem dX5_keep_0 : decode cX5_keep 0 = .ok (.aload_n 0, 1) := by decide +kernel
theorem dX5_keep_1 : decode cX5_keep 1 = .ok (.aload_n 0, 1) := by decide +kernel
theorem dX5_keep_2 : decode cX5_keep 2 = .ok (.getfield 7, 3) := by decide +kernel
theorem dX5_keep_5 : decode cX5_keep 5 = .ok (.aload_n 0, 1) := by decide +kernel
theorem dX5_keep_6 : decode cX5_keep 6 = .ok (.getfield 16, 3) := by decide +kernel
theorem dX5_keep_9 : decode cX5_keep 9 = .ok (.invokevirtual 148, 3) := by decide +kernel
theorem dX5_keep_12 : decode cX5_keep 12 = .ok (.aload_n 0, 1) := by decide +kernel
theorem dX5_keep_13 : decode cX5_keep 13 = .ok (.iconst 1, 1) := by decide +kernel
theorem dX5_keep_14 : decode cX5_keep 14 = .ok (.putfield 161, 3) := by decide +kernel
theorem dX5_keep_17 : decode cX5_keep 17 = .ok (.aload_n 0, 1) := by decide +kernel
theorem dX5_keep_18 : decode cX5_keep 18 = .ok (.invokevirtual 48, 3) := by decide +kernel
theorem dX5_keep_21 : decode cX5_keep 21 = .ok (.ireturn, 1) := by decide +kernel
set_option maxRecDepth 20000 in
theorem ggX5_restore_X5_record : GoodIn wsX5_restore wsX5_record := goodIn_r _ [8, 9, 10, 11, 3, 24, 25, 26, 27, 28, 29, 30, 31, 32, 33, 34, 35, 36, 37, 38] (by decide +kernel) (by decide +kernel)
set_option maxRecDepth 20000 in
theorem gX5_restore_X5_record : GoodIn wsX5_restore (wsV RX5 65 RX5 yX5_record wsX5_record) := goodIn_app (goodIn_of _ (by decide +kernel)) ggX5_restore_X5_record
set_option maxRecDepth 20000 in
theorem ggX5_restore_X5_copies : GoodIn wsX5_restore wsX5_copies := goodIn_r _ [15] (by decide +kernel) (by decide +kernel)
set_option maxRecDepth 20000 in
theorem gX5_restore_X5_copies : GoodIn wsX5_restore (wsV RX5 148 RX5 yX5_copies wsX5_copies) := goodIn_app (goodIn_of _ (by decide +kernel)) ggX5_restore_X5_copies
set_option maxRecDepth 20000 in
theorem ggX5_restore_X5_prefix : GoodIn wsX5_restore wsX5_prefix := goodIn_r _ [19, 20, 21, 22, 7, 23, 3, 24, 25, 26, 27, 28, 29, 30, 31, 32, 33, 34, 35, 36, 37, 38] (by decide +kernel) (by decide +kernel)
set_option maxRecDepth 20000 in
theorem gX5_restore_X5_prefix : GoodIn wsX5_restore (wsV RX5 48 RX5 yX5_prefix wsX5_prefix) := goodIn_app (goodIn_of _ (by decide +kernel)) ggX5_restore_X5_prefix
theorem dX5_restore_0 : decode cX5_restore 0 = .ok (.aload_n 0, 1) := by decide +kernel
theorem dX5_restore_1 : decode cX5_restore 1 = .ok (.getfield 161, 3) := by decide +kernel
theorem dX5_restore_4 : decode cX5_restore 4 = .ok (.ifCond .ne 6, 3) := by decide +kernel
theorem dX5_restore_7 : decode cX5_restore 7 = .ok (.bipush (-5), 2) := by decide +kernel
theorem dX5_restore_9 : decode cX5_restore 9 = .ok (.ireturn, 1) := by decide +kernel
theorem dX5_restore_10 : decode cX5_restore 10 = .ok (.aload_n 0, 1) := by decide +kernel
theorem dX5_restore_11 : decode cX5_restore 11 = .ok (.invokevirtual 65, 3) := by decide +kernel
theorem dX5_restore_14 : decode cX5_restore 14 = .ok (.aload_n 0, 1) := by decide +kernel
theorem dX5_restore_15 : decode cX5_restore 15 = .ok (.aload_n 0, 1) := by decide +kernel
theorem dX5_restore_16 : decode cX5_restore 16 = .ok (.getfield 16, 3) := by decide +kernel
theorem dX5_restore_19 : decode cX5_restore 19 = .ok (.aload_n 0, 1) := by decide +kernel
theorem dX5_restore_20 : decode cX5_restore 20 = .ok (.getfield 7, 3) := by decide +kernel
theorem dX5_restore_23 : decode cX5_restore 23 = .ok (.invokevirtual 148, 3) := by decide +kernel
theorem dX5_restore_26 : decode cX5_restore 26 = .ok (.aload_n 0, 1) := by decide +kernel
theorem dX5_restore_27 : decode cX5_restore 27 = .ok (.invokevirtual 48, 3) := by decide +kernel
theorem dX5_restore_30 : decode cX5_restore 30 = .ok (.ireturn, 1) := by decide +kernel
set_option maxRecDepth 20000 in
theorem ggX5_votes_X5_voteAt : GoodIn wsX5_votes wsX5_voteAt := goodIn_r _ [5] (by decide +kernel) (by decide +kernel)
set_option maxRecDepth 20000 in
theorem gX5_votes_X5_voteAt : GoodIn wsX5_votes (va_wsS RX5 89 yX5_voteAt wsX5_voteAt) := goodIn_app (goodIn_of _ (by decide +kernel)) ggX5_votes_X5_voteAt
theorem dX5_votes_0 : decode cX5_votes 0 = .ok (.iconst 0, 1) := by decide +kernel
theorem dX5_votes_1 : decode cX5_votes 1 = .ok (.istore_n 2, 1) := by decide +kernel
theorem dX5_votes_2 : decode cX5_votes 2 = .ok (.iconst 1, 1) := by decide +kernel
theorem dX5_votes_3 : decode cX5_votes 3 = .ok (.istore_n 3, 1) := by decide +kernel
theorem dX5_votes_4 : decode cX5_votes 4 = .ok (.iload_n 3, 1) := by decide +kernel
theorem dX5_votes_5 : decode cX5_votes 5 = .ok (.bipush 16, 2) := by decide +kernel
theorem dX5_votes_7 : decode cX5_votes 7 = .ok (.if_icmp .gt 30, 3) := by decide +kernel
theorem dX5_votes_10 : decode cX5_votes 10 = .ok (.iload_n 2, 1) := by decide +kernel
theorem dX5_votes_11 : decode cX5_votes 11 = .ok (.aload_n 0, 1) := by decide +kernel
theorem dX5_votes_12 : decode cX5_votes 12 = .ok (.getfield 7, 3) := by decide +kernel
theorem dX5_votes_15 : decode cX5_votes 15 = .ok (.iload_n 1, 1) := by decide +kernel
theorem dX5_votes_16 : decode cX5_votes 16 = .ok (.iload_n 3, 1) := by decide +kernel
theorem dX5_votes_17 : decode cX5_votes 17 = .ok (.invokestatic 89, 3) := by decide +kernel
theorem dX5_votes_20 : decode cX5_votes 20 = .ok (.iaload, 1) := by decide +kernel
theorem dX5_votes_21 : decode cX5_votes 21 = .ok (.ifCond .le 7, 3) := by decide +kernel
theorem dX5_votes_24 : decode cX5_votes 24 = .ok (.iconst 1, 1) := by decide +kernel
theorem dX5_votes_25 : decode cX5_votes 25 = .ok (.goto 4, 3) := by decide +kernel
theorem dX5_votes_28 : decode cX5_votes 28 = .ok (.iconst 0, 1) := by decide +kernel
theorem dX5_votes_29 : decode cX5_votes 29 = .ok (.iadd, 1) := by decide +kernel
theorem dX5_votes_30 : decode cX5_votes 30 = .ok (.istore_n 2, 1) := by decide +kernel
theorem dX5_votes_31 : decode cX5_votes 31 = .ok (.iinc 3 1, 3) := by decide +kernel
theorem dX5_votes_34 : decode cX5_votes 34 = .ok (.goto (-30), 3) := by decide +kernel
theorem dX5_votes_37 : decode cX5_votes 37 = .ok (.iload_n 2, 1) := by decide +kernel
theorem dX5_votes_38 : decode cX5_votes 38 = .ok (.ireturn, 1) := by decide +kernel
set_option maxRecDepth 20000 in
theorem ggX5_acceptor_X5_noAcceptor : GoodIn wsX5_acceptor wsX5_noAcceptor := goodIn_r _ [5, 6, 7, 4, 8] (by decide +kernel) (by decide +kernel)
set_option maxRecDepth 20000 in
theorem gX5_acceptor_X5_noAcceptor : GoodIn wsX5_acceptor (va_wsS RX5 61 yX5_noAcceptor wsX5_noAcceptor) := goodIn_app (goodIn_of _ (by decide +kernel)) ggX5_acceptor_X5_noAcceptor
set_option maxRecDepth 20000 in
theorem ggX5_acceptor_X5_votes : GoodIn wsX5_acceptor wsX5_votes := goodIn_r _ [12, 1, 13, 14, 4, 15, 16, 17, 18, 19, 20, 21, 22, 23, 24, 25, 26, 27, 28, 29, 30] (by decide +kernel) (by decide +kernel)
set_option maxRecDepth 20000 in
theorem gX5_acceptor_X5_votes : GoodIn wsX5_acceptor (wsV RX5 164 RX5 yX5_votes wsX5_votes) := goodIn_app (goodIn_of _ (by decide +kernel)) ggX5_acceptor_X5_votes
theorem dX5_acceptor_0 : decode cX5_acceptor 0 = .ok (.iload_n 1, 1) := by decide +kernel
theorem dX5_acceptor_1 : decode cX5_acceptor 1 = .ok (.invokestatic 61, 3) := by decide +kernel
theorem dX5_acceptor_4 : decode cX5_acceptor 4 = .ok (.ifCond .eq 5, 3) := by decide +kernel
theorem dX5_acceptor_7 : decode cX5_acceptor 7 = .ok (.iconst (-1), 1) := by decide +kernel
theorem dX5_acceptor_8 : decode cX5_acceptor 8 = .ok (.ireturn, 1) := by decide +kernel
theorem dX5_acceptor_9 : decode cX5_acceptor 9 = .ok (.iload_n 2, 1) := by decide +kernel
theorem dX5_acceptor_10 : decode cX5_acceptor 10 = .ok (.tableswitch 51 0 2 #[26, 35, 45], 26) := by decide +kernel
theorem dX5_acceptor_36 : decode cX5_acceptor 36 = .ok (.aload_n 0, 1) := by decide +kernel
theorem dX5_acceptor_37 : decode cX5_acceptor 37 = .ok (.getfield 7, 3) := by decide +kernel
theorem dX5_acceptor_40 : decode cX5_acceptor 40 = .ok (.iconst 0, 1) := by decide +kernel
theorem dX5_acceptor_41 : decode cX5_acceptor 41 = .ok (.iload_n 1, 1) := by decide +kernel
theorem dX5_acceptor_42 : decode cX5_acceptor 42 = .ok (.iadd, 1) := by decide +kernel
theorem dX5_acceptor_43 : decode cX5_acceptor 43 = .ok (.iaload, 1) := by decide +kernel
theorem dX5_acceptor_44 : decode cX5_acceptor 44 = .ok (.ireturn, 1) := by decide +kernel
theorem dX5_acceptor_45 : decode cX5_acceptor 45 = .ok (.aload_n 0, 1) := by decide +kernel
theorem dX5_acceptor_46 : decode cX5_acceptor 46 = .ok (.getfield 7, 3) := by decide +kernel
theorem dX5_acceptor_49 : decode cX5_acceptor 49 = .ok (.bipush 6, 2) := by decide +kernel
theorem dX5_acceptor_51 : decode cX5_acceptor 51 = .ok (.iload_n 1, 1) := by decide +kernel
theorem dX5_acceptor_52 : decode cX5_acceptor 52 = .ok (.iadd, 1) := by decide +kernel
theorem dX5_acceptor_53 : decode cX5_acceptor 53 = .ok (.iaload, 1) := by decide +kernel
theorem dX5_acceptor_54 : decode cX5_acceptor 54 = .ok (.ireturn, 1) := by decide +kernel
theorem dX5_acceptor_55 : decode cX5_acceptor 55 = .ok (.aload_n 0, 1) := by decide +kernel
theorem dX5_acceptor_56 : decode cX5_acceptor 56 = .ok (.iload_n 1, 1) := by decide +kernel
theorem dX5_acceptor_57 : decode cX5_acceptor 57 = .ok (.invokevirtual 164, 3) := by decide +kernel
theorem dX5_acceptor_60 : decode cX5_acceptor 60 = .ok (.ireturn, 1) := by decide +kernel
theorem dX5_acceptor_61 : decode cX5_acceptor 61 = .ok (.bipush (-2), 2) := by decide +kernel
theorem dX5_acceptor_63 : decode cX5_acceptor 63 = .ok (.ireturn, 1) := by decide +kernel
set_option maxRecDepth 20000 in
theorem ggX5_voted_X5_noAcceptor : GoodIn wsX5_voted wsX5_noAcceptor := goodIn_r _ [5, 6, 7, 4, 8] (by decide +kernel) (by decide +kernel)
set_option maxRecDepth 20000 in
theorem gX5_voted_X5_noAcceptor : GoodIn wsX5_voted (va_wsS RX5 61 yX5_noAcceptor wsX5_noAcceptor) := goodIn_app (goodIn_of _ (by decide +kernel)) ggX5_voted_X5_noAcceptor
set_option maxRecDepth 20000 in
theorem ggX5_voted_X5_noSlot : GoodIn wsX5_voted wsX5_noSlot := goodIn_r _ [11, 6, 7, 4, 8] (by decide +kernel) (by decide +kernel)
set_option maxRecDepth 20000 in
theorem gX5_voted_X5_noSlot : GoodIn wsX5_voted (va_wsS RX5 95 yX5_noSlot wsX5_noSlot) := goodIn_app (goodIn_of _ (by decide +kernel)) ggX5_voted_X5_noSlot
set_option maxRecDepth 20000 in
theorem ggX5_voted_X5_in : GoodIn wsX5_voted wsX5_in := goodIn_r _ [8] (by decide +kernel) (by decide +kernel)
set_option maxRecDepth 20000 in
theorem gX5_voted_X5_in : GoodIn wsX5_voted (va_wsS RX5 33 yX5_in wsX5_in) := goodIn_app (goodIn_of _ (by decide +kernel)) ggX5_voted_X5_in
set_option maxRecDepth 20000 in
theorem ggX5_voted_X5_voteAt : GoodIn wsX5_voted wsX5_voteAt := goodIn_r _ [14] (by decide +kernel) (by decide +kernel)
set_option maxRecDepth 20000 in
theorem gX5_voted_X5_voteAt : GoodIn wsX5_voted (va_wsS RX5 89 yX5_voteAt wsX5_voteAt) := goodIn_app (goodIn_of _ (by decide +kernel)) ggX5_voted_X5_voteAt
theorem dX5_voted_0 : decode cX5_voted 0 = .ok (.iload_n 1, 1) := by decide +kernel
theorem dX5_voted_1 : decode cX5_voted 1 = .ok (.invokestatic 61, 3) := by decide +kernel
theorem dX5_voted_4 : decode cX5_voted 4 = .ok (.ifCond .ne 10, 3) := by decide +kernel
theorem dX5_voted_7 : decode cX5_voted 7 = .ok (.iload_n 2, 1) := by decide +kernel
theorem dX5_voted_8 : decode cX5_voted 8 = .ok (.invokestatic 95, 3) := by decide +kernel
theorem dX5_voted_11 : decode cX5_voted 11 = .ok (.ifCond .eq 5, 3) := by decide +kernel
theorem dX5_voted_14 : decode cX5_voted 14 = .ok (.iconst (-1), 1) := by decide +kernel
theorem dX5_voted_15 : decode cX5_voted 15 = .ok (.ireturn, 1) := by decide +kernel
theorem dX5_voted_16 : decode cX5_voted 16 = .ok (.iload_n 3, 1) := by decide +kernel
theorem dX5_voted_17 : decode cX5_voted 17 = .ok (.iconst 0, 1) := by decide +kernel
theorem dX5_voted_18 : decode cX5_voted 18 = .ok (.iconst 1, 1) := by decide +kernel
theorem dX5_voted_19 : decode cX5_voted 19 = .ok (.invokestatic 33, 3) := by decide +kernel
theorem dX5_voted_22 : decode cX5_voted 22 = .ok (.ifCond .ne 6, 3) := by decide +kernel
theorem dX5_voted_25 : decode cX5_voted 25 = .ok (.bipush (-2), 2) := by decide +kernel
theorem dX5_voted_27 : decode cX5_voted 27 = .ok (.ireturn, 1) := by decide +kernel
theorem dX5_voted_28 : decode cX5_voted 28 = .ok (.iload_n 1, 1) := by decide +kernel
theorem dX5_voted_29 : decode cX5_voted 29 = .ok (.iload_n 2, 1) := by decide +kernel
theorem dX5_voted_30 : decode cX5_voted 30 = .ok (.invokestatic 89, 3) := by decide +kernel
theorem dX5_voted_33 : decode cX5_voted 33 = .ok (.istore 4, 2) := by decide +kernel
theorem dX5_voted_35 : decode cX5_voted 35 = .ok (.aload_n 0, 1) := by decide +kernel
theorem dX5_voted_36 : decode cX5_voted 36 = .ok (.getfield 7, 3) := by decide +kernel
theorem dX5_voted_39 : decode cX5_voted 39 = .ok (.iload 4, 2) := by decide +kernel
theorem dX5_voted_41 : decode cX5_voted 41 = .ok (.iaload, 1) := by decide +kernel
theorem dX5_voted_42 : decode cX5_voted 42 = .ok (.ifCond .ne 8, 3) := by decide +kernel
theorem dX5_voted_45 : decode cX5_voted 45 = .ok (.bipush (-5), 2) := by decide +kernel
theorem dX5_voted_47 : decode cX5_voted 47 = .ok (.goto 12, 3) := by decide +kernel
theorem dX5_voted_50 : decode cX5_voted 50 = .ok (.aload_n 0, 1) := by decide +kernel
theorem dX5_voted_51 : decode cX5_voted 51 = .ok (.getfield 7, 3) := by decide +kernel
theorem dX5_voted_54 : decode cX5_voted 54 = .ok (.iload 4, 2) := by decide +kernel
theorem dX5_voted_56 : decode cX5_voted 56 = .ok (.iload_n 3, 1) := by decide +kernel
theorem dX5_voted_57 : decode cX5_voted 57 = .ok (.iadd, 1) := by decide +kernel
theorem dX5_voted_58 : decode cX5_voted 58 = .ok (.iaload, 1) := by decide +kernel
theorem dX5_voted_59 : decode cX5_voted 59 = .ok (.ireturn, 1) := by decide +kernel
set_option maxRecDepth 20000 in
theorem ggX5_proposals_X5_proposedAt : GoodIn wsX5_proposals wsX5_proposedAt := goodIn_r _ [5] (by decide +kernel) (by decide +kernel)
set_option maxRecDepth 20000 in
theorem gX5_proposals_X5_proposedAt : GoodIn wsX5_proposals (va_wsS RX5 74 yX5_proposedAt wsX5_proposedAt) := goodIn_app (goodIn_of _ (by decide +kernel)) ggX5_proposals_X5_proposedAt
theorem dX5_proposals_0 : decode cX5_proposals 0 = .ok (.iconst 0, 1) := by decide +kernel
theorem dX5_proposals_1 : decode cX5_proposals 1 = .ok (.istore_n 2, 1) := by decide +kernel
theorem dX5_proposals_2 : decode cX5_proposals 2 = .ok (.iconst 1, 1) := by decide +kernel
theorem dX5_proposals_3 : decode cX5_proposals 3 = .ok (.istore_n 3, 1) := by decide +kernel
theorem dX5_proposals_4 : decode cX5_proposals 4 = .ok (.iload_n 3, 1) := by decide +kernel
theorem dX5_proposals_5 : decode cX5_proposals 5 = .ok (.bipush 16, 2) := by decide +kernel
theorem dX5_proposals_7 : decode cX5_proposals 7 = .ok (.if_icmp .gt 30, 3) := by decide +kernel
theorem dX5_proposals_10 : decode cX5_proposals 10 = .ok (.iload_n 2, 1) := by decide +kernel
theorem dX5_proposals_11 : decode cX5_proposals 11 = .ok (.aload_n 0, 1) := by decide +kernel
theorem dX5_proposals_12 : decode cX5_proposals 12 = .ok (.getfield 7, 3) := by decide +kernel
theorem dX5_proposals_15 : decode cX5_proposals 15 = .ok (.iload_n 1, 1) := by decide +kernel
theorem dX5_proposals_16 : decode cX5_proposals 16 = .ok (.iload_n 3, 1) := by decide +kernel
theorem dX5_proposals_17 : decode cX5_proposals 17 = .ok (.invokestatic 74, 3) := by decide +kernel
theorem dX5_proposals_20 : decode cX5_proposals 20 = .ok (.iaload, 1) := by decide +kernel
theorem dX5_proposals_21 : decode cX5_proposals 21 = .ok (.ifCond .le 7, 3) := by decide +kernel
theorem dX5_proposals_24 : decode cX5_proposals 24 = .ok (.iconst 1, 1) := by decide +kernel
theorem dX5_proposals_25 : decode cX5_proposals 25 = .ok (.goto 4, 3) := by decide +kernel
theorem dX5_proposals_28 : decode cX5_proposals 28 = .ok (.iconst 0, 1) := by decide +kernel
theorem dX5_proposals_29 : decode cX5_proposals 29 = .ok (.iadd, 1) := by decide +kernel
theorem dX5_proposals_30 : decode cX5_proposals 30 = .ok (.istore_n 2, 1) := by decide +kernel
theorem dX5_proposals_31 : decode cX5_proposals 31 = .ok (.iinc 3 1, 3) := by decide +kernel
theorem dX5_proposals_34 : decode cX5_proposals 34 = .ok (.goto (-30), 3) := by decide +kernel
theorem dX5_proposals_37 : decode cX5_proposals 37 = .ok (.iload_n 2, 1) := by decide +kernel
theorem dX5_proposals_38 : decode cX5_proposals 38 = .ok (.ireturn, 1) := by decide +kernel
set_option maxRecDepth 20000 in
theorem ggX5_proposer_X5_noProposer : GoodIn wsX5_proposer wsX5_noProposer := goodIn_r _ [5, 6, 7, 4, 8] (by decide +kernel) (by decide +kernel)
set_option maxRecDepth 20000 in
theorem gX5_proposer_X5_noProposer : GoodIn wsX5_proposer (va_wsS RX5 71 yX5_noProposer wsX5_noProposer) := goodIn_app (goodIn_of _ (by decide +kernel)) ggX5_proposer_X5_noProposer
set_option maxRecDepth 20000 in
theorem ggX5_proposer_X5_proposals : GoodIn wsX5_proposer wsX5_proposals := goodIn_r _ [12, 1, 13, 14, 4, 15, 16, 17, 18, 19, 20, 21, 22, 23, 24, 25, 26, 27, 28, 29, 30] (by decide +kernel) (by decide +kernel)
set_option maxRecDepth 20000 in
theorem gX5_proposer_X5_proposals : GoodIn wsX5_proposer (wsV RX5 167 RX5 yX5_proposals wsX5_proposals) := goodIn_app (goodIn_of _ (by decide +kernel)) ggX5_proposer_X5_proposals
theorem dX5_proposer_0 : decode cX5_proposer 0 = .ok (.iload_n 1, 1) := by decide +kernel
theorem dX5_proposer_1 : decode cX5_proposer 1 = .ok (.invokestatic 71, 3) := by decide +kernel
theorem dX5_proposer_4 : decode cX5_proposer 4 = .ok (.ifCond .eq 5, 3) := by decide +kernel
theorem dX5_proposer_7 : decode cX5_proposer 7 = .ok (.iconst (-1), 1) := by decide +kernel
theorem dX5_proposer_8 : decode cX5_proposer 8 = .ok (.ireturn, 1) := by decide +kernel
theorem dX5_proposer_9 : decode cX5_proposer 9 = .ok (.iload_n 2, 1) := by decide +kernel
theorem dX5_proposer_10 : decode cX5_proposer 10 = .ok (.tableswitch 69 0 3 #[30, 41, 52, 63], 30) := by decide +kernel
theorem dX5_proposer_40 : decode cX5_proposer 40 = .ok (.aload_n 0, 1) := by decide +kernel
theorem dX5_proposer_41 : decode cX5_proposer 41 = .ok (.getfield 7, 3) := by decide +kernel
theorem dX5_proposer_44 : decode cX5_proposer 44 = .ok (.sipush 204, 3) := by decide +kernel
theorem dX5_proposer_47 : decode cX5_proposer 47 = .ok (.iload_n 1, 1) := by decide +kernel
theorem dX5_proposer_48 : decode cX5_proposer 48 = .ok (.iadd, 1) := by decide +kernel
theorem dX5_proposer_49 : decode cX5_proposer 49 = .ok (.iaload, 1) := by decide +kernel
theorem dX5_proposer_50 : decode cX5_proposer 50 = .ok (.ireturn, 1) := by decide +kernel
theorem dX5_proposer_51 : decode cX5_proposer 51 = .ok (.aload_n 0, 1) := by decide +kernel
theorem dX5_proposer_52 : decode cX5_proposer 52 = .ok (.getfield 7, 3) := by decide +kernel
theorem dX5_proposer_55 : decode cX5_proposer 55 = .ok (.sipush 207, 3) := by decide +kernel
theorem dX5_proposer_58 : decode cX5_proposer 58 = .ok (.iload_n 1, 1) := by decide +kernel
theorem dX5_proposer_59 : decode cX5_proposer 59 = .ok (.iadd, 1) := by decide +kernel
theorem dX5_proposer_60 : decode cX5_proposer 60 = .ok (.iaload, 1) := by decide +kernel
theorem dX5_proposer_61 : decode cX5_proposer 61 = .ok (.ireturn, 1) := by decide +kernel
theorem dX5_proposer_62 : decode cX5_proposer 62 = .ok (.aload_n 0, 1) := by decide +kernel
theorem dX5_proposer_63 : decode cX5_proposer 63 = .ok (.getfield 7, 3) := by decide +kernel
theorem dX5_proposer_66 : decode cX5_proposer 66 = .ok (.sipush 210, 3) := by decide +kernel
theorem dX5_proposer_69 : decode cX5_proposer 69 = .ok (.iload_n 1, 1) := by decide +kernel
theorem dX5_proposer_70 : decode cX5_proposer 70 = .ok (.iadd, 1) := by decide +kernel
theorem dX5_proposer_71 : decode cX5_proposer 71 = .ok (.iaload, 1) := by decide +kernel
theorem dX5_proposer_72 : decode cX5_proposer 72 = .ok (.ireturn, 1) := by decide +kernel
theorem dX5_proposer_73 : decode cX5_proposer 73 = .ok (.aload_n 0, 1) := by decide +kernel
theorem dX5_proposer_74 : decode cX5_proposer 74 = .ok (.iload_n 1, 1) := by decide +kernel
theorem dX5_proposer_75 : decode cX5_proposer 75 = .ok (.invokevirtual 167, 3) := by decide +kernel
theorem dX5_proposer_78 : decode cX5_proposer 78 = .ok (.ireturn, 1) := by decide +kernel
theorem dX5_proposer_79 : decode cX5_proposer 79 = .ok (.bipush (-2), 2) := by decide +kernel
theorem dX5_proposer_81 : decode cX5_proposer 81 = .ok (.ireturn, 1) := by decide +kernel
set_option maxRecDepth 20000 in
theorem ggX5_proposed_X5_noProposer : GoodIn wsX5_proposed wsX5_noProposer := goodIn_r _ [5, 6, 7, 4, 8] (by decide +kernel) (by decide +kernel)
set_option maxRecDepth 20000 in
theorem gX5_proposed_X5_noProposer : GoodIn wsX5_proposed (va_wsS RX5 71 yX5_noProposer wsX5_noProposer) := goodIn_app (goodIn_of _ (by decide +kernel)) ggX5_proposed_X5_noProposer
set_option maxRecDepth 20000 in
theorem ggX5_proposed_X5_noSlot : GoodIn wsX5_proposed wsX5_noSlot := goodIn_r _ [11, 6, 7, 4, 8] (by decide +kernel) (by decide +kernel)
set_option maxRecDepth 20000 in
theorem gX5_proposed_X5_noSlot : GoodIn wsX5_proposed (va_wsS RX5 95 yX5_noSlot wsX5_noSlot) := goodIn_app (goodIn_of _ (by decide +kernel)) ggX5_proposed_X5_noSlot
set_option maxRecDepth 20000 in
theorem ggX5_proposed_X5_in : GoodIn wsX5_proposed wsX5_in := goodIn_r _ [8] (by decide +kernel) (by decide +kernel)
set_option maxRecDepth 20000 in
theorem gX5_proposed_X5_in : GoodIn wsX5_proposed (va_wsS RX5 33 yX5_in wsX5_in) := goodIn_app (goodIn_of _ (by decide +kernel)) ggX5_proposed_X5_in
set_option maxRecDepth 20000 in
theorem ggX5_proposed_X5_proposedAt : GoodIn wsX5_proposed wsX5_proposedAt := goodIn_r _ [14] (by decide +kernel) (by decide +kernel)
set_option maxRecDepth 20000 in
theorem gX5_proposed_X5_proposedAt : GoodIn wsX5_proposed (va_wsS RX5 74 yX5_proposedAt wsX5_proposedAt) := goodIn_app (goodIn_of _ (by decide +kernel)) ggX5_proposed_X5_proposedAt
set_option maxRecDepth 20000 in
theorem ggX5_proposed_X5_isOpen : GoodIn wsX5_proposed wsX5_isOpen := goodIn_r _ [18, 19, 20, 21, 4, 22, 23, 24, 25, 26, 1, 56, 57, 58, 59, 60, 61, 62, 63, 64, 65, 66, 67, 68, 69, 70] (by decide +kernel) (by decide +kernel)
set_option maxRecDepth 20000 in
theorem gX5_proposed_X5_isOpen : GoodIn wsX5_proposed (wsV RX5 101 RX5 yX5_isOpen wsX5_isOpen) := goodIn_app (goodIn_of _ (by decide +kernel)) ggX5_proposed_X5_isOpen
set_option maxRecDepth 20000 in
theorem ggX5_proposed_X5_bound : GoodIn wsX5_proposed wsX5_bound := goodIn_r _ [30, 1, 31, 32, 33, 4, 34, 23, 24, 25, 26, 35, 36, 37, 38, 39, 40, 56, 57, 58, 59, 60, 61, 62, 63, 64, 65, 66, 67, 68, 69, 70] (by decide +kernel) (by decide +kernel)
set_option maxRecDepth 20000 in
theorem gX5_proposed_X5_bound : GoodIn wsX5_proposed (wsV RX5 107 RX5 yX5_bound wsX5_bound) := goodIn_app (goodIn_of _ (by decide +kernel)) ggX5_proposed_X5_bound
set_option maxRecDepth 20000 in
theorem ggX5_proposed_X5_lacking : GoodIn wsX5_proposed wsX5_lacking := goodIn_r _ [44, 1, 45, 46, 47, 4, 48, 31, 32, 33, 34, 23, 24, 25, 26, 49, 50, 51, 52, 53, 54, 55, 56, 57, 58, 59, 60, 61, 62, 63, 64, 65, 66, 67, 68, 69, 70] (by decide +kernel) (by decide +kernel)
set_option maxRecDepth 20000 in
theorem gX5_proposed_X5_lacking : GoodIn wsX5_proposed (wsV RX5 104 RX5 yX5_lacking wsX5_lacking) := goodIn_app (goodIn_of _ (by decide +kernel)) ggX5_proposed_X5_lacking
theorem dX5_proposed_0 : decode cX5_proposed 0 = .ok (.iload_n 1, 1) := by decide +kernel
theorem dX5_proposed_1 : decode cX5_proposed 1 = .ok (.invokestatic 71, 3) := by decide +kernel
theorem dX5_proposed_4 : decode cX5_proposed 4 = .ok (.ifCond .ne 10, 3) := by decide +kernel
theorem dX5_proposed_7 : decode cX5_proposed 7 = .ok (.iload_n 2, 1) := by decide +kernel
theorem dX5_proposed_8 : decode cX5_proposed 8 = .ok (.invokestatic 95, 3) := by decide +kernel
theorem dX5_proposed_11 : decode cX5_proposed 11 = .ok (.ifCond .eq 5, 3) := by decide +kernel
theorem dX5_proposed_14 : decode cX5_proposed 14 = .ok (.iconst (-1), 1) := by decide +kernel
theorem dX5_proposed_15 : decode cX5_proposed 15 = .ok (.ireturn, 1) := by decide +kernel
theorem dX5_proposed_16 : decode cX5_proposed 16 = .ok (.iload_n 3, 1) := by decide +kernel
theorem dX5_proposed_17 : decode cX5_proposed 17 = .ok (.iconst 0, 1) := by decide +kernel
theorem dX5_proposed_18 : decode cX5_proposed 18 = .ok (.iconst 2, 1) := by decide +kernel
theorem dX5_proposed_19 : decode cX5_proposed 19 = .ok (.invokestatic 33, 3) := by decide +kernel
theorem dX5_proposed_22 : decode cX5_proposed 22 = .ok (.ifCond .ne 6, 3) := by decide +kernel
theorem dX5_proposed_25 : decode cX5_proposed 25 = .ok (.bipush (-2), 2) := by decide +kernel
theorem dX5_proposed_27 : decode cX5_proposed 27 = .ok (.ireturn, 1) := by decide +kernel
theorem dX5_proposed_28 : decode cX5_proposed 28 = .ok (.iload_n 3, 1) := by decide +kernel
theorem dX5_proposed_29 : decode cX5_proposed 29 = .ok (.ifCond .ne 28, 3) := by decide +kernel
theorem dX5_proposed_32 : decode cX5_proposed 32 = .ok (.aload_n 0, 1) := by decide +kernel
theorem dX5_proposed_33 : decode cX5_proposed 33 = .ok (.getfield 7, 3) := by decide +kernel
theorem dX5_proposed_36 : decode cX5_proposed 36 = .ok (.iload_n 1, 1) := by decide +kernel
theorem dX5_proposed_37 : decode cX5_proposed 37 = .ok (.iload_n 2, 1) := by decide +kernel
theorem dX5_proposed_38 : decode cX5_proposed 38 = .ok (.invokestatic 74, 3) := by decide +kernel
theorem dX5_proposed_41 : decode cX5_proposed 41 = .ok (.iaload, 1) := by decide +kernel
theorem dX5_proposed_42 : decode cX5_proposed 42 = .ok (.istore 4, 2) := by decide +kernel
theorem dX5_proposed_44 : decode cX5_proposed 44 = .ok (.iload 4, 2) := by decide +kernel
theorem dX5_proposed_46 : decode cX5_proposed 46 = .ok (.ifCond .ne 8, 3) := by decide +kernel
theorem dX5_proposed_49 : decode cX5_proposed 49 = .ok (.bipush (-5), 2) := by decide +kernel
theorem dX5_proposed_51 : decode cX5_proposed 51 = .ok (.goto 5, 3) := by decide +kernel
theorem dX5_proposed_54 : decode cX5_proposed 54 = .ok (.iload 4, 2) := by decide +kernel
theorem dX5_proposed_56 : decode cX5_proposed 56 = .ok (.ireturn, 1) := by decide +kernel
theorem dX5_proposed_57 : decode cX5_proposed 57 = .ok (.aload_n 0, 1) := by decide +kernel
theorem dX5_proposed_58 : decode cX5_proposed 58 = .ok (.iload_n 2, 1) := by decide +kernel
theorem dX5_proposed_59 : decode cX5_proposed 59 = .ok (.invokevirtual 101, 3) := by decide +kernel
theorem dX5_proposed_62 : decode cX5_proposed 62 = .ok (.ifCond .ne 8, 3) := by decide +kernel
theorem dX5_proposed_65 : decode cX5_proposed 65 = .ok (.bipush (-5), 2) := by decide +kernel
theorem dX5_proposed_67 : decode cX5_proposed 67 = .ok (.goto 23, 3) := by decide +kernel
theorem dX5_proposed_70 : decode cX5_proposed 70 = .ok (.iload_n 3, 1) := by decide +kernel
theorem dX5_proposed_71 : decode cX5_proposed 71 = .ok (.iconst 1, 1) := by decide +kernel
theorem dX5_proposed_72 : decode cX5_proposed 72 = .ok (.if_icmp .ne 12, 3) := by decide +kernel
theorem dX5_proposed_75 : decode cX5_proposed 75 = .ok (.aload_n 0, 1) := by decide +kernel
theorem dX5_proposed_76 : decode cX5_proposed 76 = .ok (.iload_n 1, 1) := by decide +kernel
theorem dX5_proposed_77 : decode cX5_proposed 77 = .ok (.iload_n 2, 1) := by decide +kernel
theorem dX5_proposed_78 : decode cX5_proposed 78 = .ok (.invokevirtual 107, 3) := by decide +kernel
theorem dX5_proposed_81 : decode cX5_proposed 81 = .ok (.goto 9, 3) := by decide +kernel
theorem dX5_proposed_84 : decode cX5_proposed 84 = .ok (.aload_n 0, 1) := by decide +kernel
theorem dX5_proposed_85 : decode cX5_proposed 85 = .ok (.iload_n 1, 1) := by decide +kernel
theorem dX5_proposed_86 : decode cX5_proposed 86 = .ok (.iload_n 2, 1) := by decide +kernel
theorem dX5_proposed_87 : decode cX5_proposed 87 = .ok (.invokevirtual 104, 3) := by decide +kernel
theorem dX5_proposed_90 : decode cX5_proposed 90 = .ok (.ireturn, 1) := by decide +kernel
set_option maxRecDepth 20000 in
theorem ggX5_slot_X5_noSlot : GoodIn wsX5_slot wsX5_noSlot := goodIn_r _ [5, 6, 7, 4, 8] (by decide +kernel) (by decide +kernel)
set_option maxRecDepth 20000 in
theorem gX5_slot_X5_noSlot : GoodIn wsX5_slot (va_wsS RX5 95 yX5_noSlot wsX5_noSlot) := goodIn_app (goodIn_of _ (by decide +kernel)) ggX5_slot_X5_noSlot
set_option maxRecDepth 20000 in
theorem ggX5_slot_X5_chosen : GoodIn wsX5_slot wsX5_chosen := goodIn_r _ [12, 1, 40, 41, 42, 43, 44, 45, 46, 47, 48, 49, 50, 51, 52, 53, 54] (by decide +kernel) (by decide +kernel)
set_option maxRecDepth 20000 in
theorem gX5_slot_X5_chosen : GoodIn wsX5_slot (wsV RX5 44 RX5 yX5_chosen wsX5_chosen) := goodIn_app (goodIn_of _ (by decide +kernel)) ggX5_slot_X5_chosen
set_option maxRecDepth 20000 in
theorem ggX5_slot_X5_isOpen : GoodIn wsX5_slot wsX5_isOpen := goodIn_r _ [16, 17, 18, 19, 4, 20, 9, 10, 11, 12, 1, 40, 41, 42, 43, 44, 45, 46, 47, 48, 49, 50, 51, 52, 53, 54] (by decide +kernel) (by decide +kernel)
set_option maxRecDepth 20000 in
theorem gX5_slot_X5_isOpen : GoodIn wsX5_slot (wsV RX5 101 RX5 yX5_isOpen wsX5_isOpen) := goodIn_app (goodIn_of _ (by decide +kernel)) ggX5_slot_X5_isOpen
set_option maxRecDepth 20000 in
theorem ggX5_slot_X5_voters : GoodIn wsX5_slot wsX5_voters := goodIn_r _ [24, 9, 10, 11, 4, 12, 1, 40, 41, 42, 43, 44, 45, 46, 47, 48, 49, 50, 51, 52, 53, 54] (by decide +kernel) (by decide +kernel)
set_option maxRecDepth 20000 in
theorem gX5_slot_X5_voters : GoodIn wsX5_slot (wsV RX5 52 RX5 yX5_voters wsX5_voters) := goodIn_app (goodIn_of _ (by decide +kernel)) ggX5_slot_X5_voters
set_option maxRecDepth 20000 in
theorem ggX5_slot_X5_firstSize : GoodIn wsX5_slot wsX5_firstSize := goodIn_r _ [28, 21, 22, 23, 4, 24, 9, 10, 11, 12, 1, 29, 30, 31, 32, 33, 34, 35, 40, 41, 42, 43, 44, 45, 46, 47, 48, 49, 50, 51, 52, 53, 54] (by decide +kernel) (by decide +kernel)
set_option maxRecDepth 20000 in
theorem gX5_slot_X5_firstSize : GoodIn wsX5_slot (wsV RX5 92 RX5 yX5_firstSize wsX5_firstSize) := goodIn_app (goodIn_of _ (by decide +kernel)) ggX5_slot_X5_firstSize
set_option maxRecDepth 20000 in
theorem ggX5_slot_X5_secondSize : GoodIn wsX5_slot wsX5_secondSize := goodIn_r _ [35, 1, 21, 22, 23, 4, 24, 9, 10, 11, 12, 29, 30, 31, 40, 41, 42, 43, 44, 45, 46, 47, 48, 49, 50, 51, 52, 53, 54] (by decide +kernel) (by decide +kernel)
set_option maxRecDepth 20000 in
theorem gX5_slot_X5_secondSize : GoodIn wsX5_slot (wsV RX5 58 RX5 yX5_secondSize wsX5_secondSize) := goodIn_app (goodIn_of _ (by decide +kernel)) ggX5_slot_X5_secondSize
set_option maxRecDepth 20000 in
theorem ggX5_slot_X5_isTrimmed : GoodIn wsX5_slot wsX5_isTrimmed := goodIn_r _ [39, 1, 40, 41, 42, 43, 44, 45, 46, 47, 48, 49, 50, 51, 52, 53, 54] (by decide +kernel) (by decide +kernel)
set_option maxRecDepth 20000 in
theorem gX5_slot_X5_isTrimmed : GoodIn wsX5_slot (wsV RX5 98 RX5 yX5_isTrimmed wsX5_isTrimmed) := goodIn_app (goodIn_of _ (by decide +kernel)) ggX5_slot_X5_isTrimmed
theorem dX5_slot_0 : decode cX5_slot 0 = .ok (.iload_n 1, 1) := by decide +kernel
theorem dX5_slot_1 : decode cX5_slot 1 = .ok (.invokestatic 95, 3) := by decide +kernel
theorem dX5_slot_4 : decode cX5_slot 4 = .ok (.ifCond .eq 5, 3) := by decide +kernel
theorem dX5_slot_7 : decode cX5_slot 7 = .ok (.iconst (-1), 1) := by decide +kernel
theorem dX5_slot_8 : decode cX5_slot 8 = .ok (.ireturn, 1) := by decide +kernel
theorem dX5_slot_9 : decode cX5_slot 9 = .ok (.iload_n 2, 1) := by decide +kernel
theorem dX5_slot_10 : decode cX5_slot 10 = .ok (.tableswitch 154 0 5 #[38, 57, 83, 102, 121, 140], 38) := by decide +kernel
theorem dX5_slot_48 : decode cX5_slot 48 = .ok (.aload_n 0, 1) := by decide +kernel
theorem dX5_slot_49 : decode cX5_slot 49 = .ok (.iload_n 1, 1) := by decide +kernel
theorem dX5_slot_50 : decode cX5_slot 50 = .ok (.invokevirtual 44, 3) := by decide +kernel
theorem dX5_slot_53 : decode cX5_slot 53 = .ok (.ifCond .ne 8, 3) := by decide +kernel
theorem dX5_slot_56 : decode cX5_slot 56 = .ok (.bipush (-5), 2) := by decide +kernel
theorem dX5_slot_58 : decode cX5_slot 58 = .ok (.goto 8, 3) := by decide +kernel
theorem dX5_slot_61 : decode cX5_slot 61 = .ok (.aload_n 0, 1) := by decide +kernel
theorem dX5_slot_62 : decode cX5_slot 62 = .ok (.iload_n 1, 1) := by decide +kernel
theorem dX5_slot_63 : decode cX5_slot 63 = .ok (.invokevirtual 44, 3) := by decide +kernel
theorem dX5_slot_66 : decode cX5_slot 66 = .ok (.ireturn, 1) := by decide +kernel
theorem dX5_slot_67 : decode cX5_slot 67 = .ok (.aload_n 0, 1) := by decide +kernel
theorem dX5_slot_68 : decode cX5_slot 68 = .ok (.iload_n 1, 1) := by decide +kernel
theorem dX5_slot_69 : decode cX5_slot 69 = .ok (.invokevirtual 44, 3) := by decide +kernel
theorem dX5_slot_72 : decode cX5_slot 72 = .ok (.ifCond .ne 8, 3) := by decide +kernel
theorem dX5_slot_75 : decode cX5_slot 75 = .ok (.bipush (-5), 2) := by decide +kernel
theorem dX5_slot_77 : decode cX5_slot 77 = .ok (.goto 15, 3) := by decide +kernel
theorem dX5_slot_80 : decode cX5_slot 80 = .ok (.aload_n 0, 1) := by decide +kernel
theorem dX5_slot_81 : decode cX5_slot 81 = .ok (.getfield 7, 3) := by decide +kernel
theorem dX5_slot_84 : decode cX5_slot 84 = .ok (.sipush 853, 3) := by decide +kernel
theorem dX5_slot_87 : decode cX5_slot 87 = .ok (.iload_n 1, 1) := by decide +kernel
theorem dX5_slot_88 : decode cX5_slot 88 = .ok (.iadd, 1) := by decide +kernel
theorem dX5_slot_89 : decode cX5_slot 89 = .ok (.iconst 1, 1) := by decide +kernel
theorem dX5_slot_90 : decode cX5_slot 90 = .ok (.isub, 1) := by decide +kernel
theorem dX5_slot_91 : decode cX5_slot 91 = .ok (.iaload, 1) := by decide +kernel
theorem dX5_slot_92 : decode cX5_slot 92 = .ok (.ireturn, 1) := by decide +kernel
theorem dX5_slot_93 : decode cX5_slot 93 = .ok (.aload_n 0, 1) := by decide +kernel
theorem dX5_slot_94 : decode cX5_slot 94 = .ok (.iload_n 1, 1) := by decide +kernel
theorem dX5_slot_95 : decode cX5_slot 95 = .ok (.invokevirtual 101, 3) := by decide +kernel
theorem dX5_slot_98 : decode cX5_slot 98 = .ok (.ifCond .eq 11, 3) := by decide +kernel
theorem dX5_slot_101 : decode cX5_slot 101 = .ok (.aload_n 0, 1) := by decide +kernel
theorem dX5_slot_102 : decode cX5_slot 102 = .ok (.iload_n 1, 1) := by decide +kernel
theorem dX5_slot_103 : decode cX5_slot 103 = .ok (.invokevirtual 52, 3) := by decide +kernel
theorem dX5_slot_106 : decode cX5_slot 106 = .ok (.goto 5, 3) := by decide +kernel
theorem dX5_slot_109 : decode cX5_slot 109 = .ok (.bipush (-5), 2) := by decide +kernel
theorem dX5_slot_111 : decode cX5_slot 111 = .ok (.ireturn, 1) := by decide +kernel
theorem dX5_slot_112 : decode cX5_slot 112 = .ok (.aload_n 0, 1) := by decide +kernel
theorem dX5_slot_113 : decode cX5_slot 113 = .ok (.iload_n 1, 1) := by decide +kernel
theorem dX5_slot_114 : decode cX5_slot 114 = .ok (.invokevirtual 101, 3) := by decide +kernel
theorem dX5_slot_117 : decode cX5_slot 117 = .ok (.ifCond .eq 11, 3) := by decide +kernel
theorem dX5_slot_120 : decode cX5_slot 120 = .ok (.aload_n 0, 1) := by decide +kernel
theorem dX5_slot_121 : decode cX5_slot 121 = .ok (.iload_n 1, 1) := by decide +kernel
theorem dX5_slot_122 : decode cX5_slot 122 = .ok (.invokevirtual 92, 3) := by decide +kernel
theorem dX5_slot_125 : decode cX5_slot 125 = .ok (.goto 5, 3) := by decide +kernel
theorem dX5_slot_128 : decode cX5_slot 128 = .ok (.bipush (-5), 2) := by decide +kernel
theorem dX5_slot_130 : decode cX5_slot 130 = .ok (.ireturn, 1) := by decide +kernel
theorem dX5_slot_131 : decode cX5_slot 131 = .ok (.aload_n 0, 1) := by decide +kernel
theorem dX5_slot_132 : decode cX5_slot 132 = .ok (.iload_n 1, 1) := by decide +kernel
theorem dX5_slot_133 : decode cX5_slot 133 = .ok (.invokevirtual 101, 3) := by decide +kernel
theorem dX5_slot_136 : decode cX5_slot 136 = .ok (.ifCond .eq 11, 3) := by decide +kernel
theorem dX5_slot_139 : decode cX5_slot 139 = .ok (.aload_n 0, 1) := by decide +kernel
theorem dX5_slot_140 : decode cX5_slot 140 = .ok (.iload_n 1, 1) := by decide +kernel
theorem dX5_slot_141 : decode cX5_slot 141 = .ok (.invokevirtual 58, 3) := by decide +kernel
theorem dX5_slot_144 : decode cX5_slot 144 = .ok (.goto 5, 3) := by decide +kernel
theorem dX5_slot_147 : decode cX5_slot 147 = .ok (.bipush (-5), 2) := by decide +kernel
theorem dX5_slot_149 : decode cX5_slot 149 = .ok (.ireturn, 1) := by decide +kernel
theorem dX5_slot_150 : decode cX5_slot 150 = .ok (.aload_n 0, 1) := by decide +kernel
theorem dX5_slot_151 : decode cX5_slot 151 = .ok (.iload_n 1, 1) := by decide +kernel
theorem dX5_slot_152 : decode cX5_slot 152 = .ok (.invokevirtual 98, 3) := by decide +kernel
theorem dX5_slot_155 : decode cX5_slot 155 = .ok (.ifCond .eq 7, 3) := by decide +kernel
theorem dX5_slot_158 : decode cX5_slot 158 = .ok (.iconst 1, 1) := by decide +kernel
theorem dX5_slot_159 : decode cX5_slot 159 = .ok (.goto 4, 3) := by decide +kernel
theorem dX5_slot_162 : decode cX5_slot 162 = .ok (.iconst 0, 1) := by decide +kernel
theorem dX5_slot_163 : decode cX5_slot 163 = .ok (.ireturn, 1) := by decide +kernel
theorem dX5_slot_164 : decode cX5_slot 164 = .ok (.bipush (-2), 2) := by decide +kernel
theorem dX5_slot_166 : decode cX5_slot 166 = .ok (.ireturn, 1) := by decide +kernel
set_option maxRecDepth 20000 in
theorem ggX5_could_X5_noSlot : GoodIn wsX5_could wsX5_noSlot := goodIn_r _ [5, 6, 7, 4, 8] (by decide +kernel) (by decide +kernel)
set_option maxRecDepth 20000 in
theorem gX5_could_X5_noSlot : GoodIn wsX5_could (va_wsS RX5 95 yX5_noSlot wsX5_noSlot) := goodIn_app (goodIn_of _ (by decide +kernel)) ggX5_could_X5_noSlot
set_option maxRecDepth 20000 in
theorem ggX5_could_X5_in : GoodIn wsX5_could wsX5_in := goodIn_r _ [8] (by decide +kernel) (by decide +kernel)
set_option maxRecDepth 20000 in
theorem gX5_could_X5_in : GoodIn wsX5_could (va_wsS RX5 33 yX5_in wsX5_in) := goodIn_app (goodIn_of _ (by decide +kernel)) ggX5_could_X5_in
set_option maxRecDepth 20000 in
theorem ggX5_could_X5_isTrimmed : GoodIn wsX5_could wsX5_isTrimmed := goodIn_r _ [12, 1, 42, 43, 44, 45, 46, 47, 48, 49, 50, 51, 52, 53, 54, 55, 56] (by decide +kernel) (by decide +kernel)
set_option maxRecDepth 20000 in
theorem gX5_could_X5_isTrimmed : GoodIn wsX5_could (wsV RX5 98 RX5 yX5_isTrimmed wsX5_isTrimmed) := goodIn_app (goodIn_of _ (by decide +kernel)) ggX5_could_X5_isTrimmed
set_option maxRecDepth 20000 in
theorem ggX5_could_X5_isOpen : GoodIn wsX5_could wsX5_isOpen := goodIn_r _ [16, 17, 18, 19, 4, 20, 21, 22, 23, 24, 1, 42, 43, 44, 45, 46, 47, 48, 49, 50, 51, 52, 53, 54, 55, 56] (by decide +kernel) (by decide +kernel)
set_option maxRecDepth 20000 in
theorem gX5_could_X5_isOpen : GoodIn wsX5_could (wsV RX5 101 RX5 yX5_isOpen wsX5_isOpen) := goodIn_app (goodIn_of _ (by decide +kernel)) ggX5_could_X5_isOpen
set_option maxRecDepth 20000 in
theorem ggX5_could_X5_voters : GoodIn wsX5_could wsX5_voters := goodIn_r _ [28, 21, 22, 23, 4, 24, 1, 42, 43, 44, 45, 46, 47, 48, 49, 50, 51, 52, 53, 54, 55, 56] (by decide +kernel) (by decide +kernel)
set_option maxRecDepth 20000 in
theorem gX5_could_X5_voters : GoodIn wsX5_could (wsV RX5 52 RX5 yX5_voters wsX5_voters) := goodIn_app (goodIn_of _ (by decide +kernel)) ggX5_could_X5_voters
set_option maxRecDepth 20000 in
theorem ggX5_could_X5_isIn : GoodIn wsX5_could wsX5_isIn := goodIn_r _ [31] (by decide +kernel) (by decide +kernel)
set_option maxRecDepth 20000 in
theorem gX5_could_X5_isIn : GoodIn wsX5_could (va_wsS RX5 82 yX5_isIn wsX5_isIn) := goodIn_app (goodIn_of _ (by decide +kernel)) ggX5_could_X5_isIn
set_option maxRecDepth 20000 in
theorem ggX5_could_X5_voteAt : GoodIn wsX5_could wsX5_voteAt := goodIn_r _ [34] (by decide +kernel) (by decide +kernel)
set_option maxRecDepth 20000 in
theorem gX5_could_X5_voteAt : GoodIn wsX5_could (va_wsS RX5 89 yX5_voteAt wsX5_voteAt) := goodIn_app (goodIn_of _ (by decide +kernel)) ggX5_could_X5_voteAt
set_option maxRecDepth 20000 in
theorem ggX5_could_X5_secondSize : GoodIn wsX5_could wsX5_secondSize := goodIn_r _ [38, 1, 25, 26, 27, 4, 28, 21, 22, 23, 24, 39, 40, 41, 42, 43, 44, 45, 46, 47, 48, 49, 50, 51, 52, 53, 54, 55, 56] (by decide +kernel) (by decide +kernel)
set_option maxRecDepth 20000 in
theorem gX5_could_X5_secondSize : GoodIn wsX5_could (wsV RX5 58 RX5 yX5_secondSize wsX5_secondSize) := goodIn_app (goodIn_of _ (by decide +kernel)) ggX5_could_X5_secondSize
theorem dX5_could_0 : decode cX5_could 0 = .ok (.iload_n 1, 1) := by decide +kernel
theorem dX5_could_1 : decode cX5_could 1 = .ok (.invokestatic 95, 3) := by decide +kernel
theorem dX5_could_4 : decode cX5_could 4 = .ok (.ifCond .eq 5, 3) := by decide +kernel
theorem dX5_could_7 : decode cX5_could 7 = .ok (.iconst (-1), 1) := by decide +kernel
theorem dX5_could_8 : decode cX5_could 8 = .ok (.ireturn, 1) := by decide +kernel
theorem dX5_could_9 : decode cX5_could 9 = .ok (.iload_n 2, 1) := by decide +kernel
theorem dX5_could_10 : decode cX5_could 10 = .ok (.iconst 1, 1) := by decide +kernel
theorem dX5_could_11 : decode cX5_could 11 = .ok (.sipush 999, 3) := by decide +kernel
theorem dX5_could_14 : decode cX5_could 14 = .ok (.invokestatic 33, 3) := by decide +kernel
theorem dX5_could_17 : decode cX5_could 17 = .ok (.ifCond .ne 6, 3) := by decide +kernel
theorem dX5_could_20 : decode cX5_could 20 = .ok (.bipush (-2), 2) := by decide +kernel
theorem dX5_could_22 : decode cX5_could 22 = .ok (.ireturn, 1) := by decide +kernel
theorem dX5_could_23 : decode cX5_could 23 = .ok (.aload_n 0, 1) := by decide +kernel
theorem dX5_could_24 : decode cX5_could 24 = .ok (.iload_n 1, 1) := by decide +kernel
theorem dX5_could_25 : decode cX5_could 25 = .ok (.invokevirtual 98, 3) := by decide +kernel
theorem dX5_could_28 : decode cX5_could 28 = .ok (.ifCond .ne 11, 3) := by decide +kernel
theorem dX5_could_31 : decode cX5_could 31 = .ok (.aload_n 0, 1) := by decide +kernel
theorem dX5_could_32 : decode cX5_could 32 = .ok (.iload_n 1, 1) := by decide +kernel
theorem dX5_could_33 : decode cX5_could 33 = .ok (.invokevirtual 101, 3) := by decide +kernel
theorem dX5_could_36 : decode cX5_could 36 = .ok (.ifCond .ne 6, 3) := by decide +kernel
theorem dX5_could_39 : decode cX5_could 39 = .ok (.bipush (-4), 2) := by decide +kernel
theorem dX5_could_41 : decode cX5_could 41 = .ok (.ireturn, 1) := by decide +kernel
theorem dX5_could_42 : decode cX5_could 42 = .ok (.iconst 0, 1) := by decide +kernel
theorem dX5_could_43 : decode cX5_could 43 = .ok (.istore_n 3, 1) := by decide +kernel
theorem dX5_could_44 : decode cX5_could 44 = .ok (.iconst 0, 1) := by decide +kernel
theorem dX5_could_45 : decode cX5_could 45 = .ok (.istore 4, 2) := by decide +kernel
theorem dX5_could_47 : decode cX5_could 47 = .ok (.iload 4, 2) := by decide +kernel
theorem dX5_could_49 : decode cX5_could 49 = .ok (.bipush 6, 2) := by decide +kernel
theorem dX5_could_51 : decode cX5_could 51 = .ok (.if_icmp .ge 59, 3) := by decide +kernel
theorem dX5_could_54 : decode cX5_could 54 = .ok (.iload_n 3, 1) := by decide +kernel
theorem dX5_could_55 : decode cX5_could 55 = .ok (.aload_n 0, 1) := by decide +kernel
theorem dX5_could_56 : decode cX5_could 56 = .ok (.iload_n 1, 1) := by decide +kernel
theorem dX5_could_57 : decode cX5_could 57 = .ok (.invokevirtual 52, 3) := by decide +kernel
theorem dX5_could_60 : decode cX5_could 60 = .ok (.iload 4, 2) := by decide +kernel
theorem dX5_could_62 : decode cX5_could 62 = .ok (.invokestatic 82, 3) := by decide +kernel
theorem dX5_could_65 : decode cX5_could 65 = .ok (.ifCond .eq 36, 3) := by decide +kernel
theorem dX5_could_68 : decode cX5_could 68 = .ok (.aload_n 0, 1) := by decide +kernel
theorem dX5_could_69 : decode cX5_could 69 = .ok (.getfield 7, 3) := by decide +kernel
theorem dX5_could_72 : decode cX5_could 72 = .ok (.iload 4, 2) := by decide +kernel
theorem dX5_could_74 : decode cX5_could 74 = .ok (.iload_n 1, 1) := by decide +kernel
theorem dX5_could_75 : decode cX5_could 75 = .ok (.invokestatic 89, 3) := by decide +kernel
theorem dX5_could_78 : decode cX5_could 78 = .ok (.iaload, 1) := by decide +kernel
theorem dX5_could_79 : decode cX5_could 79 = .ok (.iload_n 2, 1) := by decide +kernel
theorem dX5_could_80 : decode cX5_could 80 = .ok (.if_icmp .eq 17, 3) := by decide +kernel
theorem dX5_could_83 : decode cX5_could 83 = .ok (.aload_n 0, 1) := by decide +kernel
theorem dX5_could_84 : decode cX5_could 84 = .ok (.getfield 7, 3) := by decide +kernel
theorem dX5_could_87 : decode cX5_could 87 = .ok (.bipush 6, 2) := by decide +kernel
theorem dX5_could_89 : decode cX5_could 89 = .ok (.iload 4, 2) := by decide +kernel
theorem dX5_could_91 : decode cX5_could 91 = .ok (.iadd, 1) := by decide +kernel
theorem dX5_could_92 : decode cX5_could 92 = .ok (.iaload, 1) := by decide +kernel
theorem dX5_could_93 : decode cX5_could 93 = .ok (.iload_n 2, 1) := by decide +kernel
theorem dX5_could_94 : decode cX5_could 94 = .ok (.if_icmp .gt 7, 3) := by decide +kernel
theorem dX5_could_97 : decode cX5_could 97 = .ok (.iconst 1, 1) := by decide +kernel
theorem dX5_could_98 : decode cX5_could 98 = .ok (.goto 4, 3) := by decide +kernel
theorem dX5_could_101 : decode cX5_could 101 = .ok (.iconst 0, 1) := by decide +kernel
theorem dX5_could_102 : decode cX5_could 102 = .ok (.iadd, 1) := by decide +kernel
theorem dX5_could_103 : decode cX5_could 103 = .ok (.istore_n 3, 1) := by decide +kernel
theorem dX5_could_104 : decode cX5_could 104 = .ok (.iinc 4 1, 3) := by decide +kernel
theorem dX5_could_107 : decode cX5_could 107 = .ok (.goto (-60), 3) := by decide +kernel
theorem dX5_could_110 : decode cX5_could 110 = .ok (.iload_n 3, 1) := by decide +kernel
theorem dX5_could_111 : decode cX5_could 111 = .ok (.aload_n 0, 1) := by decide +kernel
theorem dX5_could_112 : decode cX5_could 112 = .ok (.iload_n 1, 1) := by decide +kernel
theorem dX5_could_113 : decode cX5_could 113 = .ok (.invokevirtual 58, 3) := by decide +kernel
theorem dX5_could_116 : decode cX5_could 116 = .ok (.if_icmp .lt 7, 3) := by decide +kernel
theorem dX5_could_119 : decode cX5_could 119 = .ok (.iconst 1, 1) := by decide +kernel
theorem dX5_could_120 : decode cX5_could 120 = .ok (.goto 4, 3) := by decide +kernel
theorem dX5_could_123 : decode cX5_could 123 = .ok (.iconst 0, 1) := by decide +kernel
theorem dX5_could_124 : decode cX5_could 124 = .ok (.ireturn, 1) := by decide +kernel
set_option maxRecDepth 20000 in
theorem ggX5_witness_X5_in : GoodIn wsX5_witness wsX5_in := goodIn_r _ [4] (by decide +kernel) (by decide +kernel)
set_option maxRecDepth 20000 in
theorem gX5_witness_X5_in : GoodIn wsX5_witness (va_wsS RX5 33 yX5_in wsX5_in) := goodIn_app (goodIn_of _ (by decide +kernel)) ggX5_witness_X5_in
set_option maxRecDepth 20000 in
theorem ggX5_witness_X5_bits : GoodIn wsX5_witness wsX5_bits := goodIn_r _ [7] (by decide +kernel) (by decide +kernel)
set_option maxRecDepth 20000 in
theorem gX5_witness_X5_bits : GoodIn wsX5_witness (va_wsS RX5 55 yX5_bits wsX5_bits) := goodIn_app (goodIn_of _ (by decide +kernel)) ggX5_witness_X5_bits
set_option maxRecDepth 20000 in
theorem ggX5_witness_X5_isIn : GoodIn wsX5_witness wsX5_isIn := goodIn_r _ [10] (by decide +kernel) (by decide +kernel)
set_option maxRecDepth 20000 in
theorem gX5_witness_X5_isIn : GoodIn wsX5_witness (va_wsS RX5 82 yX5_isIn wsX5_isIn) := goodIn_app (goodIn_of _ (by decide +kernel)) ggX5_witness_X5_isIn
theorem dX5_witness_0 : decode cX5_witness 0 = .ok (.iload_n 1, 1) := by decide +kernel
theorem dX5_witness_1 : decode cX5_witness 1 = .ok (.iconst 1, 1) := by decide +kernel
theorem dX5_witness_2 : decode cX5_witness 2 = .ok (.bipush 63, 2) := by decide +kernel
theorem dX5_witness_4 : decode cX5_witness 4 = .ok (.invokestatic 33, 3) := by decide +kernel
theorem dX5_witness_7 : decode cX5_witness 7 = .ok (.ifCond .eq 33, 3) := by decide +kernel
theorem dX5_witness_10 : decode cX5_witness 10 = .ok (.iload_n 2, 1) := by decide +kernel
theorem dX5_witness_11 : decode cX5_witness 11 = .ok (.iconst 1, 1) := by decide +kernel
theorem dX5_witness_12 : decode cX5_witness 12 = .ok (.bipush 6, 2) := by decide +kernel
theorem dX5_witness_14 : decode cX5_witness 14 = .ok (.invokestatic 33, 3) := by decide +kernel
theorem dX5_witness_17 : decode cX5_witness 17 = .ok (.ifCond .eq 23, 3) := by decide +kernel
theorem dX5_witness_20 : decode cX5_witness 20 = .ok (.iload_n 3, 1) := by decide +kernel
theorem dX5_witness_21 : decode cX5_witness 21 = .ok (.iconst 1, 1) := by decide +kernel
theorem dX5_witness_22 : decode cX5_witness 22 = .ok (.bipush 6, 2) := by decide +kernel
theorem dX5_witness_24 : decode cX5_witness 24 = .ok (.invokestatic 33, 3) := by decide +kernel
theorem dX5_witness_27 : decode cX5_witness 27 = .ok (.ifCond .eq 13, 3) := by decide +kernel
theorem dX5_witness_30 : decode cX5_witness 30 = .ok (.iload 4, 2) := by decide +kernel
theorem dX5_witness_32 : decode cX5_witness 32 = .ok (.iconst 0, 1) := by decide +kernel
theorem dX5_witness_33 : decode cX5_witness 33 = .ok (.iconst 1, 1) := by decide +kernel
theorem dX5_witness_34 : decode cX5_witness 34 = .ok (.invokestatic 33, 3) := by decide +kernel
theorem dX5_witness_37 : decode cX5_witness 37 = .ok (.ifCond .ne 6, 3) := by decide +kernel
theorem dX5_witness_40 : decode cX5_witness 40 = .ok (.bipush (-2), 2) := by decide +kernel
theorem dX5_witness_42 : decode cX5_witness 42 = .ok (.ireturn, 1) := by decide +kernel
theorem dX5_witness_43 : decode cX5_witness 43 = .ok (.iload_n 2, 1) := by decide +kernel
theorem dX5_witness_44 : decode cX5_witness 44 = .ok (.iload_n 3, 1) := by decide +kernel
theorem dX5_witness_45 : decode cX5_witness 45 = .ok (.iadd, 1) := by decide +kernel
theorem dX5_witness_46 : decode cX5_witness 46 = .ok (.iload_n 1, 1) := by decide +kernel
theorem dX5_witness_47 : decode cX5_witness 47 = .ok (.invokestatic 55, 3) := by decide +kernel
theorem dX5_witness_50 : decode cX5_witness 50 = .ok (.if_icmp .le 6, 3) := by decide +kernel
theorem dX5_witness_53 : decode cX5_witness 53 = .ok (.bipush (-5), 2) := by decide +kernel
theorem dX5_witness_55 : decode cX5_witness 55 = .ok (.ireturn, 1) := by decide +kernel
theorem dX5_witness_56 : decode cX5_witness 56 = .ok (.iconst 0, 1) := by decide +kernel
theorem dX5_witness_57 : decode cX5_witness 57 = .ok (.istore 5, 2) := by decide +kernel
theorem dX5_witness_59 : decode cX5_witness 59 = .ok (.iconst 0, 1) := by decide +kernel
theorem dX5_witness_60 : decode cX5_witness 60 = .ok (.istore 6, 2) := by decide +kernel
theorem dX5_witness_62 : decode cX5_witness 62 = .ok (.iconst 0, 1) := by decide +kernel
theorem dX5_witness_63 : decode cX5_witness 63 = .ok (.istore 7, 2) := by decide +kernel
theorem dX5_witness_65 : decode cX5_witness 65 = .ok (.iload 7, 2) := by decide +kernel
theorem dX5_witness_67 : decode cX5_witness 67 = .ok (.bipush 6, 2) := by decide +kernel
theorem dX5_witness_69 : decode cX5_witness 69 = .ok (.if_icmp .ge 66, 3) := by decide +kernel
theorem dX5_witness_72 : decode cX5_witness 72 = .ok (.iload_n 1, 1) := by decide +kernel
theorem dX5_witness_73 : decode cX5_witness 73 = .ok (.iload 7, 2) := by decide +kernel
theorem dX5_witness_75 : decode cX5_witness 75 = .ok (.invokestatic 82, 3) := by decide +kernel
theorem dX5_witness_78 : decode cX5_witness 78 = .ok (.ifCond .eq 24, 3) := by decide +kernel
theorem dX5_witness_81 : decode cX5_witness 81 = .ok (.iload 5, 2) := by decide +kernel
theorem dX5_witness_83 : decode cX5_witness 83 = .ok (.invokestatic 55, 3) := by decide +kernel
theorem dX5_witness_86 : decode cX5_witness 86 = .ok (.iload_n 2, 1) := by decide +kernel
theorem dX5_witness_87 : decode cX5_witness 87 = .ok (.if_icmp .ge 15, 3) := by decide +kernel
theorem dX5_witness_90 : decode cX5_witness 90 = .ok (.iload 5, 2) := by decide +kernel
theorem dX5_witness_92 : decode cX5_witness 92 = .ok (.iconst 1, 1) := by decide +kernel
theorem dX5_witness_93 : decode cX5_witness 93 = .ok (.iload 7, 2) := by decide +kernel
theorem dX5_witness_95 : decode cX5_witness 95 = .ok (.ishl, 1) := by decide +kernel
theorem dX5_witness_96 : decode cX5_witness 96 = .ok (.ior, 1) := by decide +kernel
theorem dX5_witness_97 : decode cX5_witness 97 = .ok (.istore 5, 2) := by decide +kernel
theorem dX5_witness_99 : decode cX5_witness 99 = .ok (.goto 30, 3) := by decide +kernel
theorem dX5_witness_102 : decode cX5_witness 102 = .ok (.iload_n 1, 1) := by decide +kernel
theorem dX5_witness_103 : decode cX5_witness 103 = .ok (.iload 7, 2) := by decide +kernel
theorem dX5_witness_105 : decode cX5_witness 105 = .ok (.invokestatic 82, 3) := by decide +kernel
theorem dX5_witness_108 : decode cX5_witness 108 = .ok (.ifCond .eq 21, 3) := by decide +kernel
theorem dX5_witness_111 : decode cX5_witness 111 = .ok (.iload 6, 2) := by decide +kernel
theorem dX5_witness_113 : decode cX5_witness 113 = .ok (.invokestatic 55, 3) := by decide +kernel
theorem dX5_witness_116 : decode cX5_witness 116 = .ok (.iload_n 3, 1) := by decide +kernel
theorem dX5_witness_117 : decode cX5_witness 117 = .ok (.if_icmp .ge 12, 3) := by decide +kernel
theorem dX5_witness_120 : decode cX5_witness 120 = .ok (.iload 6, 2) := by decide +kernel
theorem dX5_witness_122 : decode cX5_witness 122 = .ok (.iconst 1, 1) := by decide +kernel
theorem dX5_witness_123 : decode cX5_witness 123 = .ok (.iload 7, 2) := by decide +kernel
theorem dX5_witness_125 : decode cX5_witness 125 = .ok (.ishl, 1) := by decide +kernel
theorem dX5_witness_126 : decode cX5_witness 126 = .ok (.ior, 1) := by decide +kernel
theorem dX5_witness_127 : decode cX5_witness 127 = .ok (.istore 6, 2) := by decide +kernel
theorem dX5_witness_129 : decode cX5_witness 129 = .ok (.iinc 7 1, 3) := by decide +kernel
theorem dX5_witness_132 : decode cX5_witness 132 = .ok (.goto (-67), 3) := by decide +kernel
theorem dX5_witness_135 : decode cX5_witness 135 = .ok (.iload 4, 2) := by decide +kernel
theorem dX5_witness_137 : decode cX5_witness 137 = .ok (.ifCond .ne 8, 3) := by decide +kernel
theorem dX5_witness_140 : decode cX5_witness 140 = .ok (.iload 5, 2) := by decide +kernel
theorem dX5_witness_142 : decode cX5_witness 142 = .ok (.goto 5, 3) := by decide +kernel
theorem dX5_witness_145 : decode cX5_witness 145 = .ok (.iload 6, 2) := by decide +kernel
theorem dX5_witness_147 : decode cX5_witness 147 = .ok (.ireturn, 1) := by decide +kernel
set_option maxRecDepth 20000 in
theorem ggX5_slots_X5_chosen : GoodIn wsX5_slots wsX5_chosen := goodIn_r _ [5, 6, 7, 8, 9, 10, 11, 12, 13, 14, 15, 16, 17, 18, 19, 20, 21] (by decide +kernel) (by decide +kernel)
set_option maxRecDepth 20000 in
theorem gX5_slots_X5_chosen : GoodIn wsX5_slots (wsV RX5 44 RX5 yX5_chosen wsX5_chosen) := goodIn_app (goodIn_of _ (by decide +kernel)) ggX5_slots_X5_chosen
theorem dX5_slots_0 : decode cX5_slots 0 = .ok (.iconst 0, 1) := by decide +kernel
theorem dX5_slots_1 : decode cX5_slots 1 = .ok (.istore_n 2, 1) := by decide +kernel
theorem dX5_slots_2 : decode cX5_slots 2 = .ok (.iconst 1, 1) := by decide +kernel
theorem dX5_slots_3 : decode cX5_slots 3 = .ok (.istore_n 3, 1) := by decide +kernel
theorem dX5_slots_4 : decode cX5_slots 4 = .ok (.iload_n 3, 1) := by decide +kernel
theorem dX5_slots_5 : decode cX5_slots 5 = .ok (.bipush 16, 2) := by decide +kernel
theorem dX5_slots_7 : decode cX5_slots 7 = .ok (.if_icmp .gt 35, 3) := by decide +kernel
theorem dX5_slots_10 : decode cX5_slots 10 = .ok (.iload_n 2, 1) := by decide +kernel
theorem dX5_slots_11 : decode cX5_slots 11 = .ok (.aload_n 0, 1) := by decide +kernel
theorem dX5_slots_12 : decode cX5_slots 12 = .ok (.iload_n 3, 1) := by decide +kernel
theorem dX5_slots_13 : decode cX5_slots 13 = .ok (.invokevirtual 44, 3) := by decide +kernel
theorem dX5_slots_16 : decode cX5_slots 16 = .ok (.iload_n 1, 1) := by decide +kernel
theorem dX5_slots_17 : decode cX5_slots 17 = .ok (.ifCond .ne 7, 3) := by decide +kernel
theorem dX5_slots_20 : decode cX5_slots 20 = .ok (.iconst 0, 1) := by decide +kernel
theorem dX5_slots_21 : decode cX5_slots 21 = .ok (.goto 5, 3) := by decide +kernel
theorem dX5_slots_24 : decode cX5_slots 24 = .ok (.bipush 100, 2) := by decide +kernel
theorem dX5_slots_26 : decode cX5_slots 26 = .ok (.if_icmp .le 7, 3) := by decide +kernel
theorem dX5_slots_29 : decode cX5_slots 29 = .ok (.iconst 1, 1) := by decide +kernel
theorem dX5_slots_30 : decode cX5_slots 30 = .ok (.goto 4, 3) := by decide +kernel
theorem dX5_slots_33 : decode cX5_slots 33 = .ok (.iconst 0, 1) := by decide +kernel
theorem dX5_slots_34 : decode cX5_slots 34 = .ok (.iadd, 1) := by decide +kernel
theorem dX5_slots_35 : decode cX5_slots 35 = .ok (.istore_n 2, 1) := by decide +kernel
theorem dX5_slots_36 : decode cX5_slots 36 = .ok (.iinc 3 1, 3) := by decide +kernel
theorem dX5_slots_39 : decode cX5_slots 39 = .ok (.goto (-35), 3) := by decide +kernel
theorem dX5_slots_42 : decode cX5_slots 42 = .ok (.iload_n 2, 1) := by decide +kernel
theorem dX5_slots_43 : decode cX5_slots 43 = .ok (.ireturn, 1) := by decide +kernel
set_option maxRecDepth 20000 in
theorem ggX5_count_X5_prefix : GoodIn wsX5_count wsX5_prefix := goodIn_r _ [8, 9, 10, 11, 7, 12, 1, 21, 22, 23, 24, 25, 26, 27, 28, 29, 30, 31, 32, 33, 34, 35] (by decide +kernel) (by decide +kernel)
set_option maxRecDepth 20000 in
theorem gX5_count_X5_prefix : GoodIn wsX5_count (wsV RX5 48 RX5 yX5_prefix wsX5_prefix) := goodIn_app (goodIn_of _ (by decide +kernel)) ggX5_count_X5_prefix
set_option maxRecDepth 20000 in
theorem ggX5_count_X5_slots : GoodIn wsX5_count wsX5_slots := goodIn_r _ [16, 9, 10, 11, 7, 12, 1, 21, 22, 23, 24, 25, 26, 27, 28, 29, 30, 31, 32, 33, 34, 35] (by decide +kernel) (by decide +kernel)
set_option maxRecDepth 20000 in
theorem gX5_count_X5_slots : GoodIn wsX5_count (wsV RX5 170 RX5 yX5_slots wsX5_slots) := goodIn_app (goodIn_of _ (by decide +kernel)) ggX5_count_X5_slots
set_option maxRecDepth 20000 in
theorem ggX5_count_X5_ups : GoodIn wsX5_count wsX5_ups := goodIn_r _ [20, 1, 21, 22, 23, 24, 25, 26, 27, 28, 29, 30, 31, 32, 33, 34, 35] (by decide +kernel) (by decide +kernel)
set_option maxRecDepth 20000 in
theorem gX5_count_X5_ups : GoodIn wsX5_count (wsV RX5 68 RX5 yX5_ups wsX5_ups) := goodIn_app (goodIn_of _ (by decide +kernel)) ggX5_count_X5_ups
theorem dX5_count_0 : decode cX5_count 0 = .ok (.iload_n 1, 1) := by decide +kernel
theorem dX5_count_1 : decode cX5_count 1 = .ok (.tableswitch 150 0 10 #[59, 64, 70, 79, 88, 93, 116, 125, 134, 140, 145], 59) := by decide +kernel
theorem dX5_count_60 : decode cX5_count 60 = .ok (.aload_n 0, 1) := by decide +kernel
theorem dX5_count_61 : decode cX5_count 61 = .ok (.invokevirtual 48, 3) := by decide +kernel
theorem dX5_count_64 : decode cX5_count 64 = .ok (.ireturn, 1) := by decide +kernel
theorem dX5_count_65 : decode cX5_count 65 = .ok (.aload_n 0, 1) := by decide +kernel
theorem dX5_count_66 : decode cX5_count 66 = .ok (.iconst 0, 1) := by decide +kernel
theorem dX5_count_67 : decode cX5_count 67 = .ok (.invokevirtual 170, 3) := by decide +kernel
theorem dX5_count_70 : decode cX5_count 70 = .ok (.ireturn, 1) := by decide +kernel
theorem dX5_count_71 : decode cX5_count 71 = .ok (.aload_n 0, 1) := by decide +kernel
theorem dX5_count_72 : decode cX5_count 72 = .ok (.getfield 7, 3) := by decide +kernel
theorem dX5_count_75 : decode cX5_count 75 = .ok (.sipush 869, 3) := by decide +kernel
theorem dX5_count_78 : decode cX5_count 78 = .ok (.iaload, 1) := by decide +kernel
theorem dX5_count_79 : decode cX5_count 79 = .ok (.ireturn, 1) := by decide +kernel
theorem dX5_count_80 : decode cX5_count 80 = .ok (.aload_n 0, 1) := by decide +kernel
theorem dX5_count_81 : decode cX5_count 81 = .ok (.getfield 7, 3) := by decide +kernel
theorem dX5_count_84 : decode cX5_count 84 = .ok (.sipush 870, 3) := by decide +kernel
theorem dX5_count_87 : decode cX5_count 87 = .ok (.iaload, 1) := by decide +kernel
theorem dX5_count_88 : decode cX5_count 88 = .ok (.ireturn, 1) := by decide +kernel
theorem dX5_count_89 : decode cX5_count 89 = .ok (.aload_n 0, 1) := by decide +kernel
theorem dX5_count_90 : decode cX5_count 90 = .ok (.invokevirtual 68, 3) := by decide +kernel
theorem dX5_count_93 : decode cX5_count 93 = .ok (.ireturn, 1) := by decide +kernel
theorem dX5_count_94 : decode cX5_count 94 = .ok (.aload_n 0, 1) := by decide +kernel
theorem dX5_count_95 : decode cX5_count 95 = .ok (.invokevirtual 48, 3) := by decide +kernel
theorem dX5_count_98 : decode cX5_count 98 = .ok (.iconst 3, 1) := by decide +kernel
theorem dX5_count_99 : decode cX5_count 99 = .ok (.iadd, 1) := by decide +kernel
theorem dX5_count_100 : decode cX5_count 100 = .ok (.bipush 16, 2) := by decide +kernel
theorem dX5_count_102 : decode cX5_count 102 = .ok (.if_icmp .ge 12, 3) := by decide +kernel
theorem dX5_count_105 : decode cX5_count 105 = .ok (.aload_n 0, 1) := by decide +kernel
theorem dX5_count_106 : decode cX5_count 106 = .ok (.invokevirtual 48, 3) := by decide +kernel
theorem dX5_count_109 : decode cX5_count 109 = .ok (.iconst 3, 1) := by decide +kernel
theorem dX5_count_110 : decode cX5_count 110 = .ok (.iadd, 1) := by decide +kernel
theorem dX5_count_111 : decode cX5_count 111 = .ok (.goto 5, 3) := by decide +kernel
theorem dX5_count_114 : decode cX5_count 114 = .ok (.bipush 16, 2) := by decide +kernel
theorem dX5_count_116 : decode cX5_count 116 = .ok (.ireturn, 1) := by decide +kernel
theorem dX5_count_117 : decode cX5_count 117 = .ok (.aload_n 0, 1) := by decide +kernel
theorem dX5_count_118 : decode cX5_count 118 = .ok (.getfield 7, 3) := by decide +kernel
theorem dX5_count_121 : decode cX5_count 121 = .ok (.sipush 871, 3) := by decide +kernel
theorem dX5_count_124 : decode cX5_count 124 = .ok (.iaload, 1) := by decide +kernel
theorem dX5_count_125 : decode cX5_count 125 = .ok (.ireturn, 1) := by decide +kernel
theorem dX5_count_126 : decode cX5_count 126 = .ok (.aload_n 0, 1) := by decide +kernel
theorem dX5_count_127 : decode cX5_count 127 = .ok (.getfield 7, 3) := by decide +kernel
theorem dX5_count_130 : decode cX5_count 130 = .ok (.sipush 872, 3) := by decide +kernel
theorem dX5_count_133 : decode cX5_count 133 = .ok (.iaload, 1) := by decide +kernel
theorem dX5_count_134 : decode cX5_count 134 = .ok (.ireturn, 1) := by decide +kernel
theorem dX5_count_135 : decode cX5_count 135 = .ok (.aload_n 0, 1) := by decide +kernel
theorem dX5_count_136 : decode cX5_count 136 = .ok (.iconst 1, 1) := by decide +kernel
theorem dX5_count_137 : decode cX5_count 137 = .ok (.invokevirtual 170, 3) := by decide +kernel
theorem dX5_count_140 : decode cX5_count 140 = .ok (.ireturn, 1) := by decide +kernel
theorem dX5_count_141 : decode cX5_count 141 = .ok (.aload_n 0, 1) := by decide +kernel
theorem dX5_count_142 : decode cX5_count 142 = .ok (.getfield 41, 3) := by decide +kernel
theorem dX5_count_145 : decode cX5_count 145 = .ok (.ireturn, 1) := by decide +kernel
theorem dX5_count_146 : decode cX5_count 146 = .ok (.aload_n 0, 1) := by decide +kernel
theorem dX5_count_147 : decode cX5_count 147 = .ok (.getfield 110, 3) := by decide +kernel
theorem dX5_count_150 : decode cX5_count 150 = .ok (.ireturn, 1) := by decide +kernel
theorem dX5_count_151 : decode cX5_count 151 = .ok (.bipush (-2), 2) := by decide +kernel
theorem dX5_count_153 : decode cX5_count 153 = .ok (.ireturn, 1) := by decide +kernel
