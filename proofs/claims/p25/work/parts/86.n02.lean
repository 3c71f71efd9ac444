/-! names of the law -/
theorem dL_digest_217 : decode cL_digest 217 = .ok (.lmul, 1) := by decide +kernel
theorem dL_digest_218 : decode cL_digest 218 = .ok (.ladd, 1) := by decide +kernel
theorem dL_digest_219 : decode cL_digest 219 = .ok (.aload_n 0, 1) := by decide +kernel
theorem dL_digest_220 : decode cL_digest 220 = .ok (.iload_n 3, 1) := by decide +kernel
theorem dL_digest_221 : decode cL_digest 221 = .ok (.iconst 1, 1) := by decide +kernel
theorem dL_digest_222 : decode cL_digest 222 = .ok (.invokevirtual 35, 3) := by decide +kernel
theorem dL_digest_225 : decode cL_digest 225 = .ok (.i2l, 1) := by decide +kernel
theorem dL_digest_226 : decode cL_digest 226 = .ok (.ladd, 1) := by decide +kernel
theorem dL_digest_227 : decode cL_digest 227 = .ok (.lstore_n 1, 1) := by decide +kernel
theorem dL_digest_228 : decode cL_digest 228 = .ok (.iinc 3 1, 3) := by decide +kernel
theorem dL_digest_231 : decode cL_digest 231 = .ok (.goto (-35), 3) := by decide +kernel
theorem dL_digest_234 : decode cL_digest 234 = .ok (.lload_n 1, 1) := by decide +kernel
theorem dL_digest_235 : decode cL_digest 235 = .ok (.lreturn, 1) := by decide +kernel
set_option maxRecDepth 20000 in
theorem ggL_slots_X4_count : GoodIn wsL_slots wsX4_count := goodIn_r _ [5, 6, 7, 8, 9, 10, 11, 12, 13, 14, 15, 16, 17, 18, 19, 20, 21, 22, 23, 24, 25, 26, 27, 28, 29, 98, 99, 100, 101, 102, 103, 104, 105, 106, 107, 108, 109, 110, 111, 112, 113, 114, 115, 116, 117, 118, 119, 120, 121, 122, 123, 124, 125, 126, 127, 128] (by decide +kernel) (by decide +kernel)
set_option maxRecDepth 20000 in
theorem gL_slots_X4_count : GoodIn wsL_slots (wsV RL 13 RX4 yX4_count wsX4_count) := goodIn_app (goodIn_of _ (by decide +kernel)) ggL_slots_X4_count
set_option maxRecDepth 20000 in
theorem ggL_slots_X4_slot : GoodIn wsL_slots wsX4_slot := goodIn_r _ [33, 6, 34, 35, 7, 36, 37, 4, 38, 39, 40, 41, 42, 43, 44, 23, 45, 46, 21, 22, 24, 25, 47, 48, 49, 50, 51, 52, 53, 54, 55, 56, 57, 58, 59, 60, 61, 62, 63, 64, 65, 66, 67, 11, 12, 13, 68, 98, 99, 100, 101, 102, 103, 104, 105, 106, 107, 108, 109, 110, 111, 112, 113, 114, 115, 116, 117, 118, 119, 120, 121, 122, 123] (by decide +kernel) (by decide +kernel)
set_option maxRecDepth 20000 in
theorem gL_slots_X4_slot : GoodIn wsL_slots (wsV RL 35 RX4 yX4_slot wsX4_slot) := goodIn_app (goodIn_of _ (by decide +kernel)) ggL_slots_X4_slot
set_option maxRecDepth 20000 in
theorem ggL_slots_L_bits : GoodIn wsL_slots wsL_bits := goodIn_r _ [72] (by decide +kernel) (by decide +kernel)
set_option maxRecDepth 20000 in
theorem gL_slots_L_bits : GoodIn wsL_slots (va_wsS RL 38 yL_bits wsL_bits) := goodIn_app (goodIn_of _ (by decide +kernel)) ggL_slots_L_bits
set_option maxRecDepth 20000 in
theorem ggL_slots_X4_voted : GoodIn wsL_slots wsX4_voted := goodIn_r _ [76, 6, 77, 78, 79, 80, 4, 81, 36, 37, 38, 82, 83, 84, 98, 99, 100, 101, 102, 103, 104, 105, 106, 107, 108, 109, 110, 111, 112, 113, 114, 115, 116, 117, 118, 119, 120, 121, 122, 123] (by decide +kernel) (by decide +kernel)
set_option maxRecDepth 20000 in
theorem gL_slots_X4_voted : GoodIn wsL_slots (wsV RL 25 RX4 yX4_voted wsX4_voted) := goodIn_app (goodIn_of _ (by decide +kernel)) ggL_slots_X4_voted
set_option maxRecDepth 20000 in
theorem ggL_slots_X4_acceptor : GoodIn wsL_slots wsX4_acceptor := goodIn_r _ [88, 6, 9, 89, 79, 80, 4, 81, 90, 91, 92, 93, 94, 95, 23, 96, 97, 83, 84, 98, 99, 100, 101, 102, 103, 104, 105, 106, 107, 108, 109, 110, 111, 112, 113, 114, 115, 116, 117, 118, 119, 120, 121, 122, 123] (by decide +kernel) (by decide +kernel)
set_option maxRecDepth 20000 in
theorem gL_slots_X4_acceptor : GoodIn wsL_slots (wsV RL 19 RX4 yX4_acceptor wsX4_acceptor) := goodIn_app (goodIn_of _ (by decide +kernel)) ggL_slots_X4_acceptor
theorem dL_slots_0 : decode cL_slots 0 = .ok (.aload_n 0, 1) := by decide +kernel
theorem dL_slots_1 : decode cL_slots 1 = .ok (.iconst 0, 1) := by decide +kernel
theorem dL_slots_2 : decode cL_slots 2 = .ok (.invokevirtual 13, 3) := by decide +kernel
theorem dL_slots_5 : decode cL_slots 5 = .ok (.istore_n 1, 1) := by decide +kernel
theorem dL_slots_6 : decode cL_slots 6 = .ok (.iconst 0, 1) := by decide +kernel
theorem dL_slots_7 : decode cL_slots 7 = .ok (.istore_n 2, 1) := by decide +kernel
theorem dL_slots_8 : decode cL_slots 8 = .ok (.iconst 0, 1) := by decide +kernel
theorem dL_slots_9 : decode cL_slots 9 = .ok (.istore_n 3, 1) := by decide +kernel
theorem dL_slots_10 : decode cL_slots 10 = .ok (.aload_n 0, 1) := by decide +kernel
theorem dL_slots_11 : decode cL_slots 11 = .ok (.iconst 3, 1) := by decide +kernel
theorem dL_slots_12 : decode cL_slots 12 = .ok (.invokevirtual 13, 3) := by decide +kernel
theorem dL_slots_15 : decode cL_slots 15 = .ok (.istore 4, 2) := by decide +kernel
theorem dL_slots_17 : decode cL_slots 17 = .ok (.iconst 1, 1) := by decide +kernel
theorem dL_slots_18 : decode cL_slots 18 = .ok (.istore 5, 2) := by decide +kernel
theorem dL_slots_20 : decode cL_slots 20 = .ok (.bipush 7, 2) := by decide +kernel
theorem dL_slots_22 : decode cL_slots 22 = .ok (.istore 6, 2) := by decide +kernel
theorem dL_slots_24 : decode cL_slots 24 = .ok (.iconst 1, 1) := by decide +kernel
theorem dL_slots_25 : decode cL_slots 25 = .ok (.istore 7, 2) := by decide +kernel
theorem dL_slots_27 : decode cL_slots 27 = .ok (.iload 7, 2) := by decide +kernel
theorem dL_slots_29 : decode cL_slots 29 = .ok (.bipush 17, 2) := by decide +kernel
theorem dL_slots_31 : decode cL_slots 31 = .ok (.if_icmp .ge 425, 3) := by decide +kernel
theorem dL_slots_34 : decode cL_slots 34 = .ok (.aload_n 0, 1) := by decide +kernel
theorem dL_slots_35 : decode cL_slots 35 = .ok (.iload 7, 2) := by decide +kernel
theorem dL_slots_37 : decode cL_slots 37 = .ok (.iconst 0, 1) := by decide +kernel
theorem dL_slots_38 : decode cL_slots 38 = .ok (.invokevirtual 35, 3) := by decide +kernel
theorem dL_slots_41 : decode cL_slots 41 = .ok (.istore 8, 2) := by decide +kernel
theorem dL_slots_43 : decode cL_slots 43 = .ok (.iload 7, 2) := by decide +kernel
theorem dL_slots_45 : decode cL_slots 45 = .ok (.iload_n 1, 1) := by decide +kernel
theorem dL_slots_46 : decode cL_slots 46 = .ok (.iconst 3, 1) := by decide +kernel
theorem dL_slots_47 : decode cL_slots 47 = .ok (.iadd, 1) := by decide +kernel
theorem dL_slots_48 : decode cL_slots 48 = .ok (.if_icmp .gt 7, 3) := by decide +kernel
theorem dL_slots_51 : decode cL_slots 51 = .ok (.iconst 1, 1) := by decide +kernel
theorem dL_slots_52 : decode cL_slots 52 = .ok (.goto 4, 3) := by decide +kernel
theorem dL_slots_55 : decode cL_slots 55 = .ok (.iconst 0, 1) := by decide +kernel
theorem dL_slots_56 : decode cL_slots 56 = .ok (.istore 9, 2) := by decide +kernel
theorem dL_slots_58 : decode cL_slots 58 = .ok (.iload 7, 2) := by decide +kernel
theorem dL_slots_60 : decode cL_slots 60 = .ok (.iconst 3, 1) := by decide +kernel
theorem dL_slots_61 : decode cL_slots 61 = .ok (.if_icmp .le 31, 3) := by decide +kernel
theorem dL_slots_64 : decode cL_slots 64 = .ok (.aload_n 0, 1) := by decide +kernel
theorem dL_slots_65 : decode cL_slots 65 = .ok (.iload 7, 2) := by decide +kernel
theorem dL_slots_67 : decode cL_slots 67 = .ok (.iconst 3, 1) := by decide +kernel
theorem dL_slots_68 : decode cL_slots 68 = .ok (.isub, 1) := by decide +kernel
theorem dL_slots_69 : decode cL_slots 69 = .ok (.iconst 0, 1) := by decide +kernel
theorem dL_slots_70 : decode cL_slots 70 = .ok (.invokevirtual 35, 3) := by decide +kernel
theorem dL_slots_73 : decode cL_slots 73 = .ok (.bipush 100, 2) := by decide +kernel
theorem dL_slots_75 : decode cL_slots 75 = .ok (.if_icmp .le 17, 3) := by decide +kernel
theorem dL_slots_78 : decode cL_slots 78 = .ok (.aload_n 0, 1) := by decide +kernel
theorem dL_slots_79 : decode cL_slots 79 = .ok (.iload 7, 2) := by decide +kernel
theorem dL_slots_81 : decode cL_slots 81 = .ok (.iconst 3, 1) := by decide +kernel
theorem dL_slots_82 : decode cL_slots 82 = .ok (.isub, 1) := by decide +kernel
theorem dL_slots_83 : decode cL_slots 83 = .ok (.iconst 0, 1) := by decide +kernel
theorem dL_slots_84 : decode cL_slots 84 = .ok (.invokevirtual 35, 3) := by decide +kernel
