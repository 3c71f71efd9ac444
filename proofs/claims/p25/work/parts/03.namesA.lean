set_option maxRecDepth 20000 in
theorem ggX0_init_X2_init : GoodIn wsX0_init wsX2_init := goodIn_r _ [9, 10, 2, 3, 11, 12, 13, 14, 15, 16, 17, 18, 19, 20, 21, 22, 23, 24, 28, 29, 30, 31, 32, 33, 34, 35, 36, 37, 38, 39, 40, 41, 42, 43] (by decide +kernel) (by decide +kernel)
set_option maxRecDepth 20000 in
theorem gX0_init_X2_init_n17 : GoodIn wsX0_init (wsX2_init) := ggX0_init_X2_init
theorem dX0_init_0 : decode cX0_init 0 = .ok (.aload_n 0, 1) := by decide +kernel
theorem dX0_init_1 : decode cX0_init 1 = .ok (.invokespecial 5, 3) := by decide +kernel
theorem dX0_init_4 : decode cX0_init 4 = .ok (.aload_n 0, 1) := by decide +kernel
theorem dX0_init_5 : decode cX0_init 5 = .ok (.iconst 5, 1) := by decide +kernel
theorem dX0_init_6 : decode cX0_init 6 = .ok (.anewarray 11, 3) := by decide +kernel
theorem dX0_init_9 : decode cX0_init 9 = .ok (.putfield 13, 3) := by decide +kernel
theorem dX0_init_12 : decode cX0_init 12 = .ok (.iconst 0, 1) := by decide +kernel
theorem dX0_init_13 : decode cX0_init 13 = .ok (.istore_n 1, 1) := by decide +kernel
theorem dX0_init_14 : decode cX0_init 14 = .ok (.iload_n 1, 1) := by decide +kernel
theorem dX0_init_15 : decode cX0_init 15 = .ok (.iconst 5, 1) := by decide +kernel
theorem dX0_init_16 : decode cX0_init 16 = .ok (.if_icmp .ge 22, 3) := by decide +kernel
theorem dX0_init_19 : decode cX0_init 19 = .ok (.aload_n 0, 1) := by decide +kernel
theorem dX0_init_20 : decode cX0_init 20 = .ok (.getfield 13, 3) := by decide +kernel
theorem dX0_init_23 : decode cX0_init 23 = .ok (.iload_n 1, 1) := by decide +kernel
theorem dX0_init_24 : decode cX0_init 24 = .ok (.new 11, 3) := by decide +kernel
theorem dX0_init_27 : decode cX0_init 27 = .ok (.dup, 1) := by decide +kernel
theorem dX0_init_28 : decode cX0_init 28 = .ok (.invokespecial 17, 3) := by decide +kernel
theorem dX0_init_31 : decode cX0_init 31 = .ok (.aastore, 1) := by decide +kernel
theorem dX0_init_32 : decode cX0_init 32 = .ok (.iinc 1 1, 3) := by decide +kernel
theorem dX0_init_35 : decode cX0_init 35 = .ok (.goto (-21), 3) := by decide +kernel
theorem dX0_init_38 : decode cX0_init 38 = .ok (.return_, 1) := by decide +kernel
set_option maxRecDepth 20000 in
theorem ggX0_draft_X2_copy : GoodIn wsX0_draft wsX2_copy := goodIn_r _ [7, 8, 9, 10, 11, 12, 13, 14, 15, 16, 17, 18, 19, 20, 21, 22, 23, 24, 25, 6, 26, 27, 28, 29, 30, 31, 32, 33, 34, 38, 39, 40, 41, 42, 43, 44, 45, 46, 47, 48, 49, 50, 51, 52, 53] (by decide +kernel) (by decide +kernel)
set_option maxRecDepth 20000 in
theorem gX0_draft_X2_copy : GoodIn wsX0_draft (wsV RX0 22 RX2 yX2_copy wsX2_copy) := goodIn_app (goodIn_of _ (by decide +kernel)) ggX0_draft_X2_copy
theorem dX0_draft_0 : decode cX0_draft 0 = .ok (.aload_n 0, 1) := by decide +kernel
theorem dX0_draft_1 : decode cX0_draft 1 = .ok (.getfield 13, 3) := by decide +kernel
theorem dX0_draft_4 : decode cX0_draft 4 = .ok (.aload_n 0, 1) := by decide +kernel
theorem dX0_draft_5 : decode cX0_draft 5 = .ok (.getfield 18, 3) := by decide +kernel
theorem dX0_draft_8 : decode cX0_draft 8 = .ok (.aaload, 1) := by decide +kernel
theorem dX0_draft_9 : decode cX0_draft 9 = .ok (.aload_n 1, 1) := by decide +kernel
theorem dX0_draft_10 : decode cX0_draft 10 = .ok (.invokevirtual 22, 3) := by decide +kernel
theorem dX0_draft_13 : decode cX0_draft 13 = .ok (.return_, 1) := by decide +kernel
set_option maxRecDepth 20000 in
theorem ggX0_bringBackDraft_X2_copy : GoodIn wsX0_bringBackDraft wsX2_copy := goodIn_r _ [7, 8, 9, 10, 11, 12, 13, 14, 15, 16, 17, 18, 19, 20, 21, 22, 23, 24, 25, 6, 26, 27, 28, 29, 30, 31, 32, 33, 34, 38, 39, 40, 41, 42, 43, 44, 45, 46, 47, 48, 49, 50, 51, 52, 53] (by decide +kernel) (by decide +kernel)
set_option maxRecDepth 20000 in
theorem gX0_bringBackDraft_X2_copy : GoodIn wsX0_bringBackDraft (wsV RX0 22 RX2 yX2_copy wsX2_copy) := goodIn_app (goodIn_of _ (by decide +kernel)) ggX0_bringBackDraft_X2_copy
theorem dX0_bringBackDraft_0 : decode cX0_bringBackDraft 0 = .ok (.aload_n 1, 1) := by decide +kernel
theorem dX0_bringBackDraft_1 : decode cX0_bringBackDraft 1 = .ok (.aload_n 0, 1) := by decide +kernel
theorem dX0_bringBackDraft_2 : decode cX0_bringBackDraft 2 = .ok (.getfield 13, 3) := by decide +kernel
theorem dX0_bringBackDraft_5 : decode cX0_bringBackDraft 5 = .ok (.aload_n 0, 1) := by decide +kernel
theorem dX0_bringBackDraft_6 : decode cX0_bringBackDraft 6 = .ok (.getfield 18, 3) := by decide +kernel
theorem dX0_bringBackDraft_9 : decode cX0_bringBackDraft 9 = .ok (.aaload, 1) := by decide +kernel
theorem dX0_bringBackDraft_10 : decode cX0_bringBackDraft 10 = .ok (.invokevirtual 22, 3) := by decide +kernel
theorem dX0_bringBackDraft_13 : decode cX0_bringBackDraft 13 = .ok (.return_, 1) := by decide +kernel
theorem dX0_commit_0 : decode cX0_commit 0 = .ok (.aload_n 0, 1) := by decide +kernel
theorem dX0_commit_1 : decode cX0_commit 1 = .ok (.aload_n 0, 1) := by decide +kernel
theorem dX0_commit_2 : decode cX0_commit 2 = .ok (.getfield 18, 3) := by decide +kernel
theorem dX0_commit_5 : decode cX0_commit 5 = .ok (.iconst 1, 1) := by decide +kernel
theorem dX0_commit_6 : decode cX0_commit 6 = .ok (.iadd, 1) := by decide +kernel
theorem dX0_commit_7 : decode cX0_commit 7 = .ok (.iconst 5, 1) := by decide +kernel
theorem dX0_commit_8 : decode cX0_commit 8 = .ok (.irem, 1) := by decide +kernel
theorem dX0_commit_9 : decode cX0_commit 9 = .ok (.putfield 18, 3) := by decide +kernel
theorem dX0_commit_12 : decode cX0_commit 12 = .ok (.aload_n 0, 1) := by decide +kernel
theorem dX0_commit_13 : decode cX0_commit 13 = .ok (.iconst 4, 1) := by decide +kernel
theorem dX0_commit_14 : decode cX0_commit 14 = .ok (.aload_n 0, 1) := by decide +kernel
theorem dX0_commit_15 : decode cX0_commit 15 = .ok (.getfield 26, 3) := by decide +kernel
theorem dX0_commit_18 : decode cX0_commit 18 = .ok (.iconst 1, 1) := by decide +kernel
theorem dX0_commit_19 : decode cX0_commit 19 = .ok (.iadd, 1) := by decide +kernel
theorem dX0_commit_20 : decode cX0_commit 20 = .ok (.invokestatic 29, 3) := by decide +kernel
theorem dX0_commit_23 : decode cX0_commit 23 = .ok (.putfield 26, 3) := by decide +kernel
theorem dX0_commit_26 : decode cX0_commit 26 = .ok (.return_, 1) := by decide +kernel
set_option maxRecDepth 20000 in
theorem ggX0_bringBackLatest_X2_copy : GoodIn wsX0_bringBackLatest wsX2_copy := goodIn_r _ [8, 9, 10, 11, 12, 13, 14, 15, 16, 17, 18, 19, 20, 21, 22, 23, 24, 25, 26, 7, 27, 28, 29, 30, 31, 32, 33, 34, 35, 39, 40, 41, 42, 43, 44, 45, 46, 47, 48, 49, 50, 51, 52, 53, 54] (by decide +kernel) (by decide +kernel)
set_option maxRecDepth 20000 in
theorem gX0_bringBackLatest_X2_copy : GoodIn wsX0_bringBackLatest (wsV RX0 22 RX2 yX2_copy wsX2_copy) := goodIn_app (goodIn_of _ (by decide +kernel)) ggX0_bringBackLatest_X2_copy
theorem dX0_bringBackLatest_0 : decode cX0_bringBackLatest 0 = .ok (.aload_n 0, 1) := by decide +kernel
theorem dX0_bringBackLatest_1 : decode cX0_bringBackLatest 1 = .ok (.getfield 26, 3) := by decide +kernel
theorem dX0_bringBackLatest_4 : decode cX0_bringBackLatest 4 = .ok (.ifCond .ne 6, 3) := by decide +kernel
theorem dX0_bringBackLatest_7 : decode cX0_bringBackLatest 7 = .ok (.bipush (-5), 2) := by decide +kernel
theorem dX0_bringBackLatest_9 : decode cX0_bringBackLatest 9 = .ok (.ireturn, 1) := by decide +kernel
theorem dX0_bringBackLatest_10 : decode cX0_bringBackLatest 10 = .ok (.aload_n 0, 1) := by decide +kernel
theorem dX0_bringBackLatest_11 : decode cX0_bringBackLatest 11 = .ok (.aload_n 0, 1) := by decide +kernel
theorem dX0_bringBackLatest_12 : decode cX0_bringBackLatest 12 = .ok (.getfield 18, 3) := by decide +kernel
theorem dX0_bringBackLatest_15 : decode cX0_bringBackLatest 15 = .ok (.iconst 5, 1) := by decide +kernel
theorem dX0_bringBackLatest_16 : decode cX0_bringBackLatest 16 = .ok (.iadd, 1) := by decide +kernel
theorem dX0_bringBackLatest_17 : decode cX0_bringBackLatest 17 = .ok (.iconst 1, 1) := by decide +kernel
theorem dX0_bringBackLatest_18 : decode cX0_bringBackLatest 18 = .ok (.isub, 1) := by decide +kernel
theorem dX0_bringBackLatest_19 : decode cX0_bringBackLatest 19 = .ok (.iconst 5, 1) := by decide +kernel
theorem dX0_bringBackLatest_20 : decode cX0_bringBackLatest 20 = .ok (.irem, 1) := by decide +kernel
theorem dX0_bringBackLatest_21 : decode cX0_bringBackLatest 21 = .ok (.putfield 18, 3) := by decide +kernel
theorem dX0_bringBackLatest_24 : decode cX0_bringBackLatest 24 = .ok (.aload_n 0, 1) := by decide +kernel
theorem dX0_bringBackLatest_25 : decode cX0_bringBackLatest 25 = .ok (.dup, 1) := by decide +kernel
theorem dX0_bringBackLatest_26 : decode cX0_bringBackLatest 26 = .ok (.getfield 26, 3) := by decide +kernel
theorem dX0_bringBackLatest_29 : decode cX0_bringBackLatest 29 = .ok (.iconst 1, 1) := by decide +kernel
theorem dX0_bringBackLatest_30 : decode cX0_bringBackLatest 30 = .ok (.isub, 1) := by decide +kernel
theorem dX0_bringBackLatest_31 : decode cX0_bringBackLatest 31 = .ok (.putfield 26, 3) := by decide +kernel
theorem dX0_bringBackLatest_34 : decode cX0_bringBackLatest 34 = .ok (.aload_n 1, 1) := by decide +kernel
theorem dX0_bringBackLatest_35 : decode cX0_bringBackLatest 35 = .ok (.aload_n 0, 1) := by decide +kernel
theorem dX0_bringBackLatest_36 : decode cX0_bringBackLatest 36 = .ok (.getfield 13, 3) := by decide +kernel
theorem dX0_bringBackLatest_39 : decode cX0_bringBackLatest 39 = .ok (.aload_n 0, 1) := by decide +kernel
theorem dX0_bringBackLatest_40 : decode cX0_bringBackLatest 40 = .ok (.getfield 18, 3) := by decide +kernel
theorem dX0_bringBackLatest_43 : decode cX0_bringBackLatest 43 = .ok (.aaload, 1) := by decide +kernel
theorem dX0_bringBackLatest_44 : decode cX0_bringBackLatest 44 = .ok (.invokevirtual 22, 3) := by decide +kernel
theorem dX0_bringBackLatest_47 : decode cX0_bringBackLatest 47 = .ok (.aload_n 0, 1) := by decide +kernel
theorem dX0_bringBackLatest_48 : decode cX0_bringBackLatest 48 = .ok (.getfield 26, 3) := by decide +kernel
theorem dX0_bringBackLatest_51 : decode cX0_bringBackLatest 51 = .ok (.ireturn, 1) := by decide +kernel
theorem dX1_init_0 : decode cX1_init 0 = .ok (.aload_n 0, 1) := by decide +kernel
theorem dX1_init_1 : decode cX1_init 1 = .ok (.invokespecial 3, 3) := by decide +kernel
theorem dX1_init_4 : decode cX1_init 4 = .ok (.aload_n 0, 1) := by decide +kernel
theorem dX1_init_5 : decode cX1_init 5 = .ok (.bipush 20, 2) := by decide +kernel
theorem dX1_init_7 : decode cX1_init 7 = .ok (.newarray .int, 2) := by decide +kernel
theorem dX1_init_9 : decode cX1_init 9 = .ok (.putfield 11, 3) := by decide +kernel
theorem dX1_init_12 : decode cX1_init 12 = .ok (.aload_n 0, 1) := by decide +kernel
theorem dX1_init_13 : decode cX1_init 13 = .ok (.bipush 20, 2) := by decide +kernel
theorem dX1_init_15 : decode cX1_init 15 = .ok (.newarray .int, 2) := by decide +kernel
theorem dX1_init_17 : decode cX1_init 17 = .ok (.putfield 15, 3) := by decide +kernel
theorem dX1_init_20 : decode cX1_init 20 = .ok (.aload_n 0, 1) := by decide +kernel
theorem dX1_init_21 : decode cX1_init 21 = .ok (.bipush 60, 2) := by decide +kernel
theorem dX1_init_23 : decode cX1_init 23 = .ok (.newarray .int, 2) := by decide +kernel
theorem dX1_init_25 : decode cX1_init 25 = .ok (.putfield 18, 3) := by decide +kernel
theorem dX1_init_28 : decode cX1_init 28 = .ok (.return_, 1) := by decide +kernel
set_option maxRecDepth 20000 in
theorem ggX1_read_X1_readOrder : GoodIn wsX1_read wsX1_readOrder := goodIn_r _ [8, 1, 2, 9, 10, 11, 12, 13, 14, 15, 16, 17, 18, 19, 20, 7, 21, 22, 23, 24, 25, 26, 27, 28, 29, 30, 31, 32, 33, 34, 35, 36, 37, 38, 39, 40, 41, 42, 43, 44, 45, 46, 47, 48, 49, 50, 51, 52, 53, 54, 55, 56, 57, 58, 59, 60, 61, 62, 63, 64, 65, 66, 67, 68, 69, 70, 71, 72, 73, 74, 75, 76, 77, 78, 79, 80, 81, 82, 83, 84, 85, 86, 87, 88, 89, 90, 91, 92, 93, 94, 95, 96, 97, 98, 99, 100, 101, 102, 103, 104, 105, 106] (by decide +kernel) (by decide +kernel)
set_option maxRecDepth 20000 in
theorem gX1_read_X1_readOrder : GoodIn wsX1_read (wsV RX1 28 RX1 yX1_readOrder wsX1_readOrder) := goodIn_app (goodIn_of _ (by decide +kernel)) ggX1_read_X1_readOrder
set_option maxRecDepth 20000 in
theorem ggX1_read_X3_signAt : GoodIn wsX1_read wsX3_signAt := goodIn_r _ [16, 17, 18, 105, 106] (by decide +kernel) (by decide +kernel)
set_option maxRecDepth 20000 in
theorem gX1_read_X3_signAt : GoodIn wsX1_read (wsV RX1 37 RX3 yX3_signAt wsX3_signAt) := goodIn_app (goodIn_of _ (by decide +kernel)) ggX1_read_X3_signAt
theorem dX1_read_0 : decode cX1_read 0 = .ok (.aload_n 0, 1) := by decide +kernel
theorem dX1_read_1 : decode cX1_read 1 = .ok (.iconst 0, 1) := by decide +kernel
theorem dX1_read_2 : decode cX1_read 2 = .ok (.putfield 21, 3) := by decide +kernel
theorem dX1_read_5 : decode cX1_read 5 = .ok (.aload_n 0, 1) := by decide +kernel
theorem dX1_read_6 : decode cX1_read 6 = .ok (.iconst 0, 1) := by decide +kernel
theorem dX1_read_7 : decode cX1_read 7 = .ok (.putfield 25, 3) := by decide +kernel
theorem dX1_read_10 : decode cX1_read 10 = .ok (.iconst 0, 1) := by decide +kernel
theorem dX1_read_11 : decode cX1_read 11 = .ok (.istore_n 2, 1) := by decide +kernel
theorem dX1_read_12 : decode cX1_read 12 = .ok (.iload_n 2, 1) := by decide +kernel
theorem dX1_read_13 : decode cX1_read 13 = .ok (.bipush 20, 2) := by decide +kernel
theorem dX1_read_15 : decode cX1_read 15 = .ok (.if_icmp .ge 63, 3) := by decide +kernel
theorem dX1_read_18 : decode cX1_read 18 = .ok (.aload_n 0, 1) := by decide +kernel
theorem dX1_read_19 : decode cX1_read 19 = .ok (.aload_n 1, 1) := by decide +kernel
theorem dX1_read_20 : decode cX1_read 20 = .ok (.invokevirtual 28, 3) := by decide +kernel
theorem dX1_read_23 : decode cX1_read 23 = .ok (.ifCond .ne 8, 3) := by decide +kernel
theorem dX1_read_26 : decode cX1_read 26 = .ok (.aload_n 0, 1) := by decide +kernel
theorem dX1_read_27 : decode cX1_read 27 = .ok (.getfield 21, 3) := by decide +kernel
theorem dX1_read_30 : decode cX1_read 30 = .ok (.ireturn, 1) := by decide +kernel
theorem dX1_read_31 : decode cX1_read 31 = .ok (.aload_n 0, 1) := by decide +kernel
theorem dX1_read_32 : decode cX1_read 32 = .ok (.getfield 21, 3) := by decide +kernel
theorem dX1_read_35 : decode cX1_read 35 = .ok (.aload_n 1, 1) := by decide +kernel
theorem dX1_read_36 : decode cX1_read 36 = .ok (.getfield 32, 3) := by decide +kernel
theorem dX1_read_39 : decode cX1_read 39 = .ok (.if_icmp .ne 5, 3) := by decide +kernel
theorem dX1_read_42 : decode cX1_read 42 = .ok (.iconst (-1), 1) := by decide +kernel
theorem dX1_read_43 : decode cX1_read 43 = .ok (.ireturn, 1) := by decide +kernel
theorem dX1_read_44 : decode cX1_read 44 = .ok (.aload_n 1, 1) := by decide +kernel
theorem dX1_read_45 : decode cX1_read 45 = .ok (.aload_n 0, 1) := by decide +kernel
theorem dX1_read_46 : decode cX1_read 46 = .ok (.getfield 21, 3) := by decide +kernel
theorem dX1_read_49 : decode cX1_read 49 = .ok (.invokevirtual 37, 3) := by decide +kernel
theorem dX1_read_52 : decode cX1_read 52 = .ok (.bipush 59, 2) := by decide +kernel
theorem dX1_read_54 : decode cX1_read 54 = .ok (.if_icmp .eq 8, 3) := by decide +kernel
theorem dX1_read_57 : decode cX1_read 57 = .ok (.aload_n 0, 1) := by decide +kernel
theorem dX1_read_58 : decode cX1_read 58 = .ok (.getfield 21, 3) := by decide +kernel
theorem dX1_read_61 : decode cX1_read 61 = .ok (.ireturn, 1) := by decide +kernel
theorem dX1_read_62 : decode cX1_read 62 = .ok (.aload_n 0, 1) := by decide +kernel
theorem dX1_read_63 : decode cX1_read 63 = .ok (.dup, 1) := by decide +kernel
theorem dX1_read_64 : decode cX1_read 64 = .ok (.getfield 21, 3) := by decide +kernel
theorem dX1_read_67 : decode cX1_read 67 = .ok (.iconst 1, 1) := by decide +kernel
theorem dX1_read_68 : decode cX1_read 68 = .ok (.iadd, 1) := by decide +kernel
theorem dX1_read_69 : decode cX1_read 69 = .ok (.putfield 21, 3) := by decide +kernel
theorem dX1_read_72 : decode cX1_read 72 = .ok (.iinc 2 1, 3) := by decide +kernel
theorem dX1_read_75 : decode cX1_read 75 = .ok (.goto (-63), 3) := by decide +kernel
theorem dX1_read_78 : decode cX1_read 78 = .ok (.aload_n 0, 1) := by decide +kernel
theorem dX1_read_79 : decode cX1_read 79 = .ok (.getfield 21, 3) := by decide +kernel
theorem dX1_read_82 : decode cX1_read 82 = .ok (.ireturn, 1) := by decide +kernel
theorem dX1_placeOf_0 : decode cX1_placeOf 0 = .ok (.iload_n 1, 1) := by decide +kernel
theorem dX1_placeOf_1 : decode cX1_placeOf 1 = .ok (.ifCond .lt 20, 3) := by decide +kernel
theorem dX1_placeOf_4 : decode cX1_placeOf 4 = .ok (.iload_n 1, 1) := by decide +kernel
theorem dX1_placeOf_5 : decode cX1_placeOf 5 = .ok (.aload_n 0, 1) := by decide +kernel
theorem dX1_placeOf_6 : decode cX1_placeOf 6 = .ok (.getfield 25, 3) := by decide +kernel
theorem dX1_placeOf_9 : decode cX1_placeOf 9 = .ok (.if_icmp .ge 12, 3) := by decide +kernel
theorem dX1_placeOf_12 : decode cX1_placeOf 12 = .ok (.aload_n 0, 1) := by decide +kernel
theorem dX1_placeOf_13 : decode cX1_placeOf 13 = .ok (.getfield 15, 3) := by decide +kernel
theorem dX1_placeOf_16 : decode cX1_placeOf 16 = .ok (.iload_n 1, 1) := by decide +kernel
theorem dX1_placeOf_17 : decode cX1_placeOf 17 = .ok (.iaload, 1) := by decide +kernel
theorem dX1_placeOf_18 : decode cX1_placeOf 18 = .ok (.goto 4, 3) := by decide +kernel
theorem dX1_placeOf_21 : decode cX1_placeOf 21 = .ok (.iconst 0, 1) := by decide +kernel
theorem dX1_placeOf_22 : decode cX1_placeOf 22 = .ok (.ireturn, 1) := by decide +kernel
set_option maxRecDepth 20000 in
theorem ggX1_carryOut_X2_startBallot : GoodIn wsX1_carryOut wsX2_startBallot := goodIn_r _ [8, 9, 10, 11, 12, 13, 14, 15, 16, 17, 7, 18, 19, 20, 21, 22, 23, 24, 25, 130, 131, 132, 133, 134, 135, 136, 137, 138, 139, 140, 141, 142, 143, 144, 145] (by decide +kernel) (by decide +kernel)
set_option maxRecDepth 20000 in
theorem gX1_carryOut_X2_startBallot : GoodIn wsX1_carryOut (wsV RX1 41 RX2 yX2_startBallot wsX2_startBallot) := goodIn_app (goodIn_of _ (by decide +kernel)) ggX1_carryOut_X2_startBallot
set_option maxRecDepth 20000 in
theorem ggX1_carryOut_X2_askPromise : GoodIn wsX1_carryOut wsX2_askPromise := goodIn_r _ [29, 9, 30, 10, 31, 32, 12, 13, 14, 33, 34, 35, 36, 37, 38, 39, 7, 40, 19, 20, 21, 22, 23, 41, 42, 43, 44, 45, 46, 47, 48, 24, 25, 49, 50, 51, 52, 130, 131, 132, 133, 134, 135, 136, 137, 138, 139, 140, 141, 142, 143, 144, 145] (by decide +kernel) (by decide +kernel)
set_option maxRecDepth 20000 in
theorem gX1_carryOut_X2_askPromise : GoodIn wsX1_carryOut (wsV RX1 46 RX2 yX2_askPromise wsX2_askPromise) := goodIn_app (goodIn_of _ (by decide +kernel)) ggX1_carryOut_X2_askPromise
set_option maxRecDepth 20000 in
theorem ggX1_carryOut_X2_offerValue : GoodIn wsX1_carryOut wsX2_offerValue := goodIn_r _ [56, 11, 12, 13, 14, 57, 58, 59, 60, 61, 62, 63, 7, 64, 9, 65, 66, 67, 68, 69, 70, 71, 72, 73, 74, 75, 76, 77, 78, 10, 20, 21, 22, 23, 79, 80, 81, 82, 83, 84, 85, 86, 87, 88, 89, 90, 91, 92, 93, 94, 95, 96, 97, 98, 99, 100, 101, 24, 25, 102, 103, 104, 105, 45, 47, 35, 36, 130, 131, 132, 133, 134, 135, 136, 137, 138, 139, 140, 141, 142, 143, 144, 145] (by decide +kernel) (by decide +kernel)
set_option maxRecDepth 20000 in
theorem gX1_carryOut_X2_offerValue : GoodIn wsX1_carryOut (wsV RX1 50 RX2 yX2_offerValue wsX2_offerValue) := goodIn_app (goodIn_of _ (by decide +kernel)) ggX1_carryOut_X2_offerValue
set_option maxRecDepth 20000 in
theorem ggX1_carryOut_X2_askVote : GoodIn wsX1_carryOut wsX2_askVote := goodIn_r _ [109, 46, 9, 31, 110, 48, 11, 74, 111, 12, 13, 14, 57, 58, 33, 34, 112, 113, 114, 7, 115, 65, 30, 24, 25, 35, 36, 79, 80, 81, 82, 37, 38, 39, 40, 19, 20, 21, 22, 23, 116, 117, 118, 119, 87, 88, 89, 90, 91, 92, 93, 94, 95, 96, 97, 98, 99, 100, 101, 130, 131, 132, 133, 134, 135, 136, 137, 138, 139, 140, 141, 142, 143, 144, 145] (by decide +kernel) (by decide +kernel)
set_option maxRecDepth 20000 in
theorem gX1_carryOut_X2_askVote : GoodIn wsX1_carryOut (wsV RX1 54 RX2 yX2_askVote wsX2_askVote) := goodIn_app (goodIn_of _ (by decide +kernel)) ggX1_carryOut_X2_askVote
set_option maxRecDepth 20000 in
theorem ggX1_carryOut_X2_turn : GoodIn wsX1_carryOut wsX2_turn := goodIn_r _ [123, 30, 33, 13, 34, 35, 36, 87, 88, 89, 90, 91, 92, 93, 130, 131, 132, 133, 134, 135, 136, 137, 138, 139, 140, 141, 142, 143, 144, 145] (by decide +kernel) (by decide +kernel)
set_option maxRecDepth 20000 in
theorem gX1_carryOut_X2_turn : GoodIn wsX1_carryOut (wsV RX1 57 RX2 yX2_turn wsX2_turn) := goodIn_app (goodIn_of _ (by decide +kernel)) ggX1_carryOut_X2_turn
theorem dX1_carryOut_0 : decode cX1_carryOut 0 = .ok (.iload_n 1, 1) := by decide +kernel
theorem dX1_carryOut_1 : decode cX1_carryOut 1 = .ok (.ifCond .lt 11, 3) := by decide +kernel
theorem dX1_carryOut_4 : decode cX1_carryOut 4 = .ok (.iload_n 1, 1) := by decide +kernel
theorem dX1_carryOut_5 : decode cX1_carryOut 5 = .ok (.aload_n 0, 1) := by decide +kernel
theorem dX1_carryOut_6 : decode cX1_carryOut 6 = .ok (.getfield 25, 3) := by decide +kernel
theorem dX1_carryOut_9 : decode cX1_carryOut 9 = .ok (.if_icmp .lt 6, 3) := by decide +kernel
theorem dX1_carryOut_12 : decode cX1_carryOut 12 = .ok (.bipush (-5), 2) := by decide +kernel
theorem dX1_carryOut_14 : decode cX1_carryOut 14 = .ok (.ireturn, 1) := by decide +kernel
theorem dX1_carryOut_15 : decode cX1_carryOut 15 = .ok (.aload_n 0, 1) := by decide +kernel
theorem dX1_carryOut_16 : decode cX1_carryOut 16 = .ok (.getfield 18, 3) := by decide +kernel
theorem dX1_carryOut_19 : decode cX1_carryOut 19 = .ok (.iload_n 1, 1) := by decide +kernel
theorem dX1_carryOut_20 : decode cX1_carryOut 20 = .ok (.iconst 3, 1) := by decide +kernel
theorem dX1_carryOut_21 : decode cX1_carryOut 21 = .ok (.imul, 1) := by decide +kernel
theorem dX1_carryOut_22 : decode cX1_carryOut 22 = .ok (.iaload, 1) := by decide +kernel
theorem dX1_carryOut_23 : decode cX1_carryOut 23 = .ok (.istore_n 3, 1) := by decide +kernel
theorem dX1_carryOut_24 : decode cX1_carryOut 24 = .ok (.aload_n 0, 1) := by decide +kernel
theorem dX1_carryOut_25 : decode cX1_carryOut 25 = .ok (.getfield 18, 3) := by decide +kernel
theorem dX1_carryOut_28 : decode cX1_carryOut 28 = .ok (.iload_n 1, 1) := by decide +kernel
theorem dX1_carryOut_29 : decode cX1_carryOut 29 = .ok (.iconst 3, 1) := by decide +kernel
theorem dX1_carryOut_30 : decode cX1_carryOut 30 = .ok (.imul, 1) := by decide +kernel
theorem dX1_carryOut_31 : decode cX1_carryOut 31 = .ok (.iconst 1, 1) := by decide +kernel
theorem dX1_carryOut_32 : decode cX1_carryOut 32 = .ok (.iadd, 1) := by decide +kernel
theorem dX1_carryOut_33 : decode cX1_carryOut 33 = .ok (.iaload, 1) := by decide +kernel
theorem dX1_carryOut_34 : decode cX1_carryOut 34 = .ok (.istore 4, 2) := by decide +kernel
theorem dX1_carryOut_36 : decode cX1_carryOut 36 = .ok (.aload_n 0, 1) := by decide +kernel
theorem dX1_carryOut_37 : decode cX1_carryOut 37 = .ok (.getfield 18, 3) := by decide +kernel
theorem dX1_carryOut_40 : decode cX1_carryOut 40 = .ok (.iload_n 1, 1) := by decide +kernel
theorem dX1_carryOut_41 : decode cX1_carryOut 41 = .ok (.iconst 3, 1) := by decide +kernel
theorem dX1_carryOut_42 : decode cX1_carryOut 42 = .ok (.imul, 1) := by decide +kernel
theorem dX1_carryOut_43 : decode cX1_carryOut 43 = .ok (.iconst 2, 1) := by decide +kernel
theorem dX1_carryOut_44 : decode cX1_carryOut 44 = .ok (.iadd, 1) := by decide +kernel
theorem dX1_carryOut_45 : decode cX1_carryOut 45 = .ok (.iaload, 1) := by decide +kernel
theorem dX1_carryOut_46 : decode cX1_carryOut 46 = .ok (.istore 5, 2) := by decide +kernel
theorem dX1_carryOut_48 : decode cX1_carryOut 48 = .ok (.aload_n 0, 1) := by decide +kernel
theorem dX1_carryOut_49 : decode cX1_carryOut 49 = .ok (.getfield 11, 3) := by decide +kernel
theorem dX1_carryOut_52 : decode cX1_carryOut 52 = .ok (.iload_n 1, 1) := by decide +kernel
theorem dX1_carryOut_53 : decode cX1_carryOut 53 = .ok (.iaload, 1) := by decide +kernel
theorem dX1_carryOut_54 : decode cX1_carryOut 54 = .ok (.lookupswitch 76 #[(97, 66), (110, 42), (118, 56), (121, 48)], 42) := by decide +kernel
theorem dX1_carryOut_96 : decode cX1_carryOut 96 = .ok (.aload_n 2, 1) := by decide +kernel
theorem dX1_carryOut_97 : decode cX1_carryOut 97 = .ok (.iload_n 3, 1) := by decide +kernel
theorem dX1_carryOut_98 : decode cX1_carryOut 98 = .ok (.invokevirtual 41, 3) := by decide +kernel
theorem dX1_carryOut_101 : decode cX1_carryOut 101 = .ok (.ireturn, 1) := by decide +kernel
theorem dX1_carryOut_102 : decode cX1_carryOut 102 = .ok (.aload_n 2, 1) := by decide +kernel
theorem dX1_carryOut_103 : decode cX1_carryOut 103 = .ok (.iload_n 3, 1) := by decide +kernel
theorem dX1_carryOut_104 : decode cX1_carryOut 104 = .ok (.iload 4, 2) := by decide +kernel
theorem dX1_carryOut_106 : decode cX1_carryOut 106 = .ok (.invokevirtual 46, 3) := by decide +kernel
theorem dX1_carryOut_109 : decode cX1_carryOut 109 = .ok (.ireturn, 1) := by decide +kernel
theorem dX1_carryOut_110 : decode cX1_carryOut 110 = .ok (.aload_n 2, 1) := by decide +kernel
theorem dX1_carryOut_111 : decode cX1_carryOut 111 = .ok (.iload_n 3, 1) := by decide +kernel
theorem dX1_carryOut_112 : decode cX1_carryOut 112 = .ok (.iload 4, 2) := by decide +kernel
theorem dX1_carryOut_114 : decode cX1_carryOut 114 = .ok (.iload 5, 2) := by decide +kernel
theorem dX1_carryOut_116 : decode cX1_carryOut 116 = .ok (.invokevirtual 50, 3) := by decide +kernel
theorem dX1_carryOut_119 : decode cX1_carryOut 119 = .ok (.ireturn, 1) := by decide +kernel
theorem dX1_carryOut_120 : decode cX1_carryOut 120 = .ok (.aload_n 2, 1) := by decide +kernel
theorem dX1_carryOut_121 : decode cX1_carryOut 121 = .ok (.iload_n 3, 1) := by decide +kernel
theorem dX1_carryOut_122 : decode cX1_carryOut 122 = .ok (.iload 4, 2) := by decide +kernel
theorem dX1_carryOut_124 : decode cX1_carryOut 124 = .ok (.iload 5, 2) := by decide +kernel
theorem dX1_carryOut_126 : decode cX1_carryOut 126 = .ok (.invokevirtual 54, 3) := by decide +kernel
theorem dX1_carryOut_129 : decode cX1_carryOut 129 = .ok (.ireturn, 1) := by decide +kernel
theorem dX1_carryOut_130 : decode cX1_carryOut 130 = .ok (.aload_n 2, 1) := by decide +kernel
theorem dX1_carryOut_131 : decode cX1_carryOut 131 = .ok (.iload_n 3, 1) := by decide +kernel
theorem dX1_carryOut_132 : decode cX1_carryOut 132 = .ok (.aload_n 0, 1) := by decide +kernel
theorem dX1_carryOut_133 : decode cX1_carryOut 133 = .ok (.getfield 11, 3) := by decide +kernel
theorem dX1_carryOut_136 : decode cX1_carryOut 136 = .ok (.iload_n 1, 1) := by decide +kernel
theorem dX1_carryOut_137 : decode cX1_carryOut 137 = .ok (.iaload, 1) := by decide +kernel
theorem dX1_carryOut_138 : decode cX1_carryOut 138 = .ok (.bipush 117, 2) := by decide +kernel
theorem dX1_carryOut_140 : decode cX1_carryOut 140 = .ok (.if_icmp .ne 7, 3) := by decide +kernel
theorem dX1_carryOut_143 : decode cX1_carryOut 143 = .ok (.iconst 1, 1) := by decide +kernel
theorem dX1_carryOut_144 : decode cX1_carryOut 144 = .ok (.goto 4, 3) := by decide +kernel
theorem dX1_carryOut_147 : decode cX1_carryOut 147 = .ok (.iconst 0, 1) := by decide +kernel
theorem dX1_carryOut_148 : decode cX1_carryOut 148 = .ok (.invokevirtual 57, 3) := by decide +kernel
theorem dX1_carryOut_151 : decode cX1_carryOut 151 = .ok (.ireturn, 1) := by decide +kernel
theorem dX1_partsOf_0 : decode cX1_partsOf 0 = .ok (.iload_n 0, 1) := by decide +kernel
theorem dX1_partsOf_1 : decode cX1_partsOf 1 = .ok (.lookupswitch 74 #[(97, 68), (100, 71), (110, 59), (117, 71), (118, 65), (121, 62)], 59) := by decide +kernel
theorem dX1_partsOf_60 : decode cX1_partsOf 60 = .ok (.ldc 61, 2) := by decide +kernel
theorem dX1_partsOf_62 : decode cX1_partsOf 62 = .ok (.areturn, 1) := by decide +kernel
theorem dX1_partsOf_63 : decode cX1_partsOf 63 = .ok (.ldc 63, 2) := by decide +kernel
theorem dX1_partsOf_65 : decode cX1_partsOf 65 = .ok (.areturn, 1) := by decide +kernel
theorem dX1_partsOf_66 : decode cX1_partsOf 66 = .ok (.ldc 65, 2) := by decide +kernel
theorem dX1_partsOf_68 : decode cX1_partsOf 68 = .ok (.areturn, 1) := by decide +kernel
theorem dX1_partsOf_69 : decode cX1_partsOf 69 = .ok (.ldc 67, 2) := by decide +kernel
theorem dX1_partsOf_71 : decode cX1_partsOf 71 = .ok (.areturn, 1) := by decide +kernel
theorem dX1_partsOf_72 : decode cX1_partsOf 72 = .ok (.ldc 69, 2) := by decide +kernel
theorem dX1_partsOf_74 : decode cX1_partsOf 74 = .ok (.areturn, 1) := by decide +kernel
theorem dX1_partsOf_75 : decode cX1_partsOf 75 = .ok (.ldc 71, 2) := by decide +kernel
theorem dX1_partsOf_77 : decode cX1_partsOf 77 = .ok (.areturn, 1) := by decide +kernel
set_option maxRecDepth 20000 in
theorem ggX1_readOrder_X3_signAt : GoodIn wsX1_readOrder wsX3_signAt := goodIn_r _ [10, 11, 12, 100, 101] (by decide +kernel) (by decide +kernel)
set_option maxRecDepth 20000 in
theorem gX1_readOrder_X3_signAt : GoodIn wsX1_readOrder (wsV RX1 37 RX3 yX3_signAt wsX3_signAt) := goodIn_app (goodIn_of _ (by decide +kernel)) ggX1_readOrder_X3_signAt
set_option maxRecDepth 20000 in
theorem ggX1_readOrder_X1_partsOf : GoodIn wsX1_readOrder wsX1_partsOf := goodIn_r _ [16] (by decide +kernel) (by decide +kernel)
set_option maxRecDepth 20000 in
theorem gX1_readOrder_X1_partsOf : GoodIn wsX1_readOrder (va_wsS RX1 73 yX1_partsOf wsX1_partsOf) := goodIn_app (goodIn_of _ (by decide +kernel)) ggX1_readOrder_X1_partsOf
set_option maxRecDepth 20000 in
theorem ggX1_readOrder_J0_isEmpty_aae02 : GoodIn wsX1_readOrder wsJ0_isEmpty_aae02 := goodIn_r _ [21, 22] (by decide +kernel) (by decide +kernel)
set_option maxRecDepth 20000 in
theorem gX1_readOrder_J0_isEmpty_aae02 : GoodIn wsX1_readOrder (wsV RX1 77 RJ0 yJ0_isEmpty_aae02 wsJ0_isEmpty_aae02) := goodIn_app (goodIn_of _ (by decide +kernel)) ggX1_readOrder_J0_isEmpty_aae02
set_option maxRecDepth 20000 in
theorem ggX1_readOrder_J0_length_8abf5 : GoodIn wsX1_readOrder wsJ0_length_8abf5 := goodIn_r _ [26, 22, 27, 28, 29, 20, 30, 31, 32] (by decide +kernel) (by decide +kernel)
set_option maxRecDepth 20000 in
theorem gX1_readOrder_J0_length_8abf5 : GoodIn wsX1_readOrder (wsV RX1 86 RJ0 yJ0_length_8abf5 wsJ0_length_8abf5) := goodIn_app (goodIn_of _ (by decide +kernel)) ggX1_readOrder_J0_length_8abf5
set_option maxRecDepth 20000 in
theorem ggX1_readOrder_J0_charAt_5068e : GoodIn wsX1_readOrder wsJ0_charAt_5068e := goodIn_r _ [36, 22, 37, 38, 39, 20, 40, 31, 32, 41, 42, 43, 44, 45, 46, 47, 48, 49, 50, 51, 52, 53, 54, 55, 56, 57, 58, 59, 60, 61, 62, 63, 64, 65, 66, 67, 68, 69] (by decide +kernel) (by decide +kernel)
set_option maxRecDepth 20000 in
theorem gX1_readOrder_J0_charAt_5068e : GoodIn wsX1_readOrder (wsV RX1 89 RJ0 yJ0_charAt_5068e wsJ0_charAt_5068e) := goodIn_app (goodIn_of _ (by decide +kernel)) ggX1_readOrder_J0_charAt_5068e
set_option maxRecDepth 20000 in
theorem ggX1_readOrder_X1_readPart : GoodIn wsX1_readOrder wsX1_readPart := goodIn_r _ [73, 74, 75, 76, 15, 77, 1, 6, 7, 8, 9, 10, 11, 12, 78, 79, 80, 81, 5, 2, 82, 83, 84, 85, 86, 87, 88, 89, 90, 91, 92, 93, 94, 95, 96, 97, 98, 99, 100, 101] (by decide +kernel) (by decide +kernel)
set_option maxRecDepth 20000 in
theorem gX1_readOrder_X1_readPart : GoodIn wsX1_readOrder (wsV RX1 93 RX1 yX1_readPart wsX1_readPart) := goodIn_app (goodIn_of _ (by decide +kernel)) ggX1_readOrder_X1_readPart
theorem dX1_readOrder_0 : decode cX1_readOrder 0 = .ok (.aload_n 1, 1) := by decide +kernel
theorem dX1_readOrder_1 : decode cX1_readOrder 1 = .ok (.aload_n 0, 1) := by decide +kernel
theorem dX1_readOrder_2 : decode cX1_readOrder 2 = .ok (.getfield 21, 3) := by decide +kernel
theorem dX1_readOrder_5 : decode cX1_readOrder 5 = .ok (.invokevirtual 37, 3) := by decide +kernel
theorem dX1_readOrder_8 : decode cX1_readOrder 8 = .ok (.istore_n 2, 1) := by decide +kernel
theorem dX1_readOrder_9 : decode cX1_readOrder 9 = .ok (.iload_n 2, 1) := by decide +kernel
theorem dX1_readOrder_10 : decode cX1_readOrder 10 = .ok (.invokestatic 73, 3) := by decide +kernel
theorem dX1_readOrder_13 : decode cX1_readOrder 13 = .ok (.astore_n 3, 1) := by decide +kernel
theorem dX1_readOrder_14 : decode cX1_readOrder 14 = .ok (.aload_n 3, 1) := by decide +kernel
theorem dX1_readOrder_15 : decode cX1_readOrder 15 = .ok (.invokevirtual 77, 3) := by decide +kernel
theorem dX1_readOrder_18 : decode cX1_readOrder 18 = .ok (.ifCond .ne 12, 3) := by decide +kernel
theorem dX1_readOrder_21 : decode cX1_readOrder 21 = .ok (.aload_n 0, 1) := by decide +kernel
theorem dX1_readOrder_22 : decode cX1_readOrder 22 = .ok (.getfield 25, 3) := by decide +kernel
theorem dX1_readOrder_25 : decode cX1_readOrder 25 = .ok (.bipush 20, 2) := by decide +kernel
theorem dX1_readOrder_27 : decode cX1_readOrder 27 = .ok (.if_icmp .lt 5, 3) := by decide +kernel
theorem dX1_readOrder_30 : decode cX1_readOrder 30 = .ok (.iconst 0, 1) := by decide +kernel
theorem dX1_readOrder_31 : decode cX1_readOrder 31 = .ok (.ireturn, 1) := by decide +kernel
theorem dX1_readOrder_32 : decode cX1_readOrder 32 = .ok (.aload_n 0, 1) := by decide +kernel
theorem dX1_readOrder_33 : decode cX1_readOrder 33 = .ok (.getfield 11, 3) := by decide +kernel
theorem dX1_readOrder_36 : decode cX1_readOrder 36 = .ok (.aload_n 0, 1) := by decide +kernel
theorem dX1_readOrder_37 : decode cX1_readOrder 37 = .ok (.getfield 25, 3) := by decide +kernel
theorem dX1_readOrder_40 : decode cX1_readOrder 40 = .ok (.iload_n 2, 1) := by decide +kernel
theorem dX1_readOrder_41 : decode cX1_readOrder 41 = .ok (.iastore, 1) := by decide +kernel
theorem dX1_readOrder_42 : decode cX1_readOrder 42 = .ok (.aload_n 0, 1) := by decide +kernel
theorem dX1_readOrder_43 : decode cX1_readOrder 43 = .ok (.getfield 15, 3) := by decide +kernel
theorem dX1_readOrder_46 : decode cX1_readOrder 46 = .ok (.aload_n 0, 1) := by decide +kernel
theorem dX1_readOrder_47 : decode cX1_readOrder 47 = .ok (.getfield 25, 3) := by decide +kernel
theorem dX1_readOrder_50 : decode cX1_readOrder 50 = .ok (.aload_n 0, 1) := by decide +kernel
theorem dX1_readOrder_51 : decode cX1_readOrder 51 = .ok (.getfield 21, 3) := by decide +kernel
theorem dX1_readOrder_54 : decode cX1_readOrder 54 = .ok (.iastore, 1) := by decide +kernel
theorem dX1_readOrder_55 : decode cX1_readOrder 55 = .ok (.aload_n 0, 1) := by decide +kernel
theorem dX1_readOrder_56 : decode cX1_readOrder 56 = .ok (.dup, 1) := by decide +kernel
theorem dX1_readOrder_57 : decode cX1_readOrder 57 = .ok (.getfield 21, 3) := by decide +kernel
theorem dX1_readOrder_60 : decode cX1_readOrder 60 = .ok (.iconst 1, 1) := by decide +kernel
theorem dX1_readOrder_61 : decode cX1_readOrder 61 = .ok (.iadd, 1) := by decide +kernel
theorem dX1_readOrder_62 : decode cX1_readOrder 62 = .ok (.putfield 21, 3) := by decide +kernel
theorem dX1_readOrder_65 : decode cX1_readOrder 65 = .ok (.aload_n 0, 1) := by decide +kernel
theorem dX1_readOrder_66 : decode cX1_readOrder 66 = .ok (.iconst 0, 1) := by decide +kernel
theorem dX1_readOrder_67 : decode cX1_readOrder 67 = .ok (.putfield 83, 3) := by decide +kernel
theorem dX1_readOrder_70 : decode cX1_readOrder 70 = .ok (.iconst 0, 1) := by decide +kernel
theorem dX1_readOrder_71 : decode cX1_readOrder 71 = .ok (.istore 4, 2) := by decide +kernel
theorem dX1_readOrder_73 : decode cX1_readOrder 73 = .ok (.iload 4, 2) := by decide +kernel
theorem dX1_readOrder_75 : decode cX1_readOrder 75 = .ok (.aload_n 3, 1) := by decide +kernel
theorem dX1_readOrder_76 : decode cX1_readOrder 76 = .ok (.invokevirtual 86, 3) := by decide +kernel
theorem dX1_readOrder_79 : decode cX1_readOrder 79 = .ok (.if_icmp .ge 25, 3) := by decide +kernel
theorem dX1_readOrder_82 : decode cX1_readOrder 82 = .ok (.aload_n 0, 1) := by decide +kernel
theorem dX1_readOrder_83 : decode cX1_readOrder 83 = .ok (.aload_n 1, 1) := by decide +kernel
theorem dX1_readOrder_84 : decode cX1_readOrder 84 = .ok (.aload_n 3, 1) := by decide +kernel
theorem dX1_readOrder_85 : decode cX1_readOrder 85 = .ok (.iload 4, 2) := by decide +kernel
theorem dX1_readOrder_87 : decode cX1_readOrder 87 = .ok (.invokevirtual 89, 3) := by decide +kernel
theorem dX1_readOrder_90 : decode cX1_readOrder 90 = .ok (.invokevirtual 93, 3) := by decide +kernel
theorem dX1_readOrder_93 : decode cX1_readOrder 93 = .ok (.ifCond .ne 5, 3) := by decide +kernel
theorem dX1_readOrder_96 : decode cX1_readOrder 96 = .ok (.iconst 0, 1) := by decide +kernel
theorem dX1_readOrder_97 : decode cX1_readOrder 97 = .ok (.ireturn, 1) := by decide +kernel
theorem dX1_readOrder_98 : decode cX1_readOrder 98 = .ok (.iinc 4 1, 3) := by decide +kernel
theorem dX1_readOrder_101 : decode cX1_readOrder 101 = .ok (.goto (-28), 3) := by decide +kernel
theorem dX1_readOrder_104 : decode cX1_readOrder 104 = .ok (.aload_n 0, 1) := by decide +kernel
theorem dX1_readOrder_105 : decode cX1_readOrder 105 = .ok (.dup, 1) := by decide +kernel
theorem dX1_readOrder_106 : decode cX1_readOrder 106 = .ok (.getfield 25, 3) := by decide +kernel
theorem dX1_readOrder_109 : decode cX1_readOrder 109 = .ok (.iconst 1, 1) := by decide +kernel
theorem dX1_readOrder_110 : decode cX1_readOrder 110 = .ok (.iadd, 1) := by decide +kernel
theorem dX1_readOrder_111 : decode cX1_readOrder 111 = .ok (.putfield 25, 3) := by decide +kernel
theorem dX1_readOrder_114 : decode cX1_readOrder 114 = .ok (.iconst 1, 1) := by decide +kernel
theorem dX1_readOrder_115 : decode cX1_readOrder 115 = .ok (.ireturn, 1) := by decide +kernel
set_option maxRecDepth 20000 in
theorem ggX1_readPart_X1_readDigit : GoodIn wsX1_readPart wsX1_readDigit := goodIn_r _ [5, 6, 7, 8, 9, 10, 11, 12, 13, 14, 15, 16, 4, 17, 18, 19, 20, 32, 33, 34, 35, 36, 37, 38, 39] (by decide +kernel) (by decide +kernel)
set_option maxRecDepth 20000 in
theorem gX1_readPart_X1_readDigit : GoodIn wsX1_readPart (wsV RX1 97 RX1 yX1_readDigit wsX1_readDigit) := goodIn_app (goodIn_of _ (by decide +kernel)) ggX1_readPart_X1_readDigit
set_option maxRecDepth 20000 in
theorem ggX1_readPart_X1_readNumber : GoodIn wsX1_readPart wsX1_readNumber := goodIn_r _ [24, 6, 7, 8, 9, 10, 11, 12, 13, 25, 26, 4, 27, 14, 15, 16, 17, 18, 19, 20, 32, 33, 34, 35, 36, 37, 38, 39] (by decide +kernel) (by decide +kernel)
set_option maxRecDepth 20000 in
theorem gX1_readPart_X1_readNumber : GoodIn wsX1_readPart (wsV RX1 100 RX1 yX1_readNumber wsX1_readNumber) := goodIn_app (goodIn_of _ (by decide +kernel)) ggX1_readPart_X1_readNumber
set_option maxRecDepth 20000 in
theorem ggX1_readPart_X1_readComma : GoodIn wsX1_readPart wsX1_readComma := goodIn_r _ [31, 6, 7, 8, 9, 10, 11, 12, 13, 32, 33, 34, 35, 36, 37, 38, 39] (by decide +kernel) (by decide +kernel)
set_option maxRecDepth 20000 in
theorem gX1_readPart_X1_readComma : GoodIn wsX1_readPart (wsV RX1 103 RX1 yX1_readComma wsX1_readComma) := goodIn_app (goodIn_of _ (by decide +kernel)) ggX1_readPart_X1_readComma
theorem dX1_readPart_0 : decode cX1_readPart 0 = .ok (.iload_n 2, 1) := by decide +kernel
theorem dX1_readPart_1 : decode cX1_readPart 1 = .ok (.lookupswitch 56 #[(35, 50), (97, 42), (112, 35)], 35) := by decide +kernel
theorem dX1_readPart_36 : decode cX1_readPart 36 = .ok (.aload_n 0, 1) := by decide +kernel
theorem dX1_readPart_37 : decode cX1_readPart 37 = .ok (.aload_n 1, 1) := by decide +kernel
theorem dX1_readPart_38 : decode cX1_readPart 38 = .ok (.iconst 3, 1) := by decide +kernel
theorem dX1_readPart_39 : decode cX1_readPart 39 = .ok (.invokevirtual 97, 3) := by decide +kernel
theorem dX1_readPart_42 : decode cX1_readPart 42 = .ok (.ireturn, 1) := by decide +kernel
theorem dX1_readPart_43 : decode cX1_readPart 43 = .ok (.aload_n 0, 1) := by decide +kernel
theorem dX1_readPart_44 : decode cX1_readPart 44 = .ok (.aload_n 1, 1) := by decide +kernel
theorem dX1_readPart_45 : decode cX1_readPart 45 = .ok (.bipush 6, 2) := by decide +kernel
theorem dX1_readPart_47 : decode cX1_readPart 47 = .ok (.invokevirtual 97, 3) := by decide +kernel
theorem dX1_readPart_50 : decode cX1_readPart 50 = .ok (.ireturn, 1) := by decide +kernel
theorem dX1_readPart_51 : decode cX1_readPart 51 = .ok (.aload_n 0, 1) := by decide +kernel
theorem dX1_readPart_52 : decode cX1_readPart 52 = .ok (.aload_n 1, 1) := by decide +kernel
theorem dX1_readPart_53 : decode cX1_readPart 53 = .ok (.invokevirtual 100, 3) := by decide +kernel
theorem dX1_readPart_56 : decode cX1_readPart 56 = .ok (.ireturn, 1) := by decide +kernel
theorem dX1_readPart_57 : decode cX1_readPart 57 = .ok (.aload_n 0, 1) := by decide +kernel
theorem dX1_readPart_58 : decode cX1_readPart 58 = .ok (.aload_n 1, 1) := by decide +kernel
theorem dX1_readPart_59 : decode cX1_readPart 59 = .ok (.invokevirtual 103, 3) := by decide +kernel
theorem dX1_readPart_62 : decode cX1_readPart 62 = .ok (.ireturn, 1) := by decide +kernel
set_option maxRecDepth 20000 in
theorem ggX1_readComma_X3_signAt : GoodIn wsX1_readComma wsX3_signAt := goodIn_r _ [6, 7, 8, 15, 16] (by decide +kernel) (by decide +kernel)
set_option maxRecDepth 20000 in
theorem gX1_readComma_X3_signAt : GoodIn wsX1_readComma (wsV RX1 37 RX3 yX3_signAt wsX3_signAt) := goodIn_app (goodIn_of _ (by decide +kernel)) ggX1_readComma_X3_signAt
theorem dX1_readComma_0 : decode cX1_readComma 0 = .ok (.aload_n 1, 1) := by decide +kernel
theorem dX1_readComma_1 : decode cX1_readComma 1 = .ok (.aload_n 0, 1) := by decide +kernel
theorem dX1_readComma_2 : decode cX1_readComma 2 = .ok (.getfield 21, 3) := by decide +kernel
theorem dX1_readComma_5 : decode cX1_readComma 5 = .ok (.invokevirtual 37, 3) := by decide +kernel
theorem dX1_readComma_8 : decode cX1_readComma 8 = .ok (.bipush 44, 2) := by decide +kernel
theorem dX1_readComma_10 : decode cX1_readComma 10 = .ok (.if_icmp .eq 5, 3) := by decide +kernel
theorem dX1_readComma_13 : decode cX1_readComma 13 = .ok (.iconst 0, 1) := by decide +kernel
theorem dX1_readComma_14 : decode cX1_readComma 14 = .ok (.ireturn, 1) := by decide +kernel
theorem dX1_readComma_15 : decode cX1_readComma 15 = .ok (.aload_n 0, 1) := by decide +kernel
theorem dX1_readComma_16 : decode cX1_readComma 16 = .ok (.dup, 1) := by decide +kernel
theorem dX1_readComma_17 : decode cX1_readComma 17 = .ok (.getfield 21, 3) := by decide +kernel
theorem dX1_readComma_20 : decode cX1_readComma 20 = .ok (.iconst 1, 1) := by decide +kernel
theorem dX1_readComma_21 : decode cX1_readComma 21 = .ok (.iadd, 1) := by decide +kernel
theorem dX1_readComma_22 : decode cX1_readComma 22 = .ok (.putfield 21, 3) := by decide +kernel
theorem dX1_readComma_25 : decode cX1_readComma 25 = .ok (.iconst 1, 1) := by decide +kernel
theorem dX1_readComma_26 : decode cX1_readComma 26 = .ok (.ireturn, 1) := by decide +kernel
set_option maxRecDepth 20000 in
theorem ggX1_readDigit_X3_signAt : GoodIn wsX1_readDigit wsX3_signAt := goodIn_r _ [6, 7, 8, 23, 24] (by decide +kernel) (by decide +kernel)
set_option maxRecDepth 20000 in
theorem gX1_readDigit_X3_signAt : GoodIn wsX1_readDigit (wsV RX1 37 RX3 yX3_signAt wsX3_signAt) := goodIn_app (goodIn_of _ (by decide +kernel)) ggX1_readDigit_X3_signAt
set_option maxRecDepth 20000 in
theorem ggX1_readDigit_X1_tell : GoodIn wsX1_readDigit wsX1_tell := goodIn_r _ [13, 14, 15, 16, 17, 18, 19, 20, 21, 22] (by decide +kernel) (by decide +kernel)
set_option maxRecDepth 20000 in
theorem gX1_readDigit_X1_tell : GoodIn wsX1_readDigit (wsV RX1 106 RX1 yX1_tell wsX1_tell) := goodIn_app (goodIn_of _ (by decide +kernel)) ggX1_readDigit_X1_tell
theorem dX1_readDigit_0 : decode cX1_readDigit 0 = .ok (.aload_n 1, 1) := by decide +kernel
theorem dX1_readDigit_1 : decode cX1_readDigit 1 = .ok (.aload_n 0, 1) := by decide +kernel
theorem dX1_readDigit_2 : decode cX1_readDigit 2 = .ok (.getfield 21, 3) := by decide +kernel
theorem dX1_readDigit_5 : decode cX1_readDigit 5 = .ok (.invokevirtual 37, 3) := by decide +kernel
theorem dX1_readDigit_8 : decode cX1_readDigit 8 = .ok (.bipush 48, 2) := by decide +kernel
theorem dX1_readDigit_10 : decode cX1_readDigit 10 = .ok (.isub, 1) := by decide +kernel
theorem dX1_readDigit_11 : decode cX1_readDigit 11 = .ok (.istore_n 3, 1) := by decide +kernel
theorem dX1_readDigit_12 : decode cX1_readDigit 12 = .ok (.iload_n 3, 1) := by decide +kernel
theorem dX1_readDigit_13 : decode cX1_readDigit 13 = .ok (.ifCond .lt 8, 3) := by decide +kernel
theorem dX1_readDigit_16 : decode cX1_readDigit 16 = .ok (.iload_n 3, 1) := by decide +kernel
theorem dX1_readDigit_17 : decode cX1_readDigit 17 = .ok (.iload_n 2, 1) := by decide +kernel
theorem dX1_readDigit_18 : decode cX1_readDigit 18 = .ok (.if_icmp .lt 5, 3) := by decide +kernel
theorem dX1_readDigit_21 : decode cX1_readDigit 21 = .ok (.iconst 0, 1) := by decide +kernel
theorem dX1_readDigit_22 : decode cX1_readDigit 22 = .ok (.ireturn, 1) := by decide +kernel
theorem dX1_readDigit_23 : decode cX1_readDigit 23 = .ok (.aload_n 0, 1) := by decide +kernel
theorem dX1_readDigit_24 : decode cX1_readDigit 24 = .ok (.dup, 1) := by decide +kernel
theorem dX1_readDigit_25 : decode cX1_readDigit 25 = .ok (.getfield 21, 3) := by decide +kernel
theorem dX1_readDigit_28 : decode cX1_readDigit 28 = .ok (.iconst 1, 1) := by decide +kernel
theorem dX1_readDigit_29 : decode cX1_readDigit 29 = .ok (.iadd, 1) := by decide +kernel
theorem dX1_readDigit_30 : decode cX1_readDigit 30 = .ok (.putfield 21, 3) := by decide +kernel
theorem dX1_readDigit_33 : decode cX1_readDigit 33 = .ok (.aload_n 0, 1) := by decide +kernel
theorem dX1_readDigit_34 : decode cX1_readDigit 34 = .ok (.iload_n 3, 1) := by decide +kernel
theorem dX1_readDigit_35 : decode cX1_readDigit 35 = .ok (.invokevirtual 106, 3) := by decide +kernel
theorem dX1_readDigit_38 : decode cX1_readDigit 38 = .ok (.iconst 1, 1) := by decide +kernel
theorem dX1_readDigit_39 : decode cX1_readDigit 39 = .ok (.ireturn, 1) := by decide +kernel
set_option maxRecDepth 20000 in
theorem ggX1_readNumber_X3_signAt : GoodIn wsX1_readNumber wsX3_signAt := goodIn_r _ [6, 7, 8, 26, 27] (by decide +kernel) (by decide +kernel)
set_option maxRecDepth 20000 in
theorem gX1_readNumber_X3_signAt : GoodIn wsX1_readNumber (wsV RX1 37 RX3 yX3_signAt wsX3_signAt) := goodIn_app (goodIn_of _ (by decide +kernel)) ggX1_readNumber_X3_signAt
set_option maxRecDepth 20000 in
theorem ggX1_readNumber_X1_isDigit : GoodIn wsX1_readNumber wsX1_isDigit := goodIn_r _ [12] (by decide +kernel) (by decide +kernel)
set_option maxRecDepth 20000 in
theorem gX1_readNumber_X1_isDigit : GoodIn wsX1_readNumber (va_wsS RX1 110 yX1_isDigit wsX1_isDigit) := goodIn_app (goodIn_of _ (by decide +kernel)) ggX1_readNumber_X1_isDigit
set_option maxRecDepth 20000 in
theorem ggX1_readNumber_X1_tell : GoodIn wsX1_readNumber wsX1_tell := goodIn_r _ [16, 17, 18, 19, 20, 21, 22, 23, 24, 25] (by decide +kernel) (by decide +kernel)
set_option maxRecDepth 20000 in
theorem gX1_readNumber_X1_tell : GoodIn wsX1_readNumber (wsV RX1 106 RX1 yX1_tell wsX1_tell) := goodIn_app (goodIn_of _ (by decide +kernel)) ggX1_readNumber_X1_tell
theorem dX1_readNumber_0 : decode cX1_readNumber 0 = .ok (.aload_n 1, 1) := by decide +kernel
theorem dX1_readNumber_1 : decode cX1_readNumber 1 = .ok (.aload_n 0, 1) := by decide +kernel
theorem dX1_readNumber_2 : decode cX1_readNumber 2 = .ok (.getfield 21, 3) := by decide +kernel
theorem dX1_readNumber_5 : decode cX1_readNumber 5 = .ok (.invokevirtual 37, 3) := by decide +kernel
theorem dX1_readNumber_8 : decode cX1_readNumber 8 = .ok (.bipush 48, 2) := by decide +kernel
theorem dX1_readNumber_10 : decode cX1_readNumber 10 = .ok (.if_icmp .ne 5, 3) := by decide +kernel
theorem dX1_readNumber_13 : decode cX1_readNumber 13 = .ok (.iconst 0, 1) := by decide +kernel
theorem dX1_readNumber_14 : decode cX1_readNumber 14 = .ok (.ireturn, 1) := by decide +kernel
theorem dX1_readNumber_15 : decode cX1_readNumber 15 = .ok (.iconst 0, 1) := by decide +kernel
theorem dX1_readNumber_16 : decode cX1_readNumber 16 = .ok (.istore_n 2, 1) := by decide +kernel
theorem dX1_readNumber_17 : decode cX1_readNumber 17 = .ok (.iconst 0, 1) := by decide +kernel
theorem dX1_readNumber_18 : decode cX1_readNumber 18 = .ok (.istore_n 3, 1) := by decide +kernel
theorem dX1_readNumber_19 : decode cX1_readNumber 19 = .ok (.iload_n 3, 1) := by decide +kernel
theorem dX1_readNumber_20 : decode cX1_readNumber 20 = .ok (.iconst 3, 1) := by decide +kernel
theorem dX1_readNumber_21 : decode cX1_readNumber 21 = .ok (.if_icmp .ge 50, 3) := by decide +kernel
theorem dX1_readNumber_24 : decode cX1_readNumber 24 = .ok (.aload_n 1, 1) := by decide +kernel
theorem dX1_readNumber_25 : decode cX1_readNumber 25 = .ok (.aload_n 0, 1) := by decide +kernel
theorem dX1_readNumber_26 : decode cX1_readNumber 26 = .ok (.getfield 21, 3) := by decide +kernel
theorem dX1_readNumber_29 : decode cX1_readNumber 29 = .ok (.invokevirtual 37, 3) := by decide +kernel
theorem dX1_readNumber_32 : decode cX1_readNumber 32 = .ok (.invokestatic 110, 3) := by decide +kernel
theorem dX1_readNumber_35 : decode cX1_readNumber 35 = .ok (.ifCond .eq 36, 3) := by decide +kernel
theorem dX1_readNumber_38 : decode cX1_readNumber 38 = .ok (.iload_n 2, 1) := by decide +kernel
theorem dX1_readNumber_39 : decode cX1_readNumber 39 = .ok (.bipush 10, 2) := by decide +kernel
theorem dX1_readNumber_41 : decode cX1_readNumber 41 = .ok (.imul, 1) := by decide +kernel
theorem dX1_readNumber_42 : decode cX1_readNumber 42 = .ok (.aload_n 1, 1) := by decide +kernel
theorem dX1_readNumber_43 : decode cX1_readNumber 43 = .ok (.aload_n 0, 1) := by decide +kernel
theorem dX1_readNumber_44 : decode cX1_readNumber 44 = .ok (.getfield 21, 3) := by decide +kernel
theorem dX1_readNumber_47 : decode cX1_readNumber 47 = .ok (.invokevirtual 37, 3) := by decide +kernel
theorem dX1_readNumber_50 : decode cX1_readNumber 50 = .ok (.bipush 48, 2) := by decide +kernel
theorem dX1_readNumber_52 : decode cX1_readNumber 52 = .ok (.isub, 1) := by decide +kernel
theorem dX1_readNumber_53 : decode cX1_readNumber 53 = .ok (.iadd, 1) := by decide +kernel
theorem dX1_readNumber_54 : decode cX1_readNumber 54 = .ok (.istore_n 2, 1) := by decide +kernel
theorem dX1_readNumber_55 : decode cX1_readNumber 55 = .ok (.aload_n 0, 1) := by decide +kernel
theorem dX1_readNumber_56 : decode cX1_readNumber 56 = .ok (.dup, 1) := by decide +kernel
theorem dX1_readNumber_57 : decode cX1_readNumber 57 = .ok (.getfield 21, 3) := by decide +kernel
theorem dX1_readNumber_60 : decode cX1_readNumber 60 = .ok (.iconst 1, 1) := by decide +kernel
theorem dX1_readNumber_61 : decode cX1_readNumber 61 = .ok (.iadd, 1) := by decide +kernel
theorem dX1_readNumber_62 : decode cX1_readNumber 62 = .ok (.putfield 21, 3) := by decide +kernel
theorem dX1_readNumber_65 : decode cX1_readNumber 65 = .ok (.iinc 3 1, 3) := by decide +kernel
theorem dX1_readNumber_68 : decode cX1_readNumber 68 = .ok (.goto (-49), 3) := by decide +kernel
theorem dX1_readNumber_71 : decode cX1_readNumber 71 = .ok (.iload_n 3, 1) := by decide +kernel
theorem dX1_readNumber_72 : decode cX1_readNumber 72 = .ok (.ifCond .ne 5, 3) := by decide +kernel
theorem dX1_readNumber_75 : decode cX1_readNumber 75 = .ok (.iconst 0, 1) := by decide +kernel
theorem dX1_readNumber_76 : decode cX1_readNumber 76 = .ok (.ireturn, 1) := by decide +kernel
theorem dX1_readNumber_77 : decode cX1_readNumber 77 = .ok (.aload_n 0, 1) := by decide +kernel
theorem dX1_readNumber_78 : decode cX1_readNumber 78 = .ok (.iload_n 2, 1) := by decide +kernel
theorem dX1_readNumber_79 : decode cX1_readNumber 79 = .ok (.invokevirtual 106, 3) := by decide +kernel
theorem dX1_readNumber_82 : decode cX1_readNumber 82 = .ok (.iconst 1, 1) := by decide +kernel
theorem dX1_readNumber_83 : decode cX1_readNumber 83 = .ok (.ireturn, 1) := by decide +kernel
theorem dX1_isDigit_0 : decode cX1_isDigit 0 = .ok (.iload_n 0, 1) := by decide +kernel
theorem dX1_isDigit_1 : decode cX1_isDigit 1 = .ok (.bipush 48, 2) := by decide +kernel
theorem dX1_isDigit_3 : decode cX1_isDigit 3 = .ok (.if_icmp .lt 13, 3) := by decide +kernel
theorem dX1_isDigit_6 : decode cX1_isDigit 6 = .ok (.iload_n 0, 1) := by decide +kernel
theorem dX1_isDigit_7 : decode cX1_isDigit 7 = .ok (.bipush 57, 2) := by decide +kernel
theorem dX1_isDigit_9 : decode cX1_isDigit 9 = .ok (.if_icmp .gt 7, 3) := by decide +kernel
theorem dX1_isDigit_12 : decode cX1_isDigit 12 = .ok (.iconst 1, 1) := by decide +kernel
theorem dX1_isDigit_13 : decode cX1_isDigit 13 = .ok (.goto 4, 3) := by decide +kernel
theorem dX1_isDigit_16 : decode cX1_isDigit 16 = .ok (.iconst 0, 1) := by decide +kernel
theorem dX1_isDigit_17 : decode cX1_isDigit 17 = .ok (.ireturn, 1) := by decide +kernel
theorem dX1_tell_0 : decode cX1_tell 0 = .ok (.aload_n 0, 1) := by decide +kernel
theorem dX1_tell_1 : decode cX1_tell 1 = .ok (.getfield 83, 3) := by decide +kernel
theorem dX1_tell_4 : decode cX1_tell 4 = .ok (.iconst 3, 1) := by decide +kernel
theorem dX1_tell_5 : decode cX1_tell 5 = .ok (.if_icmp .ge 39, 3) := by decide +kernel
theorem dX1_tell_8 : decode cX1_tell 8 = .ok (.aload_n 0, 1) := by decide +kernel
theorem dX1_tell_9 : decode cX1_tell 9 = .ok (.getfield 25, 3) := by decide +kernel
theorem dX1_tell_12 : decode cX1_tell 12 = .ok (.bipush 20, 2) := by decide +kernel
theorem dX1_tell_14 : decode cX1_tell 14 = .ok (.if_icmp .ge 30, 3) := by decide +kernel
theorem dX1_tell_17 : decode cX1_tell 17 = .ok (.aload_n 0, 1) := by decide +kernel
theorem dX1_tell_18 : decode cX1_tell 18 = .ok (.getfield 18, 3) := by decide +kernel
theorem dX1_tell_21 : decode cX1_tell 21 = .ok (.aload_n 0, 1) := by decide +kernel
theorem dX1_tell_22 : decode cX1_tell 22 = .ok (.getfield 25, 3) := by decide +kernel
theorem dX1_tell_25 : decode cX1_tell 25 = .ok (.iconst 3, 1) := by decide +kernel
theorem dX1_tell_26 : decode cX1_tell 26 = .ok (.imul, 1) := by decide +kernel
theorem dX1_tell_27 : decode cX1_tell 27 = .ok (.aload_n 0, 1) := by decide +kernel
theorem dX1_tell_28 : decode cX1_tell 28 = .ok (.getfield 83, 3) := by decide +kernel
theorem dX1_tell_31 : decode cX1_tell 31 = .ok (.iadd, 1) := by decide +kernel
theorem dX1_tell_32 : decode cX1_tell 32 = .ok (.iload_n 1, 1) := by decide +kernel
theorem dX1_tell_33 : decode cX1_tell 33 = .ok (.iastore, 1) := by decide +kernel
theorem dX1_tell_34 : decode cX1_tell 34 = .ok (.aload_n 0, 1) := by decide +kernel
theorem dX1_tell_35 : decode cX1_tell 35 = .ok (.dup, 1) := by decide +kernel
theorem dX1_tell_36 : decode cX1_tell 36 = .ok (.getfield 83, 3) := by decide +kernel
theorem dX1_tell_39 : decode cX1_tell 39 = .ok (.iconst 1, 1) := by decide +kernel
theorem dX1_tell_40 : decode cX1_tell 40 = .ok (.iadd, 1) := by decide +kernel
theorem dX1_tell_41 : decode cX1_tell 41 = .ok (.putfield 83, 3) := by decide +kernel
theorem dX1_tell_44 : decode cX1_tell 44 = .ok (.return_, 1) := by decide +kernel
theorem dX2_init_0 : decode cX2_init 0 = .ok (.aload_n 0, 1) := by decide +kernel
theorem dX2_init_1 : decode cX2_init 1 = .ok (.invokespecial 3, 3) := by decide +kernel
theorem dX2_init_4 : decode cX2_init 4 = .ok (.aload_n 0, 1) := by decide +kernel
theorem dX2_init_5 : decode cX2_init 5 = .ok (.bipush 63, 2) := by decide +kernel
theorem dX2_init_7 : decode cX2_init 7 = .ok (.putfield 9, 3) := by decide +kernel
theorem dX2_init_10 : decode cX2_init 10 = .ok (.aload_n 0, 1) := by decide +kernel
theorem dX2_init_11 : decode cX2_init 11 = .ok (.iconst 2, 1) := by decide +kernel
theorem dX2_init_12 : decode cX2_init 12 = .ok (.putfield 15, 3) := by decide +kernel
theorem dX2_init_15 : decode cX2_init 15 = .ok (.aload_n 0, 1) := by decide +kernel
theorem dX2_init_16 : decode cX2_init 16 = .ok (.bipush 6, 2) := by decide +kernel
theorem dX2_init_18 : decode cX2_init 18 = .ok (.newarray .int, 2) := by decide +kernel
theorem dX2_init_20 : decode cX2_init 20 = .ok (.putfield 18, 3) := by decide +kernel
theorem dX2_init_23 : decode cX2_init 23 = .ok (.aload_n 0, 1) := by decide +kernel
theorem dX2_init_24 : decode cX2_init 24 = .ok (.bipush 96, 2) := by decide +kernel
theorem dX2_init_26 : decode cX2_init 26 = .ok (.newarray .int, 2) := by decide +kernel
theorem dX2_init_28 : decode cX2_init 28 = .ok (.putfield 22, 3) := by decide +kernel
theorem dX2_init_31 : decode cX2_init 31 = .ok (.aload_n 0, 1) := by decide +kernel
theorem dX2_init_32 : decode cX2_init 32 = .ok (.bipush 96, 2) := by decide +kernel
theorem dX2_init_34 : decode cX2_init 34 = .ok (.newarray .int, 2) := by decide +kernel
theorem dX2_init_36 : decode cX2_init 36 = .ok (.putfield 25, 3) := by decide +kernel
theorem dX2_init_39 : decode cX2_init 39 = .ok (.aload_n 0, 1) := by decide +kernel
theorem dX2_init_40 : decode cX2_init 40 = .ok (.iconst 3, 1) := by decide +kernel
theorem dX2_init_41 : decode cX2_init 41 = .ok (.newarray .int, 2) := by decide +kernel
theorem dX2_init_43 : decode cX2_init 43 = .ok (.putfield 28, 3) := by decide +kernel
theorem dX2_init_46 : decode cX2_init 46 = .ok (.aload_n 0, 1) := by decide +kernel
theorem dX2_init_47 : decode cX2_init 47 = .ok (.iconst 3, 1) := by decide +kernel
theorem dX2_init_48 : decode cX2_init 48 = .ok (.newarray .int, 2) := by decide +kernel
theorem dX2_init_50 : decode cX2_init 50 = .ok (.putfield 31, 3) := by decide +kernel
theorem dX2_init_53 : decode cX2_init 53 = .ok (.aload_n 0, 1) := by decide +kernel
theorem dX2_init_54 : decode cX2_init 54 = .ok (.iconst 3, 1) := by decide +kernel
theorem dX2_init_55 : decode cX2_init 55 = .ok (.newarray .int, 2) := by decide +kernel
theorem dX2_init_57 : decode cX2_init 57 = .ok (.putfield 34, 3) := by decide +kernel
theorem dX2_init_60 : decode cX2_init 60 = .ok (.aload_n 0, 1) := by decide +kernel
theorem dX2_init_61 : decode cX2_init 61 = .ok (.bipush 48, 2) := by decide +kernel
theorem dX2_init_63 : decode cX2_init 63 = .ok (.newarray .int, 2) := by decide +kernel
theorem dX2_init_65 : decode cX2_init 65 = .ok (.putfield 37, 3) := by decide +kernel
theorem dX2_init_68 : decode cX2_init 68 = .ok (.aload_n 0, 1) := by decide +kernel
theorem dX2_init_69 : decode cX2_init 69 = .ok (.sipush 288, 3) := by decide +kernel
theorem dX2_init_72 : decode cX2_init 72 = .ok (.newarray .int, 2) := by decide +kernel
theorem dX2_init_74 : decode cX2_init 74 = .ok (.putfield 40, 3) := by decide +kernel
theorem dX2_init_77 : decode cX2_init 77 = .ok (.aload_n 0, 1) := by decide +kernel
theorem dX2_init_78 : decode cX2_init 78 = .ok (.sipush 288, 3) := by decide +kernel
theorem dX2_init_81 : decode cX2_init 81 = .ok (.newarray .int, 2) := by decide +kernel
theorem dX2_init_83 : decode cX2_init 83 = .ok (.putfield 43, 3) := by decide +kernel
theorem dX2_init_86 : decode cX2_init 86 = .ok (.aload_n 0, 1) := by decide +kernel
theorem dX2_init_87 : decode cX2_init 87 = .ok (.bipush 17, 2) := by decide +kernel
theorem dX2_init_89 : decode cX2_init 89 = .ok (.newarray .int, 2) := by decide +kernel
theorem dX2_init_91 : decode cX2_init 91 = .ok (.putfield 46, 3) := by decide +kernel
theorem dX2_init_94 : decode cX2_init 94 = .ok (.aload_n 0, 1) := by decide +kernel
theorem dX2_init_95 : decode cX2_init 95 = .ok (.bipush 17, 2) := by decide +kernel
theorem dX2_init_97 : decode cX2_init 97 = .ok (.newarray .int, 2) := by decide +kernel
theorem dX2_init_99 : decode cX2_init 99 = .ok (.putfield 49, 3) := by decide +kernel
theorem dX2_init_102 : decode cX2_init 102 = .ok (.return_, 1) := by decide +kernel
set_option maxRecDepth 20000 in
theorem ggX2_copy_X2_copyAll : GoodIn wsX2_copy wsX2_copyAll := goodIn_r _ [20, 21, 22, 23, 24, 25, 26, 27, 28] (by decide +kernel) (by decide +kernel)
set_option maxRecDepth 20000 in
theorem gX2_copy_X2_copyAll : GoodIn wsX2_copy (va_wsS RX2 61 yX2_copyAll wsX2_copyAll) := goodIn_app (goodIn_of _ (by decide +kernel)) ggX2_copy_X2_copyAll
theorem dX2_copy_0 : decode cX2_copy 0 = .ok (.aload_n 0, 1) := by decide +kernel
theorem dX2_copy_1 : decode cX2_copy 1 = .ok (.aload_n 1, 1) := by decide +kernel
theorem dX2_copy_2 : decode cX2_copy 2 = .ok (.getfield 9, 3) := by decide +kernel
theorem dX2_copy_5 : decode cX2_copy 5 = .ok (.putfield 9, 3) := by decide +kernel
theorem dX2_copy_8 : decode cX2_copy 8 = .ok (.aload_n 0, 1) := by decide +kernel
theorem dX2_copy_9 : decode cX2_copy 9 = .ok (.aload_n 1, 1) := by decide +kernel
theorem dX2_copy_10 : decode cX2_copy 10 = .ok (.getfield 15, 3) := by decide +kernel
theorem dX2_copy_13 : decode cX2_copy 13 = .ok (.putfield 15, 3) := by decide +kernel
theorem dX2_copy_16 : decode cX2_copy 16 = .ok (.aload_n 0, 1) := by decide +kernel
theorem dX2_copy_17 : decode cX2_copy 17 = .ok (.aload_n 1, 1) := by decide +kernel
theorem dX2_copy_18 : decode cX2_copy 18 = .ok (.getfield 52, 3) := by decide +kernel
theorem dX2_copy_21 : decode cX2_copy 21 = .ok (.putfield 52, 3) := by decide +kernel
theorem dX2_copy_24 : decode cX2_copy 24 = .ok (.aload_n 0, 1) := by decide +kernel
theorem dX2_copy_25 : decode cX2_copy 25 = .ok (.aload_n 1, 1) := by decide +kernel
theorem dX2_copy_26 : decode cX2_copy 26 = .ok (.getfield 55, 3) := by decide +kernel
theorem dX2_copy_29 : decode cX2_copy 29 = .ok (.putfield 55, 3) := by decide +kernel
theorem dX2_copy_32 : decode cX2_copy 32 = .ok (.aload_n 0, 1) := by decide +kernel
theorem dX2_copy_33 : decode cX2_copy 33 = .ok (.aload_n 1, 1) := by decide +kernel
theorem dX2_copy_34 : decode cX2_copy 34 = .ok (.getfield 58, 3) := by decide +kernel
theorem dX2_copy_37 : decode cX2_copy 37 = .ok (.putfield 58, 3) := by decide +kernel
theorem dX2_copy_40 : decode cX2_copy 40 = .ok (.aload_n 1, 1) := by decide +kernel
theorem dX2_copy_41 : decode cX2_copy 41 = .ok (.getfield 18, 3) := by decide +kernel
theorem dX2_copy_44 : decode cX2_copy 44 = .ok (.aload_n 0, 1) := by decide +kernel
theorem dX2_copy_45 : decode cX2_copy 45 = .ok (.getfield 18, 3) := by decide +kernel
theorem dX2_copy_48 : decode cX2_copy 48 = .ok (.invokestatic 61, 3) := by decide +kernel
theorem dX2_copy_51 : decode cX2_copy 51 = .ok (.aload_n 1, 1) := by decide +kernel
theorem dX2_copy_52 : decode cX2_copy 52 = .ok (.getfield 22, 3) := by decide +kernel
theorem dX2_copy_55 : decode cX2_copy 55 = .ok (.aload_n 0, 1) := by decide +kernel
theorem dX2_copy_56 : decode cX2_copy 56 = .ok (.getfield 22, 3) := by decide +kernel
theorem dX2_copy_59 : decode cX2_copy 59 = .ok (.invokestatic 61, 3) := by decide +kernel
theorem dX2_copy_62 : decode cX2_copy 62 = .ok (.aload_n 1, 1) := by decide +kernel
theorem dX2_copy_63 : decode cX2_copy 63 = .ok (.getfield 25, 3) := by decide +kernel
theorem dX2_copy_66 : decode cX2_copy 66 = .ok (.aload_n 0, 1) := by decide +kernel
theorem dX2_copy_67 : decode cX2_copy 67 = .ok (.getfield 25, 3) := by decide +kernel
theorem dX2_copy_70 : decode cX2_copy 70 = .ok (.invokestatic 61, 3) := by decide +kernel
theorem dX2_copy_73 : decode cX2_copy 73 = .ok (.aload_n 1, 1) := by decide +kernel
theorem dX2_copy_74 : decode cX2_copy 74 = .ok (.getfield 28, 3) := by decide +kernel
theorem dX2_copy_77 : decode cX2_copy 77 = .ok (.aload_n 0, 1) := by decide +kernel
theorem dX2_copy_78 : decode cX2_copy 78 = .ok (.getfield 28, 3) := by decide +kernel
theorem dX2_copy_81 : decode cX2_copy 81 = .ok (.invokestatic 61, 3) := by decide +kernel
theorem dX2_copy_84 : decode cX2_copy 84 = .ok (.aload_n 1, 1) := by decide +kernel
theorem dX2_copy_85 : decode cX2_copy 85 = .ok (.getfield 31, 3) := by decide +kernel
theorem dX2_copy_88 : decode cX2_copy 88 = .ok (.aload_n 0, 1) := by decide +kernel
theorem dX2_copy_89 : decode cX2_copy 89 = .ok (.getfield 31, 3) := by decide +kernel
theorem dX2_copy_92 : decode cX2_copy 92 = .ok (.invokestatic 61, 3) := by decide +kernel
theorem dX2_copy_95 : decode cX2_copy 95 = .ok (.aload_n 1, 1) := by decide +kernel
theorem dX2_copy_96 : decode cX2_copy 96 = .ok (.getfield 34, 3) := by decide +kernel
theorem dX2_copy_99 : decode cX2_copy 99 = .ok (.aload_n 0, 1) := by decide +kernel
theorem dX2_copy_100 : decode cX2_copy 100 = .ok (.getfield 34, 3) := by decide +kernel
theorem dX2_copy_103 : decode cX2_copy 103 = .ok (.invokestatic 61, 3) := by decide +kernel
theorem dX2_copy_106 : decode cX2_copy 106 = .ok (.aload_n 1, 1) := by decide +kernel
theorem dX2_copy_107 : decode cX2_copy 107 = .ok (.getfield 37, 3) := by decide +kernel
theorem dX2_copy_110 : decode cX2_copy 110 = .ok (.aload_n 0, 1) := by decide +kernel
theorem dX2_copy_111 : decode cX2_copy 111 = .ok (.getfield 37, 3) := by decide +kernel
theorem dX2_copy_114 : decode cX2_copy 114 = .ok (.invokestatic 61, 3) := by decide +kernel
theorem dX2_copy_117 : decode cX2_copy 117 = .ok (.aload_n 1, 1) := by decide +kernel
theorem dX2_copy_118 : decode cX2_copy 118 = .ok (.getfield 40, 3) := by decide +kernel
theorem dX2_copy_121 : decode cX2_copy 121 = .ok (.aload_n 0, 1) := by decide +kernel
theorem dX2_copy_122 : decode cX2_copy 122 = .ok (.getfield 40, 3) := by decide +kernel
theorem dX2_copy_125 : decode cX2_copy 125 = .ok (.invokestatic 61, 3) := by decide +kernel
theorem dX2_copy_128 : decode cX2_copy 128 = .ok (.aload_n 1, 1) := by decide +kernel
theorem dX2_copy_129 : decode cX2_copy 129 = .ok (.getfield 43, 3) := by decide +kernel
theorem dX2_copy_132 : decode cX2_copy 132 = .ok (.aload_n 0, 1) := by decide +kernel
theorem dX2_copy_133 : decode cX2_copy 133 = .ok (.getfield 43, 3) := by decide +kernel
theorem dX2_copy_136 : decode cX2_copy 136 = .ok (.invokestatic 61, 3) := by decide +kernel
theorem dX2_copy_139 : decode cX2_copy 139 = .ok (.aload_n 1, 1) := by decide +kernel
theorem dX2_copy_140 : decode cX2_copy 140 = .ok (.getfield 46, 3) := by decide +kernel
theorem dX2_copy_143 : decode cX2_copy 143 = .ok (.aload_n 0, 1) := by decide +kernel
theorem dX2_copy_144 : decode cX2_copy 144 = .ok (.getfield 46, 3) := by decide +kernel
theorem dX2_copy_147 : decode cX2_copy 147 = .ok (.invokestatic 61, 3) := by decide +kernel
theorem dX2_copy_150 : decode cX2_copy 150 = .ok (.aload_n 1, 1) := by decide +kernel
theorem dX2_copy_151 : decode cX2_copy 151 = .ok (.getfield 49, 3) := by decide +kernel
theorem dX2_copy_154 : decode cX2_copy 154 = .ok (.aload_n 0, 1) := by decide +kernel
theorem dX2_copy_155 : decode cX2_copy 155 = .ok (.getfield 49, 3) := by decide +kernel
theorem dX2_copy_158 : decode cX2_copy 158 = .ok (.invokestatic 61, 3) := by decide +kernel
theorem dX2_copy_161 : decode cX2_copy 161 = .ok (.return_, 1) := by decide +kernel
theorem dX2_copyAll_0 : decode cX2_copyAll 0 = .ok (.aload_n 0, 1) := by decide +kernel
theorem dX2_copyAll_1 : decode cX2_copyAll 1 = .ok (.iconst 0, 1) := by decide +kernel
theorem dX2_copyAll_2 : decode cX2_copyAll 2 = .ok (.aload_n 1, 1) := by decide +kernel
theorem dX2_copyAll_3 : decode cX2_copyAll 3 = .ok (.iconst 0, 1) := by decide +kernel
theorem dX2_copyAll_4 : decode cX2_copyAll 4 = .ok (.aload_n 0, 1) := by decide +kernel
theorem dX2_copyAll_5 : decode cX2_copyAll 5 = .ok (.arraylength, 1) := by decide +kernel
theorem dX2_copyAll_6 : decode cX2_copyAll 6 = .ok (.aload_n 1, 1) := by decide +kernel
theorem dX2_copyAll_7 : decode cX2_copyAll 7 = .ok (.arraylength, 1) := by decide +kernel
theorem dX2_copyAll_8 : decode cX2_copyAll 8 = .ok (.invokestatic 65, 3) := by decide +kernel
theorem dX2_copyAll_11 : decode cX2_copyAll 11 = .ok (.invokestatic 71, 3) := by decide +kernel
theorem dX2_copyAll_14 : decode cX2_copyAll 14 = .ok (.return_, 1) := by decide +kernel
set_option maxRecDepth 20000 in
theorem ggX2_turn_X4_isAcceptor : GoodIn wsX2_turn wsX4_isAcceptor := goodIn_r _ [4] (by decide +kernel) (by decide +kernel)
set_option maxRecDepth 20000 in
theorem gX2_turn_X4_isAcceptor_n77 : GoodIn wsX2_turn (wsX4_isAcceptor) := ggX2_turn_X4_isAcceptor
set_option maxRecDepth 20000 in
theorem ggX2_turn_X4_has : GoodIn wsX2_turn wsX4_has := goodIn_r _ [6] (by decide +kernel) (by decide +kernel)
set_option maxRecDepth 20000 in
theorem gX2_turn_X4_has_n81 : GoodIn wsX2_turn (wsX4_has) := ggX2_turn_X4_has
set_option maxRecDepth 20000 in
theorem ggX2_turn_J6_bitCount_0f7a4 : GoodIn wsX2_turn wsJ6_bitCount_0f7a4 := goodIn_r _ [10, 11, 12, 13] (by decide +kernel) (by decide +kernel)
set_option maxRecDepth 20000 in
theorem gX2_turn_J6_bitCount_0f7a4 : GoodIn wsX2_turn (va_wsS RX2 85 yJ6_bitCount_0f7a4 wsJ6_bitCount_0f7a4) := goodIn_app (goodIn_of _ (by decide +kernel)) ggX2_turn_J6_bitCount_0f7a4
theorem dX2_turn_0 : decode cX2_turn 0 = .ok (.iload_n 1, 1) := by decide +kernel
theorem dX2_turn_1 : decode cX2_turn 1 = .ok (.invokestatic 77, 3) := by decide +kernel
theorem dX2_turn_4 : decode cX2_turn 4 = .ok (.ifCond .ne 5, 3) := by decide +kernel
theorem dX2_turn_7 : decode cX2_turn 7 = .ok (.iconst (-1), 1) := by decide +kernel
theorem dX2_turn_8 : decode cX2_turn 8 = .ok (.ireturn, 1) := by decide +kernel
theorem dX2_turn_9 : decode cX2_turn 9 = .ok (.aload_n 0, 1) := by decide +kernel
theorem dX2_turn_10 : decode cX2_turn 10 = .ok (.getfield 9, 3) := by decide +kernel
theorem dX2_turn_13 : decode cX2_turn 13 = .ok (.iload_n 1, 1) := by decide +kernel
theorem dX2_turn_14 : decode cX2_turn 14 = .ok (.invokestatic 81, 3) := by decide +kernel
theorem dX2_turn_17 : decode cX2_turn 17 = .ok (.iload_n 2, 1) := by decide +kernel
theorem dX2_turn_18 : decode cX2_turn 18 = .ok (.if_icmp .ne 6, 3) := by decide +kernel
theorem dX2_turn_21 : decode cX2_turn 21 = .ok (.bipush (-5), 2) := by decide +kernel
theorem dX2_turn_23 : decode cX2_turn 23 = .ok (.ireturn, 1) := by decide +kernel
theorem dX2_turn_24 : decode cX2_turn 24 = .ok (.aload_n 0, 1) := by decide +kernel
theorem dX2_turn_25 : decode cX2_turn 25 = .ok (.dup, 1) := by decide +kernel
theorem dX2_turn_26 : decode cX2_turn 26 = .ok (.getfield 9, 3) := by decide +kernel
theorem dX2_turn_29 : decode cX2_turn 29 = .ok (.iconst 1, 1) := by decide +kernel
theorem dX2_turn_30 : decode cX2_turn 30 = .ok (.iload_n 1, 1) := by decide +kernel
theorem dX2_turn_31 : decode cX2_turn 31 = .ok (.ishl, 1) := by decide +kernel
theorem dX2_turn_32 : decode cX2_turn 32 = .ok (.ixor, 1) := by decide +kernel
theorem dX2_turn_33 : decode cX2_turn 33 = .ok (.putfield 9, 3) := by decide +kernel
theorem dX2_turn_36 : decode cX2_turn 36 = .ok (.aload_n 0, 1) := by decide +kernel
theorem dX2_turn_37 : decode cX2_turn 37 = .ok (.getfield 9, 3) := by decide +kernel
theorem dX2_turn_40 : decode cX2_turn 40 = .ok (.invokestatic 85, 3) := by decide +kernel
theorem dX2_turn_43 : decode cX2_turn 43 = .ok (.ireturn, 1) := by decide +kernel
set_option maxRecDepth 20000 in
theorem ggX2_startBallot_X4_isProposer : GoodIn wsX2_startBallot wsX4_isProposer := goodIn_r _ [6] (by decide +kernel) (by decide +kernel)
set_option maxRecDepth 20000 in
theorem gX2_startBallot_X4_isProposer_n98 : GoodIn wsX2_startBallot (wsX4_isProposer) := ggX2_startBallot_X4_isProposer
set_option maxRecDepth 20000 in
theorem ggX2_startBallot_X2_nextBallot : GoodIn wsX2_startBallot wsX2_nextBallot := goodIn_r _ [11, 1, 12, 13, 14, 15, 16, 19, 20, 21, 22, 23, 24, 25, 26, 27, 28, 29, 30, 31, 32, 33, 34] (by decide +kernel) (by decide +kernel)
set_option maxRecDepth 20000 in
theorem gX2_startBallot_X2_nextBallot : GoodIn wsX2_startBallot (wsV RX2 101 RX2 yX2_nextBallot wsX2_nextBallot) := goodIn_app (goodIn_of _ (by decide +kernel)) ggX2_startBallot_X2_nextBallot
set_option maxRecDepth 20000 in
theorem ggX2_startBallot_X4_cell : GoodIn wsX2_startBallot wsX4_cell := goodIn_r _ [18] (by decide +kernel) (by decide +kernel)
set_option maxRecDepth 20000 in
theorem gX2_startBallot_X4_cell_n104 : GoodIn wsX2_startBallot (wsX4_cell) := ggX2_startBallot_X4_cell
theorem dX2_startBallot_0 : decode cX2_startBallot 0 = .ok (.iload_n 1, 1) := by decide +kernel
theorem dX2_startBallot_1 : decode cX2_startBallot 1 = .ok (.invokestatic 98, 3) := by decide +kernel
theorem dX2_startBallot_4 : decode cX2_startBallot 4 = .ok (.ifCond .ne 5, 3) := by decide +kernel
theorem dX2_startBallot_7 : decode cX2_startBallot 7 = .ok (.iconst (-1), 1) := by decide +kernel
theorem dX2_startBallot_8 : decode cX2_startBallot 8 = .ok (.ireturn, 1) := by decide +kernel
theorem dX2_startBallot_9 : decode cX2_startBallot 9 = .ok (.aload_n 0, 1) := by decide +kernel
theorem dX2_startBallot_10 : decode cX2_startBallot 10 = .ok (.iload_n 1, 1) := by decide +kernel
theorem dX2_startBallot_11 : decode cX2_startBallot 11 = .ok (.invokevirtual 101, 3) := by decide +kernel
theorem dX2_startBallot_14 : decode cX2_startBallot 14 = .ok (.istore_n 2, 1) := by decide +kernel
theorem dX2_startBallot_15 : decode cX2_startBallot 15 = .ok (.iload_n 2, 1) := by decide +kernel
theorem dX2_startBallot_16 : decode cX2_startBallot 16 = .ok (.sipush 999, 3) := by decide +kernel
theorem dX2_startBallot_19 : decode cX2_startBallot 19 = .ok (.if_icmp .le 6, 3) := by decide +kernel
theorem dX2_startBallot_22 : decode cX2_startBallot 22 = .ok (.bipush (-3), 2) := by decide +kernel
theorem dX2_startBallot_24 : decode cX2_startBallot 24 = .ok (.ireturn, 1) := by decide +kernel
theorem dX2_startBallot_25 : decode cX2_startBallot 25 = .ok (.aload_n 0, 1) := by decide +kernel
theorem dX2_startBallot_26 : decode cX2_startBallot 26 = .ok (.getfield 28, 3) := by decide +kernel
theorem dX2_startBallot_29 : decode cX2_startBallot 29 = .ok (.iload_n 1, 1) := by decide +kernel
theorem dX2_startBallot_30 : decode cX2_startBallot 30 = .ok (.iload_n 2, 1) := by decide +kernel
theorem dX2_startBallot_31 : decode cX2_startBallot 31 = .ok (.iastore, 1) := by decide +kernel
theorem dX2_startBallot_32 : decode cX2_startBallot 32 = .ok (.aload_n 0, 1) := by decide +kernel
theorem dX2_startBallot_33 : decode cX2_startBallot 33 = .ok (.getfield 34, 3) := by decide +kernel
theorem dX2_startBallot_36 : decode cX2_startBallot 36 = .ok (.iload_n 1, 1) := by decide +kernel
theorem dX2_startBallot_37 : decode cX2_startBallot 37 = .ok (.iconst 0, 1) := by decide +kernel
theorem dX2_startBallot_38 : decode cX2_startBallot 38 = .ok (.iastore, 1) := by decide +kernel
theorem dX2_startBallot_39 : decode cX2_startBallot 39 = .ok (.iconst 1, 1) := by decide +kernel
theorem dX2_startBallot_40 : decode cX2_startBallot 40 = .ok (.istore_n 3, 1) := by decide +kernel
theorem dX2_startBallot_41 : decode cX2_startBallot 41 = .ok (.iload_n 3, 1) := by decide +kernel
theorem dX2_startBallot_42 : decode cX2_startBallot 42 = .ok (.bipush 16, 2) := by decide +kernel
theorem dX2_startBallot_44 : decode cX2_startBallot 44 = .ok (.if_icmp .gt 20, 3) := by decide +kernel
theorem dX2_startBallot_47 : decode cX2_startBallot 47 = .ok (.aload_n 0, 1) := by decide +kernel
theorem dX2_startBallot_48 : decode cX2_startBallot 48 = .ok (.getfield 37, 3) := by decide +kernel
theorem dX2_startBallot_51 : decode cX2_startBallot 51 = .ok (.iload_n 1, 1) := by decide +kernel
theorem dX2_startBallot_52 : decode cX2_startBallot 52 = .ok (.iload_n 3, 1) := by decide +kernel
theorem dX2_startBallot_53 : decode cX2_startBallot 53 = .ok (.invokestatic 104, 3) := by decide +kernel
theorem dX2_startBallot_56 : decode cX2_startBallot 56 = .ok (.iconst 0, 1) := by decide +kernel
theorem dX2_startBallot_57 : decode cX2_startBallot 57 = .ok (.iastore, 1) := by decide +kernel
theorem dX2_startBallot_58 : decode cX2_startBallot 58 = .ok (.iinc 3 1, 3) := by decide +kernel
theorem dX2_startBallot_61 : decode cX2_startBallot 61 = .ok (.goto (-20), 3) := by decide +kernel
theorem dX2_startBallot_64 : decode cX2_startBallot 64 = .ok (.iload_n 2, 1) := by decide +kernel
theorem dX2_startBallot_65 : decode cX2_startBallot 65 = .ok (.ireturn, 1) := by decide +kernel
set_option maxRecDepth 20000 in
theorem ggX2_askPromise_X4_isProposer : GoodIn wsX2_askPromise wsX4_isProposer := goodIn_r _ [8] (by decide +kernel) (by decide +kernel)
set_option maxRecDepth 20000 in
theorem gX2_askPromise_X4_isProposer_n98 : GoodIn wsX2_askPromise (wsX4_isProposer) := ggX2_askPromise_X4_isProposer
set_option maxRecDepth 20000 in
theorem ggX2_askPromise_X4_isAcceptor : GoodIn wsX2_askPromise wsX4_isAcceptor := goodIn_r _ [10] (by decide +kernel) (by decide +kernel)
set_option maxRecDepth 20000 in
theorem gX2_askPromise_X4_isAcceptor_n77 : GoodIn wsX2_askPromise (wsX4_isAcceptor) := ggX2_askPromise_X4_isAcceptor
set_option maxRecDepth 20000 in
theorem ggX2_askPromise_X4_has : GoodIn wsX2_askPromise wsX4_has := goodIn_r _ [12] (by decide +kernel) (by decide +kernel)
set_option maxRecDepth 20000 in
theorem gX2_askPromise_X4_has_n81 : GoodIn wsX2_askPromise (wsX4_has) := ggX2_askPromise_X4_has
set_option maxRecDepth 20000 in
theorem ggX2_askPromise_X2_refuse : GoodIn wsX2_askPromise wsX2_refuse := goodIn_r _ [17, 18, 4, 19, 20, 21, 22, 37, 38, 39, 40, 41, 42, 43, 44, 45, 46, 47, 48, 49, 50, 51, 52] (by decide +kernel) (by decide +kernel)
set_option maxRecDepth 20000 in
theorem gX2_askPromise_X2_refuse : GoodIn wsX2_askPromise (wsV RX2 107 RX2 yX2_refuse wsX2_refuse) := goodIn_app (goodIn_of _ (by decide +kernel)) ggX2_askPromise_X2_refuse
set_option maxRecDepth 20000 in
theorem ggX2_askPromise_X2_tellVotes : GoodIn wsX2_askPromise wsX2_tellVotes := goodIn_r _ [26, 27, 28, 29, 30, 31, 7, 32, 37, 38, 39, 40, 41, 42, 43, 44, 45, 46, 47, 48, 49, 50, 51, 52] (by decide +kernel) (by decide +kernel)
set_option maxRecDepth 20000 in
theorem gX2_askPromise_X2_tellVotes : GoodIn wsX2_askPromise (wsV RX2 110 RX2 yX2_tellVotes wsX2_tellVotes) := goodIn_app (goodIn_of _ (by decide +kernel)) ggX2_askPromise_X2_tellVotes
set_option maxRecDepth 20000 in
theorem ggX2_askPromise_X2_votesOf : GoodIn wsX2_askPromise wsX2_votesOf := goodIn_r _ [36, 28, 31, 7, 32, 37, 38, 39, 40, 41, 42, 43, 44, 45, 46, 47, 48, 49, 50, 51, 52] (by decide +kernel) (by decide +kernel)
set_option maxRecDepth 20000 in
theorem gX2_askPromise_X2_votesOf : GoodIn wsX2_askPromise (wsV RX2 114 RX2 yX2_votesOf wsX2_votesOf) := goodIn_app (goodIn_of _ (by decide +kernel)) ggX2_askPromise_X2_votesOf
theorem dX2_askPromise_0 : decode cX2_askPromise 0 = .ok (.iload_n 1, 1) := by decide +kernel
theorem dX2_askPromise_1 : decode cX2_askPromise 1 = .ok (.invokestatic 98, 3) := by decide +kernel
theorem dX2_askPromise_4 : decode cX2_askPromise 4 = .ok (.ifCond .eq 10, 3) := by decide +kernel
theorem dX2_askPromise_7 : decode cX2_askPromise 7 = .ok (.iload_n 2, 1) := by decide +kernel
theorem dX2_askPromise_8 : decode cX2_askPromise 8 = .ok (.invokestatic 77, 3) := by decide +kernel
theorem dX2_askPromise_11 : decode cX2_askPromise 11 = .ok (.ifCond .ne 5, 3) := by decide +kernel
theorem dX2_askPromise_14 : decode cX2_askPromise 14 = .ok (.iconst (-1), 1) := by decide +kernel
theorem dX2_askPromise_15 : decode cX2_askPromise 15 = .ok (.ireturn, 1) := by decide +kernel
theorem dX2_askPromise_16 : decode cX2_askPromise 16 = .ok (.aload_n 0, 1) := by decide +kernel
theorem dX2_askPromise_17 : decode cX2_askPromise 17 = .ok (.getfield 28, 3) := by decide +kernel
theorem dX2_askPromise_20 : decode cX2_askPromise 20 = .ok (.iload_n 1, 1) := by decide +kernel
theorem dX2_askPromise_21 : decode cX2_askPromise 21 = .ok (.iaload, 1) := by decide +kernel
theorem dX2_askPromise_22 : decode cX2_askPromise 22 = .ok (.ifCond .eq 14, 3) := by decide +kernel
theorem dX2_askPromise_25 : decode cX2_askPromise 25 = .ok (.aload_n 0, 1) := by decide +kernel
theorem dX2_askPromise_26 : decode cX2_askPromise 26 = .ok (.getfield 9, 3) := by decide +kernel
theorem dX2_askPromise_29 : decode cX2_askPromise 29 = .ok (.iload_n 2, 1) := by decide +kernel
theorem dX2_askPromise_30 : decode cX2_askPromise 30 = .ok (.invokestatic 81, 3) := by decide +kernel
theorem dX2_askPromise_33 : decode cX2_askPromise 33 = .ok (.ifCond .ne 6, 3) := by decide +kernel
theorem dX2_askPromise_36 : decode cX2_askPromise 36 = .ok (.bipush (-4), 2) := by decide +kernel
theorem dX2_askPromise_38 : decode cX2_askPromise 38 = .ok (.ireturn, 1) := by decide +kernel
theorem dX2_askPromise_39 : decode cX2_askPromise 39 = .ok (.aload_n 0, 1) := by decide +kernel
theorem dX2_askPromise_40 : decode cX2_askPromise 40 = .ok (.getfield 34, 3) := by decide +kernel
theorem dX2_askPromise_43 : decode cX2_askPromise 43 = .ok (.iload_n 1, 1) := by decide +kernel
theorem dX2_askPromise_44 : decode cX2_askPromise 44 = .ok (.iaload, 1) := by decide +kernel
theorem dX2_askPromise_45 : decode cX2_askPromise 45 = .ok (.iload_n 2, 1) := by decide +kernel
theorem dX2_askPromise_46 : decode cX2_askPromise 46 = .ok (.invokestatic 81, 3) := by decide +kernel
theorem dX2_askPromise_49 : decode cX2_askPromise 49 = .ok (.ifCond .eq 6, 3) := by decide +kernel
theorem dX2_askPromise_52 : decode cX2_askPromise 52 = .ok (.bipush (-5), 2) := by decide +kernel
theorem dX2_askPromise_54 : decode cX2_askPromise 54 = .ok (.ireturn, 1) := by decide +kernel
theorem dX2_askPromise_55 : decode cX2_askPromise 55 = .ok (.aload_n 0, 1) := by decide +kernel
theorem dX2_askPromise_56 : decode cX2_askPromise 56 = .ok (.getfield 28, 3) := by decide +kernel
theorem dX2_askPromise_59 : decode cX2_askPromise 59 = .ok (.iload_n 1, 1) := by decide +kernel
theorem dX2_askPromise_60 : decode cX2_askPromise 60 = .ok (.iaload, 1) := by decide +kernel
theorem dX2_askPromise_61 : decode cX2_askPromise 61 = .ok (.aload_n 0, 1) := by decide +kernel
theorem dX2_askPromise_62 : decode cX2_askPromise 62 = .ok (.getfield 18, 3) := by decide +kernel
theorem dX2_askPromise_65 : decode cX2_askPromise 65 = .ok (.iload_n 2, 1) := by decide +kernel
theorem dX2_askPromise_66 : decode cX2_askPromise 66 = .ok (.iaload, 1) := by decide +kernel
theorem dX2_askPromise_67 : decode cX2_askPromise 67 = .ok (.if_icmp .gt 20, 3) := by decide +kernel
theorem dX2_askPromise_70 : decode cX2_askPromise 70 = .ok (.aload_n 0, 1) := by decide +kernel
theorem dX2_askPromise_71 : decode cX2_askPromise 71 = .ok (.dup, 1) := by decide +kernel
theorem dX2_askPromise_72 : decode cX2_askPromise 72 = .ok (.getfield 55, 3) := by decide +kernel
theorem dX2_askPromise_75 : decode cX2_askPromise 75 = .ok (.iconst 1, 1) := by decide +kernel
theorem dX2_askPromise_76 : decode cX2_askPromise 76 = .ok (.iadd, 1) := by decide +kernel
theorem dX2_askPromise_77 : decode cX2_askPromise 77 = .ok (.putfield 55, 3) := by decide +kernel
theorem dX2_askPromise_80 : decode cX2_askPromise 80 = .ok (.aload_n 0, 1) := by decide +kernel
theorem dX2_askPromise_81 : decode cX2_askPromise 81 = .ok (.iload_n 1, 1) := by decide +kernel
theorem dX2_askPromise_82 : decode cX2_askPromise 82 = .ok (.iload_n 2, 1) := by decide +kernel
theorem dX2_askPromise_83 : decode cX2_askPromise 83 = .ok (.invokevirtual 107, 3) := by decide +kernel
theorem dX2_askPromise_86 : decode cX2_askPromise 86 = .ok (.ireturn, 1) := by decide +kernel
theorem dX2_askPromise_87 : decode cX2_askPromise 87 = .ok (.aload_n 0, 1) := by decide +kernel
theorem dX2_askPromise_88 : decode cX2_askPromise 88 = .ok (.getfield 18, 3) := by decide +kernel
theorem dX2_askPromise_91 : decode cX2_askPromise 91 = .ok (.iload_n 2, 1) := by decide +kernel
theorem dX2_askPromise_92 : decode cX2_askPromise 92 = .ok (.aload_n 0, 1) := by decide +kernel
theorem dX2_askPromise_93 : decode cX2_askPromise 93 = .ok (.getfield 28, 3) := by decide +kernel
theorem dX2_askPromise_96 : decode cX2_askPromise 96 = .ok (.iload_n 1, 1) := by decide +kernel
theorem dX2_askPromise_97 : decode cX2_askPromise 97 = .ok (.iaload, 1) := by decide +kernel
theorem dX2_askPromise_98 : decode cX2_askPromise 98 = .ok (.iastore, 1) := by decide +kernel
theorem dX2_askPromise_99 : decode cX2_askPromise 99 = .ok (.aload_n 0, 1) := by decide +kernel
theorem dX2_askPromise_100 : decode cX2_askPromise 100 = .ok (.getfield 34, 3) := by decide +kernel
theorem dX2_askPromise_103 : decode cX2_askPromise 103 = .ok (.iload_n 1, 1) := by decide +kernel
theorem dX2_askPromise_104 : decode cX2_askPromise 104 = .ok (.dup2, 1) := by decide +kernel
theorem dX2_askPromise_105 : decode cX2_askPromise 105 = .ok (.iaload, 1) := by decide +kernel
theorem dX2_askPromise_106 : decode cX2_askPromise 106 = .ok (.iconst 1, 1) := by decide +kernel
theorem dX2_askPromise_107 : decode cX2_askPromise 107 = .ok (.iload_n 2, 1) := by decide +kernel
theorem dX2_askPromise_108 : decode cX2_askPromise 108 = .ok (.ishl, 1) := by decide +kernel
theorem dX2_askPromise_109 : decode cX2_askPromise 109 = .ok (.ior, 1) := by decide +kernel
theorem dX2_askPromise_110 : decode cX2_askPromise 110 = .ok (.iastore, 1) := by decide +kernel
theorem dX2_askPromise_111 : decode cX2_askPromise 111 = .ok (.aload_n 0, 1) := by decide +kernel
theorem dX2_askPromise_112 : decode cX2_askPromise 112 = .ok (.iload_n 1, 1) := by decide +kernel
theorem dX2_askPromise_113 : decode cX2_askPromise 113 = .ok (.iload_n 2, 1) := by decide +kernel
theorem dX2_askPromise_114 : decode cX2_askPromise 114 = .ok (.invokevirtual 110, 3) := by decide +kernel
theorem dX2_askPromise_117 : decode cX2_askPromise 117 = .ok (.aload_n 0, 1) := by decide +kernel
theorem dX2_askPromise_118 : decode cX2_askPromise 118 = .ok (.iload_n 2, 1) := by decide +kernel
theorem dX2_askPromise_119 : decode cX2_askPromise 119 = .ok (.bipush 16, 2) := by decide +kernel
theorem dX2_askPromise_121 : decode cX2_askPromise 121 = .ok (.invokevirtual 114, 3) := by decide +kernel
theorem dX2_askPromise_124 : decode cX2_askPromise 124 = .ok (.ireturn, 1) := by decide +kernel
set_option maxRecDepth 20000 in
theorem ggX2_offerValue_X4_isProposer : GoodIn wsX2_offerValue wsX4_isProposer := goodIn_r _ [4] (by decide +kernel) (by decide +kernel)
set_option maxRecDepth 20000 in
theorem gX2_offerValue_X4_isProposer_n98 : GoodIn wsX2_offerValue (wsX4_isProposer) := ggX2_offerValue_X4_isProposer
set_option maxRecDepth 20000 in
theorem ggX2_offerValue_X4_isSlot : GoodIn wsX2_offerValue wsX4_isSlot := goodIn_r _ [6] (by decide +kernel) (by decide +kernel)
set_option maxRecDepth 20000 in
theorem gX2_offerValue_X4_isSlot_n117 : GoodIn wsX2_offerValue (wsX4_isSlot) := ggX2_offerValue_X4_isSlot
set_option maxRecDepth 20000 in
theorem ggX2_offerValue_X4_isValue : GoodIn wsX2_offerValue wsX4_isValue := goodIn_r _ [8] (by decide +kernel) (by decide +kernel)
set_option maxRecDepth 20000 in
theorem gX2_offerValue_X4_isValue_n120 : GoodIn wsX2_offerValue (wsX4_isValue) := ggX2_offerValue_X4_isValue
set_option maxRecDepth 20000 in
theorem ggX2_offerValue_X2_mayOffer : GoodIn wsX2_offerValue wsX2_mayOffer := goodIn_r _ [13, 14, 15, 1, 16, 17, 18, 12, 19, 20, 21, 22, 23, 24, 25, 26, 27, 28, 29, 30, 31, 32, 33, 34, 35, 36, 37, 38, 39, 40, 41, 42, 43, 44, 45, 46, 47, 48, 49, 50, 51, 52, 53, 54, 55, 56, 57, 3, 58, 67, 68, 69, 70, 71, 72, 73, 74, 75, 76, 77, 78, 79, 80, 81, 82] (by decide +kernel) (by decide +kernel)
set_option maxRecDepth 20000 in
theorem gX2_offerValue_X2_mayOffer : GoodIn wsX2_offerValue (wsV RX2 123 RX2 yX2_mayOffer wsX2_mayOffer) := goodIn_app (goodIn_of _ (by decide +kernel)) ggX2_offerValue_X2_mayOffer
set_option maxRecDepth 20000 in
theorem ggX2_offerValue_X2_boundValue : GoodIn wsX2_offerValue wsX2_boundValue := goodIn_r _ [62, 29, 63, 64, 34, 35, 36, 12, 37, 24, 57, 3, 58, 65, 66, 67, 68, 69, 70, 71, 72, 73, 74, 75, 76, 77, 78, 79, 80, 81, 82] (by decide +kernel) (by decide +kernel)
set_option maxRecDepth 20000 in
theorem gX2_offerValue_X2_boundValue : GoodIn wsX2_offerValue (wsV RX2 126 RX2 yX2_boundValue wsX2_boundValue) := goodIn_app (goodIn_of _ (by decide +kernel)) ggX2_offerValue_X2_boundValue
set_option maxRecDepth 20000 in
theorem ggX2_offerValue_X4_cell : GoodIn wsX2_offerValue wsX4_cell := goodIn_r _ [58] (by decide +kernel) (by decide +kernel)
set_option maxRecDepth 20000 in
theorem gX2_offerValue_X4_cell_n104 : GoodIn wsX2_offerValue (wsX4_cell) := ggX2_offerValue_X4_cell
theorem dX2_offerValue_0 : decode cX2_offerValue 0 = .ok (.iload_n 1, 1) := by decide +kernel
theorem dX2_offerValue_1 : decode cX2_offerValue 1 = .ok (.invokestatic 98, 3) := by decide +kernel
theorem dX2_offerValue_4 : decode cX2_offerValue 4 = .ok (.ifCond .eq 10, 3) := by decide +kernel
theorem dX2_offerValue_7 : decode cX2_offerValue 7 = .ok (.iload_n 2, 1) := by decide +kernel
theorem dX2_offerValue_8 : decode cX2_offerValue 8 = .ok (.invokestatic 117, 3) := by decide +kernel
theorem dX2_offerValue_11 : decode cX2_offerValue 11 = .ok (.ifCond .ne 5, 3) := by decide +kernel
theorem dX2_offerValue_14 : decode cX2_offerValue 14 = .ok (.iconst (-1), 1) := by decide +kernel
theorem dX2_offerValue_15 : decode cX2_offerValue 15 = .ok (.ireturn, 1) := by decide +kernel
theorem dX2_offerValue_16 : decode cX2_offerValue 16 = .ok (.iload_n 3, 1) := by decide +kernel
theorem dX2_offerValue_17 : decode cX2_offerValue 17 = .ok (.invokestatic 120, 3) := by decide +kernel
theorem dX2_offerValue_20 : decode cX2_offerValue 20 = .ok (.ifCond .ne 6, 3) := by decide +kernel
theorem dX2_offerValue_23 : decode cX2_offerValue 23 = .ok (.bipush (-2), 2) := by decide +kernel
theorem dX2_offerValue_25 : decode cX2_offerValue 25 = .ok (.ireturn, 1) := by decide +kernel
theorem dX2_offerValue_26 : decode cX2_offerValue 26 = .ok (.aload_n 0, 1) := by decide +kernel
theorem dX2_offerValue_27 : decode cX2_offerValue 27 = .ok (.iload_n 1, 1) := by decide +kernel
theorem dX2_offerValue_28 : decode cX2_offerValue 28 = .ok (.iload_n 2, 1) := by decide +kernel
theorem dX2_offerValue_29 : decode cX2_offerValue 29 = .ok (.invokevirtual 123, 3) := by decide +kernel
theorem dX2_offerValue_32 : decode cX2_offerValue 32 = .ok (.ifCond .ne 6, 3) := by decide +kernel
theorem dX2_offerValue_35 : decode cX2_offerValue 35 = .ok (.bipush (-4), 2) := by decide +kernel
theorem dX2_offerValue_37 : decode cX2_offerValue 37 = .ok (.ireturn, 1) := by decide +kernel
theorem dX2_offerValue_38 : decode cX2_offerValue 38 = .ok (.aload_n 0, 1) := by decide +kernel
theorem dX2_offerValue_39 : decode cX2_offerValue 39 = .ok (.iload_n 1, 1) := by decide +kernel
theorem dX2_offerValue_40 : decode cX2_offerValue 40 = .ok (.iload_n 2, 1) := by decide +kernel
theorem dX2_offerValue_41 : decode cX2_offerValue 41 = .ok (.invokevirtual 126, 3) := by decide +kernel
theorem dX2_offerValue_44 : decode cX2_offerValue 44 = .ok (.istore 4, 2) := by decide +kernel
theorem dX2_offerValue_46 : decode cX2_offerValue 46 = .ok (.iload 4, 2) := by decide +kernel
theorem dX2_offerValue_48 : decode cX2_offerValue 48 = .ok (.ifCond .ne 7, 3) := by decide +kernel
theorem dX2_offerValue_51 : decode cX2_offerValue 51 = .ok (.iload_n 3, 1) := by decide +kernel
theorem dX2_offerValue_52 : decode cX2_offerValue 52 = .ok (.goto 5, 3) := by decide +kernel
theorem dX2_offerValue_55 : decode cX2_offerValue 55 = .ok (.iload 4, 2) := by decide +kernel
theorem dX2_offerValue_57 : decode cX2_offerValue 57 = .ok (.istore 5, 2) := by decide +kernel
theorem dX2_offerValue_59 : decode cX2_offerValue 59 = .ok (.aload_n 0, 1) := by decide +kernel
theorem dX2_offerValue_60 : decode cX2_offerValue 60 = .ok (.getfield 37, 3) := by decide +kernel
theorem dX2_offerValue_63 : decode cX2_offerValue 63 = .ok (.iload_n 1, 1) := by decide +kernel
theorem dX2_offerValue_64 : decode cX2_offerValue 64 = .ok (.iload_n 2, 1) := by decide +kernel
theorem dX2_offerValue_65 : decode cX2_offerValue 65 = .ok (.invokestatic 104, 3) := by decide +kernel
theorem dX2_offerValue_68 : decode cX2_offerValue 68 = .ok (.iload 5, 2) := by decide +kernel
theorem dX2_offerValue_70 : decode cX2_offerValue 70 = .ok (.iastore, 1) := by decide +kernel
theorem dX2_offerValue_71 : decode cX2_offerValue 71 = .ok (.iload 5, 2) := by decide +kernel
theorem dX2_offerValue_73 : decode cX2_offerValue 73 = .ok (.ireturn, 1) := by decide +kernel
set_option maxRecDepth 20000 in
theorem ggX2_askVote_X4_isProposer : GoodIn wsX2_askVote wsX4_isProposer := goodIn_r _ [11] (by decide +kernel) (by decide +kernel)
set_option maxRecDepth 20000 in
theorem gX2_askVote_X4_isProposer_n98 : GoodIn wsX2_askVote (wsX4_isProposer) := ggX2_askVote_X4_isProposer
set_option maxRecDepth 20000 in
theorem ggX2_askVote_X4_isSlot : GoodIn wsX2_askVote wsX4_isSlot := goodIn_r _ [13] (by decide +kernel) (by decide +kernel)
set_option maxRecDepth 20000 in
theorem gX2_askVote_X4_isSlot_n117 : GoodIn wsX2_askVote (wsX4_isSlot) := ggX2_askVote_X4_isSlot
set_option maxRecDepth 20000 in
theorem ggX2_askVote_X4_isAcceptor : GoodIn wsX2_askVote wsX4_isAcceptor := goodIn_r _ [15] (by decide +kernel) (by decide +kernel)
set_option maxRecDepth 20000 in
theorem gX2_askVote_X4_isAcceptor_n77 : GoodIn wsX2_askVote (wsX4_isAcceptor) := ggX2_askVote_X4_isAcceptor
set_option maxRecDepth 20000 in
theorem ggX2_askVote_X2_mayAskVote : GoodIn wsX2_askVote wsX2_mayAskVote := goodIn_r _ [20, 6, 21, 22, 23, 10, 24, 25, 26, 27, 28, 29, 19, 30, 7, 59, 60, 61, 62, 63, 64, 65, 66, 67, 68, 69, 70, 71, 72, 73, 74] (by decide +kernel) (by decide +kernel)
set_option maxRecDepth 20000 in
theorem gX2_askVote_X2_mayAskVote : GoodIn wsX2_askVote (wsV RX2 129 RX2 yX2_mayAskVote wsX2_mayAskVote) := goodIn_app (goodIn_of _ (by decide +kernel)) ggX2_askVote_X2_mayAskVote
set_option maxRecDepth 20000 in
theorem ggX2_askVote_X4_cell : GoodIn wsX2_askVote wsX4_cell := goodIn_r _ [24] (by decide +kernel) (by decide +kernel)
set_option maxRecDepth 20000 in
theorem gX2_askVote_X4_cell_n104 : GoodIn wsX2_askVote (wsX4_cell) := ggX2_askVote_X4_cell
set_option maxRecDepth 20000 in
theorem ggX2_askVote_X2_refuse : GoodIn wsX2_askVote wsX2_refuse := goodIn_r _ [34, 35, 3, 36, 37, 38, 39, 59, 60, 61, 62, 63, 64, 65, 66, 67, 68, 69, 70, 71, 72, 73, 74] (by decide +kernel) (by decide +kernel)
set_option maxRecDepth 20000 in
theorem gX2_askVote_X2_refuse : GoodIn wsX2_askVote (wsV RX2 107 RX2 yX2_refuse wsX2_refuse) := goodIn_app (goodIn_of _ (by decide +kernel)) ggX2_askVote_X2_refuse
set_option maxRecDepth 20000 in
theorem ggX2_askVote_X2_votersFor : GoodIn wsX2_askVote wsX2_votersFor := goodIn_r _ [43, 1, 27, 28, 29, 19, 30, 7, 25, 10, 26, 23, 24, 59, 60, 61, 62, 63, 64, 65, 66, 67, 68, 69, 70, 71, 72, 73, 74] (by decide +kernel) (by decide +kernel)
set_option maxRecDepth 20000 in
theorem gX2_askVote_X2_votersFor : GoodIn wsX2_askVote (wsV RX2 133 RX2 yX2_votersFor wsX2_votersFor) := goodIn_app (goodIn_of _ (by decide +kernel)) ggX2_askVote_X2_votersFor
set_option maxRecDepth 20000 in
theorem ggX2_askVote_J6_bitCount_0f7a4 : GoodIn wsX2_askVote wsJ6_bitCount_0f7a4 := goodIn_r _ [47, 48, 49, 50] (by decide +kernel) (by decide +kernel)
set_option maxRecDepth 20000 in
theorem gX2_askVote_J6_bitCount_0f7a4 : GoodIn wsX2_askVote (va_wsS RX2 85 yJ6_bitCount_0f7a4 wsJ6_bitCount_0f7a4) := goodIn_app (goodIn_of _ (by decide +kernel)) ggX2_askVote_J6_bitCount_0f7a4
set_option maxRecDepth 20000 in
theorem ggX2_askVote_X2_votersOf : GoodIn wsX2_askVote wsX2_votersOf := goodIn_r _ [30, 7, 59, 60, 61, 62, 63, 64, 65, 66, 67, 68, 69, 70, 71, 72, 73, 74] (by decide +kernel) (by decide +kernel)
set_option maxRecDepth 20000 in
theorem gX2_askVote_X2_votersOf : GoodIn wsX2_askVote (wsV RX2 136 RX2 yX2_votersOf wsX2_votersOf) := goodIn_app (goodIn_of _ (by decide +kernel)) ggX2_askVote_X2_votersOf
set_option maxRecDepth 20000 in
theorem ggX2_askVote_X2_secondSize : GoodIn wsX2_askVote wsX2_secondSize := goodIn_r _ [54, 55, 56, 57, 38, 58, 44, 45, 46, 47, 48, 49, 50, 59, 60, 61, 62, 63, 64, 65, 66, 67, 68, 69, 70, 71, 72, 73, 74] (by decide +kernel) (by decide +kernel)
set_option maxRecDepth 20000 in
theorem gX2_askVote_X2_secondSize : GoodIn wsX2_askVote (wsV RX2 139 RX2 yX2_secondSize wsX2_secondSize) := goodIn_app (goodIn_of _ (by decide +kernel)) ggX2_askVote_X2_secondSize
theorem dX2_askVote_0 : decode cX2_askVote 0 = .ok (.iload_n 1, 1) := by decide +kernel
theorem dX2_askVote_1 : decode cX2_askVote 1 = .ok (.invokestatic 98, 3) := by decide +kernel
theorem dX2_askVote_4 : decode cX2_askVote 4 = .ok (.ifCond .eq 17, 3) := by decide +kernel
theorem dX2_askVote_7 : decode cX2_askVote 7 = .ok (.iload_n 2, 1) := by decide +kernel
theorem dX2_askVote_8 : decode cX2_askVote 8 = .ok (.invokestatic 117, 3) := by decide +kernel
theorem dX2_askVote_11 : decode cX2_askVote 11 = .ok (.ifCond .eq 10, 3) := by decide +kernel
theorem dX2_askVote_14 : decode cX2_askVote 14 = .ok (.iload_n 3, 1) := by decide +kernel
theorem dX2_askVote_15 : decode cX2_askVote 15 = .ok (.invokestatic 77, 3) := by decide +kernel
theorem dX2_askVote_18 : decode cX2_askVote 18 = .ok (.ifCond .ne 5, 3) := by decide +kernel
theorem dX2_askVote_21 : decode cX2_askVote 21 = .ok (.iconst (-1), 1) := by decide +kernel
theorem dX2_askVote_22 : decode cX2_askVote 22 = .ok (.ireturn, 1) := by decide +kernel
theorem dX2_askVote_23 : decode cX2_askVote 23 = .ok (.aload_n 0, 1) := by decide +kernel
theorem dX2_askVote_24 : decode cX2_askVote 24 = .ok (.iload_n 1, 1) := by decide +kernel
theorem dX2_askVote_25 : decode cX2_askVote 25 = .ok (.iload_n 2, 1) := by decide +kernel
theorem dX2_askVote_26 : decode cX2_askVote 26 = .ok (.iload_n 3, 1) := by decide +kernel
theorem dX2_askVote_27 : decode cX2_askVote 27 = .ok (.invokevirtual 129, 3) := by decide +kernel
theorem dX2_askVote_30 : decode cX2_askVote 30 = .ok (.ifCond .ne 6, 3) := by decide +kernel
theorem dX2_askVote_33 : decode cX2_askVote 33 = .ok (.bipush (-4), 2) := by decide +kernel
theorem dX2_askVote_35 : decode cX2_askVote 35 = .ok (.ireturn, 1) := by decide +kernel
theorem dX2_askVote_36 : decode cX2_askVote 36 = .ok (.iload_n 3, 1) := by decide +kernel
theorem dX2_askVote_37 : decode cX2_askVote 37 = .ok (.iload_n 2, 1) := by decide +kernel
theorem dX2_askVote_38 : decode cX2_askVote 38 = .ok (.invokestatic 104, 3) := by decide +kernel
theorem dX2_askVote_41 : decode cX2_askVote 41 = .ok (.istore 4, 2) := by decide +kernel
theorem dX2_askVote_43 : decode cX2_askVote 43 = .ok (.aload_n 0, 1) := by decide +kernel
theorem dX2_askVote_44 : decode cX2_askVote 44 = .ok (.getfield 22, 3) := by decide +kernel
theorem dX2_askVote_47 : decode cX2_askVote 47 = .ok (.iload 4, 2) := by decide +kernel
theorem dX2_askVote_49 : decode cX2_askVote 49 = .ok (.iaload, 1) := by decide +kernel
theorem dX2_askVote_50 : decode cX2_askVote 50 = .ok (.aload_n 0, 1) := by decide +kernel
theorem dX2_askVote_51 : decode cX2_askVote 51 = .ok (.getfield 28, 3) := by decide +kernel
theorem dX2_askVote_54 : decode cX2_askVote 54 = .ok (.iload_n 1, 1) := by decide +kernel
theorem dX2_askVote_55 : decode cX2_askVote 55 = .ok (.iaload, 1) := by decide +kernel
theorem dX2_askVote_56 : decode cX2_askVote 56 = .ok (.if_icmp .ne 6, 3) := by decide +kernel
theorem dX2_askVote_59 : decode cX2_askVote 59 = .ok (.bipush (-5), 2) := by decide +kernel
theorem dX2_askVote_61 : decode cX2_askVote 61 = .ok (.ireturn, 1) := by decide +kernel
theorem dX2_askVote_62 : decode cX2_askVote 62 = .ok (.aload_n 0, 1) := by decide +kernel
theorem dX2_askVote_63 : decode cX2_askVote 63 = .ok (.getfield 28, 3) := by decide +kernel
theorem dX2_askVote_66 : decode cX2_askVote 66 = .ok (.iload_n 1, 1) := by decide +kernel
theorem dX2_askVote_67 : decode cX2_askVote 67 = .ok (.iaload, 1) := by decide +kernel
theorem dX2_askVote_68 : decode cX2_askVote 68 = .ok (.aload_n 0, 1) := by decide +kernel
theorem dX2_askVote_69 : decode cX2_askVote 69 = .ok (.getfield 18, 3) := by decide +kernel
theorem dX2_askVote_72 : decode cX2_askVote 72 = .ok (.iload_n 3, 1) := by decide +kernel
theorem dX2_askVote_73 : decode cX2_askVote 73 = .ok (.iaload, 1) := by decide +kernel
theorem dX2_askVote_74 : decode cX2_askVote 74 = .ok (.if_icmp .ge 20, 3) := by decide +kernel
theorem dX2_askVote_77 : decode cX2_askVote 77 = .ok (.aload_n 0, 1) := by decide +kernel
theorem dX2_askVote_78 : decode cX2_askVote 78 = .ok (.dup, 1) := by decide +kernel
theorem dX2_askVote_79 : decode cX2_askVote 79 = .ok (.getfield 58, 3) := by decide +kernel
theorem dX2_askVote_82 : decode cX2_askVote 82 = .ok (.iconst 1, 1) := by decide +kernel
theorem dX2_askVote_83 : decode cX2_askVote 83 = .ok (.iadd, 1) := by decide +kernel
theorem dX2_askVote_84 : decode cX2_askVote 84 = .ok (.putfield 58, 3) := by decide +kernel
theorem dX2_askVote_87 : decode cX2_askVote 87 = .ok (.aload_n 0, 1) := by decide +kernel
theorem dX2_askVote_88 : decode cX2_askVote 88 = .ok (.iload_n 1, 1) := by decide +kernel
theorem dX2_askVote_89 : decode cX2_askVote 89 = .ok (.iload_n 3, 1) := by decide +kernel
theorem dX2_askVote_90 : decode cX2_askVote 90 = .ok (.invokevirtual 107, 3) := by decide +kernel
theorem dX2_askVote_93 : decode cX2_askVote 93 = .ok (.ireturn, 1) := by decide +kernel
theorem dX2_askVote_94 : decode cX2_askVote 94 = .ok (.aload_n 0, 1) := by decide +kernel
theorem dX2_askVote_95 : decode cX2_askVote 95 = .ok (.getfield 18, 3) := by decide +kernel
theorem dX2_askVote_98 : decode cX2_askVote 98 = .ok (.iload_n 3, 1) := by decide +kernel
theorem dX2_askVote_99 : decode cX2_askVote 99 = .ok (.aload_n 0, 1) := by decide +kernel
theorem dX2_askVote_100 : decode cX2_askVote 100 = .ok (.getfield 28, 3) := by decide +kernel
theorem dX2_askVote_103 : decode cX2_askVote 103 = .ok (.iload_n 1, 1) := by decide +kernel
theorem dX2_askVote_104 : decode cX2_askVote 104 = .ok (.iaload, 1) := by decide +kernel
theorem dX2_askVote_105 : decode cX2_askVote 105 = .ok (.iastore, 1) := by decide +kernel
theorem dX2_askVote_106 : decode cX2_askVote 106 = .ok (.aload_n 0, 1) := by decide +kernel
theorem dX2_askVote_107 : decode cX2_askVote 107 = .ok (.getfield 22, 3) := by decide +kernel
theorem dX2_askVote_110 : decode cX2_askVote 110 = .ok (.iload 4, 2) := by decide +kernel
theorem dX2_askVote_112 : decode cX2_askVote 112 = .ok (.aload_n 0, 1) := by decide +kernel
theorem dX2_askVote_113 : decode cX2_askVote 113 = .ok (.getfield 28, 3) := by decide +kernel
theorem dX2_askVote_116 : decode cX2_askVote 116 = .ok (.iload_n 1, 1) := by decide +kernel
theorem dX2_askVote_117 : decode cX2_askVote 117 = .ok (.iaload, 1) := by decide +kernel
theorem dX2_askVote_118 : decode cX2_askVote 118 = .ok (.iastore, 1) := by decide +kernel
theorem dX2_askVote_119 : decode cX2_askVote 119 = .ok (.aload_n 0, 1) := by decide +kernel
theorem dX2_askVote_120 : decode cX2_askVote 120 = .ok (.getfield 25, 3) := by decide +kernel
theorem dX2_askVote_123 : decode cX2_askVote 123 = .ok (.iload 4, 2) := by decide +kernel
theorem dX2_askVote_125 : decode cX2_askVote 125 = .ok (.aload_n 0, 1) := by decide +kernel
theorem dX2_askVote_126 : decode cX2_askVote 126 = .ok (.getfield 37, 3) := by decide +kernel
theorem dX2_askVote_129 : decode cX2_askVote 129 = .ok (.iload_n 1, 1) := by decide +kernel
theorem dX2_askVote_130 : decode cX2_askVote 130 = .ok (.iload_n 2, 1) := by decide +kernel
theorem dX2_askVote_131 : decode cX2_askVote 131 = .ok (.invokestatic 104, 3) := by decide +kernel
theorem dX2_askVote_134 : decode cX2_askVote 134 = .ok (.iaload, 1) := by decide +kernel
theorem dX2_askVote_135 : decode cX2_askVote 135 = .ok (.iastore, 1) := by decide +kernel
theorem dX2_askVote_136 : decode cX2_askVote 136 = .ok (.aload_n 0, 1) := by decide +kernel
theorem dX2_askVote_137 : decode cX2_askVote 137 = .ok (.iload_n 2, 1) := by decide +kernel
theorem dX2_askVote_138 : decode cX2_askVote 138 = .ok (.aload_n 0, 1) := by decide +kernel
theorem dX2_askVote_139 : decode cX2_askVote 139 = .ok (.getfield 28, 3) := by decide +kernel
theorem dX2_askVote_142 : decode cX2_askVote 142 = .ok (.iload_n 1, 1) := by decide +kernel
theorem dX2_askVote_143 : decode cX2_askVote 143 = .ok (.iaload, 1) := by decide +kernel
theorem dX2_askVote_144 : decode cX2_askVote 144 = .ok (.invokevirtual 133, 3) := by decide +kernel
theorem dX2_askVote_147 : decode cX2_askVote 147 = .ok (.invokestatic 85, 3) := by decide +kernel
theorem dX2_askVote_150 : decode cX2_askVote 150 = .ok (.istore 5, 2) := by decide +kernel
theorem dX2_askVote_152 : decode cX2_askVote 152 = .ok (.aload_n 0, 1) := by decide +kernel
theorem dX2_askVote_153 : decode cX2_askVote 153 = .ok (.getfield 46, 3) := by decide +kernel
theorem dX2_askVote_156 : decode cX2_askVote 156 = .ok (.iload_n 2, 1) := by decide +kernel
theorem dX2_askVote_157 : decode cX2_askVote 157 = .ok (.iaload, 1) := by decide +kernel
theorem dX2_askVote_158 : decode cX2_askVote 158 = .ok (.ifCond .ne 42, 3) := by decide +kernel
theorem dX2_askVote_161 : decode cX2_askVote 161 = .ok (.iload 5, 2) := by decide +kernel
theorem dX2_askVote_163 : decode cX2_askVote 163 = .ok (.aload_n 0, 1) := by decide +kernel
theorem dX2_askVote_164 : decode cX2_askVote 164 = .ok (.aload_n 0, 1) := by decide +kernel
theorem dX2_askVote_165 : decode cX2_askVote 165 = .ok (.iload_n 2, 1) := by decide +kernel
theorem dX2_askVote_166 : decode cX2_askVote 166 = .ok (.invokevirtual 136, 3) := by decide +kernel
theorem dX2_askVote_169 : decode cX2_askVote 169 = .ok (.invokevirtual 139, 3) := by decide +kernel
theorem dX2_askVote_172 : decode cX2_askVote 172 = .ok (.if_icmp .lt 28, 3) := by decide +kernel
theorem dX2_askVote_175 : decode cX2_askVote 175 = .ok (.aload_n 0, 1) := by decide +kernel
theorem dX2_askVote_176 : decode cX2_askVote 176 = .ok (.getfield 46, 3) := by decide +kernel
theorem dX2_askVote_179 : decode cX2_askVote 179 = .ok (.iload_n 2, 1) := by decide +kernel
theorem dX2_askVote_180 : decode cX2_askVote 180 = .ok (.aload_n 0, 1) := by decide +kernel
theorem dX2_askVote_181 : decode cX2_askVote 181 = .ok (.getfield 25, 3) := by decide +kernel
theorem dX2_askVote_184 : decode cX2_askVote 184 = .ok (.iload 4, 2) := by decide +kernel
theorem dX2_askVote_186 : decode cX2_askVote 186 = .ok (.iaload, 1) := by decide +kernel
theorem dX2_askVote_187 : decode cX2_askVote 187 = .ok (.iastore, 1) := by decide +kernel
theorem dX2_askVote_188 : decode cX2_askVote 188 = .ok (.aload_n 0, 1) := by decide +kernel
theorem dX2_askVote_189 : decode cX2_askVote 189 = .ok (.getfield 49, 3) := by decide +kernel
theorem dX2_askVote_192 : decode cX2_askVote 192 = .ok (.iload_n 2, 1) := by decide +kernel
theorem dX2_askVote_193 : decode cX2_askVote 193 = .ok (.aload_n 0, 1) := by decide +kernel
theorem dX2_askVote_194 : decode cX2_askVote 194 = .ok (.getfield 28, 3) := by decide +kernel
theorem dX2_askVote_197 : decode cX2_askVote 197 = .ok (.iload_n 1, 1) := by decide +kernel
theorem dX2_askVote_198 : decode cX2_askVote 198 = .ok (.iaload, 1) := by decide +kernel
theorem dX2_askVote_199 : decode cX2_askVote 199 = .ok (.iastore, 1) := by decide +kernel
theorem dX2_askVote_200 : decode cX2_askVote 200 = .ok (.iload 5, 2) := by decide +kernel
theorem dX2_askVote_202 : decode cX2_askVote 202 = .ok (.ireturn, 1) := by decide +kernel
set_option maxRecDepth 20000 in
theorem ggX2_forgetUpTo_X4_isSlot : GoodIn wsX2_forgetUpTo wsX4_isSlot := goodIn_r _ [4] (by decide +kernel) (by decide +kernel)
set_option maxRecDepth 20000 in
theorem gX2_forgetUpTo_X4_isSlot_n117 : GoodIn wsX2_forgetUpTo (wsX4_isSlot) := ggX2_forgetUpTo_X4_isSlot
set_option maxRecDepth 20000 in
theorem ggX2_forgetUpTo_X2_prefix : GoodIn wsX2_forgetUpTo wsX2_prefix := goodIn_r _ [9, 10, 23, 24, 25, 26, 27, 28, 29, 30, 31, 32, 33, 34, 35, 36, 37, 38] (by decide +kernel) (by decide +kernel)
set_option maxRecDepth 20000 in
theorem gX2_forgetUpTo_X2_prefix : GoodIn wsX2_forgetUpTo (wsV RX2 142 RX2 yX2_prefix wsX2_prefix) := goodIn_app (goodIn_of _ (by decide +kernel)) ggX2_forgetUpTo_X2_prefix
set_option maxRecDepth 20000 in
theorem ggX2_forgetUpTo_X2_votesOf : GoodIn wsX2_forgetUpTo wsX2_votesOf := goodIn_r _ [14, 15, 16, 3, 17, 23, 24, 25, 26, 27, 28, 29, 30, 31, 32, 33, 34, 35, 36, 37, 38] (by decide +kernel) (by decide +kernel)
set_option maxRecDepth 20000 in
theorem gX2_forgetUpTo_X2_votesOf : GoodIn wsX2_forgetUpTo (wsV RX2 114 RX2 yX2_votesOf wsX2_votesOf) := goodIn_app (goodIn_of _ (by decide +kernel)) ggX2_forgetUpTo_X2_votesOf
set_option maxRecDepth 20000 in
theorem ggX2_forgetUpTo_X2_forgetVotes : GoodIn wsX2_forgetUpTo wsX2_forgetVotes := goodIn_r _ [21, 15, 22, 16, 3, 17, 23, 24, 25, 26, 27, 28, 29, 30, 31, 32, 33, 34, 35, 36, 37, 38] (by decide +kernel) (by decide +kernel)
set_option maxRecDepth 20000 in
theorem gX2_forgetUpTo_X2_forgetVotes : GoodIn wsX2_forgetUpTo (wsV RX2 146 RX2 yX2_forgetVotes wsX2_forgetVotes) := goodIn_app (goodIn_of _ (by decide +kernel)) ggX2_forgetUpTo_X2_forgetVotes
theorem dX2_forgetUpTo_0 : decode cX2_forgetUpTo 0 = .ok (.iload_n 1, 1) := by decide +kernel
theorem dX2_forgetUpTo_1 : decode cX2_forgetUpTo 1 = .ok (.invokestatic 117, 3) := by decide +kernel
theorem dX2_forgetUpTo_4 : decode cX2_forgetUpTo 4 = .ok (.ifCond .ne 5, 3) := by decide +kernel
theorem dX2_forgetUpTo_7 : decode cX2_forgetUpTo 7 = .ok (.iconst (-1), 1) := by decide +kernel
theorem dX2_forgetUpTo_8 : decode cX2_forgetUpTo 8 = .ok (.ireturn, 1) := by decide +kernel
theorem dX2_forgetUpTo_9 : decode cX2_forgetUpTo 9 = .ok (.iload_n 1, 1) := by decide +kernel
theorem dX2_forgetUpTo_10 : decode cX2_forgetUpTo 10 = .ok (.aload_n 0, 1) := by decide +kernel
theorem dX2_forgetUpTo_11 : decode cX2_forgetUpTo 11 = .ok (.invokevirtual 142, 3) := by decide +kernel
theorem dX2_forgetUpTo_14 : decode cX2_forgetUpTo 14 = .ok (.if_icmp .le 6, 3) := by decide +kernel
theorem dX2_forgetUpTo_17 : decode cX2_forgetUpTo 17 = .ok (.bipush (-4), 2) := by decide +kernel
theorem dX2_forgetUpTo_19 : decode cX2_forgetUpTo 19 = .ok (.ireturn, 1) := by decide +kernel
theorem dX2_forgetUpTo_20 : decode cX2_forgetUpTo 20 = .ok (.iload_n 1, 1) := by decide +kernel
theorem dX2_forgetUpTo_21 : decode cX2_forgetUpTo 21 = .ok (.aload_n 0, 1) := by decide +kernel
theorem dX2_forgetUpTo_22 : decode cX2_forgetUpTo 22 = .ok (.getfield 52, 3) := by decide +kernel
theorem dX2_forgetUpTo_25 : decode cX2_forgetUpTo 25 = .ok (.if_icmp .gt 6, 3) := by decide +kernel
theorem dX2_forgetUpTo_28 : decode cX2_forgetUpTo 28 = .ok (.bipush (-5), 2) := by decide +kernel
theorem dX2_forgetUpTo_30 : decode cX2_forgetUpTo 30 = .ok (.ireturn, 1) := by decide +kernel
theorem dX2_forgetUpTo_31 : decode cX2_forgetUpTo 31 = .ok (.iconst 0, 1) := by decide +kernel
theorem dX2_forgetUpTo_32 : decode cX2_forgetUpTo 32 = .ok (.istore_n 2, 1) := by decide +kernel
theorem dX2_forgetUpTo_33 : decode cX2_forgetUpTo 33 = .ok (.iconst 0, 1) := by decide +kernel
theorem dX2_forgetUpTo_34 : decode cX2_forgetUpTo 34 = .ok (.istore_n 3, 1) := by decide +kernel
theorem dX2_forgetUpTo_35 : decode cX2_forgetUpTo 35 = .ok (.iload_n 3, 1) := by decide +kernel
theorem dX2_forgetUpTo_36 : decode cX2_forgetUpTo 36 = .ok (.bipush 6, 2) := by decide +kernel
theorem dX2_forgetUpTo_38 : decode cX2_forgetUpTo 38 = .ok (.if_icmp .ge 24, 3) := by decide +kernel
theorem dX2_forgetUpTo_41 : decode cX2_forgetUpTo 41 = .ok (.iload_n 2, 1) := by decide +kernel
theorem dX2_forgetUpTo_42 : decode cX2_forgetUpTo 42 = .ok (.aload_n 0, 1) := by decide +kernel
theorem dX2_forgetUpTo_43 : decode cX2_forgetUpTo 43 = .ok (.iload_n 3, 1) := by decide +kernel
theorem dX2_forgetUpTo_44 : decode cX2_forgetUpTo 44 = .ok (.iload_n 1, 1) := by decide +kernel
theorem dX2_forgetUpTo_45 : decode cX2_forgetUpTo 45 = .ok (.invokevirtual 114, 3) := by decide +kernel
theorem dX2_forgetUpTo_48 : decode cX2_forgetUpTo 48 = .ok (.iadd, 1) := by decide +kernel
theorem dX2_forgetUpTo_49 : decode cX2_forgetUpTo 49 = .ok (.istore_n 2, 1) := by decide +kernel
theorem dX2_forgetUpTo_50 : decode cX2_forgetUpTo 50 = .ok (.aload_n 0, 1) := by decide +kernel
theorem dX2_forgetUpTo_51 : decode cX2_forgetUpTo 51 = .ok (.iload_n 3, 1) := by decide +kernel
theorem dX2_forgetUpTo_52 : decode cX2_forgetUpTo 52 = .ok (.iload_n 1, 1) := by decide +kernel
theorem dX2_forgetUpTo_53 : decode cX2_forgetUpTo 53 = .ok (.invokevirtual 146, 3) := by decide +kernel
theorem dX2_forgetUpTo_56 : decode cX2_forgetUpTo 56 = .ok (.iinc 3 1, 3) := by decide +kernel
theorem dX2_forgetUpTo_59 : decode cX2_forgetUpTo 59 = .ok (.goto (-24), 3) := by decide +kernel
theorem dX2_forgetUpTo_62 : decode cX2_forgetUpTo 62 = .ok (.aload_n 0, 1) := by decide +kernel
theorem dX2_forgetUpTo_63 : decode cX2_forgetUpTo 63 = .ok (.iload_n 1, 1) := by decide +kernel
theorem dX2_forgetUpTo_64 : decode cX2_forgetUpTo 64 = .ok (.putfield 52, 3) := by decide +kernel
theorem dX2_forgetUpTo_67 : decode cX2_forgetUpTo 67 = .ok (.iload_n 2, 1) := by decide +kernel
theorem dX2_forgetUpTo_68 : decode cX2_forgetUpTo 68 = .ok (.ireturn, 1) := by decide +kernel
theorem dX2_prefix_0 : decode cX2_prefix 0 = .ok (.iconst 0, 1) := by decide +kernel
theorem dX2_prefix_1 : decode cX2_prefix 1 = .ok (.istore_n 1, 1) := by decide +kernel
theorem dX2_prefix_2 : decode cX2_prefix 2 = .ok (.iload_n 1, 1) := by decide +kernel
theorem dX2_prefix_3 : decode cX2_prefix 3 = .ok (.bipush 16, 2) := by decide +kernel
theorem dX2_prefix_5 : decode cX2_prefix 5 = .ok (.if_icmp .ge 20, 3) := by decide +kernel
theorem dX2_prefix_8 : decode cX2_prefix 8 = .ok (.aload_n 0, 1) := by decide +kernel
theorem dX2_prefix_9 : decode cX2_prefix 9 = .ok (.getfield 46, 3) := by decide +kernel
theorem dX2_prefix_12 : decode cX2_prefix 12 = .ok (.iload_n 1, 1) := by decide +kernel
theorem dX2_prefix_13 : decode cX2_prefix 13 = .ok (.iconst 1, 1) := by decide +kernel
theorem dX2_prefix_14 : decode cX2_prefix 14 = .ok (.iadd, 1) := by decide +kernel
theorem dX2_prefix_15 : decode cX2_prefix 15 = .ok (.iaload, 1) := by decide +kernel
theorem dX2_prefix_16 : decode cX2_prefix 16 = .ok (.ifCond .eq 9, 3) := by decide +kernel
theorem dX2_prefix_19 : decode cX2_prefix 19 = .ok (.iinc 1 1, 3) := by decide +kernel
theorem dX2_prefix_22 : decode cX2_prefix 22 = .ok (.goto (-20), 3) := by decide +kernel
theorem dX2_prefix_25 : decode cX2_prefix 25 = .ok (.iload_n 1, 1) := by decide +kernel
theorem dX2_prefix_26 : decode cX2_prefix 26 = .ok (.ireturn, 1) := by decide +kernel
theorem dX2_chosenAbove_0 : decode cX2_chosenAbove 0 = .ok (.iconst 0, 1) := by decide +kernel
theorem dX2_chosenAbove_1 : decode cX2_chosenAbove 1 = .ok (.istore_n 2, 1) := by decide +kernel
theorem dX2_chosenAbove_2 : decode cX2_chosenAbove 2 = .ok (.iconst 1, 1) := by decide +kernel
theorem dX2_chosenAbove_3 : decode cX2_chosenAbove 3 = .ok (.istore_n 3, 1) := by decide +kernel
theorem dX2_chosenAbove_4 : decode cX2_chosenAbove 4 = .ok (.iload_n 3, 1) := by decide +kernel
theorem dX2_chosenAbove_5 : decode cX2_chosenAbove 5 = .ok (.bipush 16, 2) := by decide +kernel
theorem dX2_chosenAbove_7 : decode cX2_chosenAbove 7 = .ok (.if_icmp .gt 22, 3) := by decide +kernel
theorem dX2_chosenAbove_10 : decode cX2_chosenAbove 10 = .ok (.aload_n 0, 1) := by decide +kernel
theorem dX2_chosenAbove_11 : decode cX2_chosenAbove 11 = .ok (.getfield 46, 3) := by decide +kernel
theorem dX2_chosenAbove_14 : decode cX2_chosenAbove 14 = .ok (.iload_n 3, 1) := by decide +kernel
theorem dX2_chosenAbove_15 : decode cX2_chosenAbove 15 = .ok (.iaload, 1) := by decide +kernel
theorem dX2_chosenAbove_16 : decode cX2_chosenAbove 16 = .ok (.iload_n 1, 1) := by decide +kernel
theorem dX2_chosenAbove_17 : decode cX2_chosenAbove 17 = .ok (.if_icmp .le 6, 3) := by decide +kernel
theorem dX2_chosenAbove_20 : decode cX2_chosenAbove 20 = .ok (.iinc 2 1, 3) := by decide +kernel
theorem dX2_chosenAbove_23 : decode cX2_chosenAbove 23 = .ok (.iinc 3 1, 3) := by decide +kernel
theorem dX2_chosenAbove_26 : decode cX2_chosenAbove 26 = .ok (.goto (-22), 3) := by decide +kernel
theorem dX2_chosenAbove_29 : decode cX2_chosenAbove 29 = .ok (.iload_n 2, 1) := by decide +kernel
theorem dX2_chosenAbove_30 : decode cX2_chosenAbove 30 = .ok (.ireturn, 1) := by decide +kernel
set_option maxRecDepth 20000 in
theorem ggX2_isOpen_X2_prefix : GoodIn wsX2_isOpen wsX2_prefix := goodIn_r _ [5, 6, 7, 8, 9, 10, 11, 12, 13, 14, 15, 16, 17, 18, 19, 20, 21, 22] (by decide +kernel) (by decide +kernel)
set_option maxRecDepth 20000 in
theorem gX2_isOpen_X2_prefix : GoodIn wsX2_isOpen (wsV RX2 142 RX2 yX2_prefix wsX2_prefix) := goodIn_app (goodIn_of _ (by decide +kernel)) ggX2_isOpen_X2_prefix
theorem dX2_isOpen_0 : decode cX2_isOpen 0 = .ok (.iload_n 1, 1) := by decide +kernel
theorem dX2_isOpen_1 : decode cX2_isOpen 1 = .ok (.iconst 3, 1) := by decide +kernel
theorem dX2_isOpen_2 : decode cX2_isOpen 2 = .ok (.isub, 1) := by decide +kernel
theorem dX2_isOpen_3 : decode cX2_isOpen 3 = .ok (.aload_n 0, 1) := by decide +kernel
theorem dX2_isOpen_4 : decode cX2_isOpen 4 = .ok (.invokevirtual 142, 3) := by decide +kernel
theorem dX2_isOpen_7 : decode cX2_isOpen 7 = .ok (.if_icmp .gt 7, 3) := by decide +kernel
theorem dX2_isOpen_10 : decode cX2_isOpen 10 = .ok (.iconst 1, 1) := by decide +kernel
theorem dX2_isOpen_11 : decode cX2_isOpen 11 = .ok (.goto 4, 3) := by decide +kernel
theorem dX2_isOpen_14 : decode cX2_isOpen 14 = .ok (.iconst 0, 1) := by decide +kernel
theorem dX2_isOpen_15 : decode cX2_isOpen 15 = .ok (.ireturn, 1) := by decide +kernel
theorem dX2_votersOf_0 : decode cX2_votersOf 0 = .ok (.bipush 7, 2) := by decide +kernel
theorem dX2_votersOf_2 : decode cX2_votersOf 2 = .ok (.istore_n 2, 1) := by decide +kernel
theorem dX2_votersOf_3 : decode cX2_votersOf 3 = .ok (.iconst 1, 1) := by decide +kernel
theorem dX2_votersOf_4 : decode cX2_votersOf 4 = .ok (.istore_n 3, 1) := by decide +kernel
theorem dX2_votersOf_5 : decode cX2_votersOf 5 = .ok (.iload_n 3, 1) := by decide +kernel
theorem dX2_votersOf_6 : decode cX2_votersOf 6 = .ok (.bipush 16, 2) := by decide +kernel
theorem dX2_votersOf_8 : decode cX2_votersOf 8 = .ok (.if_icmp .gt 37, 3) := by decide +kernel
theorem dX2_votersOf_11 : decode cX2_votersOf 11 = .ok (.iload_n 3, 1) := by decide +kernel
theorem dX2_votersOf_12 : decode cX2_votersOf 12 = .ok (.iload_n 1, 1) := by decide +kernel
theorem dX2_votersOf_13 : decode cX2_votersOf 13 = .ok (.iconst 3, 1) := by decide +kernel
theorem dX2_votersOf_14 : decode cX2_votersOf 14 = .ok (.isub, 1) := by decide +kernel
theorem dX2_votersOf_15 : decode cX2_votersOf 15 = .ok (.if_icmp .gt 30, 3) := by decide +kernel
theorem dX2_votersOf_18 : decode cX2_votersOf 18 = .ok (.aload_n 0, 1) := by decide +kernel
theorem dX2_votersOf_19 : decode cX2_votersOf 19 = .ok (.getfield 46, 3) := by decide +kernel
theorem dX2_votersOf_22 : decode cX2_votersOf 22 = .ok (.iload_n 3, 1) := by decide +kernel
theorem dX2_votersOf_23 : decode cX2_votersOf 23 = .ok (.iaload, 1) := by decide +kernel
theorem dX2_votersOf_24 : decode cX2_votersOf 24 = .ok (.bipush 100, 2) := by decide +kernel
theorem dX2_votersOf_26 : decode cX2_votersOf 26 = .ok (.if_icmp .le 13, 3) := by decide +kernel
theorem dX2_votersOf_29 : decode cX2_votersOf 29 = .ok (.aload_n 0, 1) := by decide +kernel
theorem dX2_votersOf_30 : decode cX2_votersOf 30 = .ok (.getfield 46, 3) := by decide +kernel
theorem dX2_votersOf_33 : decode cX2_votersOf 33 = .ok (.iload_n 3, 1) := by decide +kernel
theorem dX2_votersOf_34 : decode cX2_votersOf 34 = .ok (.iaload, 1) := by decide +kernel
theorem dX2_votersOf_35 : decode cX2_votersOf 35 = .ok (.bipush 100, 2) := by decide +kernel
theorem dX2_votersOf_37 : decode cX2_votersOf 37 = .ok (.isub, 1) := by decide +kernel
theorem dX2_votersOf_38 : decode cX2_votersOf 38 = .ok (.istore_n 2, 1) := by decide +kernel
theorem dX2_votersOf_39 : decode cX2_votersOf 39 = .ok (.iinc 3 1, 3) := by decide +kernel
theorem dX2_votersOf_42 : decode cX2_votersOf 42 = .ok (.goto (-37), 3) := by decide +kernel
theorem dX2_votersOf_45 : decode cX2_votersOf 45 = .ok (.iload_n 2, 1) := by decide +kernel
theorem dX2_votersOf_46 : decode cX2_votersOf 46 = .ok (.ireturn, 1) := by decide +kernel
set_option maxRecDepth 20000 in
theorem ggX2_secondSize_J6_bitCount_0f7a4 : GoodIn wsX2_secondSize wsJ6_bitCount_0f7a4 := goodIn_r _ [9, 10, 11, 12] (by decide +kernel) (by decide +kernel)
set_option maxRecDepth 20000 in
theorem gX2_secondSize_J6_bitCount_0f7a4 : GoodIn wsX2_secondSize (va_wsS RX2 85 yJ6_bitCount_0f7a4 wsJ6_bitCount_0f7a4) := goodIn_app (goodIn_of _ (by decide +kernel)) ggX2_secondSize_J6_bitCount_0f7a4
theorem dX2_secondSize_0 : decode cX2_secondSize 0 = .ok (.aload_n 0, 1) := by decide +kernel
theorem dX2_secondSize_1 : decode cX2_secondSize 1 = .ok (.getfield 15, 3) := by decide +kernel
theorem dX2_secondSize_4 : decode cX2_secondSize 4 = .ok (.iload_n 1, 1) := by decide +kernel
theorem dX2_secondSize_5 : decode cX2_secondSize 5 = .ok (.invokestatic 85, 3) := by decide +kernel
theorem dX2_secondSize_8 : decode cX2_secondSize 8 = .ok (.invokestatic 65, 3) := by decide +kernel
theorem dX2_secondSize_11 : decode cX2_secondSize 11 = .ok (.ireturn, 1) := by decide +kernel
set_option maxRecDepth 20000 in
theorem ggX2_firstSize_J6_bitCount_0f7a4 : GoodIn wsX2_firstSize wsJ6_bitCount_0f7a4 := goodIn_r _ [4, 5, 6, 7] (by decide +kernel) (by decide +kernel)
set_option maxRecDepth 20000 in
theorem gX2_firstSize_J6_bitCount_0f7a4 : GoodIn wsX2_firstSize (va_wsS RX2 85 yJ6_bitCount_0f7a4 wsJ6_bitCount_0f7a4) := goodIn_app (goodIn_of _ (by decide +kernel)) ggX2_firstSize_J6_bitCount_0f7a4
set_option maxRecDepth 20000 in
theorem ggX2_firstSize_X2_secondSize : GoodIn wsX2_firstSize wsX2_secondSize := goodIn_r _ [12, 13, 14, 15, 16, 17, 1, 2, 3, 4, 5, 6, 7, 18, 19, 20, 21, 22, 23, 24, 25, 26, 27, 28, 29, 30, 31, 32, 33] (by decide +kernel) (by decide +kernel)
set_option maxRecDepth 20000 in
theorem gX2_firstSize_X2_secondSize : GoodIn wsX2_firstSize (wsV RX2 139 RX2 yX2_secondSize wsX2_secondSize) := goodIn_app (goodIn_of _ (by decide +kernel)) ggX2_firstSize_X2_secondSize
theorem dX2_firstSize_0 : decode cX2_firstSize 0 = .ok (.iload_n 1, 1) := by decide +kernel
theorem dX2_firstSize_1 : decode cX2_firstSize 1 = .ok (.invokestatic 85, 3) := by decide +kernel
theorem dX2_firstSize_4 : decode cX2_firstSize 4 = .ok (.iconst 1, 1) := by decide +kernel
theorem dX2_firstSize_5 : decode cX2_firstSize 5 = .ok (.iadd, 1) := by decide +kernel
theorem dX2_firstSize_6 : decode cX2_firstSize 6 = .ok (.aload_n 0, 1) := by decide +kernel
theorem dX2_firstSize_7 : decode cX2_firstSize 7 = .ok (.iload_n 1, 1) := by decide +kernel
theorem dX2_firstSize_8 : decode cX2_firstSize 8 = .ok (.invokevirtual 139, 3) := by decide +kernel
theorem dX2_firstSize_11 : decode cX2_firstSize 11 = .ok (.isub, 1) := by decide +kernel
theorem dX2_firstSize_12 : decode cX2_firstSize 12 = .ok (.ireturn, 1) := by decide +kernel
set_option maxRecDepth 20000 in
theorem ggX2_votersFor_X2_votersOf : GoodIn wsX2_votersFor wsX2_votersOf := goodIn_r _ [6, 7, 13, 14, 15, 16, 17, 18, 19, 20, 21, 22, 23, 24, 25, 26, 27, 28] (by decide +kernel) (by decide +kernel)
set_option maxRecDepth 20000 in
theorem gX2_votersFor_X2_votersOf : GoodIn wsX2_votersFor (wsV RX2 136 RX2 yX2_votersOf wsX2_votersOf) := goodIn_app (goodIn_of _ (by decide +kernel)) ggX2_votersFor_X2_votersOf
set_option maxRecDepth 20000 in
theorem ggX2_votersFor_X4_has : GoodIn wsX2_votersFor wsX4_has := goodIn_r _ [10] (by decide +kernel) (by decide +kernel)
set_option maxRecDepth 20000 in
theorem gX2_votersFor_X4_has_n81 : GoodIn wsX2_votersFor (wsX4_has) := ggX2_votersFor_X4_has
set_option maxRecDepth 20000 in
theorem ggX2_votersFor_X4_cell : GoodIn wsX2_votersFor wsX4_cell := goodIn_r _ [12] (by decide +kernel) (by decide +kernel)
set_option maxRecDepth 20000 in
theorem gX2_votersFor_X4_cell_n104 : GoodIn wsX2_votersFor (wsX4_cell) := ggX2_votersFor_X4_cell
theorem dX2_votersFor_0 : decode cX2_votersFor 0 = .ok (.aload_n 0, 1) := by decide +kernel
theorem dX2_votersFor_1 : decode cX2_votersFor 1 = .ok (.iload_n 1, 1) := by decide +kernel
theorem dX2_votersFor_2 : decode cX2_votersFor 2 = .ok (.invokevirtual 136, 3) := by decide +kernel
theorem dX2_votersFor_5 : decode cX2_votersFor 5 = .ok (.istore_n 3, 1) := by decide +kernel
theorem dX2_votersFor_6 : decode cX2_votersFor 6 = .ok (.iconst 0, 1) := by decide +kernel
theorem dX2_votersFor_7 : decode cX2_votersFor 7 = .ok (.istore 4, 2) := by decide +kernel
theorem dX2_votersFor_9 : decode cX2_votersFor 9 = .ok (.iconst 0, 1) := by decide +kernel
theorem dX2_votersFor_10 : decode cX2_votersFor 10 = .ok (.istore 5, 2) := by decide +kernel
theorem dX2_votersFor_12 : decode cX2_votersFor 12 = .ok (.iload 5, 2) := by decide +kernel
theorem dX2_votersFor_14 : decode cX2_votersFor 14 = .ok (.bipush 6, 2) := by decide +kernel
theorem dX2_votersFor_16 : decode cX2_votersFor 16 = .ok (.if_icmp .ge 42, 3) := by decide +kernel
theorem dX2_votersFor_19 : decode cX2_votersFor 19 = .ok (.iload_n 3, 1) := by decide +kernel
theorem dX2_votersFor_20 : decode cX2_votersFor 20 = .ok (.iload 5, 2) := by decide +kernel
theorem dX2_votersFor_22 : decode cX2_votersFor 22 = .ok (.invokestatic 81, 3) := by decide +kernel
theorem dX2_votersFor_25 : decode cX2_votersFor 25 = .ok (.ifCond .eq 27, 3) := by decide +kernel
theorem dX2_votersFor_28 : decode cX2_votersFor 28 = .ok (.aload_n 0, 1) := by decide +kernel
theorem dX2_votersFor_29 : decode cX2_votersFor 29 = .ok (.getfield 22, 3) := by decide +kernel
theorem dX2_votersFor_32 : decode cX2_votersFor 32 = .ok (.iload 5, 2) := by decide +kernel
theorem dX2_votersFor_34 : decode cX2_votersFor 34 = .ok (.iload_n 1, 1) := by decide +kernel
theorem dX2_votersFor_35 : decode cX2_votersFor 35 = .ok (.invokestatic 104, 3) := by decide +kernel
theorem dX2_votersFor_38 : decode cX2_votersFor 38 = .ok (.iaload, 1) := by decide +kernel
theorem dX2_votersFor_39 : decode cX2_votersFor 39 = .ok (.iload_n 2, 1) := by decide +kernel
theorem dX2_votersFor_40 : decode cX2_votersFor 40 = .ok (.if_icmp .ne 12, 3) := by decide +kernel
theorem dX2_votersFor_43 : decode cX2_votersFor 43 = .ok (.iload 4, 2) := by decide +kernel
theorem dX2_votersFor_45 : decode cX2_votersFor 45 = .ok (.iconst 1, 1) := by decide +kernel
theorem dX2_votersFor_46 : decode cX2_votersFor 46 = .ok (.iload 5, 2) := by decide +kernel
theorem dX2_votersFor_48 : decode cX2_votersFor 48 = .ok (.ishl, 1) := by decide +kernel
theorem dX2_votersFor_49 : decode cX2_votersFor 49 = .ok (.ior, 1) := by decide +kernel
theorem dX2_votersFor_50 : decode cX2_votersFor 50 = .ok (.istore 4, 2) := by decide +kernel
theorem dX2_votersFor_52 : decode cX2_votersFor 52 = .ok (.iinc 5 1, 3) := by decide +kernel
theorem dX2_votersFor_55 : decode cX2_votersFor 55 = .ok (.goto (-43), 3) := by decide +kernel
theorem dX2_votersFor_58 : decode cX2_votersFor 58 = .ok (.iload 4, 2) := by decide +kernel
theorem dX2_votersFor_60 : decode cX2_votersFor 60 = .ok (.ireturn, 1) := by decide +kernel
set_option maxRecDepth 20000 in
theorem ggX2_votesOf_X4_cell : GoodIn wsX2_votesOf wsX4_cell := goodIn_r _ [4] (by decide +kernel) (by decide +kernel)
set_option maxRecDepth 20000 in
theorem gX2_votesOf_X4_cell_n104 : GoodIn wsX2_votesOf (wsX4_cell) := ggX2_votesOf_X4_cell
theorem dX2_votesOf_0 : decode cX2_votesOf 0 = .ok (.iconst 0, 1) := by decide +kernel
theorem dX2_votesOf_1 : decode cX2_votesOf 1 = .ok (.istore_n 3, 1) := by decide +kernel
theorem dX2_votesOf_2 : decode cX2_votesOf 2 = .ok (.iconst 1, 1) := by decide +kernel
theorem dX2_votesOf_3 : decode cX2_votesOf 3 = .ok (.istore 4, 2) := by decide +kernel
theorem dX2_votesOf_5 : decode cX2_votesOf 5 = .ok (.iload 4, 2) := by decide +kernel
theorem dX2_votesOf_7 : decode cX2_votesOf 7 = .ok (.bipush 16, 2) := by decide +kernel
theorem dX2_votesOf_9 : decode cX2_votesOf 9 = .ok (.if_icmp .gt 32, 3) := by decide +kernel
theorem dX2_votesOf_12 : decode cX2_votesOf 12 = .ok (.iload 4, 2) := by decide +kernel
theorem dX2_votesOf_14 : decode cX2_votesOf 14 = .ok (.iload_n 2, 1) := by decide +kernel
theorem dX2_votesOf_15 : decode cX2_votesOf 15 = .ok (.if_icmp .gt 26, 3) := by decide +kernel
theorem dX2_votesOf_18 : decode cX2_votesOf 18 = .ok (.aload_n 0, 1) := by decide +kernel
theorem dX2_votesOf_19 : decode cX2_votesOf 19 = .ok (.getfield 22, 3) := by decide +kernel
theorem dX2_votesOf_22 : decode cX2_votesOf 22 = .ok (.iload_n 1, 1) := by decide +kernel
theorem dX2_votesOf_23 : decode cX2_votesOf 23 = .ok (.iload 4, 2) := by decide +kernel
theorem dX2_votesOf_25 : decode cX2_votesOf 25 = .ok (.invokestatic 104, 3) := by decide +kernel
theorem dX2_votesOf_28 : decode cX2_votesOf 28 = .ok (.iaload, 1) := by decide +kernel
theorem dX2_votesOf_29 : decode cX2_votesOf 29 = .ok (.ifCond .eq 6, 3) := by decide +kernel
theorem dX2_votesOf_32 : decode cX2_votesOf 32 = .ok (.iinc 3 1, 3) := by decide +kernel
theorem dX2_votesOf_35 : decode cX2_votesOf 35 = .ok (.iinc 4 1, 3) := by decide +kernel
theorem dX2_votesOf_38 : decode cX2_votesOf 38 = .ok (.goto (-33), 3) := by decide +kernel
theorem dX2_votesOf_41 : decode cX2_votesOf 41 = .ok (.iload_n 3, 1) := by decide +kernel
theorem dX2_votesOf_42 : decode cX2_votesOf 42 = .ok (.ireturn, 1) := by decide +kernel
set_option maxRecDepth 20000 in
theorem ggX2_forgetVotes_X4_cell : GoodIn wsX2_forgetVotes wsX4_cell := goodIn_r _ [5] (by decide +kernel) (by decide +kernel)
set_option maxRecDepth 20000 in
theorem gX2_forgetVotes_X4_cell_n104 : GoodIn wsX2_forgetVotes (wsX4_cell) := ggX2_forgetVotes_X4_cell
theorem dX2_forgetVotes_0 : decode cX2_forgetVotes 0 = .ok (.iconst 1, 1) := by decide +kernel
theorem dX2_forgetVotes_1 : decode cX2_forgetVotes 1 = .ok (.istore_n 3, 1) := by decide +kernel
theorem dX2_forgetVotes_2 : decode cX2_forgetVotes 2 = .ok (.iload_n 3, 1) := by decide +kernel
theorem dX2_forgetVotes_3 : decode cX2_forgetVotes 3 = .ok (.bipush 16, 2) := by decide +kernel
theorem dX2_forgetVotes_5 : decode cX2_forgetVotes 5 = .ok (.if_icmp .gt 36, 3) := by decide +kernel
theorem dX2_forgetVotes_8 : decode cX2_forgetVotes 8 = .ok (.iload_n 3, 1) := by decide +kernel
theorem dX2_forgetVotes_9 : decode cX2_forgetVotes 9 = .ok (.iload_n 2, 1) := by decide +kernel
theorem dX2_forgetVotes_10 : decode cX2_forgetVotes 10 = .ok (.if_icmp .gt 31, 3) := by decide +kernel
theorem dX2_forgetVotes_13 : decode cX2_forgetVotes 13 = .ok (.aload_n 0, 1) := by decide +kernel
theorem dX2_forgetVotes_14 : decode cX2_forgetVotes 14 = .ok (.getfield 22, 3) := by decide +kernel
theorem dX2_forgetVotes_17 : decode cX2_forgetVotes 17 = .ok (.iload_n 1, 1) := by decide +kernel
theorem dX2_forgetVotes_18 : decode cX2_forgetVotes 18 = .ok (.iload_n 3, 1) := by decide +kernel
theorem dX2_forgetVotes_19 : decode cX2_forgetVotes 19 = .ok (.invokestatic 104, 3) := by decide +kernel
theorem dX2_forgetVotes_22 : decode cX2_forgetVotes 22 = .ok (.iconst 0, 1) := by decide +kernel
theorem dX2_forgetVotes_23 : decode cX2_forgetVotes 23 = .ok (.iastore, 1) := by decide +kernel
theorem dX2_forgetVotes_24 : decode cX2_forgetVotes 24 = .ok (.aload_n 0, 1) := by decide +kernel
theorem dX2_forgetVotes_25 : decode cX2_forgetVotes 25 = .ok (.getfield 25, 3) := by decide +kernel
theorem dX2_forgetVotes_28 : decode cX2_forgetVotes 28 = .ok (.iload_n 1, 1) := by decide +kernel
theorem dX2_forgetVotes_29 : decode cX2_forgetVotes 29 = .ok (.iload_n 3, 1) := by decide +kernel
theorem dX2_forgetVotes_30 : decode cX2_forgetVotes 30 = .ok (.invokestatic 104, 3) := by decide +kernel
theorem dX2_forgetVotes_33 : decode cX2_forgetVotes 33 = .ok (.iconst 0, 1) := by decide +kernel
theorem dX2_forgetVotes_34 : decode cX2_forgetVotes 34 = .ok (.iastore, 1) := by decide +kernel
theorem dX2_forgetVotes_35 : decode cX2_forgetVotes 35 = .ok (.iinc 3 1, 3) := by decide +kernel
theorem dX2_forgetVotes_38 : decode cX2_forgetVotes 38 = .ok (.goto (-36), 3) := by decide +kernel
theorem dX2_forgetVotes_41 : decode cX2_forgetVotes 41 = .ok (.return_, 1) := by decide +kernel
theorem dX2_refuse_0 : decode cX2_refuse 0 = .ok (.aload_n 0, 1) := by decide +kernel
theorem dX2_refuse_1 : decode cX2_refuse 1 = .ok (.getfield 31, 3) := by decide +kernel
theorem dX2_refuse_4 : decode cX2_refuse 4 = .ok (.iload_n 1, 1) := by decide +kernel
theorem dX2_refuse_5 : decode cX2_refuse 5 = .ok (.aload_n 0, 1) := by decide +kernel
theorem dX2_refuse_6 : decode cX2_refuse 6 = .ok (.getfield 31, 3) := by decide +kernel
theorem dX2_refuse_9 : decode cX2_refuse 9 = .ok (.iload_n 1, 1) := by decide +kernel
theorem dX2_refuse_10 : decode cX2_refuse 10 = .ok (.iaload, 1) := by decide +kernel
theorem dX2_refuse_11 : decode cX2_refuse 11 = .ok (.aload_n 0, 1) := by decide +kernel
theorem dX2_refuse_12 : decode cX2_refuse 12 = .ok (.getfield 18, 3) := by decide +kernel
theorem dX2_refuse_15 : decode cX2_refuse 15 = .ok (.iload_n 2, 1) := by decide +kernel
theorem dX2_refuse_16 : decode cX2_refuse 16 = .ok (.iaload, 1) := by decide +kernel
theorem dX2_refuse_17 : decode cX2_refuse 17 = .ok (.invokestatic 149, 3) := by decide +kernel
theorem dX2_refuse_20 : decode cX2_refuse 20 = .ok (.iastore, 1) := by decide +kernel
theorem dX2_refuse_21 : decode cX2_refuse 21 = .ok (.bipush 100, 2) := by decide +kernel
theorem dX2_refuse_23 : decode cX2_refuse 23 = .ok (.aload_n 0, 1) := by decide +kernel
theorem dX2_refuse_24 : decode cX2_refuse 24 = .ok (.getfield 18, 3) := by decide +kernel
theorem dX2_refuse_27 : decode cX2_refuse 27 = .ok (.iload_n 2, 1) := by decide +kernel
theorem dX2_refuse_28 : decode cX2_refuse 28 = .ok (.iaload, 1) := by decide +kernel
theorem dX2_refuse_29 : decode cX2_refuse 29 = .ok (.iadd, 1) := by decide +kernel
theorem dX2_refuse_30 : decode cX2_refuse 30 = .ok (.ireturn, 1) := by decide +kernel
set_option maxRecDepth 20000 in
theorem ggX2_tellVotes_X4_cell : GoodIn wsX2_tellVotes wsX4_cell := goodIn_r _ [7] (by decide +kernel) (by decide +kernel)
set_option maxRecDepth 20000 in
theorem gX2_tellVotes_X4_cell_n104 : GoodIn wsX2_tellVotes (wsX4_cell) := ggX2_tellVotes_X4_cell
theorem dX2_tellVotes_0 : decode cX2_tellVotes 0 = .ok (.iload_n 1, 1) := by decide +kernel
theorem dX2_tellVotes_1 : decode cX2_tellVotes 1 = .ok (.bipush 6, 2) := by decide +kernel
theorem dX2_tellVotes_3 : decode cX2_tellVotes 3 = .ok (.imul, 1) := by decide +kernel
theorem dX2_tellVotes_4 : decode cX2_tellVotes 4 = .ok (.iload_n 2, 1) := by decide +kernel
theorem dX2_tellVotes_5 : decode cX2_tellVotes 5 = .ok (.iadd, 1) := by decide +kernel
theorem dX2_tellVotes_6 : decode cX2_tellVotes 6 = .ok (.istore_n 3, 1) := by decide +kernel
theorem dX2_tellVotes_7 : decode cX2_tellVotes 7 = .ok (.iconst 1, 1) := by decide +kernel
theorem dX2_tellVotes_8 : decode cX2_tellVotes 8 = .ok (.istore 4, 2) := by decide +kernel
theorem dX2_tellVotes_10 : decode cX2_tellVotes 10 = .ok (.iload 4, 2) := by decide +kernel
theorem dX2_tellVotes_12 : decode cX2_tellVotes 12 = .ok (.bipush 16, 2) := by decide +kernel
theorem dX2_tellVotes_14 : decode cX2_tellVotes 14 = .ok (.if_icmp .gt 53, 3) := by decide +kernel
theorem dX2_tellVotes_17 : decode cX2_tellVotes 17 = .ok (.aload_n 0, 1) := by decide +kernel
theorem dX2_tellVotes_18 : decode cX2_tellVotes 18 = .ok (.getfield 40, 3) := by decide +kernel
theorem dX2_tellVotes_21 : decode cX2_tellVotes 21 = .ok (.iload_n 3, 1) := by decide +kernel
theorem dX2_tellVotes_22 : decode cX2_tellVotes 22 = .ok (.iload 4, 2) := by decide +kernel
theorem dX2_tellVotes_24 : decode cX2_tellVotes 24 = .ok (.invokestatic 104, 3) := by decide +kernel
theorem dX2_tellVotes_27 : decode cX2_tellVotes 27 = .ok (.aload_n 0, 1) := by decide +kernel
theorem dX2_tellVotes_28 : decode cX2_tellVotes 28 = .ok (.getfield 22, 3) := by decide +kernel
theorem dX2_tellVotes_31 : decode cX2_tellVotes 31 = .ok (.iload_n 2, 1) := by decide +kernel
theorem dX2_tellVotes_32 : decode cX2_tellVotes 32 = .ok (.iload 4, 2) := by decide +kernel
theorem dX2_tellVotes_34 : decode cX2_tellVotes 34 = .ok (.invokestatic 104, 3) := by decide +kernel
theorem dX2_tellVotes_37 : decode cX2_tellVotes 37 = .ok (.iaload, 1) := by decide +kernel
theorem dX2_tellVotes_38 : decode cX2_tellVotes 38 = .ok (.iastore, 1) := by decide +kernel
theorem dX2_tellVotes_39 : decode cX2_tellVotes 39 = .ok (.aload_n 0, 1) := by decide +kernel
theorem dX2_tellVotes_40 : decode cX2_tellVotes 40 = .ok (.getfield 43, 3) := by decide +kernel
theorem dX2_tellVotes_43 : decode cX2_tellVotes 43 = .ok (.iload_n 3, 1) := by decide +kernel
theorem dX2_tellVotes_44 : decode cX2_tellVotes 44 = .ok (.iload 4, 2) := by decide +kernel
theorem dX2_tellVotes_46 : decode cX2_tellVotes 46 = .ok (.invokestatic 104, 3) := by decide +kernel
theorem dX2_tellVotes_49 : decode cX2_tellVotes 49 = .ok (.aload_n 0, 1) := by decide +kernel
theorem dX2_tellVotes_50 : decode cX2_tellVotes 50 = .ok (.getfield 25, 3) := by decide +kernel
theorem dX2_tellVotes_53 : decode cX2_tellVotes 53 = .ok (.iload_n 2, 1) := by decide +kernel
theorem dX2_tellVotes_54 : decode cX2_tellVotes 54 = .ok (.iload 4, 2) := by decide +kernel
theorem dX2_tellVotes_56 : decode cX2_tellVotes 56 = .ok (.invokestatic 104, 3) := by decide +kernel
theorem dX2_tellVotes_59 : decode cX2_tellVotes 59 = .ok (.iaload, 1) := by decide +kernel
theorem dX2_tellVotes_60 : decode cX2_tellVotes 60 = .ok (.iastore, 1) := by decide +kernel
theorem dX2_tellVotes_61 : decode cX2_tellVotes 61 = .ok (.iinc 4 1, 3) := by decide +kernel
theorem dX2_tellVotes_64 : decode cX2_tellVotes 64 = .ok (.goto (-54), 3) := by decide +kernel
theorem dX2_tellVotes_67 : decode cX2_tellVotes 67 = .ok (.return_, 1) := by decide +kernel
theorem dX2_nextBallot_0 : decode cX2_nextBallot 0 = .ok (.aload_n 0, 1) := by decide +kernel
theorem dX2_nextBallot_1 : decode cX2_nextBallot 1 = .ok (.getfield 28, 3) := by decide +kernel
theorem dX2_nextBallot_4 : decode cX2_nextBallot 4 = .ok (.iload_n 1, 1) := by decide +kernel
theorem dX2_nextBallot_5 : decode cX2_nextBallot 5 = .ok (.iaload, 1) := by decide +kernel
theorem dX2_nextBallot_6 : decode cX2_nextBallot 6 = .ok (.aload_n 0, 1) := by decide +kernel
theorem dX2_nextBallot_7 : decode cX2_nextBallot 7 = .ok (.getfield 31, 3) := by decide +kernel
theorem dX2_nextBallot_10 : decode cX2_nextBallot 10 = .ok (.iload_n 1, 1) := by decide +kernel
theorem dX2_nextBallot_11 : decode cX2_nextBallot 11 = .ok (.iaload, 1) := by decide +kernel
theorem dX2_nextBallot_12 : decode cX2_nextBallot 12 = .ok (.invokestatic 149, 3) := by decide +kernel
theorem dX2_nextBallot_15 : decode cX2_nextBallot 15 = .ok (.istore_n 2, 1) := by decide +kernel
theorem dX2_nextBallot_16 : decode cX2_nextBallot 16 = .ok (.iload_n 2, 1) := by decide +kernel
theorem dX2_nextBallot_17 : decode cX2_nextBallot 17 = .ok (.iconst 3, 1) := by decide +kernel
theorem dX2_nextBallot_18 : decode cX2_nextBallot 18 = .ok (.iadd, 1) := by decide +kernel
theorem dX2_nextBallot_19 : decode cX2_nextBallot 19 = .ok (.iconst 1, 1) := by decide +kernel
theorem dX2_nextBallot_20 : decode cX2_nextBallot 20 = .ok (.isub, 1) := by decide +kernel
theorem dX2_nextBallot_21 : decode cX2_nextBallot 21 = .ok (.iload_n 1, 1) := by decide +kernel
theorem dX2_nextBallot_22 : decode cX2_nextBallot 22 = .ok (.isub, 1) := by decide +kernel
theorem dX2_nextBallot_23 : decode cX2_nextBallot 23 = .ok (.iconst 3, 1) := by decide +kernel
theorem dX2_nextBallot_24 : decode cX2_nextBallot 24 = .ok (.idiv, 1) := by decide +kernel
theorem dX2_nextBallot_25 : decode cX2_nextBallot 25 = .ok (.istore_n 3, 1) := by decide +kernel
theorem dX2_nextBallot_26 : decode cX2_nextBallot 26 = .ok (.iconst 3, 1) := by decide +kernel
theorem dX2_nextBallot_27 : decode cX2_nextBallot 27 = .ok (.iload_n 3, 1) := by decide +kernel
theorem dX2_nextBallot_28 : decode cX2_nextBallot 28 = .ok (.imul, 1) := by decide +kernel
theorem dX2_nextBallot_29 : decode cX2_nextBallot 29 = .ok (.iload_n 1, 1) := by decide +kernel
theorem dX2_nextBallot_30 : decode cX2_nextBallot 30 = .ok (.iadd, 1) := by decide +kernel
theorem dX2_nextBallot_31 : decode cX2_nextBallot 31 = .ok (.iconst 1, 1) := by decide +kernel
theorem dX2_nextBallot_32 : decode cX2_nextBallot 32 = .ok (.iadd, 1) := by decide +kernel
theorem dX2_nextBallot_33 : decode cX2_nextBallot 33 = .ok (.ireturn, 1) := by decide +kernel
set_option maxRecDepth 20000 in
theorem ggX2_offersOf_X4_cell : GoodIn wsX2_offersOf wsX4_cell := goodIn_r _ [4] (by decide +kernel) (by decide +kernel)
set_option maxRecDepth 20000 in
theorem gX2_offersOf_X4_cell_n104 : GoodIn wsX2_offersOf (wsX4_cell) := ggX2_offersOf_X4_cell
theorem dX2_offersOf_0 : decode cX2_offersOf 0 = .ok (.iconst 0, 1) := by decide +kernel
theorem dX2_offersOf_1 : decode cX2_offersOf 1 = .ok (.istore_n 2, 1) := by decide +kernel
theorem dX2_offersOf_2 : decode cX2_offersOf 2 = .ok (.iconst 1, 1) := by decide +kernel
theorem dX2_offersOf_3 : decode cX2_offersOf 3 = .ok (.istore_n 3, 1) := by decide +kernel
theorem dX2_offersOf_4 : decode cX2_offersOf 4 = .ok (.iload_n 3, 1) := by decide +kernel
theorem dX2_offersOf_5 : decode cX2_offersOf 5 = .ok (.bipush 16, 2) := by decide +kernel
theorem dX2_offersOf_7 : decode cX2_offersOf 7 = .ok (.if_icmp .gt 25, 3) := by decide +kernel
theorem dX2_offersOf_10 : decode cX2_offersOf 10 = .ok (.aload_n 0, 1) := by decide +kernel
theorem dX2_offersOf_11 : decode cX2_offersOf 11 = .ok (.getfield 37, 3) := by decide +kernel
theorem dX2_offersOf_14 : decode cX2_offersOf 14 = .ok (.iload_n 1, 1) := by decide +kernel
theorem dX2_offersOf_15 : decode cX2_offersOf 15 = .ok (.iload_n 3, 1) := by decide +kernel
theorem dX2_offersOf_16 : decode cX2_offersOf 16 = .ok (.invokestatic 104, 3) := by decide +kernel
theorem dX2_offersOf_19 : decode cX2_offersOf 19 = .ok (.iaload, 1) := by decide +kernel
theorem dX2_offersOf_20 : decode cX2_offersOf 20 = .ok (.ifCond .eq 6, 3) := by decide +kernel
theorem dX2_offersOf_23 : decode cX2_offersOf 23 = .ok (.iinc 2 1, 3) := by decide +kernel
theorem dX2_offersOf_26 : decode cX2_offersOf 26 = .ok (.iinc 3 1, 3) := by decide +kernel
theorem dX2_offersOf_29 : decode cX2_offersOf 29 = .ok (.goto (-25), 3) := by decide +kernel
theorem dX2_offersOf_32 : decode cX2_offersOf 32 = .ok (.iload_n 2, 1) := by decide +kernel
theorem dX2_offersOf_33 : decode cX2_offersOf 33 = .ok (.ireturn, 1) := by decide +kernel
set_option maxRecDepth 20000 in
theorem ggX2_promisesMissing_X2_votersOf : GoodIn wsX2_promisesMissing wsX2_votersOf := goodIn_r _ [10, 11, 31, 32, 33, 34, 35, 36, 37, 38, 39, 40, 41, 42, 43, 44, 45, 46] (by decide +kernel) (by decide +kernel)
set_option maxRecDepth 20000 in
theorem gX2_promisesMissing_X2_votersOf : GoodIn wsX2_promisesMissing (wsV RX2 136 RX2 yX2_votersOf wsX2_votersOf) := goodIn_app (goodIn_of _ (by decide +kernel)) ggX2_promisesMissing_X2_votersOf
set_option maxRecDepth 20000 in
theorem ggX2_promisesMissing_X2_firstSize : GoodIn wsX2_promisesMissing wsX2_firstSize := goodIn_r _ [15, 16, 17, 18, 19, 20, 21, 22, 23, 24, 25, 9, 26, 27, 28, 29, 4, 30, 31, 32, 33, 34, 35, 36, 37, 38, 39, 40, 41, 42, 43, 44, 45, 46] (by decide +kernel) (by decide +kernel)
set_option maxRecDepth 20000 in
theorem gX2_promisesMissing_X2_firstSize : GoodIn wsX2_promisesMissing (wsV RX2 152 RX2 yX2_firstSize wsX2_firstSize) := goodIn_app (goodIn_of _ (by decide +kernel)) ggX2_promisesMissing_X2_firstSize
set_option maxRecDepth 20000 in
theorem ggX2_promisesMissing_J6_bitCount_0f7a4 : GoodIn wsX2_promisesMissing wsJ6_bitCount_0f7a4 := goodIn_r _ [19, 20, 21, 22] (by decide +kernel) (by decide +kernel)
set_option maxRecDepth 20000 in
theorem gX2_promisesMissing_J6_bitCount_0f7a4 : GoodIn wsX2_promisesMissing (va_wsS RX2 85 yJ6_bitCount_0f7a4 wsJ6_bitCount_0f7a4) := goodIn_app (goodIn_of _ (by decide +kernel)) ggX2_promisesMissing_J6_bitCount_0f7a4
theorem dX2_promisesMissing_0 : decode cX2_promisesMissing 0 = .ok (.aload_n 0, 1) := by decide +kernel
theorem dX2_promisesMissing_1 : decode cX2_promisesMissing 1 = .ok (.iload_n 2, 1) := by decide +kernel
theorem dX2_promisesMissing_2 : decode cX2_promisesMissing 2 = .ok (.invokevirtual 136, 3) := by decide +kernel
theorem dX2_promisesMissing_5 : decode cX2_promisesMissing 5 = .ok (.istore_n 3, 1) := by decide +kernel
theorem dX2_promisesMissing_6 : decode cX2_promisesMissing 6 = .ok (.iconst 0, 1) := by decide +kernel
theorem dX2_promisesMissing_7 : decode cX2_promisesMissing 7 = .ok (.aload_n 0, 1) := by decide +kernel
theorem dX2_promisesMissing_8 : decode cX2_promisesMissing 8 = .ok (.iload_n 3, 1) := by decide +kernel
theorem dX2_promisesMissing_9 : decode cX2_promisesMissing 9 = .ok (.invokevirtual 152, 3) := by decide +kernel
theorem dX2_promisesMissing_12 : decode cX2_promisesMissing 12 = .ok (.aload_n 0, 1) := by decide +kernel
theorem dX2_promisesMissing_13 : decode cX2_promisesMissing 13 = .ok (.getfield 34, 3) := by decide +kernel
theorem dX2_promisesMissing_16 : decode cX2_promisesMissing 16 = .ok (.iload_n 1, 1) := by decide +kernel
theorem dX2_promisesMissing_17 : decode cX2_promisesMissing 17 = .ok (.iaload, 1) := by decide +kernel
theorem dX2_promisesMissing_18 : decode cX2_promisesMissing 18 = .ok (.iload_n 3, 1) := by decide +kernel
theorem dX2_promisesMissing_19 : decode cX2_promisesMissing 19 = .ok (.iand, 1) := by decide +kernel
theorem dX2_promisesMissing_20 : decode cX2_promisesMissing 20 = .ok (.invokestatic 85, 3) := by decide +kernel
theorem dX2_promisesMissing_23 : decode cX2_promisesMissing 23 = .ok (.isub, 1) := by decide +kernel
theorem dX2_promisesMissing_24 : decode cX2_promisesMissing 24 = .ok (.invokestatic 149, 3) := by decide +kernel
theorem dX2_promisesMissing_27 : decode cX2_promisesMissing 27 = .ok (.ireturn, 1) := by decide +kernel
set_option maxRecDepth 20000 in
theorem ggX2_boundValue_X2_votersOf : GoodIn wsX2_boundValue wsX2_votersOf := goodIn_r _ [8, 9, 15, 16, 17, 18, 19, 20, 21, 22, 23, 24, 25, 26, 27, 28, 29, 30] (by decide +kernel) (by decide +kernel)
set_option maxRecDepth 20000 in
theorem gX2_boundValue_X2_votersOf : GoodIn wsX2_boundValue (wsV RX2 136 RX2 yX2_votersOf wsX2_votersOf) := goodIn_app (goodIn_of _ (by decide +kernel)) ggX2_boundValue_X2_votersOf
set_option maxRecDepth 20000 in
theorem ggX2_boundValue_X4_cell : GoodIn wsX2_boundValue wsX4_cell := goodIn_r _ [12] (by decide +kernel) (by decide +kernel)
set_option maxRecDepth 20000 in
theorem gX2_boundValue_X4_cell_n104 : GoodIn wsX2_boundValue (wsX4_cell) := ggX2_boundValue_X4_cell
set_option maxRecDepth 20000 in
theorem ggX2_boundValue_X4_has : GoodIn wsX2_boundValue wsX4_has := goodIn_r _ [14] (by decide +kernel) (by decide +kernel)
set_option maxRecDepth 20000 in
theorem gX2_boundValue_X4_has_n81 : GoodIn wsX2_boundValue (wsX4_has) := ggX2_boundValue_X4_has
theorem dX2_boundValue_0 : decode cX2_boundValue 0 = .ok (.aload_n 0, 1) := by decide +kernel
theorem dX2_boundValue_1 : decode cX2_boundValue 1 = .ok (.getfield 34, 3) := by decide +kernel
theorem dX2_boundValue_4 : decode cX2_boundValue 4 = .ok (.iload_n 1, 1) := by decide +kernel
theorem dX2_boundValue_5 : decode cX2_boundValue 5 = .ok (.iaload, 1) := by decide +kernel
theorem dX2_boundValue_6 : decode cX2_boundValue 6 = .ok (.aload_n 0, 1) := by decide +kernel
theorem dX2_boundValue_7 : decode cX2_boundValue 7 = .ok (.iload_n 2, 1) := by decide +kernel
theorem dX2_boundValue_8 : decode cX2_boundValue 8 = .ok (.invokevirtual 136, 3) := by decide +kernel
theorem dX2_boundValue_11 : decode cX2_boundValue 11 = .ok (.iand, 1) := by decide +kernel
theorem dX2_boundValue_12 : decode cX2_boundValue 12 = .ok (.istore_n 3, 1) := by decide +kernel
theorem dX2_boundValue_13 : decode cX2_boundValue 13 = .ok (.iconst 0, 1) := by decide +kernel
theorem dX2_boundValue_14 : decode cX2_boundValue 14 = .ok (.istore 4, 2) := by decide +kernel
theorem dX2_boundValue_16 : decode cX2_boundValue 16 = .ok (.iconst 0, 1) := by decide +kernel
theorem dX2_boundValue_17 : decode cX2_boundValue 17 = .ok (.istore 5, 2) := by decide +kernel
theorem dX2_boundValue_19 : decode cX2_boundValue 19 = .ok (.iconst 0, 1) := by decide +kernel
theorem dX2_boundValue_20 : decode cX2_boundValue 20 = .ok (.istore 6, 2) := by decide +kernel
theorem dX2_boundValue_22 : decode cX2_boundValue 22 = .ok (.iload 6, 2) := by decide +kernel
theorem dX2_boundValue_24 : decode cX2_boundValue 24 = .ok (.bipush 6, 2) := by decide +kernel
theorem dX2_boundValue_26 : decode cX2_boundValue 26 = .ok (.if_icmp .ge 61, 3) := by decide +kernel
theorem dX2_boundValue_29 : decode cX2_boundValue 29 = .ok (.iload_n 1, 1) := by decide +kernel
theorem dX2_boundValue_30 : decode cX2_boundValue 30 = .ok (.bipush 6, 2) := by decide +kernel
theorem dX2_boundValue_32 : decode cX2_boundValue 32 = .ok (.imul, 1) := by decide +kernel
theorem dX2_boundValue_33 : decode cX2_boundValue 33 = .ok (.iload 6, 2) := by decide +kernel
theorem dX2_boundValue_35 : decode cX2_boundValue 35 = .ok (.iadd, 1) := by decide +kernel
theorem dX2_boundValue_36 : decode cX2_boundValue 36 = .ok (.iload_n 2, 1) := by decide +kernel
theorem dX2_boundValue_37 : decode cX2_boundValue 37 = .ok (.invokestatic 104, 3) := by decide +kernel
theorem dX2_boundValue_40 : decode cX2_boundValue 40 = .ok (.istore 7, 2) := by decide +kernel
theorem dX2_boundValue_42 : decode cX2_boundValue 42 = .ok (.iload_n 3, 1) := by decide +kernel
theorem dX2_boundValue_43 : decode cX2_boundValue 43 = .ok (.iload 6, 2) := by decide +kernel
theorem dX2_boundValue_45 : decode cX2_boundValue 45 = .ok (.invokestatic 81, 3) := by decide +kernel
theorem dX2_boundValue_48 : decode cX2_boundValue 48 = .ok (.ifCond .eq 33, 3) := by decide +kernel
theorem dX2_boundValue_51 : decode cX2_boundValue 51 = .ok (.aload_n 0, 1) := by decide +kernel
theorem dX2_boundValue_52 : decode cX2_boundValue 52 = .ok (.getfield 40, 3) := by decide +kernel
theorem dX2_boundValue_55 : decode cX2_boundValue 55 = .ok (.iload 7, 2) := by decide +kernel
theorem dX2_boundValue_57 : decode cX2_boundValue 57 = .ok (.iaload, 1) := by decide +kernel
theorem dX2_boundValue_58 : decode cX2_boundValue 58 = .ok (.iload 4, 2) := by decide +kernel
theorem dX2_boundValue_60 : decode cX2_boundValue 60 = .ok (.if_icmp .le 21, 3) := by decide +kernel
theorem dX2_boundValue_63 : decode cX2_boundValue 63 = .ok (.aload_n 0, 1) := by decide +kernel
theorem dX2_boundValue_64 : decode cX2_boundValue 64 = .ok (.getfield 40, 3) := by decide +kernel
theorem dX2_boundValue_67 : decode cX2_boundValue 67 = .ok (.iload 7, 2) := by decide +kernel
theorem dX2_boundValue_69 : decode cX2_boundValue 69 = .ok (.iaload, 1) := by decide +kernel
theorem dX2_boundValue_70 : decode cX2_boundValue 70 = .ok (.istore 4, 2) := by decide +kernel
theorem dX2_boundValue_72 : decode cX2_boundValue 72 = .ok (.aload_n 0, 1) := by decide +kernel
theorem dX2_boundValue_73 : decode cX2_boundValue 73 = .ok (.getfield 43, 3) := by decide +kernel
theorem dX2_boundValue_76 : decode cX2_boundValue 76 = .ok (.iload 7, 2) := by decide +kernel
theorem dX2_boundValue_78 : decode cX2_boundValue 78 = .ok (.iaload, 1) := by decide +kernel
theorem dX2_boundValue_79 : decode cX2_boundValue 79 = .ok (.istore 5, 2) := by decide +kernel
theorem dX2_boundValue_81 : decode cX2_boundValue 81 = .ok (.iinc 6 1, 3) := by decide +kernel
theorem dX2_boundValue_84 : decode cX2_boundValue 84 = .ok (.goto (-62), 3) := by decide +kernel
theorem dX2_boundValue_87 : decode cX2_boundValue 87 = .ok (.iload 5, 2) := by decide +kernel
theorem dX2_boundValue_89 : decode cX2_boundValue 89 = .ok (.ireturn, 1) := by decide +kernel
set_option maxRecDepth 20000 in
theorem ggX2_mayOffer_X2_isOpen : GoodIn wsX2_mayOffer wsX2_isOpen := goodIn_r _ [8, 9, 10, 11, 7, 12, 13, 49, 50, 51, 52, 53, 54, 55, 56, 57, 58, 59, 60, 61, 62, 63, 64] (by decide +kernel) (by decide +kernel)
set_option maxRecDepth 20000 in
theorem gX2_mayOffer_X2_isOpen : GoodIn wsX2_mayOffer (wsV RX2 155 RX2 yX2_isOpen wsX2_isOpen) := goodIn_app (goodIn_of _ (by decide +kernel)) ggX2_mayOffer_X2_isOpen
set_option maxRecDepth 20000 in
theorem ggX2_mayOffer_X2_promisesMissing : GoodIn wsX2_mayOffer wsX2_promisesMissing := goodIn_r _ [17, 18, 19, 20, 21, 22, 23, 24, 25, 7, 26, 13, 27, 28, 29, 30, 31, 32, 33, 34, 35, 36, 37, 38, 39, 40, 41, 42, 43, 44, 45, 49, 50, 51, 52, 53, 54, 55, 56, 57, 58, 59, 60, 61, 62, 63, 64] (by decide +kernel) (by decide +kernel)
set_option maxRecDepth 20000 in
theorem gX2_mayOffer_X2_promisesMissing : GoodIn wsX2_mayOffer (wsV RX2 158 RX2 yX2_promisesMissing wsX2_promisesMissing) := goodIn_app (goodIn_of _ (by decide +kernel)) ggX2_mayOffer_X2_promisesMissing
set_option maxRecDepth 20000 in
theorem ggX2_mayOffer_X4_cell : GoodIn wsX2_mayOffer wsX4_cell := goodIn_r _ [48] (by decide +kernel) (by decide +kernel)
set_option maxRecDepth 20000 in
theorem gX2_mayOffer_X4_cell_n104 : GoodIn wsX2_mayOffer (wsX4_cell) := ggX2_mayOffer_X4_cell
theorem dX2_mayOffer_0 : decode cX2_mayOffer 0 = .ok (.aload_n 0, 1) := by decide +kernel
theorem dX2_mayOffer_1 : decode cX2_mayOffer 1 = .ok (.getfield 28, 3) := by decide +kernel
theorem dX2_mayOffer_4 : decode cX2_mayOffer 4 = .ok (.iload_n 1, 1) := by decide +kernel
theorem dX2_mayOffer_5 : decode cX2_mayOffer 5 = .ok (.iaload, 1) := by decide +kernel
theorem dX2_mayOffer_6 : decode cX2_mayOffer 6 = .ok (.ifCond .eq 45, 3) := by decide +kernel
theorem dX2_mayOffer_9 : decode cX2_mayOffer 9 = .ok (.iload_n 2, 1) := by decide +kernel
theorem dX2_mayOffer_10 : decode cX2_mayOffer 10 = .ok (.aload_n 0, 1) := by decide +kernel
theorem dX2_mayOffer_11 : decode cX2_mayOffer 11 = .ok (.getfield 52, 3) := by decide +kernel
theorem dX2_mayOffer_14 : decode cX2_mayOffer 14 = .ok (.if_icmp .le 37, 3) := by decide +kernel
theorem dX2_mayOffer_17 : decode cX2_mayOffer 17 = .ok (.aload_n 0, 1) := by decide +kernel
theorem dX2_mayOffer_18 : decode cX2_mayOffer 18 = .ok (.iload_n 2, 1) := by decide +kernel
theorem dX2_mayOffer_19 : decode cX2_mayOffer 19 = .ok (.invokevirtual 155, 3) := by decide +kernel
theorem dX2_mayOffer_22 : decode cX2_mayOffer 22 = .ok (.ifCond .eq 29, 3) := by decide +kernel
theorem dX2_mayOffer_25 : decode cX2_mayOffer 25 = .ok (.aload_n 0, 1) := by decide +kernel
theorem dX2_mayOffer_26 : decode cX2_mayOffer 26 = .ok (.iload_n 1, 1) := by decide +kernel
theorem dX2_mayOffer_27 : decode cX2_mayOffer 27 = .ok (.iload_n 2, 1) := by decide +kernel
theorem dX2_mayOffer_28 : decode cX2_mayOffer 28 = .ok (.invokevirtual 158, 3) := by decide +kernel
theorem dX2_mayOffer_31 : decode cX2_mayOffer 31 = .ok (.ifCond .ne 20, 3) := by decide +kernel
theorem dX2_mayOffer_34 : decode cX2_mayOffer 34 = .ok (.aload_n 0, 1) := by decide +kernel
theorem dX2_mayOffer_35 : decode cX2_mayOffer 35 = .ok (.getfield 37, 3) := by decide +kernel
theorem dX2_mayOffer_38 : decode cX2_mayOffer 38 = .ok (.iload_n 1, 1) := by decide +kernel
theorem dX2_mayOffer_39 : decode cX2_mayOffer 39 = .ok (.iload_n 2, 1) := by decide +kernel
theorem dX2_mayOffer_40 : decode cX2_mayOffer 40 = .ok (.invokestatic 104, 3) := by decide +kernel
theorem dX2_mayOffer_43 : decode cX2_mayOffer 43 = .ok (.iaload, 1) := by decide +kernel
theorem dX2_mayOffer_44 : decode cX2_mayOffer 44 = .ok (.ifCond .ne 7, 3) := by decide +kernel
theorem dX2_mayOffer_47 : decode cX2_mayOffer 47 = .ok (.iconst 1, 1) := by decide +kernel
theorem dX2_mayOffer_48 : decode cX2_mayOffer 48 = .ok (.goto 4, 3) := by decide +kernel
theorem dX2_mayOffer_51 : decode cX2_mayOffer 51 = .ok (.iconst 0, 1) := by decide +kernel
theorem dX2_mayOffer_52 : decode cX2_mayOffer 52 = .ok (.ireturn, 1) := by decide +kernel
set_option maxRecDepth 20000 in
theorem ggX2_mayAskVote_X4_cell : GoodIn wsX2_mayAskVote wsX4_cell := goodIn_r _ [6] (by decide +kernel) (by decide +kernel)
set_option maxRecDepth 20000 in
theorem gX2_mayAskVote_X4_cell_n104 : GoodIn wsX2_mayAskVote (wsX4_cell) := ggX2_mayAskVote_X4_cell
set_option maxRecDepth 20000 in
theorem ggX2_mayAskVote_X4_has : GoodIn wsX2_mayAskVote wsX4_has := goodIn_r _ [8] (by decide +kernel) (by decide +kernel)
set_option maxRecDepth 20000 in
theorem gX2_mayAskVote_X4_has_n81 : GoodIn wsX2_mayAskVote (wsX4_has) := ggX2_mayAskVote_X4_has
set_option maxRecDepth 20000 in
theorem ggX2_mayAskVote_X2_votersOf : GoodIn wsX2_mayAskVote wsX2_votersOf := goodIn_r _ [13, 14, 15, 16, 17, 18, 19, 20, 21, 22, 23, 24, 25, 26, 27, 28, 29, 30] (by decide +kernel) (by decide +kernel)
set_option maxRecDepth 20000 in
theorem gX2_mayAskVote_X2_votersOf : GoodIn wsX2_mayAskVote (wsV RX2 136 RX2 yX2_votersOf wsX2_votersOf) := goodIn_app (goodIn_of _ (by decide +kernel)) ggX2_mayAskVote_X2_votersOf
theorem dX2_mayAskVote_0 : decode cX2_mayAskVote 0 = .ok (.aload_n 0, 1) := by decide +kernel
theorem dX2_mayAskVote_1 : decode cX2_mayAskVote 1 = .ok (.getfield 37, 3) := by decide +kernel
theorem dX2_mayAskVote_4 : decode cX2_mayAskVote 4 = .ok (.iload_n 1, 1) := by decide +kernel
theorem dX2_mayAskVote_5 : decode cX2_mayAskVote 5 = .ok (.iload_n 2, 1) := by decide +kernel
theorem dX2_mayAskVote_6 : decode cX2_mayAskVote 6 = .ok (.invokestatic 104, 3) := by decide +kernel
theorem dX2_mayAskVote_9 : decode cX2_mayAskVote 9 = .ok (.iaload, 1) := by decide +kernel
theorem dX2_mayAskVote_10 : decode cX2_mayAskVote 10 = .ok (.ifCond .eq 38, 3) := by decide +kernel
theorem dX2_mayAskVote_13 : decode cX2_mayAskVote 13 = .ok (.iload_n 2, 1) := by decide +kernel
theorem dX2_mayAskVote_14 : decode cX2_mayAskVote 14 = .ok (.aload_n 0, 1) := by decide +kernel
theorem dX2_mayAskVote_15 : decode cX2_mayAskVote 15 = .ok (.getfield 52, 3) := by decide +kernel
theorem dX2_mayAskVote_18 : decode cX2_mayAskVote 18 = .ok (.if_icmp .le 30, 3) := by decide +kernel
theorem dX2_mayAskVote_21 : decode cX2_mayAskVote 21 = .ok (.aload_n 0, 1) := by decide +kernel
theorem dX2_mayAskVote_22 : decode cX2_mayAskVote 22 = .ok (.getfield 9, 3) := by decide +kernel
theorem dX2_mayAskVote_25 : decode cX2_mayAskVote 25 = .ok (.iload_n 3, 1) := by decide +kernel
theorem dX2_mayAskVote_26 : decode cX2_mayAskVote 26 = .ok (.invokestatic 81, 3) := by decide +kernel
theorem dX2_mayAskVote_29 : decode cX2_mayAskVote 29 = .ok (.ifCond .eq 19, 3) := by decide +kernel
theorem dX2_mayAskVote_32 : decode cX2_mayAskVote 32 = .ok (.aload_n 0, 1) := by decide +kernel
theorem dX2_mayAskVote_33 : decode cX2_mayAskVote 33 = .ok (.iload_n 2, 1) := by decide +kernel
theorem dX2_mayAskVote_34 : decode cX2_mayAskVote 34 = .ok (.invokevirtual 136, 3) := by decide +kernel
theorem dX2_mayAskVote_37 : decode cX2_mayAskVote 37 = .ok (.iload_n 3, 1) := by decide +kernel
theorem dX2_mayAskVote_38 : decode cX2_mayAskVote 38 = .ok (.invokestatic 81, 3) := by decide +kernel
theorem dX2_mayAskVote_41 : decode cX2_mayAskVote 41 = .ok (.ifCond .eq 7, 3) := by decide +kernel
theorem dX2_mayAskVote_44 : decode cX2_mayAskVote 44 = .ok (.iconst 1, 1) := by decide +kernel
theorem dX2_mayAskVote_45 : decode cX2_mayAskVote 45 = .ok (.goto 4, 3) := by decide +kernel
theorem dX2_mayAskVote_48 : decode cX2_mayAskVote 48 = .ok (.iconst 0, 1) := by decide +kernel
theorem dX2_mayAskVote_49 : decode cX2_mayAskVote 49 = .ok (.ireturn, 1) := by decide +kernel
theorem dX3_init_0 : decode cX3_init 0 = .ok (.aload_n 0, 1) := by decide +kernel
theorem dX3_init_1 : decode cX3_init 1 = .ok (.invokespecial 3, 3) := by decide +kernel
theorem dX3_init_4 : decode cX3_init 4 = .ok (.aload_n 0, 1) := by decide +kernel
theorem dX3_init_5 : decode cX3_init 5 = .ok (.bipush 60, 2) := by decide +kernel
theorem dX3_init_7 : decode cX3_init 7 = .ok (.newarray .char, 2) := by decide +kernel
theorem dX3_init_9 : decode cX3_init 9 = .ok (.putfield 11, 3) := by decide +kernel
theorem dX3_init_12 : decode cX3_init 12 = .ok (.return_, 1) := by decide +kernel
theorem dX3_append_0 : decode cX3_append 0 = .ok (.aload_n 0, 1) := by decide +kernel
theorem dX3_append_1 : decode cX3_append 1 = .ok (.getfield 15, 3) := by decide +kernel
theorem dX3_append_4 : decode cX3_append 4 = .ok (.bipush 60, 2) := by decide +kernel
theorem dX3_append_6 : decode cX3_append 6 = .ok (.if_icmp .lt 6, 3) := by decide +kernel
theorem dX3_append_9 : decode cX3_append 9 = .ok (.bipush (-3), 2) := by decide +kernel
theorem dX3_append_11 : decode cX3_append 11 = .ok (.ireturn, 1) := by decide +kernel
theorem dX3_append_12 : decode cX3_append 12 = .ok (.aload_n 0, 1) := by decide +kernel
theorem dX3_append_13 : decode cX3_append 13 = .ok (.getfield 11, 3) := by decide +kernel
theorem dX3_append_16 : decode cX3_append 16 = .ok (.aload_n 0, 1) := by decide +kernel
theorem dX3_append_17 : decode cX3_append 17 = .ok (.getfield 15, 3) := by decide +kernel
theorem dX3_append_20 : decode cX3_append 20 = .ok (.iload_n 1, 1) := by decide +kernel
theorem dX3_append_21 : decode cX3_append 21 = .ok (.castore, 1) := by decide +kernel
theorem dX3_append_22 : decode cX3_append 22 = .ok (.aload_n 0, 1) := by decide +kernel
theorem dX3_append_23 : decode cX3_append 23 = .ok (.dup, 1) := by decide +kernel
theorem dX3_append_24 : decode cX3_append 24 = .ok (.getfield 15, 3) := by decide +kernel
theorem dX3_append_27 : decode cX3_append 27 = .ok (.iconst 1, 1) := by decide +kernel
theorem dX3_append_28 : decode cX3_append 28 = .ok (.iadd, 1) := by decide +kernel
theorem dX3_append_29 : decode cX3_append 29 = .ok (.putfield 15, 3) := by decide +kernel
theorem dX3_append_32 : decode cX3_append 32 = .ok (.aload_n 0, 1) := by decide +kernel
theorem dX3_append_33 : decode cX3_append 33 = .ok (.getfield 15, 3) := by decide +kernel
theorem dX3_append_36 : decode cX3_append 36 = .ok (.ireturn, 1) := by decide +kernel
theorem dX3_empty_0 : decode cX3_empty 0 = .ok (.aload_n 0, 1) := by decide +kernel
theorem dX3_empty_1 : decode cX3_empty 1 = .ok (.getfield 15, 3) := by decide +kernel
theorem dX3_empty_4 : decode cX3_empty 4 = .ok (.istore_n 1, 1) := by decide +kernel
theorem dX3_empty_5 : decode cX3_empty 5 = .ok (.aload_n 0, 1) := by decide +kernel
theorem dX3_empty_6 : decode cX3_empty 6 = .ok (.iconst 0, 1) := by decide +kernel
theorem dX3_empty_7 : decode cX3_empty 7 = .ok (.putfield 15, 3) := by decide +kernel
theorem dX3_empty_10 : decode cX3_empty 10 = .ok (.iload_n 1, 1) := by decide +kernel
theorem dX3_empty_11 : decode cX3_empty 11 = .ok (.ireturn, 1) := by decide +kernel
theorem dX3_signAt_0 : decode cX3_signAt 0 = .ok (.iload_n 1, 1) := by decide +kernel
theorem dX3_signAt_1 : decode cX3_signAt 1 = .ok (.ifCond .lt 20, 3) := by decide +kernel
theorem dX3_signAt_4 : decode cX3_signAt 4 = .ok (.iload_n 1, 1) := by decide +kernel
theorem dX3_signAt_5 : decode cX3_signAt 5 = .ok (.aload_n 0, 1) := by decide +kernel
theorem dX3_signAt_6 : decode cX3_signAt 6 = .ok (.getfield 15, 3) := by decide +kernel
theorem dX3_signAt_9 : decode cX3_signAt 9 = .ok (.if_icmp .ge 12, 3) := by decide +kernel
theorem dX3_signAt_12 : decode cX3_signAt 12 = .ok (.aload_n 0, 1) := by decide +kernel
theorem dX3_signAt_13 : decode cX3_signAt 13 = .ok (.getfield 11, 3) := by decide +kernel
theorem dX3_signAt_16 : decode cX3_signAt 16 = .ok (.iload_n 1, 1) := by decide +kernel
theorem dX3_signAt_17 : decode cX3_signAt 17 = .ok (.caload, 1) := by decide +kernel
theorem dX3_signAt_18 : decode cX3_signAt 18 = .ok (.goto 4, 3) := by decide +kernel
theorem dX3_signAt_21 : decode cX3_signAt 21 = .ok (.iconst 0, 1) := by decide +kernel
theorem dX3_signAt_22 : decode cX3_signAt 22 = .ok (.ireturn, 1) := by decide +kernel
