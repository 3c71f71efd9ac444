set_option maxRecDepth 20000 in
theorem ggX4_init_X2_init : GoodIn wsX4_init wsX2_init := goodIn_r _ [22, 23, 2, 3, 24, 25, 26, 27, 28, 29, 30, 31, 32, 33, 34, 35, 36, 37, 55, 56, 57, 58, 59, 60, 61, 62, 63, 64, 65, 66, 67, 68, 69, 70] (by decide +kernel) (by decide +kernel)
set_option maxRecDepth 20000 in
theorem gX4_init_X2_init_n9 : GoodIn wsX4_init (wsX2_init) := ggX4_init_X2_init
set_option maxRecDepth 20000 in
theorem ggX4_init_X0_init : GoodIn wsX4_init wsX0_init := goodIn_r _ [40, 41, 2, 3, 42, 43, 5, 6, 21, 22, 23, 24, 25, 26, 27, 28, 29, 30, 31, 32, 33, 34, 35, 36, 37, 81, 82, 83, 55, 56, 57, 58, 59, 60, 61, 62, 63, 64, 65, 66, 67, 68, 69, 70] (by decide +kernel) (by decide +kernel)
set_option maxRecDepth 20000 in
theorem gX4_init_X0_init : GoodIn wsX4_init (wsX0_init) := ggX4_init_X0_init
set_option maxRecDepth 20000 in
theorem ggX4_init_X3_init : GoodIn wsX4_init wsX3_init := goodIn_r _ [45, 46, 2, 3, 47, 48, 84, 85] (by decide +kernel) (by decide +kernel)
set_option maxRecDepth 20000 in
theorem gX4_init_X3_init_n28 : GoodIn wsX4_init (wsX3_init) := ggX4_init_X3_init
set_option maxRecDepth 20000 in
theorem ggX4_init_X1_init : GoodIn wsX4_init wsX1_init := goodIn_r _ [50, 51, 2, 3, 26, 52, 53, 54, 86, 87, 88, 89, 90, 91] (by decide +kernel) (by decide +kernel)
set_option maxRecDepth 20000 in
theorem gX4_init_X1_init_n35 : GoodIn wsX4_init (wsX1_init) := ggX4_init_X1_init
theorem dX4_init_0 : decode cX4_init 0 = .ok (.aload_n 0, 1) := by decide +kernel
theorem dX4_init_1 : decode cX4_init 1 = .ok (.invokespecial 1, 3) := by decide +kernel
theorem dX4_init_4 : decode cX4_init 4 = .ok (.aload_n 0, 1) := by decide +kernel
theorem dX4_init_5 : decode cX4_init 5 = .ok (.new 7, 3) := by decide +kernel
theorem dX4_init_8 : decode cX4_init 8 = .ok (.dup, 1) := by decide +kernel
theorem dX4_init_9 : decode cX4_init 9 = .ok (.invokespecial 9, 3) := by decide +kernel
theorem dX4_init_12 : decode cX4_init 12 = .ok (.putfield 10, 3) := by decide +kernel
theorem dX4_init_15 : decode cX4_init 15 = .ok (.aload_n 0, 1) := by decide +kernel
theorem dX4_init_16 : decode cX4_init 16 = .ok (.new 7, 3) := by decide +kernel
theorem dX4_init_19 : decode cX4_init 19 = .ok (.dup, 1) := by decide +kernel
theorem dX4_init_20 : decode cX4_init 20 = .ok (.invokespecial 9, 3) := by decide +kernel
theorem dX4_init_23 : decode cX4_init 23 = .ok (.putfield 16, 3) := by decide +kernel
theorem dX4_init_26 : decode cX4_init 26 = .ok (.aload_n 0, 1) := by decide +kernel
theorem dX4_init_27 : decode cX4_init 27 = .ok (.new 19, 3) := by decide +kernel
theorem dX4_init_30 : decode cX4_init 30 = .ok (.dup, 1) := by decide +kernel
theorem dX4_init_31 : decode cX4_init 31 = .ok (.invokespecial 21, 3) := by decide +kernel
theorem dX4_init_34 : decode cX4_init 34 = .ok (.putfield 22, 3) := by decide +kernel
theorem dX4_init_37 : decode cX4_init 37 = .ok (.aload_n 0, 1) := by decide +kernel
theorem dX4_init_38 : decode cX4_init 38 = .ok (.new 26, 3) := by decide +kernel
theorem dX4_init_41 : decode cX4_init 41 = .ok (.dup, 1) := by decide +kernel
theorem dX4_init_42 : decode cX4_init 42 = .ok (.invokespecial 28, 3) := by decide +kernel
theorem dX4_init_45 : decode cX4_init 45 = .ok (.putfield 29, 3) := by decide +kernel
theorem dX4_init_48 : decode cX4_init 48 = .ok (.aload_n 0, 1) := by decide +kernel
theorem dX4_init_49 : decode cX4_init 49 = .ok (.new 33, 3) := by decide +kernel
theorem dX4_init_52 : decode cX4_init 52 = .ok (.dup, 1) := by decide +kernel
theorem dX4_init_53 : decode cX4_init 53 = .ok (.invokespecial 35, 3) := by decide +kernel
theorem dX4_init_56 : decode cX4_init 56 = .ok (.putfield 36, 3) := by decide +kernel
theorem dX4_init_59 : decode cX4_init 59 = .ok (.return_, 1) := by decide +kernel
set_option maxRecDepth 20000 in
theorem ggX4_setUp_X0_draft : GoodIn wsX4_setUp wsX0_draft := goodIn_r _ [7, 8, 9, 10, 11, 12, 13, 14, 15, 16, 17, 18, 19, 20, 21, 22, 23, 24, 25, 26, 27, 28, 29, 30, 31, 32, 33, 34, 35, 36, 37, 38, 39, 40, 41, 78, 79, 80, 81, 82, 83, 84, 85, 86, 87, 88, 89, 90, 91, 92, 93, 94, 95, 96] (by decide +kernel) (by decide +kernel)
set_option maxRecDepth 20000 in
theorem gX4_setUp_X0_draft : GoodIn wsX4_setUp (wsV RX4 40 RX0 yX0_draft wsX0_draft) := goodIn_app (goodIn_of _ (by decide +kernel)) ggX4_setUp_X0_draft
set_option maxRecDepth 20000 in
theorem ggX4_setUp_X2_turn : GoodIn wsX4_setUp wsX2_turn := goodIn_r _ [45, 15, 46, 47, 48, 49, 50, 51, 52, 53, 54, 55, 56, 57, 81, 82, 83, 84, 85, 86, 87, 88, 89, 90, 91, 92, 93, 94, 95, 96] (by decide +kernel) (by decide +kernel)
set_option maxRecDepth 20000 in
theorem gX4_setUp_X2_turn : GoodIn wsX4_setUp (wsV RX4 44 RX2 yX2_turn wsX2_turn) := goodIn_app (goodIn_of _ (by decide +kernel)) ggX4_setUp_X2_turn
set_option maxRecDepth 20000 in
theorem ggX4_setUp_X4_settled : GoodIn wsX4_setUp wsX4_settled := goodIn_r _ [61, 1, 62, 63, 64, 6, 65, 9, 66, 67, 35, 36, 37, 68, 69, 70, 71, 72, 73, 74, 75, 76, 77, 78, 79, 80] (by decide +kernel) (by decide +kernel)
set_option maxRecDepth 20000 in
theorem gX4_setUp_X4_settled : GoodIn wsX4_setUp (wsV RX4 48 RX4 yX4_settled wsX4_settled) := goodIn_app (goodIn_of _ (by decide +kernel)) ggX4_setUp_X4_settled
theorem dX4_setUp_0 : decode cX4_setUp 0 = .ok (.aload_n 0, 1) := by decide +kernel
theorem dX4_setUp_1 : decode cX4_setUp 1 = .ok (.getfield 22, 3) := by decide +kernel
theorem dX4_setUp_4 : decode cX4_setUp 4 = .ok (.aload_n 0, 1) := by decide +kernel
theorem dX4_setUp_5 : decode cX4_setUp 5 = .ok (.getfield 10, 3) := by decide +kernel
theorem dX4_setUp_8 : decode cX4_setUp 8 = .ok (.invokevirtual 40, 3) := by decide +kernel
theorem dX4_setUp_11 : decode cX4_setUp 11 = .ok (.aload_n 0, 1) := by decide +kernel
theorem dX4_setUp_12 : decode cX4_setUp 12 = .ok (.aload_n 0, 1) := by decide +kernel
theorem dX4_setUp_13 : decode cX4_setUp 13 = .ok (.getfield 10, 3) := by decide +kernel
theorem dX4_setUp_16 : decode cX4_setUp 16 = .ok (.iload_n 1, 1) := by decide +kernel
theorem dX4_setUp_17 : decode cX4_setUp 17 = .ok (.iload_n 2, 1) := by decide +kernel
theorem dX4_setUp_18 : decode cX4_setUp 18 = .ok (.invokevirtual 44, 3) := by decide +kernel
theorem dX4_setUp_21 : decode cX4_setUp 21 = .ok (.invokevirtual 48, 3) := by decide +kernel
theorem dX4_setUp_24 : decode cX4_setUp 24 = .ok (.ireturn, 1) := by decide +kernel
set_option maxRecDepth 20000 in
theorem ggX4_prepare_X0_draft : GoodIn wsX4_prepare wsX0_draft := goodIn_r _ [7, 8, 9, 10, 11, 12, 13, 14, 15, 16, 17, 18, 19, 20, 21, 22, 23, 24, 25, 26, 27, 28, 29, 30, 31, 32, 33, 34, 35, 36, 37, 38, 39, 40, 41, 78, 79, 80, 81, 82, 83, 84, 85, 86, 87, 88, 89, 90, 91, 92, 93, 94, 95, 96] (by decide +kernel) (by decide +kernel)
set_option maxRecDepth 20000 in
theorem gX4_prepare_X0_draft : GoodIn wsX4_prepare (wsV RX4 40 RX0 yX0_draft wsX0_draft) := goodIn_app (goodIn_of _ (by decide +kernel)) ggX4_prepare_X0_draft
set_option maxRecDepth 20000 in
theorem ggX4_prepare_X2_startBallot : GoodIn wsX4_prepare wsX2_startBallot := goodIn_r _ [45, 23, 25, 26, 46, 47, 48, 49, 50, 51, 13, 52, 24, 53, 54, 36, 55, 56, 57, 81, 82, 83, 84, 85, 86, 87, 88, 89, 90, 91, 92, 93, 94, 95, 96] (by decide +kernel) (by decide +kernel)
set_option maxRecDepth 20000 in
theorem gX4_prepare_X2_startBallot : GoodIn wsX4_prepare (wsV RX4 55 RX2 yX2_startBallot wsX2_startBallot) := goodIn_app (goodIn_of _ (by decide +kernel)) ggX4_prepare_X2_startBallot
set_option maxRecDepth 20000 in
theorem ggX4_prepare_X4_settled : GoodIn wsX4_prepare wsX4_settled := goodIn_r _ [61, 1, 62, 63, 64, 6, 65, 9, 66, 67, 35, 36, 37, 68, 69, 70, 71, 72, 73, 74, 75, 76, 77, 78, 79, 80] (by decide +kernel) (by decide +kernel)
set_option maxRecDepth 20000 in
theorem gX4_prepare_X4_settled : GoodIn wsX4_prepare (wsV RX4 48 RX4 yX4_settled wsX4_settled) := goodIn_app (goodIn_of _ (by decide +kernel)) ggX4_prepare_X4_settled
theorem dX4_prepare_0 : decode cX4_prepare 0 = .ok (.aload_n 0, 1) := by decide +kernel
theorem dX4_prepare_1 : decode cX4_prepare 1 = .ok (.getfield 22, 3) := by decide +kernel
theorem dX4_prepare_4 : decode cX4_prepare 4 = .ok (.aload_n 0, 1) := by decide +kernel
theorem dX4_prepare_5 : decode cX4_prepare 5 = .ok (.getfield 10, 3) := by decide +kernel
theorem dX4_prepare_8 : decode cX4_prepare 8 = .ok (.invokevirtual 40, 3) := by decide +kernel
theorem dX4_prepare_11 : decode cX4_prepare 11 = .ok (.aload_n 0, 1) := by decide +kernel
theorem dX4_prepare_12 : decode cX4_prepare 12 = .ok (.aload_n 0, 1) := by decide +kernel
theorem dX4_prepare_13 : decode cX4_prepare 13 = .ok (.getfield 10, 3) := by decide +kernel
theorem dX4_prepare_16 : decode cX4_prepare 16 = .ok (.iload_n 1, 1) := by decide +kernel
theorem dX4_prepare_17 : decode cX4_prepare 17 = .ok (.invokevirtual 55, 3) := by decide +kernel
theorem dX4_prepare_20 : decode cX4_prepare 20 = .ok (.invokevirtual 48, 3) := by decide +kernel
theorem dX4_prepare_23 : decode cX4_prepare 23 = .ok (.ireturn, 1) := by decide +kernel
set_option maxRecDepth 20000 in
theorem ggX4_promise_X0_draft : GoodIn wsX4_promise wsX0_draft := goodIn_r _ [7, 8, 9, 10, 11, 12, 13, 14, 15, 16, 17, 18, 19, 20, 21, 22, 23, 24, 25, 26, 27, 28, 29, 30, 31, 32, 33, 34, 35, 36, 37, 38, 39, 40, 41, 90, 91, 92, 93, 94, 95, 96, 97, 98, 99, 100, 101, 102, 103, 104, 105, 106, 107, 108] (by decide +kernel) (by decide +kernel)
set_option maxRecDepth 20000 in
theorem gX4_promise_X0_draft : GoodIn wsX4_promise (wsV RX4 40 RX0 yX0_draft wsX0_draft) := goodIn_app (goodIn_of _ (by decide +kernel)) ggX4_promise_X0_draft
set_option maxRecDepth 20000 in
theorem ggX4_promise_X2_askPromise : GoodIn wsX4_promise wsX2_askPromise := goodIn_r _ [45, 23, 15, 25, 20, 18, 46, 47, 48, 49, 50, 51, 52, 53, 54, 55, 13, 56, 24, 57, 58, 36, 59, 60, 61, 62, 63, 27, 21, 28, 22, 64, 65, 66, 67, 68, 69, 93, 94, 95, 96, 97, 98, 99, 100, 101, 102, 103, 104, 105, 106, 107, 108] (by decide +kernel) (by decide +kernel)
set_option maxRecDepth 20000 in
theorem gX4_promise_X2_askPromise : GoodIn wsX4_promise (wsV RX4 58 RX2 yX2_askPromise wsX2_askPromise) := goodIn_app (goodIn_of _ (by decide +kernel)) ggX4_promise_X2_askPromise
set_option maxRecDepth 20000 in
theorem ggX4_promise_X4_settled : GoodIn wsX4_promise wsX4_settled := goodIn_r _ [73, 1, 74, 75, 76, 6, 77, 9, 78, 79, 35, 36, 37, 80, 81, 82, 83, 84, 85, 86, 87, 88, 89, 90, 91, 92] (by decide +kernel) (by decide +kernel)
set_option maxRecDepth 20000 in
theorem gX4_promise_X4_settled : GoodIn wsX4_promise (wsV RX4 48 RX4 yX4_settled wsX4_settled) := goodIn_app (goodIn_of _ (by decide +kernel)) ggX4_promise_X4_settled
theorem dX4_promise_0 : decode cX4_promise 0 = .ok (.aload_n 0, 1) := by decide +kernel
theorem dX4_promise_1 : decode cX4_promise 1 = .ok (.getfield 22, 3) := by decide +kernel
theorem dX4_promise_4 : decode cX4_promise 4 = .ok (.aload_n 0, 1) := by decide +kernel
theorem dX4_promise_5 : decode cX4_promise 5 = .ok (.getfield 10, 3) := by decide +kernel
theorem dX4_promise_8 : decode cX4_promise 8 = .ok (.invokevirtual 40, 3) := by decide +kernel
theorem dX4_promise_11 : decode cX4_promise 11 = .ok (.aload_n 0, 1) := by decide +kernel
theorem dX4_promise_12 : decode cX4_promise 12 = .ok (.aload_n 0, 1) := by decide +kernel
theorem dX4_promise_13 : decode cX4_promise 13 = .ok (.getfield 10, 3) := by decide +kernel
theorem dX4_promise_16 : decode cX4_promise 16 = .ok (.iload_n 1, 1) := by decide +kernel
theorem dX4_promise_17 : decode cX4_promise 17 = .ok (.iload_n 2, 1) := by decide +kernel
theorem dX4_promise_18 : decode cX4_promise 18 = .ok (.invokevirtual 58, 3) := by decide +kernel
theorem dX4_promise_21 : decode cX4_promise 21 = .ok (.invokevirtual 48, 3) := by decide +kernel
theorem dX4_promise_24 : decode cX4_promise 24 = .ok (.ireturn, 1) := by decide +kernel
set_option maxRecDepth 20000 in
theorem ggX4_propose_X0_draft : GoodIn wsX4_propose wsX0_draft := goodIn_r _ [7, 8, 9, 10, 11, 12, 13, 14, 15, 16, 17, 18, 19, 20, 21, 22, 23, 24, 25, 26, 27, 28, 29, 30, 31, 32, 33, 34, 35, 36, 37, 38, 39, 40, 41, 119, 120, 121, 122, 123, 124, 125, 126, 127, 128, 129, 130, 131, 132, 133, 134, 135, 136, 137] (by decide +kernel) (by decide +kernel)
set_option maxRecDepth 20000 in
theorem gX4_propose_X0_draft : GoodIn wsX4_propose (wsV RX4 40 RX0 yX0_draft wsX0_draft) := goodIn_app (goodIn_of _ (by decide +kernel)) ggX4_propose_X0_draft
set_option maxRecDepth 20000 in
theorem ggX4_propose_X2_offerValue : GoodIn wsX4_propose wsX2_offerValue := goodIn_r _ [45, 26, 46, 47, 48, 49, 50, 51, 52, 53, 54, 55, 13, 56, 23, 17, 57, 58, 59, 60, 61, 62, 63, 64, 29, 65, 66, 67, 68, 25, 69, 70, 36, 71, 72, 73, 74, 75, 76, 77, 78, 79, 80, 81, 82, 83, 84, 85, 86, 87, 88, 89, 90, 16, 34, 35, 37, 91, 92, 93, 94, 95, 96, 27, 28, 97, 98, 122, 123, 124, 125, 126, 127, 128, 129, 130, 131, 132, 133, 134, 135, 136, 137] (by decide +kernel) (by decide +kernel)
set_option maxRecDepth 20000 in
theorem gX4_propose_X2_offerValue : GoodIn wsX4_propose (wsV RX4 62 RX2 yX2_offerValue wsX2_offerValue) := goodIn_app (goodIn_of _ (by decide +kernel)) ggX4_propose_X2_offerValue
set_option maxRecDepth 20000 in
theorem ggX4_propose_X4_settled : GoodIn wsX4_propose wsX4_settled := goodIn_r _ [102, 1, 103, 104, 105, 6, 106, 9, 107, 108, 35, 36, 37, 109, 110, 111, 112, 113, 114, 115, 116, 117, 118, 119, 120, 121] (by decide +kernel) (by decide +kernel)
set_option maxRecDepth 20000 in
theorem gX4_propose_X4_settled : GoodIn wsX4_propose (wsV RX4 48 RX4 yX4_settled wsX4_settled) := goodIn_app (goodIn_of _ (by decide +kernel)) ggX4_propose_X4_settled
theorem dX4_propose_0 : decode cX4_propose 0 = .ok (.aload_n 0, 1) := by decide +kernel
theorem dX4_propose_1 : decode cX4_propose 1 = .ok (.getfield 22, 3) := by decide +kernel
theorem dX4_propose_4 : decode cX4_propose 4 = .ok (.aload_n 0, 1) := by decide +kernel
theorem dX4_propose_5 : decode cX4_propose 5 = .ok (.getfield 10, 3) := by decide +kernel
theorem dX4_propose_8 : decode cX4_propose 8 = .ok (.invokevirtual 40, 3) := by decide +kernel
theorem dX4_propose_11 : decode cX4_propose 11 = .ok (.aload_n 0, 1) := by decide +kernel
theorem dX4_propose_12 : decode cX4_propose 12 = .ok (.aload_n 0, 1) := by decide +kernel
theorem dX4_propose_13 : decode cX4_propose 13 = .ok (.getfield 10, 3) := by decide +kernel
theorem dX4_propose_16 : decode cX4_propose 16 = .ok (.iload_n 1, 1) := by decide +kernel
theorem dX4_propose_17 : decode cX4_propose 17 = .ok (.iload_n 2, 1) := by decide +kernel
theorem dX4_propose_18 : decode cX4_propose 18 = .ok (.iload_n 3, 1) := by decide +kernel
theorem dX4_propose_19 : decode cX4_propose 19 = .ok (.invokevirtual 62, 3) := by decide +kernel
theorem dX4_propose_22 : decode cX4_propose 22 = .ok (.invokevirtual 48, 3) := by decide +kernel
theorem dX4_propose_25 : decode cX4_propose 25 = .ok (.ireturn, 1) := by decide +kernel
set_option maxRecDepth 20000 in
theorem ggX4_vote_X0_draft : GoodIn wsX4_vote wsX0_draft := goodIn_r _ [7, 8, 9, 10, 11, 12, 13, 14, 15, 16, 17, 18, 19, 20, 21, 22, 23, 24, 25, 26, 27, 28, 29, 30, 31, 32, 33, 34, 35, 36, 37, 38, 39, 40, 41, 107, 108, 109, 110, 111, 112, 113, 114, 115, 116, 117, 118, 119, 120, 121, 122, 123, 124, 125] (by decide +kernel) (by decide +kernel)
set_option maxRecDepth 20000 in
theorem gX4_vote_X0_draft : GoodIn wsX4_vote (wsV RX4 40 RX0 yX0_draft wsX0_draft) := goodIn_app (goodIn_of _ (by decide +kernel)) ggX4_vote_X0_draft
set_option maxRecDepth 20000 in
theorem ggX4_vote_X2_askVote : GoodIn wsX4_vote wsX2_askVote := goodIn_r _ [45, 21, 23, 20, 19, 22, 26, 29, 30, 46, 47, 48, 49, 50, 51, 52, 53, 54, 55, 13, 56, 17, 15, 57, 58, 59, 60, 61, 62, 63, 64, 65, 66, 67, 68, 24, 69, 70, 36, 71, 72, 73, 74, 75, 76, 77, 78, 79, 80, 81, 82, 83, 84, 85, 86, 16, 34, 35, 37, 110, 111, 112, 113, 114, 115, 116, 117, 118, 119, 120, 121, 122, 123, 124, 125] (by decide +kernel) (by decide +kernel)
set_option maxRecDepth 20000 in
theorem gX4_vote_X2_askVote : GoodIn wsX4_vote (wsV RX4 66 RX2 yX2_askVote wsX2_askVote) := goodIn_app (goodIn_of _ (by decide +kernel)) ggX4_vote_X2_askVote
set_option maxRecDepth 20000 in
theorem ggX4_vote_X4_settled : GoodIn wsX4_vote wsX4_settled := goodIn_r _ [90, 1, 91, 92, 93, 6, 94, 9, 95, 96, 35, 36, 37, 97, 98, 99, 100, 101, 102, 103, 104, 105, 106, 107, 108, 109] (by decide +kernel) (by decide +kernel)
set_option maxRecDepth 20000 in
theorem gX4_vote_X4_settled : GoodIn wsX4_vote (wsV RX4 48 RX4 yX4_settled wsX4_settled) := goodIn_app (goodIn_of _ (by decide +kernel)) ggX4_vote_X4_settled
theorem dX4_vote_0 : decode cX4_vote 0 = .ok (.aload_n 0, 1) := by decide +kernel
theorem dX4_vote_1 : decode cX4_vote 1 = .ok (.getfield 22, 3) := by decide +kernel
theorem dX4_vote_4 : decode cX4_vote 4 = .ok (.aload_n 0, 1) := by decide +kernel
theorem dX4_vote_5 : decode cX4_vote 5 = .ok (.getfield 10, 3) := by decide +kernel
theorem dX4_vote_8 : decode cX4_vote 8 = .ok (.invokevirtual 40, 3) := by decide +kernel
theorem dX4_vote_11 : decode cX4_vote 11 = .ok (.aload_n 0, 1) := by decide +kernel
theorem dX4_vote_12 : decode cX4_vote 12 = .ok (.aload_n 0, 1) := by decide +kernel
theorem dX4_vote_13 : decode cX4_vote 13 = .ok (.getfield 10, 3) := by decide +kernel
theorem dX4_vote_16 : decode cX4_vote 16 = .ok (.iload_n 1, 1) := by decide +kernel
theorem dX4_vote_17 : decode cX4_vote 17 = .ok (.iload_n 2, 1) := by decide +kernel
theorem dX4_vote_18 : decode cX4_vote 18 = .ok (.iload_n 3, 1) := by decide +kernel
theorem dX4_vote_19 : decode cX4_vote 19 = .ok (.invokevirtual 66, 3) := by decide +kernel
theorem dX4_vote_22 : decode cX4_vote 22 = .ok (.invokevirtual 48, 3) := by decide +kernel
theorem dX4_vote_25 : decode cX4_vote 25 = .ok (.ireturn, 1) := by decide +kernel
set_option maxRecDepth 20000 in
theorem ggX4_trim_X0_draft : GoodIn wsX4_trim wsX0_draft := goodIn_r _ [7, 8, 9, 10, 11, 12, 13, 14, 15, 16, 17, 18, 19, 20, 21, 22, 23, 24, 25, 26, 27, 28, 29, 30, 31, 32, 33, 34, 35, 36, 37, 38, 39, 40, 41, 83, 84, 85, 86, 87, 88, 89, 90, 91, 92, 93, 94, 95, 96, 97, 98, 99, 100, 101] (by decide +kernel) (by decide +kernel)
set_option maxRecDepth 20000 in
theorem gX4_trim_X0_draft : GoodIn wsX4_trim (wsV RX4 40 RX0 yX0_draft wsX0_draft) := goodIn_app (goodIn_of _ (by decide +kernel)) ggX4_trim_X0_draft
set_option maxRecDepth 20000 in
theorem ggX4_trim_X2_forgetUpTo : GoodIn wsX4_trim wsX2_forgetUpTo := goodIn_r _ [45, 17, 46, 47, 48, 49, 50, 51, 13, 52, 29, 53, 54, 55, 56, 21, 57, 58, 59, 60, 61, 62, 22, 86, 87, 88, 89, 90, 91, 92, 93, 94, 95, 96, 97, 98, 99, 100, 101] (by decide +kernel) (by decide +kernel)
set_option maxRecDepth 20000 in
theorem gX4_trim_X2_forgetUpTo : GoodIn wsX4_trim (wsV RX4 69 RX2 yX2_forgetUpTo wsX2_forgetUpTo) := goodIn_app (goodIn_of _ (by decide +kernel)) ggX4_trim_X2_forgetUpTo
set_option maxRecDepth 20000 in
theorem ggX4_trim_X4_settled : GoodIn wsX4_trim wsX4_settled := goodIn_r _ [66, 1, 67, 68, 69, 6, 70, 9, 71, 72, 35, 36, 37, 73, 74, 75, 76, 77, 78, 79, 80, 81, 82, 83, 84, 85] (by decide +kernel) (by decide +kernel)
set_option maxRecDepth 20000 in
theorem gX4_trim_X4_settled : GoodIn wsX4_trim (wsV RX4 48 RX4 yX4_settled wsX4_settled) := goodIn_app (goodIn_of _ (by decide +kernel)) ggX4_trim_X4_settled
theorem dX4_trim_0 : decode cX4_trim 0 = .ok (.aload_n 0, 1) := by decide +kernel
theorem dX4_trim_1 : decode cX4_trim 1 = .ok (.getfield 22, 3) := by decide +kernel
theorem dX4_trim_4 : decode cX4_trim 4 = .ok (.aload_n 0, 1) := by decide +kernel
theorem dX4_trim_5 : decode cX4_trim 5 = .ok (.getfield 10, 3) := by decide +kernel
theorem dX4_trim_8 : decode cX4_trim 8 = .ok (.invokevirtual 40, 3) := by decide +kernel
theorem dX4_trim_11 : decode cX4_trim 11 = .ok (.aload_n 0, 1) := by decide +kernel
theorem dX4_trim_12 : decode cX4_trim 12 = .ok (.aload_n 0, 1) := by decide +kernel
theorem dX4_trim_13 : decode cX4_trim 13 = .ok (.getfield 10, 3) := by decide +kernel
theorem dX4_trim_16 : decode cX4_trim 16 = .ok (.iload_n 1, 1) := by decide +kernel
theorem dX4_trim_17 : decode cX4_trim 17 = .ok (.invokevirtual 69, 3) := by decide +kernel
theorem dX4_trim_20 : decode cX4_trim 20 = .ok (.invokevirtual 48, 3) := by decide +kernel
theorem dX4_trim_23 : decode cX4_trim 23 = .ok (.ireturn, 1) := by decide +kernel
set_option maxRecDepth 20000 in
theorem ggX4_type_X3_append : GoodIn wsX4_type wsX3_append := goodIn_r _ [6, 7, 8, 19, 20] (by decide +kernel) (by decide +kernel)
set_option maxRecDepth 20000 in
theorem gX4_type_X3_append : GoodIn wsX4_type (wsV RX4 72 RX3 yX3_append wsX3_append) := goodIn_app (goodIn_of _ (by decide +kernel)) ggX4_type_X3_append
theorem dX4_type_0 : decode cX4_type 0 = .ok (.aload_n 0, 1) := by decide +kernel
theorem dX4_type_1 : decode cX4_type 1 = .ok (.getfield 29, 3) := by decide +kernel
theorem dX4_type_4 : decode cX4_type 4 = .ok (.iload_n 1, 1) := by decide +kernel
theorem dX4_type_5 : decode cX4_type 5 = .ok (.invokevirtual 72, 3) := by decide +kernel
theorem dX4_type_8 : decode cX4_type 8 = .ok (.ireturn, 1) := by decide +kernel
set_option maxRecDepth 20000 in
theorem ggX4_clearText_X3_empty : GoodIn wsX4_clearText wsX3_empty := goodIn_r _ [6, 7, 18, 19] (by decide +kernel) (by decide +kernel)
set_option maxRecDepth 20000 in
theorem gX4_clearText_X3_empty : GoodIn wsX4_clearText (wsV RX4 76 RX3 yX3_empty wsX3_empty) := goodIn_app (goodIn_of _ (by decide +kernel)) ggX4_clearText_X3_empty
theorem dX4_clearText_0 : decode cX4_clearText 0 = .ok (.aload_n 0, 1) := by decide +kernel
theorem dX4_clearText_1 : decode cX4_clearText 1 = .ok (.getfield 29, 3) := by decide +kernel
theorem dX4_clearText_4 : decode cX4_clearText 4 = .ok (.invokevirtual 76, 3) := by decide +kernel
theorem dX4_clearText_7 : decode cX4_clearText 7 = .ok (.ireturn, 1) := by decide +kernel
set_option maxRecDepth 20000 in
theorem ggX4_perform_X1_read : GoodIn wsX4_perform wsX1_read := goodIn_r _ [10, 11, 12, 13, 14, 15, 16, 9, 17, 18, 19, 20, 21, 22, 23, 24, 25, 26, 27, 28, 29, 30, 31, 32, 33, 34, 35, 36, 37, 38, 39, 40, 41, 42, 43, 44, 45, 46, 47, 48, 49, 50, 51, 52, 53, 54, 55, 56, 57, 58, 59, 60, 61, 62, 63, 64, 65, 66, 67, 68, 69, 70, 71, 72, 73, 74, 75, 76, 77, 78, 79, 80, 81, 82, 83, 84, 85, 86, 87, 88, 89, 90, 91, 92, 93, 94, 95, 96, 97, 98, 99, 100, 101, 102, 103, 104, 105, 106, 107, 285, 286, 287, 288, 289, 290, 291, 292] (by decide +kernel) (by decide +kernel)
set_option maxRecDepth 20000 in
theorem gX4_perform_X1_read : GoodIn wsX4_perform (wsV RX4 80 RX1 yX1_read wsX1_read) := goodIn_app (goodIn_of _ (by decide +kernel)) ggX4_perform_X1_read
set_option maxRecDepth 20000 in
theorem ggX4_perform_X0_draft : GoodIn wsX4_perform wsX0_draft := goodIn_r _ [112, 113, 114, 115, 116, 117, 118, 119, 120, 121, 122, 123, 124, 125, 126, 127, 128, 129, 130, 131, 132, 133, 134, 135, 136, 137, 138, 139, 140, 141, 142, 143, 144, 145, 146, 293, 294, 295, 296, 297, 298, 299, 300, 301, 302, 303, 304, 305, 306, 307, 308, 309, 310, 311] (by decide +kernel) (by decide +kernel)
set_option maxRecDepth 20000 in
theorem gX4_perform_X0_draft : GoodIn wsX4_perform (wsV RX4 40 RX0 yX0_draft wsX0_draft) := goodIn_app (goodIn_of _ (by decide +kernel)) ggX4_perform_X0_draft
set_option maxRecDepth 20000 in
theorem ggX4_perform_X1_carryOut : GoodIn wsX4_perform wsX1_carryOut := goodIn_r _ [150, 12, 96, 18, 151, 152, 153, 118, 154, 128, 130, 131, 155, 156, 157, 158, 159, 160, 161, 129, 162, 163, 141, 164, 165, 166, 167, 168, 169, 170, 120, 125, 123, 171, 172, 173, 174, 175, 176, 177, 178, 179, 180, 181, 182, 132, 126, 133, 127, 183, 184, 185, 186, 187, 188, 189, 190, 191, 192, 193, 194, 195, 196, 197, 198, 122, 199, 200, 201, 202, 203, 204, 205, 206, 134, 207, 208, 209, 210, 211, 212, 213, 214, 215, 216, 217, 218, 219, 220, 221, 222, 223, 224, 225, 226, 227, 228, 229, 121, 139, 140, 142, 230, 231, 232, 233, 234, 235, 236, 237, 124, 135, 238, 239, 240, 241, 242, 243, 244, 245, 246, 247, 248, 249, 285, 286, 287, 288, 289, 290, 296, 297, 298, 299, 300, 301, 302, 303, 304, 305, 306, 307, 308, 309, 310, 311] (by decide +kernel) (by decide +kernel)
set_option maxRecDepth 20000 in
theorem gX4_perform_X1_carryOut : GoodIn wsX4_perform (wsV RX4 88 RX1 yX1_carryOut wsX1_carryOut) := goodIn_app (goodIn_of _ (by decide +kernel)) ggX4_perform_X1_carryOut
set_option maxRecDepth 20000 in
theorem ggX4_perform_X4_isError : GoodIn wsX4_perform wsX4_isError := goodIn_r _ [252] (by decide +kernel) (by decide +kernel)
set_option maxRecDepth 20000 in
theorem gX4_perform_X4_isError : GoodIn wsX4_perform (va_wsS RX4 92 yX4_isError wsX4_isError) := goodIn_app (goodIn_of _ (by decide +kernel)) ggX4_perform_X4_isError
set_option maxRecDepth 20000 in
theorem ggX4_perform_X4_noteRefusal : GoodIn wsX4_perform wsX4_noteRefusal := goodIn_r _ [256, 257, 258, 259, 1, 260, 261, 262, 263, 9, 264, 12, 19, 275, 276, 277, 278, 279, 280, 281, 282, 283, 284, 285, 286, 287, 288, 289, 290] (by decide +kernel) (by decide +kernel)
set_option maxRecDepth 20000 in
theorem gX4_perform_X4_noteRefusal : GoodIn wsX4_perform (wsV RX4 96 RX4 yX4_noteRefusal wsX4_noteRefusal) := goodIn_app (goodIn_of _ (by decide +kernel)) ggX4_perform_X4_noteRefusal
set_option maxRecDepth 20000 in
theorem ggX4_perform_X0_bringBackDraft : GoodIn wsX4_perform wsX0_bringBackDraft := goodIn_r _ [268, 113, 114, 115, 116, 117, 118, 119, 120, 121, 122, 123, 124, 125, 126, 127, 128, 129, 130, 131, 132, 133, 134, 135, 136, 137, 138, 139, 140, 141, 142, 143, 144, 145, 146, 293, 294, 295, 296, 297, 298, 299, 300, 301, 302, 303, 304, 305, 306, 307, 308, 309, 310, 311] (by decide +kernel) (by decide +kernel)
set_option maxRecDepth 20000 in
theorem gX4_perform_X0_bringBackDraft : GoodIn wsX4_perform (wsV RX4 100 RX0 yX0_bringBackDraft wsX0_bringBackDraft) := goodIn_app (goodIn_of _ (by decide +kernel)) ggX4_perform_X0_bringBackDraft
set_option maxRecDepth 20000 in
theorem ggX4_perform_X0_commit : GoodIn wsX4_perform wsX0_commit := goodIn_r _ [272, 114, 273, 274, 140, 141, 142, 293, 294, 295] (by decide +kernel) (by decide +kernel)
set_option maxRecDepth 20000 in
theorem gX4_perform_X0_commit : GoodIn wsX4_perform (wsV RX4 103 RX0 yX0_commit wsX0_commit) := goodIn_app (goodIn_of _ (by decide +kernel)) ggX4_perform_X0_commit
theorem dX4_perform_0 : decode cX4_perform 0 = .ok (.aload_n 0, 1) := by decide +kernel
theorem dX4_perform_1 : decode cX4_perform 1 = .ok (.getfield 36, 3) := by decide +kernel
theorem dX4_perform_4 : decode cX4_perform 4 = .ok (.aload_n 0, 1) := by decide +kernel
theorem dX4_perform_5 : decode cX4_perform 5 = .ok (.getfield 29, 3) := by decide +kernel
theorem dX4_perform_8 : decode cX4_perform 8 = .ok (.invokevirtual 80, 3) := by decide +kernel
theorem dX4_perform_11 : decode cX4_perform 11 = .ok (.istore_n 1, 1) := by decide +kernel
theorem dX4_perform_12 : decode cX4_perform 12 = .ok (.iload_n 1, 1) := by decide +kernel
theorem dX4_perform_13 : decode cX4_perform 13 = .ok (.iconst (-1), 1) := by decide +kernel
theorem dX4_perform_14 : decode cX4_perform 14 = .ok (.if_icmp .eq 8, 3) := by decide +kernel
theorem dX4_perform_17 : decode cX4_perform 17 = .ok (.bipush (-100), 2) := by decide +kernel
theorem dX4_perform_19 : decode cX4_perform 19 = .ok (.iload_n 1, 1) := by decide +kernel
theorem dX4_perform_20 : decode cX4_perform 20 = .ok (.isub, 1) := by decide +kernel
theorem dX4_perform_21 : decode cX4_perform 21 = .ok (.ireturn, 1) := by decide +kernel
theorem dX4_perform_22 : decode cX4_perform 22 = .ok (.aload_n 0, 1) := by decide +kernel
theorem dX4_perform_23 : decode cX4_perform 23 = .ok (.getfield 22, 3) := by decide +kernel
theorem dX4_perform_26 : decode cX4_perform 26 = .ok (.aload_n 0, 1) := by decide +kernel
theorem dX4_perform_27 : decode cX4_perform 27 = .ok (.getfield 10, 3) := by decide +kernel
theorem dX4_perform_30 : decode cX4_perform 30 = .ok (.invokevirtual 40, 3) := by decide +kernel
theorem dX4_perform_33 : decode cX4_perform 33 = .ok (.iconst 0, 1) := by decide +kernel
theorem dX4_perform_34 : decode cX4_perform 34 = .ok (.istore_n 2, 1) := by decide +kernel
theorem dX4_perform_35 : decode cX4_perform 35 = .ok (.iload_n 2, 1) := by decide +kernel
theorem dX4_perform_36 : decode cX4_perform 36 = .ok (.aload_n 0, 1) := by decide +kernel
theorem dX4_perform_37 : decode cX4_perform 37 = .ok (.getfield 36, 3) := by decide +kernel
theorem dX4_perform_40 : decode cX4_perform 40 = .ok (.getfield 84, 3) := by decide +kernel
theorem dX4_perform_43 : decode cX4_perform 43 = .ok (.if_icmp .ge 49, 3) := by decide +kernel
theorem dX4_perform_46 : decode cX4_perform 46 = .ok (.aload_n 0, 1) := by decide +kernel
theorem dX4_perform_47 : decode cX4_perform 47 = .ok (.getfield 36, 3) := by decide +kernel
theorem dX4_perform_50 : decode cX4_perform 50 = .ok (.iload_n 2, 1) := by decide +kernel
theorem dX4_perform_51 : decode cX4_perform 51 = .ok (.aload_n 0, 1) := by decide +kernel
theorem dX4_perform_52 : decode cX4_perform 52 = .ok (.getfield 10, 3) := by decide +kernel
theorem dX4_perform_55 : decode cX4_perform 55 = .ok (.invokevirtual 88, 3) := by decide +kernel
theorem dX4_perform_58 : decode cX4_perform 58 = .ok (.istore_n 3, 1) := by decide +kernel
theorem dX4_perform_59 : decode cX4_perform 59 = .ok (.iload_n 3, 1) := by decide +kernel
theorem dX4_perform_60 : decode cX4_perform 60 = .ok (.invokestatic 92, 3) := by decide +kernel
theorem dX4_perform_63 : decode cX4_perform 63 = .ok (.ifCond .eq 23, 3) := by decide +kernel
theorem dX4_perform_66 : decode cX4_perform 66 = .ok (.aload_n 0, 1) := by decide +kernel
theorem dX4_perform_67 : decode cX4_perform 67 = .ok (.iload_n 2, 1) := by decide +kernel
theorem dX4_perform_68 : decode cX4_perform 68 = .ok (.iload_n 3, 1) := by decide +kernel
theorem dX4_perform_69 : decode cX4_perform 69 = .ok (.invokevirtual 96, 3) := by decide +kernel
theorem dX4_perform_72 : decode cX4_perform 72 = .ok (.aload_n 0, 1) := by decide +kernel
theorem dX4_perform_73 : decode cX4_perform 73 = .ok (.getfield 22, 3) := by decide +kernel
theorem dX4_perform_76 : decode cX4_perform 76 = .ok (.aload_n 0, 1) := by decide +kernel
theorem dX4_perform_77 : decode cX4_perform 77 = .ok (.getfield 10, 3) := by decide +kernel
theorem dX4_perform_80 : decode cX4_perform 80 = .ok (.invokevirtual 100, 3) := by decide +kernel
theorem dX4_perform_83 : decode cX4_perform 83 = .ok (.bipush (-4), 2) := by decide +kernel
theorem dX4_perform_85 : decode cX4_perform 85 = .ok (.ireturn, 1) := by decide +kernel
theorem dX4_perform_86 : decode cX4_perform 86 = .ok (.iinc 2 1, 3) := by decide +kernel
theorem dX4_perform_89 : decode cX4_perform 89 = .ok (.goto (-54), 3) := by decide +kernel
theorem dX4_perform_92 : decode cX4_perform 92 = .ok (.aload_n 0, 1) := by decide +kernel
theorem dX4_perform_93 : decode cX4_perform 93 = .ok (.getfield 22, 3) := by decide +kernel
theorem dX4_perform_96 : decode cX4_perform 96 = .ok (.invokevirtual 103, 3) := by decide +kernel
theorem dX4_perform_99 : decode cX4_perform 99 = .ok (.aload_n 0, 1) := by decide +kernel
theorem dX4_perform_100 : decode cX4_perform 100 = .ok (.getfield 36, 3) := by decide +kernel
theorem dX4_perform_103 : decode cX4_perform 103 = .ok (.getfield 84, 3) := by decide +kernel
theorem dX4_perform_106 : decode cX4_perform 106 = .ok (.ireturn, 1) := by decide +kernel
theorem dX4_refusal_0 : decode cX4_refusal 0 = .ok (.iload_n 1, 1) := by decide +kernel
theorem dX4_refusal_1 : decode cX4_refusal 1 = .ok (.ifCond .lt 8, 3) := by decide +kernel
theorem dX4_refusal_4 : decode cX4_refusal 4 = .ok (.iload_n 1, 1) := by decide +kernel
theorem dX4_refusal_5 : decode cX4_refusal 5 = .ok (.iconst 2, 1) := by decide +kernel
theorem dX4_refusal_6 : decode cX4_refusal 6 = .ok (.if_icmp .le 6, 3) := by decide +kernel
theorem dX4_refusal_9 : decode cX4_refusal 9 = .ok (.bipush (-2), 2) := by decide +kernel
theorem dX4_refusal_11 : decode cX4_refusal 11 = .ok (.ireturn, 1) := by decide +kernel
theorem dX4_refusal_12 : decode cX4_refusal 12 = .ok (.aload_n 0, 1) := by decide +kernel
theorem dX4_refusal_13 : decode cX4_refusal 13 = .ok (.getfield 106, 3) := by decide +kernel
theorem dX4_refusal_16 : decode cX4_refusal 16 = .ok (.ifCond .ne 6, 3) := by decide +kernel
theorem dX4_refusal_19 : decode cX4_refusal 19 = .ok (.bipush (-5), 2) := by decide +kernel
theorem dX4_refusal_21 : decode cX4_refusal 21 = .ok (.ireturn, 1) := by decide +kernel
theorem dX4_refusal_22 : decode cX4_refusal 22 = .ok (.iload_n 1, 1) := by decide +kernel
theorem dX4_refusal_23 : decode cX4_refusal 23 = .ok (.lookupswitch 35 #[(0, 25), (1, 30)], 25) := by decide +kernel
theorem dX4_refusal_48 : decode cX4_refusal 48 = .ok (.aload_n 0, 1) := by decide +kernel
theorem dX4_refusal_49 : decode cX4_refusal 49 = .ok (.getfield 110, 3) := by decide +kernel
theorem dX4_refusal_52 : decode cX4_refusal 52 = .ok (.ireturn, 1) := by decide +kernel
theorem dX4_refusal_53 : decode cX4_refusal 53 = .ok (.aload_n 0, 1) := by decide +kernel
theorem dX4_refusal_54 : decode cX4_refusal 54 = .ok (.getfield 113, 3) := by decide +kernel
theorem dX4_refusal_57 : decode cX4_refusal 57 = .ok (.ireturn, 1) := by decide +kernel
theorem dX4_refusal_58 : decode cX4_refusal 58 = .ok (.aload_n 0, 1) := by decide +kernel
theorem dX4_refusal_59 : decode cX4_refusal 59 = .ok (.getfield 116, 3) := by decide +kernel
theorem dX4_refusal_62 : decode cX4_refusal 62 = .ok (.ireturn, 1) := by decide +kernel
set_option maxRecDepth 20000 in
theorem ggX4_undo_X0_bringBackLatest : GoodIn wsX4_undo wsX0_bringBackLatest := goodIn_r _ [7, 8, 9, 10, 11, 12, 13, 14, 15, 16, 17, 18, 19, 20, 21, 22, 23, 24, 25, 26, 27, 28, 29, 30, 31, 32, 33, 34, 35, 36, 37, 38, 39, 40, 41, 42, 53, 54, 55, 56, 57, 58, 59, 60, 61, 62, 63, 64, 65, 66, 67, 68, 69, 70, 71] (by decide +kernel) (by decide +kernel)
set_option maxRecDepth 20000 in
theorem gX4_undo_X0_bringBackLatest : GoodIn wsX4_undo (wsV RX4 119 RX0 yX0_bringBackLatest wsX0_bringBackLatest) := goodIn_app (goodIn_of _ (by decide +kernel)) ggX4_undo_X0_bringBackLatest
theorem dX4_undo_0 : decode cX4_undo 0 = .ok (.aload_n 0, 1) := by decide +kernel
theorem dX4_undo_1 : decode cX4_undo 1 = .ok (.getfield 22, 3) := by decide +kernel
theorem dX4_undo_4 : decode cX4_undo 4 = .ok (.aload_n 0, 1) := by decide +kernel
theorem dX4_undo_5 : decode cX4_undo 5 = .ok (.getfield 10, 3) := by decide +kernel
theorem dX4_undo_8 : decode cX4_undo 8 = .ok (.invokevirtual 119, 3) := by decide +kernel
theorem dX4_undo_11 : decode cX4_undo 11 = .ok (.ireturn, 1) := by decide +kernel
set_option maxRecDepth 20000 in
theorem ggX4_restore_X0_draft : GoodIn wsX4_restore wsX0_draft := goodIn_r _ [9, 10, 11, 12, 13, 14, 15, 16, 17, 18, 19, 20, 21, 22, 23, 24, 25, 26, 27, 28, 29, 30, 31, 32, 33, 34, 35, 36, 37, 38, 39, 40, 41, 42, 43, 70, 71, 72, 73, 74, 75, 76, 77, 78, 79, 80, 81, 82, 83, 84, 85, 86, 87, 88] (by decide +kernel) (by decide +kernel)
set_option maxRecDepth 20000 in
theorem gX4_restore_X0_draft : GoodIn wsX4_restore (wsV RX4 40 RX0 yX0_draft wsX0_draft) := goodIn_app (goodIn_of _ (by decide +kernel)) ggX4_restore_X0_draft
set_option maxRecDepth 20000 in
theorem ggX4_restore_X2_copy : GoodIn wsX4_restore wsX2_copy := goodIn_r _ [16, 17, 18, 19, 20, 21, 22, 23, 24, 25, 26, 27, 28, 29, 30, 31, 32, 33, 34, 15, 35, 36, 37, 38, 39, 40, 41, 42, 43, 73, 74, 75, 76, 77, 78, 79, 80, 81, 82, 83, 84, 85, 86, 87, 88] (by decide +kernel) (by decide +kernel)
set_option maxRecDepth 20000 in
theorem gX4_restore_X2_copy : GoodIn wsX4_restore (wsV RX4 123 RX2 yX2_copy wsX2_copy) := goodIn_app (goodIn_of _ (by decide +kernel)) ggX4_restore_X2_copy
set_option maxRecDepth 20000 in
theorem ggX4_restore_X2_prefix : GoodIn wsX4_restore wsX2_prefix := goodIn_r _ [48, 31, 73, 74, 75, 76, 77, 78, 79, 80, 81, 82, 83, 84, 85, 86, 87, 88] (by decide +kernel) (by decide +kernel)
set_option maxRecDepth 20000 in
theorem gX4_restore_X2_prefix : GoodIn wsX4_restore (wsV RX4 129 RX2 yX2_prefix wsX2_prefix) := goodIn_app (goodIn_of _ (by decide +kernel)) ggX4_restore_X2_prefix
set_option maxRecDepth 20000 in
theorem ggX4_restore_X4_settled : GoodIn wsX4_restore wsX4_settled := goodIn_r _ [53, 2, 54, 55, 56, 8, 57, 11, 58, 59, 37, 38, 39, 60, 61, 62, 63, 64, 65, 66, 67, 68, 69, 70, 71, 72] (by decide +kernel) (by decide +kernel)
set_option maxRecDepth 20000 in
theorem gX4_restore_X4_settled : GoodIn wsX4_restore (wsV RX4 48 RX4 yX4_settled wsX4_settled) := goodIn_app (goodIn_of _ (by decide +kernel)) ggX4_restore_X4_settled
theorem dX4_restore_0 : decode cX4_restore 0 = .ok (.aload_n 0, 1) := by decide +kernel
theorem dX4_restore_1 : decode cX4_restore 1 = .ok (.getfield 126, 3) := by decide +kernel
theorem dX4_restore_4 : decode cX4_restore 4 = .ok (.ifCond .ne 6, 3) := by decide +kernel
theorem dX4_restore_7 : decode cX4_restore 7 = .ok (.bipush (-5), 2) := by decide +kernel
theorem dX4_restore_9 : decode cX4_restore 9 = .ok (.ireturn, 1) := by decide +kernel
theorem dX4_restore_10 : decode cX4_restore 10 = .ok (.aload_n 0, 1) := by decide +kernel
theorem dX4_restore_11 : decode cX4_restore 11 = .ok (.getfield 22, 3) := by decide +kernel
theorem dX4_restore_14 : decode cX4_restore 14 = .ok (.aload_n 0, 1) := by decide +kernel
theorem dX4_restore_15 : decode cX4_restore 15 = .ok (.getfield 10, 3) := by decide +kernel
theorem dX4_restore_18 : decode cX4_restore 18 = .ok (.invokevirtual 40, 3) := by decide +kernel
theorem dX4_restore_21 : decode cX4_restore 21 = .ok (.aload_n 0, 1) := by decide +kernel
theorem dX4_restore_22 : decode cX4_restore 22 = .ok (.getfield 10, 3) := by decide +kernel
theorem dX4_restore_25 : decode cX4_restore 25 = .ok (.aload_n 0, 1) := by decide +kernel
theorem dX4_restore_26 : decode cX4_restore 26 = .ok (.getfield 16, 3) := by decide +kernel
theorem dX4_restore_29 : decode cX4_restore 29 = .ok (.invokevirtual 123, 3) := by decide +kernel
theorem dX4_restore_32 : decode cX4_restore 32 = .ok (.aload_n 0, 1) := by decide +kernel
theorem dX4_restore_33 : decode cX4_restore 33 = .ok (.aload_n 0, 1) := by decide +kernel
theorem dX4_restore_34 : decode cX4_restore 34 = .ok (.getfield 10, 3) := by decide +kernel
theorem dX4_restore_37 : decode cX4_restore 37 = .ok (.invokevirtual 129, 3) := by decide +kernel
theorem dX4_restore_40 : decode cX4_restore 40 = .ok (.invokevirtual 48, 3) := by decide +kernel
theorem dX4_restore_43 : decode cX4_restore 43 = .ok (.ireturn, 1) := by decide +kernel
set_option maxRecDepth 20000 in
theorem ggX4_acceptor_X4_isAcceptor : GoodIn wsX4_acceptor wsX4_isAcceptor := goodIn_r _ [7] (by decide +kernel) (by decide +kernel)
set_option maxRecDepth 20000 in
theorem gX4_acceptor_X4_isAcceptor : GoodIn wsX4_acceptor (va_wsS RX4 132 yX4_isAcceptor wsX4_isAcceptor) := goodIn_app (goodIn_of _ (by decide +kernel)) ggX4_acceptor_X4_isAcceptor
set_option maxRecDepth 20000 in
theorem ggX4_acceptor_X4_has : GoodIn wsX4_acceptor wsX4_has := goodIn_r _ [10] (by decide +kernel) (by decide +kernel)
set_option maxRecDepth 20000 in
theorem gX4_acceptor_X4_has : GoodIn wsX4_acceptor (va_wsS RX4 138 yX4_has wsX4_has) := goodIn_app (goodIn_of _ (by decide +kernel)) ggX4_acceptor_X4_has
set_option maxRecDepth 20000 in
theorem ggX4_acceptor_X2_votesOf : GoodIn wsX4_acceptor wsX2_votesOf := goodIn_r _ [15, 16, 17, 6, 18, 29, 30, 31, 32, 33, 34, 35, 36, 37, 38, 39, 40, 41, 42, 43, 44] (by decide +kernel) (by decide +kernel)
set_option maxRecDepth 20000 in
theorem gX4_acceptor_X2_votesOf : GoodIn wsX4_acceptor (wsV RX4 146 RX2 yX2_votesOf wsX2_votesOf) := goodIn_app (goodIn_of _ (by decide +kernel)) ggX4_acceptor_X2_votesOf
theorem dX4_acceptor_0 : decode cX4_acceptor 0 = .ok (.iload_n 1, 1) := by decide +kernel
theorem dX4_acceptor_1 : decode cX4_acceptor 1 = .ok (.invokestatic 132, 3) := by decide +kernel
theorem dX4_acceptor_4 : decode cX4_acceptor 4 = .ok (.ifCond .ne 5, 3) := by decide +kernel
theorem dX4_acceptor_7 : decode cX4_acceptor 7 = .ok (.iconst (-1), 1) := by decide +kernel
theorem dX4_acceptor_8 : decode cX4_acceptor 8 = .ok (.ireturn, 1) := by decide +kernel
theorem dX4_acceptor_9 : decode cX4_acceptor 9 = .ok (.iload_n 2, 1) := by decide +kernel
theorem dX4_acceptor_10 : decode cX4_acceptor 10 = .ok (.tableswitch 67 0 2 #[26, 46, 56], 26) := by decide +kernel
theorem dX4_acceptor_36 : decode cX4_acceptor 36 = .ok (.aload_n 0, 1) := by decide +kernel
theorem dX4_acceptor_37 : decode cX4_acceptor 37 = .ok (.getfield 10, 3) := by decide +kernel
theorem dX4_acceptor_40 : decode cX4_acceptor 40 = .ok (.getfield 135, 3) := by decide +kernel
theorem dX4_acceptor_43 : decode cX4_acceptor 43 = .ok (.iload_n 1, 1) := by decide +kernel
theorem dX4_acceptor_44 : decode cX4_acceptor 44 = .ok (.invokestatic 138, 3) := by decide +kernel
theorem dX4_acceptor_47 : decode cX4_acceptor 47 = .ok (.ifCond .eq 7, 3) := by decide +kernel
theorem dX4_acceptor_50 : decode cX4_acceptor 50 = .ok (.iconst 1, 1) := by decide +kernel
theorem dX4_acceptor_51 : decode cX4_acceptor 51 = .ok (.goto 4, 3) := by decide +kernel
theorem dX4_acceptor_54 : decode cX4_acceptor 54 = .ok (.iconst 0, 1) := by decide +kernel
theorem dX4_acceptor_55 : decode cX4_acceptor 55 = .ok (.ireturn, 1) := by decide +kernel
theorem dX4_acceptor_56 : decode cX4_acceptor 56 = .ok (.aload_n 0, 1) := by decide +kernel
theorem dX4_acceptor_57 : decode cX4_acceptor 57 = .ok (.getfield 10, 3) := by decide +kernel
theorem dX4_acceptor_60 : decode cX4_acceptor 60 = .ok (.getfield 142, 3) := by decide +kernel
theorem dX4_acceptor_63 : decode cX4_acceptor 63 = .ok (.iload_n 1, 1) := by decide +kernel
theorem dX4_acceptor_64 : decode cX4_acceptor 64 = .ok (.iaload, 1) := by decide +kernel
theorem dX4_acceptor_65 : decode cX4_acceptor 65 = .ok (.ireturn, 1) := by decide +kernel
theorem dX4_acceptor_66 : decode cX4_acceptor 66 = .ok (.aload_n 0, 1) := by decide +kernel
theorem dX4_acceptor_67 : decode cX4_acceptor 67 = .ok (.getfield 10, 3) := by decide +kernel
theorem dX4_acceptor_70 : decode cX4_acceptor 70 = .ok (.iload_n 1, 1) := by decide +kernel
theorem dX4_acceptor_71 : decode cX4_acceptor 71 = .ok (.bipush 16, 2) := by decide +kernel
theorem dX4_acceptor_73 : decode cX4_acceptor 73 = .ok (.invokevirtual 146, 3) := by decide +kernel
theorem dX4_acceptor_76 : decode cX4_acceptor 76 = .ok (.ireturn, 1) := by decide +kernel
theorem dX4_acceptor_77 : decode cX4_acceptor 77 = .ok (.bipush (-2), 2) := by decide +kernel
theorem dX4_acceptor_79 : decode cX4_acceptor 79 = .ok (.ireturn, 1) := by decide +kernel
set_option maxRecDepth 20000 in
theorem ggX4_voted_X4_isAcceptor : GoodIn wsX4_voted wsX4_isAcceptor := goodIn_r _ [7] (by decide +kernel) (by decide +kernel)
set_option maxRecDepth 20000 in
theorem gX4_voted_X4_isAcceptor : GoodIn wsX4_voted (va_wsS RX4 132 yX4_isAcceptor wsX4_isAcceptor) := goodIn_app (goodIn_of _ (by decide +kernel)) ggX4_voted_X4_isAcceptor
set_option maxRecDepth 20000 in
theorem ggX4_voted_X4_isSlot : GoodIn wsX4_voted wsX4_isSlot := goodIn_r _ [10] (by decide +kernel) (by decide +kernel)
set_option maxRecDepth 20000 in
theorem gX4_voted_X4_isSlot : GoodIn wsX4_voted (va_wsS RX4 149 yX4_isSlot wsX4_isSlot) := goodIn_app (goodIn_of _ (by decide +kernel)) ggX4_voted_X4_isSlot
set_option maxRecDepth 20000 in
theorem ggX4_voted_X4_cell : GoodIn wsX4_voted wsX4_cell := goodIn_r _ [13] (by decide +kernel) (by decide +kernel)
set_option maxRecDepth 20000 in
theorem gX4_voted_X4_cell : GoodIn wsX4_voted (va_wsS RX4 152 yX4_cell wsX4_cell) := goodIn_app (goodIn_of _ (by decide +kernel)) ggX4_voted_X4_cell
theorem dX4_voted_0 : decode cX4_voted 0 = .ok (.iload_n 1, 1) := by decide +kernel
theorem dX4_voted_1 : decode cX4_voted 1 = .ok (.invokestatic 132, 3) := by decide +kernel
theorem dX4_voted_4 : decode cX4_voted 4 = .ok (.ifCond .eq 10, 3) := by decide +kernel
theorem dX4_voted_7 : decode cX4_voted 7 = .ok (.iload_n 2, 1) := by decide +kernel
theorem dX4_voted_8 : decode cX4_voted 8 = .ok (.invokestatic 149, 3) := by decide +kernel
theorem dX4_voted_11 : decode cX4_voted 11 = .ok (.ifCond .ne 5, 3) := by decide +kernel
theorem dX4_voted_14 : decode cX4_voted 14 = .ok (.iconst (-1), 1) := by decide +kernel
theorem dX4_voted_15 : decode cX4_voted 15 = .ok (.ireturn, 1) := by decide +kernel
theorem dX4_voted_16 : decode cX4_voted 16 = .ok (.iload_n 3, 1) := by decide +kernel
theorem dX4_voted_17 : decode cX4_voted 17 = .ok (.ifCond .lt 8, 3) := by decide +kernel
theorem dX4_voted_20 : decode cX4_voted 20 = .ok (.iload_n 3, 1) := by decide +kernel
theorem dX4_voted_21 : decode cX4_voted 21 = .ok (.iconst 1, 1) := by decide +kernel
theorem dX4_voted_22 : decode cX4_voted 22 = .ok (.if_icmp .le 6, 3) := by decide +kernel
theorem dX4_voted_25 : decode cX4_voted 25 = .ok (.bipush (-2), 2) := by decide +kernel
theorem dX4_voted_27 : decode cX4_voted 27 = .ok (.ireturn, 1) := by decide +kernel
theorem dX4_voted_28 : decode cX4_voted 28 = .ok (.iload_n 1, 1) := by decide +kernel
theorem dX4_voted_29 : decode cX4_voted 29 = .ok (.iload_n 2, 1) := by decide +kernel
theorem dX4_voted_30 : decode cX4_voted 30 = .ok (.invokestatic 152, 3) := by decide +kernel
theorem dX4_voted_33 : decode cX4_voted 33 = .ok (.istore 4, 2) := by decide +kernel
theorem dX4_voted_35 : decode cX4_voted 35 = .ok (.aload_n 0, 1) := by decide +kernel
theorem dX4_voted_36 : decode cX4_voted 36 = .ok (.getfield 10, 3) := by decide +kernel
theorem dX4_voted_39 : decode cX4_voted 39 = .ok (.getfield 155, 3) := by decide +kernel
theorem dX4_voted_42 : decode cX4_voted 42 = .ok (.iload 4, 2) := by decide +kernel
theorem dX4_voted_44 : decode cX4_voted 44 = .ok (.iaload, 1) := by decide +kernel
theorem dX4_voted_45 : decode cX4_voted 45 = .ok (.ifCond .ne 6, 3) := by decide +kernel
theorem dX4_voted_48 : decode cX4_voted 48 = .ok (.bipush (-5), 2) := by decide +kernel
theorem dX4_voted_50 : decode cX4_voted 50 = .ok (.ireturn, 1) := by decide +kernel
theorem dX4_voted_51 : decode cX4_voted 51 = .ok (.iload_n 3, 1) := by decide +kernel
theorem dX4_voted_52 : decode cX4_voted 52 = .ok (.ifCond .ne 16, 3) := by decide +kernel
theorem dX4_voted_55 : decode cX4_voted 55 = .ok (.aload_n 0, 1) := by decide +kernel
theorem dX4_voted_56 : decode cX4_voted 56 = .ok (.getfield 10, 3) := by decide +kernel
theorem dX4_voted_59 : decode cX4_voted 59 = .ok (.getfield 155, 3) := by decide +kernel
theorem dX4_voted_62 : decode cX4_voted 62 = .ok (.iload 4, 2) := by decide +kernel
theorem dX4_voted_64 : decode cX4_voted 64 = .ok (.iaload, 1) := by decide +kernel
theorem dX4_voted_65 : decode cX4_voted 65 = .ok (.goto 13, 3) := by decide +kernel
theorem dX4_voted_68 : decode cX4_voted 68 = .ok (.aload_n 0, 1) := by decide +kernel
theorem dX4_voted_69 : decode cX4_voted 69 = .ok (.getfield 10, 3) := by decide +kernel
theorem dX4_voted_72 : decode cX4_voted 72 = .ok (.getfield 158, 3) := by decide +kernel
theorem dX4_voted_75 : decode cX4_voted 75 = .ok (.iload 4, 2) := by decide +kernel
theorem dX4_voted_77 : decode cX4_voted 77 = .ok (.iaload, 1) := by decide +kernel
theorem dX4_voted_78 : decode cX4_voted 78 = .ok (.ireturn, 1) := by decide +kernel
set_option maxRecDepth 20000 in
theorem ggX4_proposer_X4_isProposer : GoodIn wsX4_proposer wsX4_isProposer := goodIn_r _ [8] (by decide +kernel) (by decide +kernel)
set_option maxRecDepth 20000 in
theorem gX4_proposer_X4_isProposer : GoodIn wsX4_proposer (va_wsS RX4 161 yX4_isProposer wsX4_isProposer) := goodIn_app (goodIn_of _ (by decide +kernel)) ggX4_proposer_X4_isProposer
set_option maxRecDepth 20000 in
theorem ggX4_proposer_X2_offersOf : GoodIn wsX4_proposer wsX2_offersOf := goodIn_r _ [13, 14, 15, 7, 16, 27, 28, 29, 30, 31, 32, 33, 34, 35, 36, 37, 38, 39, 40, 41, 42] (by decide +kernel) (by decide +kernel)
set_option maxRecDepth 20000 in
theorem gX4_proposer_X2_offersOf : GoodIn wsX4_proposer (wsV RX4 173 RX2 yX2_offersOf wsX2_offersOf) := goodIn_app (goodIn_of _ (by decide +kernel)) ggX4_proposer_X2_offersOf
theorem dX4_proposer_0 : decode cX4_proposer 0 = .ok (.iload_n 1, 1) := by decide +kernel
theorem dX4_proposer_1 : decode cX4_proposer 1 = .ok (.invokestatic 161, 3) := by decide +kernel
theorem dX4_proposer_4 : decode cX4_proposer 4 = .ok (.ifCond .ne 5, 3) := by decide +kernel
theorem dX4_proposer_7 : decode cX4_proposer 7 = .ok (.iconst (-1), 1) := by decide +kernel
theorem dX4_proposer_8 : decode cX4_proposer 8 = .ok (.ireturn, 1) := by decide +kernel
theorem dX4_proposer_9 : decode cX4_proposer 9 = .ok (.iload_n 2, 1) := by decide +kernel
theorem dX4_proposer_10 : decode cX4_proposer 10 = .ok (.tableswitch 69 0 3 #[30, 40, 50, 60], 30) := by decide +kernel
theorem dX4_proposer_40 : decode cX4_proposer 40 = .ok (.aload_n 0, 1) := by decide +kernel
theorem dX4_proposer_41 : decode cX4_proposer 41 = .ok (.getfield 10, 3) := by decide +kernel
theorem dX4_proposer_44 : decode cX4_proposer 44 = .ok (.getfield 164, 3) := by decide +kernel
theorem dX4_proposer_47 : decode cX4_proposer 47 = .ok (.iload_n 1, 1) := by decide +kernel
theorem dX4_proposer_48 : decode cX4_proposer 48 = .ok (.iaload, 1) := by decide +kernel
theorem dX4_proposer_49 : decode cX4_proposer 49 = .ok (.ireturn, 1) := by decide +kernel
theorem dX4_proposer_50 : decode cX4_proposer 50 = .ok (.aload_n 0, 1) := by decide +kernel
theorem dX4_proposer_51 : decode cX4_proposer 51 = .ok (.getfield 10, 3) := by decide +kernel
theorem dX4_proposer_54 : decode cX4_proposer 54 = .ok (.getfield 167, 3) := by decide +kernel
theorem dX4_proposer_57 : decode cX4_proposer 57 = .ok (.iload_n 1, 1) := by decide +kernel
theorem dX4_proposer_58 : decode cX4_proposer 58 = .ok (.iaload, 1) := by decide +kernel
theorem dX4_proposer_59 : decode cX4_proposer 59 = .ok (.ireturn, 1) := by decide +kernel
theorem dX4_proposer_60 : decode cX4_proposer 60 = .ok (.aload_n 0, 1) := by decide +kernel
theorem dX4_proposer_61 : decode cX4_proposer 61 = .ok (.getfield 10, 3) := by decide +kernel
theorem dX4_proposer_64 : decode cX4_proposer 64 = .ok (.getfield 170, 3) := by decide +kernel
theorem dX4_proposer_67 : decode cX4_proposer 67 = .ok (.iload_n 1, 1) := by decide +kernel
theorem dX4_proposer_68 : decode cX4_proposer 68 = .ok (.iaload, 1) := by decide +kernel
theorem dX4_proposer_69 : decode cX4_proposer 69 = .ok (.ireturn, 1) := by decide +kernel
theorem dX4_proposer_70 : decode cX4_proposer 70 = .ok (.aload_n 0, 1) := by decide +kernel
theorem dX4_proposer_71 : decode cX4_proposer 71 = .ok (.getfield 10, 3) := by decide +kernel
theorem dX4_proposer_74 : decode cX4_proposer 74 = .ok (.iload_n 1, 1) := by decide +kernel
theorem dX4_proposer_75 : decode cX4_proposer 75 = .ok (.invokevirtual 173, 3) := by decide +kernel
theorem dX4_proposer_78 : decode cX4_proposer 78 = .ok (.ireturn, 1) := by decide +kernel
theorem dX4_proposer_79 : decode cX4_proposer 79 = .ok (.bipush (-2), 2) := by decide +kernel
theorem dX4_proposer_81 : decode cX4_proposer 81 = .ok (.ireturn, 1) := by decide +kernel
set_option maxRecDepth 20000 in
theorem ggX4_proposed_X4_isProposer : GoodIn wsX4_proposed wsX4_isProposer := goodIn_r _ [6] (by decide +kernel) (by decide +kernel)
set_option maxRecDepth 20000 in
theorem gX4_proposed_X4_isProposer : GoodIn wsX4_proposed (va_wsS RX4 161 yX4_isProposer wsX4_isProposer) := goodIn_app (goodIn_of _ (by decide +kernel)) ggX4_proposed_X4_isProposer
set_option maxRecDepth 20000 in
theorem ggX4_proposed_X4_isSlot : GoodIn wsX4_proposed wsX4_isSlot := goodIn_r _ [9] (by decide +kernel) (by decide +kernel)
set_option maxRecDepth 20000 in
theorem gX4_proposed_X4_isSlot : GoodIn wsX4_proposed (va_wsS RX4 149 yX4_isSlot wsX4_isSlot) := goodIn_app (goodIn_of _ (by decide +kernel)) ggX4_proposed_X4_isSlot
set_option maxRecDepth 20000 in
theorem ggX4_proposed_X4_cell : GoodIn wsX4_proposed wsX4_cell := goodIn_r _ [12] (by decide +kernel) (by decide +kernel)
set_option maxRecDepth 20000 in
theorem gX4_proposed_X4_cell : GoodIn wsX4_proposed (va_wsS RX4 152 yX4_cell wsX4_cell) := goodIn_app (goodIn_of _ (by decide +kernel)) ggX4_proposed_X4_cell
set_option maxRecDepth 20000 in
theorem ggX4_proposed_X4_orNone : GoodIn wsX4_proposed wsX4_orNone := goodIn_r _ [15] (by decide +kernel) (by decide +kernel)
set_option maxRecDepth 20000 in
theorem gX4_proposed_X4_orNone : GoodIn wsX4_proposed (va_wsS RX4 179 yX4_orNone wsX4_orNone) := goodIn_app (goodIn_of _ (by decide +kernel)) ggX4_proposed_X4_orNone
set_option maxRecDepth 20000 in
theorem ggX4_proposed_X2_isOpen : GoodIn wsX4_proposed wsX2_isOpen := goodIn_r _ [20, 21, 22, 23, 19, 24, 25, 76, 77, 78, 79, 80, 81, 82, 83, 84, 85, 86, 87, 88, 89, 90, 91] (by decide +kernel) (by decide +kernel)
set_option maxRecDepth 20000 in
theorem gX4_proposed_X2_isOpen : GoodIn wsX4_proposed (wsV RX4 182 RX2 yX2_isOpen wsX2_isOpen) := goodIn_app (goodIn_of _ (by decide +kernel)) ggX4_proposed_X2_isOpen
set_option maxRecDepth 20000 in
theorem ggX4_proposed_X2_boundValue : GoodIn wsX4_proposed wsX2_boundValue := goodIn_r _ [29, 30, 31, 32, 33, 34, 35, 19, 36, 25, 11, 5, 12, 37, 38, 76, 77, 78, 79, 80, 81, 82, 83, 84, 85, 86, 87, 88, 89, 90, 91] (by decide +kernel) (by decide +kernel)
set_option maxRecDepth 20000 in
theorem gX4_proposed_X2_boundValue : GoodIn wsX4_proposed (wsV RX4 185 RX2 yX2_boundValue wsX2_boundValue) := goodIn_app (goodIn_of _ (by decide +kernel)) ggX4_proposed_X2_boundValue
set_option maxRecDepth 20000 in
theorem ggX4_proposed_X2_promisesMissing : GoodIn wsX4_proposed wsX2_promisesMissing := goodIn_r _ [42, 30, 43, 44, 45, 46, 33, 34, 35, 19, 36, 25, 47, 48, 49, 50, 51, 52, 53, 54, 55, 56, 57, 58, 59, 60, 61, 62, 63, 64, 65, 76, 77, 78, 79, 80, 81, 82, 83, 84, 85, 86, 87, 88, 89, 90, 91] (by decide +kernel) (by decide +kernel)
set_option maxRecDepth 20000 in
theorem gX4_proposed_X2_promisesMissing : GoodIn wsX4_proposed (wsV RX4 188 RX2 yX2_promisesMissing wsX2_promisesMissing) := goodIn_app (goodIn_of _ (by decide +kernel)) ggX4_proposed_X2_promisesMissing
theorem dX4_proposed_0 : decode cX4_proposed 0 = .ok (.iload_n 1, 1) := by decide +kernel
theorem dX4_proposed_1 : decode cX4_proposed 1 = .ok (.invokestatic 161, 3) := by decide +kernel
theorem dX4_proposed_4 : decode cX4_proposed 4 = .ok (.ifCond .eq 10, 3) := by decide +kernel
theorem dX4_proposed_7 : decode cX4_proposed 7 = .ok (.iload_n 2, 1) := by decide +kernel
theorem dX4_proposed_8 : decode cX4_proposed 8 = .ok (.invokestatic 149, 3) := by decide +kernel
theorem dX4_proposed_11 : decode cX4_proposed 11 = .ok (.ifCond .ne 5, 3) := by decide +kernel
theorem dX4_proposed_14 : decode cX4_proposed 14 = .ok (.iconst (-1), 1) := by decide +kernel
theorem dX4_proposed_15 : decode cX4_proposed 15 = .ok (.ireturn, 1) := by decide +kernel
theorem dX4_proposed_16 : decode cX4_proposed 16 = .ok (.iload_n 3, 1) := by decide +kernel
theorem dX4_proposed_17 : decode cX4_proposed 17 = .ok (.tableswitch 96 0 2 #[27, 44, 70], 27) := by decide +kernel
theorem dX4_proposed_44 : decode cX4_proposed 44 = .ok (.aload_n 0, 1) := by decide +kernel
theorem dX4_proposed_45 : decode cX4_proposed 45 = .ok (.getfield 10, 3) := by decide +kernel
theorem dX4_proposed_48 : decode cX4_proposed 48 = .ok (.getfield 176, 3) := by decide +kernel
theorem dX4_proposed_51 : decode cX4_proposed 51 = .ok (.iload_n 1, 1) := by decide +kernel
theorem dX4_proposed_52 : decode cX4_proposed 52 = .ok (.iload_n 2, 1) := by decide +kernel
theorem dX4_proposed_53 : decode cX4_proposed 53 = .ok (.invokestatic 152, 3) := by decide +kernel
theorem dX4_proposed_56 : decode cX4_proposed 56 = .ok (.iaload, 1) := by decide +kernel
theorem dX4_proposed_57 : decode cX4_proposed 57 = .ok (.invokestatic 179, 3) := by decide +kernel
theorem dX4_proposed_60 : decode cX4_proposed 60 = .ok (.ireturn, 1) := by decide +kernel
theorem dX4_proposed_61 : decode cX4_proposed 61 = .ok (.aload_n 0, 1) := by decide +kernel
theorem dX4_proposed_62 : decode cX4_proposed 62 = .ok (.getfield 10, 3) := by decide +kernel
theorem dX4_proposed_65 : decode cX4_proposed 65 = .ok (.iload_n 2, 1) := by decide +kernel
theorem dX4_proposed_66 : decode cX4_proposed 66 = .ok (.invokevirtual 182, 3) := by decide +kernel
theorem dX4_proposed_69 : decode cX4_proposed 69 = .ok (.ifCond .eq 15, 3) := by decide +kernel
theorem dX4_proposed_72 : decode cX4_proposed 72 = .ok (.aload_n 0, 1) := by decide +kernel
theorem dX4_proposed_73 : decode cX4_proposed 73 = .ok (.getfield 10, 3) := by decide +kernel
theorem dX4_proposed_76 : decode cX4_proposed 76 = .ok (.iload_n 1, 1) := by decide +kernel
theorem dX4_proposed_77 : decode cX4_proposed 77 = .ok (.iload_n 2, 1) := by decide +kernel
theorem dX4_proposed_78 : decode cX4_proposed 78 = .ok (.invokevirtual 185, 3) := by decide +kernel
theorem dX4_proposed_81 : decode cX4_proposed 81 = .ok (.goto 5, 3) := by decide +kernel
theorem dX4_proposed_84 : decode cX4_proposed 84 = .ok (.bipush (-5), 2) := by decide +kernel
theorem dX4_proposed_86 : decode cX4_proposed 86 = .ok (.ireturn, 1) := by decide +kernel
theorem dX4_proposed_87 : decode cX4_proposed 87 = .ok (.aload_n 0, 1) := by decide +kernel
theorem dX4_proposed_88 : decode cX4_proposed 88 = .ok (.getfield 10, 3) := by decide +kernel
theorem dX4_proposed_91 : decode cX4_proposed 91 = .ok (.iload_n 2, 1) := by decide +kernel
theorem dX4_proposed_92 : decode cX4_proposed 92 = .ok (.invokevirtual 182, 3) := by decide +kernel
theorem dX4_proposed_95 : decode cX4_proposed 95 = .ok (.ifCond .eq 15, 3) := by decide +kernel
theorem dX4_proposed_98 : decode cX4_proposed 98 = .ok (.aload_n 0, 1) := by decide +kernel
theorem dX4_proposed_99 : decode cX4_proposed 99 = .ok (.getfield 10, 3) := by decide +kernel
theorem dX4_proposed_102 : decode cX4_proposed 102 = .ok (.iload_n 1, 1) := by decide +kernel
theorem dX4_proposed_103 : decode cX4_proposed 103 = .ok (.iload_n 2, 1) := by decide +kernel
theorem dX4_proposed_104 : decode cX4_proposed 104 = .ok (.invokevirtual 188, 3) := by decide +kernel
theorem dX4_proposed_107 : decode cX4_proposed 107 = .ok (.goto 5, 3) := by decide +kernel
theorem dX4_proposed_110 : decode cX4_proposed 110 = .ok (.bipush (-5), 2) := by decide +kernel
theorem dX4_proposed_112 : decode cX4_proposed 112 = .ok (.ireturn, 1) := by decide +kernel
theorem dX4_proposed_113 : decode cX4_proposed 113 = .ok (.bipush (-2), 2) := by decide +kernel
theorem dX4_proposed_115 : decode cX4_proposed 115 = .ok (.ireturn, 1) := by decide +kernel
set_option maxRecDepth 20000 in
theorem ggX4_slot_X4_isSlot : GoodIn wsX4_slot wsX4_isSlot := goodIn_r _ [8] (by decide +kernel) (by decide +kernel)
set_option maxRecDepth 20000 in
theorem gX4_slot_X4_isSlot : GoodIn wsX4_slot (va_wsS RX4 149 yX4_isSlot wsX4_isSlot) := goodIn_app (goodIn_of _ (by decide +kernel)) ggX4_slot_X4_isSlot
set_option maxRecDepth 20000 in
theorem ggX4_slot_X4_orNone : GoodIn wsX4_slot wsX4_orNone := goodIn_r _ [11] (by decide +kernel) (by decide +kernel)
set_option maxRecDepth 20000 in
theorem gX4_slot_X4_orNone : GoodIn wsX4_slot (va_wsS RX4 179 yX4_orNone wsX4_orNone) := goodIn_app (goodIn_of _ (by decide +kernel)) ggX4_slot_X4_orNone
set_option maxRecDepth 20000 in
theorem ggX4_slot_X2_isOpen : GoodIn wsX4_slot wsX2_isOpen := goodIn_r _ [16, 17, 18, 19, 15, 20, 21, 57, 58, 59, 60, 61, 62, 63, 64, 65, 66, 67, 68, 69, 70, 71, 72] (by decide +kernel) (by decide +kernel)
set_option maxRecDepth 20000 in
theorem gX4_slot_X2_isOpen : GoodIn wsX4_slot (wsV RX4 182 RX2 yX2_isOpen wsX2_isOpen) := goodIn_app (goodIn_of _ (by decide +kernel)) ggX4_slot_X2_isOpen
set_option maxRecDepth 20000 in
theorem ggX4_slot_X2_votersOf : GoodIn wsX4_slot wsX2_votersOf := goodIn_r _ [25, 21, 57, 58, 59, 60, 61, 62, 63, 64, 65, 66, 67, 68, 69, 70, 71, 72] (by decide +kernel) (by decide +kernel)
set_option maxRecDepth 20000 in
theorem gX4_slot_X2_votersOf : GoodIn wsX4_slot (wsV RX4 197 RX2 yX2_votersOf wsX2_votersOf) := goodIn_app (goodIn_of _ (by decide +kernel)) ggX4_slot_X2_votersOf
set_option maxRecDepth 20000 in
theorem ggX4_slot_X2_firstSize : GoodIn wsX4_slot wsX2_firstSize := goodIn_r _ [29, 30, 31, 32, 33, 34, 35, 36, 37, 38, 39, 15, 40, 41, 42, 43, 44, 45, 57, 58, 59, 60, 61, 62, 63, 64, 65, 66, 67, 68, 69, 70, 71, 72] (by decide +kernel) (by decide +kernel)
set_option maxRecDepth 20000 in
theorem gX4_slot_X2_firstSize : GoodIn wsX4_slot (wsV RX4 200 RX2 yX2_firstSize wsX2_firstSize) := goodIn_app (goodIn_of _ (by decide +kernel)) ggX4_slot_X2_firstSize
set_option maxRecDepth 20000 in
theorem ggX4_slot_X2_secondSize : GoodIn wsX4_slot wsX2_secondSize := goodIn_r _ [40, 41, 42, 43, 44, 45, 30, 31, 32, 33, 34, 35, 36, 57, 58, 59, 60, 61, 62, 63, 64, 65, 66, 67, 68, 69, 70, 71, 72] (by decide +kernel) (by decide +kernel)
set_option maxRecDepth 20000 in
theorem gX4_slot_X2_secondSize : GoodIn wsX4_slot (wsV RX4 203 RX2 yX2_secondSize wsX2_secondSize) := goodIn_app (goodIn_of _ (by decide +kernel)) ggX4_slot_X2_secondSize
theorem dX4_slot_0 : decode cX4_slot 0 = .ok (.iload_n 1, 1) := by decide +kernel
theorem dX4_slot_1 : decode cX4_slot 1 = .ok (.invokestatic 149, 3) := by decide +kernel
theorem dX4_slot_4 : decode cX4_slot 4 = .ok (.ifCond .ne 5, 3) := by decide +kernel
theorem dX4_slot_7 : decode cX4_slot 7 = .ok (.iconst (-1), 1) := by decide +kernel
theorem dX4_slot_8 : decode cX4_slot 8 = .ok (.ireturn, 1) := by decide +kernel
theorem dX4_slot_9 : decode cX4_slot 9 = .ok (.iload_n 2, 1) := by decide +kernel
theorem dX4_slot_10 : decode cX4_slot 10 = .ok (.tableswitch 170 0 5 #[38, 51, 64, 89, 121, 153], 38) := by decide +kernel
theorem dX4_slot_48 : decode cX4_slot 48 = .ok (.aload_n 0, 1) := by decide +kernel
theorem dX4_slot_49 : decode cX4_slot 49 = .ok (.getfield 10, 3) := by decide +kernel
theorem dX4_slot_52 : decode cX4_slot 52 = .ok (.getfield 191, 3) := by decide +kernel
theorem dX4_slot_55 : decode cX4_slot 55 = .ok (.iload_n 1, 1) := by decide +kernel
theorem dX4_slot_56 : decode cX4_slot 56 = .ok (.iaload, 1) := by decide +kernel
theorem dX4_slot_57 : decode cX4_slot 57 = .ok (.invokestatic 179, 3) := by decide +kernel
theorem dX4_slot_60 : decode cX4_slot 60 = .ok (.ireturn, 1) := by decide +kernel
theorem dX4_slot_61 : decode cX4_slot 61 = .ok (.aload_n 0, 1) := by decide +kernel
theorem dX4_slot_62 : decode cX4_slot 62 = .ok (.getfield 10, 3) := by decide +kernel
theorem dX4_slot_65 : decode cX4_slot 65 = .ok (.getfield 194, 3) := by decide +kernel
theorem dX4_slot_68 : decode cX4_slot 68 = .ok (.iload_n 1, 1) := by decide +kernel
theorem dX4_slot_69 : decode cX4_slot 69 = .ok (.iaload, 1) := by decide +kernel
theorem dX4_slot_70 : decode cX4_slot 70 = .ok (.invokestatic 179, 3) := by decide +kernel
theorem dX4_slot_73 : decode cX4_slot 73 = .ok (.ireturn, 1) := by decide +kernel
theorem dX4_slot_74 : decode cX4_slot 74 = .ok (.aload_n 0, 1) := by decide +kernel
theorem dX4_slot_75 : decode cX4_slot 75 = .ok (.getfield 10, 3) := by decide +kernel
theorem dX4_slot_78 : decode cX4_slot 78 = .ok (.iload_n 1, 1) := by decide +kernel
theorem dX4_slot_79 : decode cX4_slot 79 = .ok (.invokevirtual 182, 3) := by decide +kernel
theorem dX4_slot_82 : decode cX4_slot 82 = .ok (.ifCond .eq 14, 3) := by decide +kernel
theorem dX4_slot_85 : decode cX4_slot 85 = .ok (.aload_n 0, 1) := by decide +kernel
theorem dX4_slot_86 : decode cX4_slot 86 = .ok (.getfield 10, 3) := by decide +kernel
theorem dX4_slot_89 : decode cX4_slot 89 = .ok (.iload_n 1, 1) := by decide +kernel
theorem dX4_slot_90 : decode cX4_slot 90 = .ok (.invokevirtual 197, 3) := by decide +kernel
theorem dX4_slot_93 : decode cX4_slot 93 = .ok (.goto 5, 3) := by decide +kernel
theorem dX4_slot_96 : decode cX4_slot 96 = .ok (.bipush (-5), 2) := by decide +kernel
theorem dX4_slot_98 : decode cX4_slot 98 = .ok (.ireturn, 1) := by decide +kernel
theorem dX4_slot_99 : decode cX4_slot 99 = .ok (.aload_n 0, 1) := by decide +kernel
theorem dX4_slot_100 : decode cX4_slot 100 = .ok (.getfield 10, 3) := by decide +kernel
theorem dX4_slot_103 : decode cX4_slot 103 = .ok (.iload_n 1, 1) := by decide +kernel
theorem dX4_slot_104 : decode cX4_slot 104 = .ok (.invokevirtual 182, 3) := by decide +kernel
theorem dX4_slot_107 : decode cX4_slot 107 = .ok (.ifCond .eq 21, 3) := by decide +kernel
theorem dX4_slot_110 : decode cX4_slot 110 = .ok (.aload_n 0, 1) := by decide +kernel
theorem dX4_slot_111 : decode cX4_slot 111 = .ok (.getfield 10, 3) := by decide +kernel
theorem dX4_slot_114 : decode cX4_slot 114 = .ok (.aload_n 0, 1) := by decide +kernel
theorem dX4_slot_115 : decode cX4_slot 115 = .ok (.getfield 10, 3) := by decide +kernel
theorem dX4_slot_118 : decode cX4_slot 118 = .ok (.iload_n 1, 1) := by decide +kernel
theorem dX4_slot_119 : decode cX4_slot 119 = .ok (.invokevirtual 197, 3) := by decide +kernel
theorem dX4_slot_122 : decode cX4_slot 122 = .ok (.invokevirtual 200, 3) := by decide +kernel
theorem dX4_slot_125 : decode cX4_slot 125 = .ok (.goto 5, 3) := by decide +kernel
theorem dX4_slot_128 : decode cX4_slot 128 = .ok (.bipush (-5), 2) := by decide +kernel
theorem dX4_slot_130 : decode cX4_slot 130 = .ok (.ireturn, 1) := by decide +kernel
theorem dX4_slot_131 : decode cX4_slot 131 = .ok (.aload_n 0, 1) := by decide +kernel
theorem dX4_slot_132 : decode cX4_slot 132 = .ok (.getfield 10, 3) := by decide +kernel
theorem dX4_slot_135 : decode cX4_slot 135 = .ok (.iload_n 1, 1) := by decide +kernel
theorem dX4_slot_136 : decode cX4_slot 136 = .ok (.invokevirtual 182, 3) := by decide +kernel
theorem dX4_slot_139 : decode cX4_slot 139 = .ok (.ifCond .eq 21, 3) := by decide +kernel
theorem dX4_slot_142 : decode cX4_slot 142 = .ok (.aload_n 0, 1) := by decide +kernel
theorem dX4_slot_143 : decode cX4_slot 143 = .ok (.getfield 10, 3) := by decide +kernel
theorem dX4_slot_146 : decode cX4_slot 146 = .ok (.aload_n 0, 1) := by decide +kernel
theorem dX4_slot_147 : decode cX4_slot 147 = .ok (.getfield 10, 3) := by decide +kernel
theorem dX4_slot_150 : decode cX4_slot 150 = .ok (.iload_n 1, 1) := by decide +kernel
theorem dX4_slot_151 : decode cX4_slot 151 = .ok (.invokevirtual 197, 3) := by decide +kernel
theorem dX4_slot_154 : decode cX4_slot 154 = .ok (.invokevirtual 203, 3) := by decide +kernel
theorem dX4_slot_157 : decode cX4_slot 157 = .ok (.goto 5, 3) := by decide +kernel
theorem dX4_slot_160 : decode cX4_slot 160 = .ok (.bipush (-5), 2) := by decide +kernel
theorem dX4_slot_162 : decode cX4_slot 162 = .ok (.ireturn, 1) := by decide +kernel
theorem dX4_slot_163 : decode cX4_slot 163 = .ok (.iload_n 1, 1) := by decide +kernel
theorem dX4_slot_164 : decode cX4_slot 164 = .ok (.aload_n 0, 1) := by decide +kernel
theorem dX4_slot_165 : decode cX4_slot 165 = .ok (.getfield 10, 3) := by decide +kernel
theorem dX4_slot_168 : decode cX4_slot 168 = .ok (.getfield 206, 3) := by decide +kernel
theorem dX4_slot_171 : decode cX4_slot 171 = .ok (.if_icmp .gt 7, 3) := by decide +kernel
theorem dX4_slot_174 : decode cX4_slot 174 = .ok (.iconst 1, 1) := by decide +kernel
theorem dX4_slot_175 : decode cX4_slot 175 = .ok (.goto 4, 3) := by decide +kernel
theorem dX4_slot_178 : decode cX4_slot 178 = .ok (.iconst 0, 1) := by decide +kernel
theorem dX4_slot_179 : decode cX4_slot 179 = .ok (.ireturn, 1) := by decide +kernel
theorem dX4_slot_180 : decode cX4_slot 180 = .ok (.bipush (-2), 2) := by decide +kernel
theorem dX4_slot_182 : decode cX4_slot 182 = .ok (.ireturn, 1) := by decide +kernel
set_option maxRecDepth 20000 in
theorem ggX4_witness_X4_isSize : GoodIn wsX4_witness wsX4_isSize := goodIn_r _ [4] (by decide +kernel) (by decide +kernel)
set_option maxRecDepth 20000 in
theorem gX4_witness_X4_isSize : GoodIn wsX4_witness (va_wsS RX4 212 yX4_isSize wsX4_isSize) := goodIn_app (goodIn_of _ (by decide +kernel)) ggX4_witness_X4_isSize
set_option maxRecDepth 20000 in
theorem ggX4_witness_J6_bitCount_0f7a4 : GoodIn wsX4_witness wsJ6_bitCount_0f7a4 := goodIn_r _ [8, 9, 10, 11] (by decide +kernel) (by decide +kernel)
set_option maxRecDepth 20000 in
theorem gX4_witness_J6_bitCount_0f7a4 : GoodIn wsX4_witness (va_wsS RX4 215 yJ6_bitCount_0f7a4 wsJ6_bitCount_0f7a4) := goodIn_app (goodIn_of _ (by decide +kernel)) ggX4_witness_J6_bitCount_0f7a4
set_option maxRecDepth 20000 in
theorem ggX4_witness_X4_lowest : GoodIn wsX4_witness wsX4_lowest := goodIn_r _ [14, 15, 16, 3, 17] (by decide +kernel) (by decide +kernel)
set_option maxRecDepth 20000 in
theorem gX4_witness_X4_lowest : GoodIn wsX4_witness (va_wsS RX4 220 yX4_lowest wsX4_lowest) := goodIn_app (goodIn_of _ (by decide +kernel)) ggX4_witness_X4_lowest
theorem dX4_witness_0 : decode cX4_witness 0 = .ok (.iload_n 1, 1) := by decide +kernel
theorem dX4_witness_1 : decode cX4_witness 1 = .ok (.iconst 1, 1) := by decide +kernel
theorem dX4_witness_2 : decode cX4_witness 2 = .ok (.if_icmp .lt 13, 3) := by decide +kernel
theorem dX4_witness_5 : decode cX4_witness 5 = .ok (.iload_n 1, 1) := by decide +kernel
theorem dX4_witness_6 : decode cX4_witness 6 = .ok (.bipush 63, 2) := by decide +kernel
theorem dX4_witness_8 : decode cX4_witness 8 = .ok (.if_icmp .gt 7, 3) := by decide +kernel
theorem dX4_witness_11 : decode cX4_witness 11 = .ok (.iconst 1, 1) := by decide +kernel
theorem dX4_witness_12 : decode cX4_witness 12 = .ok (.goto 4, 3) := by decide +kernel
theorem dX4_witness_15 : decode cX4_witness 15 = .ok (.iconst 0, 1) := by decide +kernel
theorem dX4_witness_16 : decode cX4_witness 16 = .ok (.istore 5, 2) := by decide +kernel
theorem dX4_witness_18 : decode cX4_witness 18 = .ok (.iload 5, 2) := by decide +kernel
theorem dX4_witness_20 : decode cX4_witness 20 = .ok (.ifCond .eq 28, 3) := by decide +kernel
theorem dX4_witness_23 : decode cX4_witness 23 = .ok (.iload_n 2, 1) := by decide +kernel
theorem dX4_witness_24 : decode cX4_witness 24 = .ok (.invokestatic 212, 3) := by decide +kernel
theorem dX4_witness_27 : decode cX4_witness 27 = .ok (.ifCond .eq 21, 3) := by decide +kernel
theorem dX4_witness_30 : decode cX4_witness 30 = .ok (.iload_n 3, 1) := by decide +kernel
theorem dX4_witness_31 : decode cX4_witness 31 = .ok (.invokestatic 212, 3) := by decide +kernel
theorem dX4_witness_34 : decode cX4_witness 34 = .ok (.ifCond .eq 14, 3) := by decide +kernel
theorem dX4_witness_37 : decode cX4_witness 37 = .ok (.iload 4, 2) := by decide +kernel
theorem dX4_witness_39 : decode cX4_witness 39 = .ok (.ifCond .lt 9, 3) := by decide +kernel
theorem dX4_witness_42 : decode cX4_witness 42 = .ok (.iload 4, 2) := by decide +kernel
theorem dX4_witness_44 : decode cX4_witness 44 = .ok (.iconst 1, 1) := by decide +kernel
theorem dX4_witness_45 : decode cX4_witness 45 = .ok (.if_icmp .le 6, 3) := by decide +kernel
theorem dX4_witness_48 : decode cX4_witness 48 = .ok (.bipush (-2), 2) := by decide +kernel
theorem dX4_witness_50 : decode cX4_witness 50 = .ok (.ireturn, 1) := by decide +kernel
theorem dX4_witness_51 : decode cX4_witness 51 = .ok (.iload_n 2, 1) := by decide +kernel
theorem dX4_witness_52 : decode cX4_witness 52 = .ok (.iload_n 3, 1) := by decide +kernel
theorem dX4_witness_53 : decode cX4_witness 53 = .ok (.iadd, 1) := by decide +kernel
theorem dX4_witness_54 : decode cX4_witness 54 = .ok (.iload_n 1, 1) := by decide +kernel
theorem dX4_witness_55 : decode cX4_witness 55 = .ok (.invokestatic 215, 3) := by decide +kernel
theorem dX4_witness_58 : decode cX4_witness 58 = .ok (.if_icmp .le 6, 3) := by decide +kernel
theorem dX4_witness_61 : decode cX4_witness 61 = .ok (.bipush (-5), 2) := by decide +kernel
theorem dX4_witness_63 : decode cX4_witness 63 = .ok (.ireturn, 1) := by decide +kernel
theorem dX4_witness_64 : decode cX4_witness 64 = .ok (.iload_n 1, 1) := by decide +kernel
theorem dX4_witness_65 : decode cX4_witness 65 = .ok (.iload_n 2, 1) := by decide +kernel
theorem dX4_witness_66 : decode cX4_witness 66 = .ok (.invokestatic 220, 3) := by decide +kernel
theorem dX4_witness_69 : decode cX4_witness 69 = .ok (.istore 6, 2) := by decide +kernel
theorem dX4_witness_71 : decode cX4_witness 71 = .ok (.iload 4, 2) := by decide +kernel
theorem dX4_witness_73 : decode cX4_witness 73 = .ok (.ifCond .ne 8, 3) := by decide +kernel
theorem dX4_witness_76 : decode cX4_witness 76 = .ok (.iload 6, 2) := by decide +kernel
theorem dX4_witness_78 : decode cX4_witness 78 = .ok (.goto 13, 3) := by decide +kernel
theorem dX4_witness_81 : decode cX4_witness 81 = .ok (.iload_n 1, 1) := by decide +kernel
theorem dX4_witness_82 : decode cX4_witness 82 = .ok (.iload 6, 2) := by decide +kernel
theorem dX4_witness_84 : decode cX4_witness 84 = .ok (.iconst (-1), 1) := by decide +kernel
theorem dX4_witness_85 : decode cX4_witness 85 = .ok (.ixor, 1) := by decide +kernel
theorem dX4_witness_86 : decode cX4_witness 86 = .ok (.iand, 1) := by decide +kernel
theorem dX4_witness_87 : decode cX4_witness 87 = .ok (.iload_n 3, 1) := by decide +kernel
theorem dX4_witness_88 : decode cX4_witness 88 = .ok (.invokestatic 220, 3) := by decide +kernel
theorem dX4_witness_91 : decode cX4_witness 91 = .ok (.ireturn, 1) := by decide +kernel
set_option maxRecDepth 20000 in
theorem ggX4_count_X2_prefix : GoodIn wsX4_count wsX2_prefix := goodIn_r _ [19, 20, 35, 36, 37, 38, 39, 40, 41, 42, 43, 44, 45, 46, 47, 48, 49, 50] (by decide +kernel) (by decide +kernel)
set_option maxRecDepth 20000 in
theorem gX4_count_X2_prefix : GoodIn wsX4_count (wsV RX4 129 RX2 yX2_prefix wsX2_prefix) := goodIn_app (goodIn_of _ (by decide +kernel)) ggX4_count_X2_prefix
set_option maxRecDepth 20000 in
theorem ggX4_count_X2_chosenAbove : GoodIn wsX4_count wsX2_chosenAbove := goodIn_r _ [24, 20, 35, 36, 37, 38, 39, 40, 41, 42, 43, 44, 45, 46, 47, 48, 49, 50] (by decide +kernel) (by decide +kernel)
set_option maxRecDepth 20000 in
theorem gX4_count_X2_chosenAbove : GoodIn wsX4_count (wsV RX4 223 RX2 yX2_chosenAbove wsX2_chosenAbove) := goodIn_app (goodIn_of _ (by decide +kernel)) ggX4_count_X2_chosenAbove
theorem dX4_count_0 : decode cX4_count 0 = .ok (.iload_n 1, 1) := by decide +kernel
theorem dX4_count_1 : decode cX4_count 1 = .ok (.tableswitch 157 0 10 #[59, 67, 76, 84, 92, 100, 115, 123, 131, 141, 149], 59) := by decide +kernel
theorem dX4_count_60 : decode cX4_count 60 = .ok (.aload_n 0, 1) := by decide +kernel
theorem dX4_count_61 : decode cX4_count 61 = .ok (.getfield 10, 3) := by decide +kernel
theorem dX4_count_64 : decode cX4_count 64 = .ok (.invokevirtual 129, 3) := by decide +kernel
theorem dX4_count_67 : decode cX4_count 67 = .ok (.ireturn, 1) := by decide +kernel
theorem dX4_count_68 : decode cX4_count 68 = .ok (.aload_n 0, 1) := by decide +kernel
theorem dX4_count_69 : decode cX4_count 69 = .ok (.getfield 10, 3) := by decide +kernel
theorem dX4_count_72 : decode cX4_count 72 = .ok (.iconst 0, 1) := by decide +kernel
theorem dX4_count_73 : decode cX4_count 73 = .ok (.invokevirtual 223, 3) := by decide +kernel
theorem dX4_count_76 : decode cX4_count 76 = .ok (.ireturn, 1) := by decide +kernel
theorem dX4_count_77 : decode cX4_count 77 = .ok (.aload_n 0, 1) := by decide +kernel
theorem dX4_count_78 : decode cX4_count 78 = .ok (.getfield 10, 3) := by decide +kernel
theorem dX4_count_81 : decode cX4_count 81 = .ok (.getfield 206, 3) := by decide +kernel
theorem dX4_count_84 : decode cX4_count 84 = .ok (.ireturn, 1) := by decide +kernel
theorem dX4_count_85 : decode cX4_count 85 = .ok (.aload_n 0, 1) := by decide +kernel
theorem dX4_count_86 : decode cX4_count 86 = .ok (.getfield 10, 3) := by decide +kernel
theorem dX4_count_89 : decode cX4_count 89 = .ok (.getfield 226, 3) := by decide +kernel
theorem dX4_count_92 : decode cX4_count 92 = .ok (.ireturn, 1) := by decide +kernel
theorem dX4_count_93 : decode cX4_count 93 = .ok (.aload_n 0, 1) := by decide +kernel
theorem dX4_count_94 : decode cX4_count 94 = .ok (.getfield 10, 3) := by decide +kernel
theorem dX4_count_97 : decode cX4_count 97 = .ok (.getfield 135, 3) := by decide +kernel
theorem dX4_count_100 : decode cX4_count 100 = .ok (.ireturn, 1) := by decide +kernel
theorem dX4_count_101 : decode cX4_count 101 = .ok (.bipush 16, 2) := by decide +kernel
theorem dX4_count_103 : decode cX4_count 103 = .ok (.aload_n 0, 1) := by decide +kernel
theorem dX4_count_104 : decode cX4_count 104 = .ok (.getfield 10, 3) := by decide +kernel
theorem dX4_count_107 : decode cX4_count 107 = .ok (.invokevirtual 129, 3) := by decide +kernel
theorem dX4_count_110 : decode cX4_count 110 = .ok (.iconst 3, 1) := by decide +kernel
theorem dX4_count_111 : decode cX4_count 111 = .ok (.iadd, 1) := by decide +kernel
theorem dX4_count_112 : decode cX4_count 112 = .ok (.invokestatic 229, 3) := by decide +kernel
theorem dX4_count_115 : decode cX4_count 115 = .ok (.ireturn, 1) := by decide +kernel
theorem dX4_count_116 : decode cX4_count 116 = .ok (.aload_n 0, 1) := by decide +kernel
theorem dX4_count_117 : decode cX4_count 117 = .ok (.getfield 10, 3) := by decide +kernel
theorem dX4_count_120 : decode cX4_count 120 = .ok (.getfield 234, 3) := by decide +kernel
theorem dX4_count_123 : decode cX4_count 123 = .ok (.ireturn, 1) := by decide +kernel
theorem dX4_count_124 : decode cX4_count 124 = .ok (.aload_n 0, 1) := by decide +kernel
theorem dX4_count_125 : decode cX4_count 125 = .ok (.getfield 10, 3) := by decide +kernel
theorem dX4_count_128 : decode cX4_count 128 = .ok (.getfield 237, 3) := by decide +kernel
theorem dX4_count_131 : decode cX4_count 131 = .ok (.ireturn, 1) := by decide +kernel
theorem dX4_count_132 : decode cX4_count 132 = .ok (.aload_n 0, 1) := by decide +kernel
theorem dX4_count_133 : decode cX4_count 133 = .ok (.getfield 10, 3) := by decide +kernel
theorem dX4_count_136 : decode cX4_count 136 = .ok (.bipush 100, 2) := by decide +kernel
theorem dX4_count_138 : decode cX4_count 138 = .ok (.invokevirtual 223, 3) := by decide +kernel
theorem dX4_count_141 : decode cX4_count 141 = .ok (.ireturn, 1) := by decide +kernel
theorem dX4_count_142 : decode cX4_count 142 = .ok (.aload_n 0, 1) := by decide +kernel
theorem dX4_count_143 : decode cX4_count 143 = .ok (.getfield 22, 3) := by decide +kernel
theorem dX4_count_146 : decode cX4_count 146 = .ok (.getfield 240, 3) := by decide +kernel
theorem dX4_count_149 : decode cX4_count 149 = .ok (.ireturn, 1) := by decide +kernel
theorem dX4_count_150 : decode cX4_count 150 = .ok (.aload_n 0, 1) := by decide +kernel
theorem dX4_count_151 : decode cX4_count 151 = .ok (.getfield 29, 3) := by decide +kernel
theorem dX4_count_154 : decode cX4_count 154 = .ok (.getfield 241, 3) := by decide +kernel
theorem dX4_count_157 : decode cX4_count 157 = .ok (.ireturn, 1) := by decide +kernel
theorem dX4_count_158 : decode cX4_count 158 = .ok (.bipush (-2), 2) := by decide +kernel
theorem dX4_count_160 : decode cX4_count 160 = .ok (.ireturn, 1) := by decide +kernel
set_option maxRecDepth 20000 in
theorem ggX4_settled_X0_commit : GoodIn wsX4_settled wsX0_commit := goodIn_r _ [6, 7, 8, 9, 10, 11, 12, 23, 24, 25] (by decide +kernel) (by decide +kernel)
set_option maxRecDepth 20000 in
theorem gX4_settled_X0_commit : GoodIn wsX4_settled (wsV RX4 103 RX0 yX0_commit wsX0_commit) := goodIn_app (goodIn_of _ (by decide +kernel)) ggX4_settled_X0_commit
theorem dX4_settled_0 : decode cX4_settled 0 = .ok (.iload_n 1, 1) := by decide +kernel
theorem dX4_settled_1 : decode cX4_settled 1 = .ok (.ifCond .lt 10, 3) := by decide +kernel
theorem dX4_settled_4 : decode cX4_settled 4 = .ok (.aload_n 0, 1) := by decide +kernel
theorem dX4_settled_5 : decode cX4_settled 5 = .ok (.getfield 22, 3) := by decide +kernel
theorem dX4_settled_8 : decode cX4_settled 8 = .ok (.invokevirtual 103, 3) := by decide +kernel
theorem dX4_settled_11 : decode cX4_settled 11 = .ok (.iload_n 1, 1) := by decide +kernel
theorem dX4_settled_12 : decode cX4_settled 12 = .ok (.ireturn, 1) := by decide +kernel
set_option maxRecDepth 20000 in
theorem ggX4_noteRefusal_X1_placeOf : GoodIn wsX4_noteRefusal wsX1_placeOf := goodIn_r _ [10, 11, 12, 23, 24, 25, 26, 27, 28] (by decide +kernel) (by decide +kernel)
set_option maxRecDepth 20000 in
theorem gX4_noteRefusal_X1_placeOf : GoodIn wsX4_noteRefusal (wsV RX4 244 RX1 yX1_placeOf wsX1_placeOf) := goodIn_app (goodIn_of _ (by decide +kernel)) ggX4_noteRefusal_X1_placeOf
theorem dX4_noteRefusal_0 : decode cX4_noteRefusal 0 = .ok (.aload_n 0, 1) := by decide +kernel
theorem dX4_noteRefusal_1 : decode cX4_noteRefusal 1 = .ok (.iconst 1, 1) := by decide +kernel
theorem dX4_noteRefusal_2 : decode cX4_noteRefusal 2 = .ok (.putfield 106, 3) := by decide +kernel
theorem dX4_noteRefusal_5 : decode cX4_noteRefusal 5 = .ok (.aload_n 0, 1) := by decide +kernel
theorem dX4_noteRefusal_6 : decode cX4_noteRefusal 6 = .ok (.iload_n 1, 1) := by decide +kernel
theorem dX4_noteRefusal_7 : decode cX4_noteRefusal 7 = .ok (.putfield 110, 3) := by decide +kernel
theorem dX4_noteRefusal_10 : decode cX4_noteRefusal 10 = .ok (.aload_n 0, 1) := by decide +kernel
theorem dX4_noteRefusal_11 : decode cX4_noteRefusal 11 = .ok (.iload_n 2, 1) := by decide +kernel
theorem dX4_noteRefusal_12 : decode cX4_noteRefusal 12 = .ok (.putfield 113, 3) := by decide +kernel
theorem dX4_noteRefusal_15 : decode cX4_noteRefusal 15 = .ok (.aload_n 0, 1) := by decide +kernel
theorem dX4_noteRefusal_16 : decode cX4_noteRefusal 16 = .ok (.aload_n 0, 1) := by decide +kernel
theorem dX4_noteRefusal_17 : decode cX4_noteRefusal 17 = .ok (.getfield 36, 3) := by decide +kernel
theorem dX4_noteRefusal_20 : decode cX4_noteRefusal 20 = .ok (.iload_n 1, 1) := by decide +kernel
theorem dX4_noteRefusal_21 : decode cX4_noteRefusal 21 = .ok (.invokevirtual 244, 3) := by decide +kernel
theorem dX4_noteRefusal_24 : decode cX4_noteRefusal 24 = .ok (.putfield 116, 3) := by decide +kernel
theorem dX4_noteRefusal_27 : decode cX4_noteRefusal 27 = .ok (.return_, 1) := by decide +kernel
theorem dX4_isError_0 : decode cX4_isError 0 = .ok (.iload_n 0, 1) := by decide +kernel
theorem dX4_isError_1 : decode cX4_isError 1 = .ok (.ifCond .ge 13, 3) := by decide +kernel
theorem dX4_isError_4 : decode cX4_isError 4 = .ok (.iload_n 0, 1) := by decide +kernel
theorem dX4_isError_5 : decode cX4_isError 5 = .ok (.bipush (-5), 2) := by decide +kernel
theorem dX4_isError_7 : decode cX4_isError 7 = .ok (.if_icmp .eq 7, 3) := by decide +kernel
theorem dX4_isError_10 : decode cX4_isError 10 = .ok (.iconst 1, 1) := by decide +kernel
theorem dX4_isError_11 : decode cX4_isError 11 = .ok (.goto 4, 3) := by decide +kernel
theorem dX4_isError_14 : decode cX4_isError 14 = .ok (.iconst 0, 1) := by decide +kernel
theorem dX4_isError_15 : decode cX4_isError 15 = .ok (.ireturn, 1) := by decide +kernel
theorem dX4_isAcceptor_0 : decode cX4_isAcceptor 0 = .ok (.iload_n 0, 1) := by decide +kernel
theorem dX4_isAcceptor_1 : decode cX4_isAcceptor 1 = .ok (.ifCond .lt 13, 3) := by decide +kernel
theorem dX4_isAcceptor_4 : decode cX4_isAcceptor 4 = .ok (.iload_n 0, 1) := by decide +kernel
theorem dX4_isAcceptor_5 : decode cX4_isAcceptor 5 = .ok (.bipush 6, 2) := by decide +kernel
theorem dX4_isAcceptor_7 : decode cX4_isAcceptor 7 = .ok (.if_icmp .ge 7, 3) := by decide +kernel
theorem dX4_isAcceptor_10 : decode cX4_isAcceptor 10 = .ok (.iconst 1, 1) := by decide +kernel
theorem dX4_isAcceptor_11 : decode cX4_isAcceptor 11 = .ok (.goto 4, 3) := by decide +kernel
theorem dX4_isAcceptor_14 : decode cX4_isAcceptor 14 = .ok (.iconst 0, 1) := by decide +kernel
theorem dX4_isAcceptor_15 : decode cX4_isAcceptor 15 = .ok (.ireturn, 1) := by decide +kernel
theorem dX4_isProposer_0 : decode cX4_isProposer 0 = .ok (.iload_n 0, 1) := by decide +kernel
theorem dX4_isProposer_1 : decode cX4_isProposer 1 = .ok (.ifCond .lt 12, 3) := by decide +kernel
theorem dX4_isProposer_4 : decode cX4_isProposer 4 = .ok (.iload_n 0, 1) := by decide +kernel
theorem dX4_isProposer_5 : decode cX4_isProposer 5 = .ok (.iconst 3, 1) := by decide +kernel
theorem dX4_isProposer_6 : decode cX4_isProposer 6 = .ok (.if_icmp .ge 7, 3) := by decide +kernel
theorem dX4_isProposer_9 : decode cX4_isProposer 9 = .ok (.iconst 1, 1) := by decide +kernel
theorem dX4_isProposer_10 : decode cX4_isProposer 10 = .ok (.goto 4, 3) := by decide +kernel
theorem dX4_isProposer_13 : decode cX4_isProposer 13 = .ok (.iconst 0, 1) := by decide +kernel
theorem dX4_isProposer_14 : decode cX4_isProposer 14 = .ok (.ireturn, 1) := by decide +kernel
theorem dX4_isSlot_0 : decode cX4_isSlot 0 = .ok (.iload_n 0, 1) := by decide +kernel
theorem dX4_isSlot_1 : decode cX4_isSlot 1 = .ok (.iconst 1, 1) := by decide +kernel
theorem dX4_isSlot_2 : decode cX4_isSlot 2 = .ok (.if_icmp .lt 13, 3) := by decide +kernel
theorem dX4_isSlot_5 : decode cX4_isSlot 5 = .ok (.iload_n 0, 1) := by decide +kernel
theorem dX4_isSlot_6 : decode cX4_isSlot 6 = .ok (.bipush 16, 2) := by decide +kernel
theorem dX4_isSlot_8 : decode cX4_isSlot 8 = .ok (.if_icmp .gt 7, 3) := by decide +kernel
theorem dX4_isSlot_11 : decode cX4_isSlot 11 = .ok (.iconst 1, 1) := by decide +kernel
theorem dX4_isSlot_12 : decode cX4_isSlot 12 = .ok (.goto 4, 3) := by decide +kernel
theorem dX4_isSlot_15 : decode cX4_isSlot 15 = .ok (.iconst 0, 1) := by decide +kernel
theorem dX4_isSlot_16 : decode cX4_isSlot 16 = .ok (.ireturn, 1) := by decide +kernel
theorem dX4_isSize_0 : decode cX4_isSize 0 = .ok (.iload_n 0, 1) := by decide +kernel
theorem dX4_isSize_1 : decode cX4_isSize 1 = .ok (.iconst 1, 1) := by decide +kernel
theorem dX4_isSize_2 : decode cX4_isSize 2 = .ok (.if_icmp .lt 13, 3) := by decide +kernel
theorem dX4_isSize_5 : decode cX4_isSize 5 = .ok (.iload_n 0, 1) := by decide +kernel
theorem dX4_isSize_6 : decode cX4_isSize 6 = .ok (.bipush 6, 2) := by decide +kernel
theorem dX4_isSize_8 : decode cX4_isSize 8 = .ok (.if_icmp .gt 7, 3) := by decide +kernel
theorem dX4_isSize_11 : decode cX4_isSize 11 = .ok (.iconst 1, 1) := by decide +kernel
theorem dX4_isSize_12 : decode cX4_isSize 12 = .ok (.goto 4, 3) := by decide +kernel
theorem dX4_isSize_15 : decode cX4_isSize 15 = .ok (.iconst 0, 1) := by decide +kernel
theorem dX4_isSize_16 : decode cX4_isSize 16 = .ok (.ireturn, 1) := by decide +kernel
theorem dX4_isValue_0 : decode cX4_isValue 0 = .ok (.iload_n 0, 1) := by decide +kernel
theorem dX4_isValue_1 : decode cX4_isValue 1 = .ok (.iconst 1, 1) := by decide +kernel
theorem dX4_isValue_2 : decode cX4_isValue 2 = .ok (.if_icmp .lt 13, 3) := by decide +kernel
theorem dX4_isValue_5 : decode cX4_isValue 5 = .ok (.iload_n 0, 1) := by decide +kernel
theorem dX4_isValue_6 : decode cX4_isValue 6 = .ok (.bipush 99, 2) := by decide +kernel
theorem dX4_isValue_8 : decode cX4_isValue 8 = .ok (.if_icmp .gt 7, 3) := by decide +kernel
theorem dX4_isValue_11 : decode cX4_isValue 11 = .ok (.iconst 1, 1) := by decide +kernel
theorem dX4_isValue_12 : decode cX4_isValue 12 = .ok (.goto 4, 3) := by decide +kernel
theorem dX4_isValue_15 : decode cX4_isValue 15 = .ok (.iconst 0, 1) := by decide +kernel
theorem dX4_isValue_16 : decode cX4_isValue 16 = .ok (.istore_n 1, 1) := by decide +kernel
theorem dX4_isValue_17 : decode cX4_isValue 17 = .ok (.iload_n 0, 1) := by decide +kernel
theorem dX4_isValue_18 : decode cX4_isValue 18 = .ok (.bipush 100, 2) := by decide +kernel
theorem dX4_isValue_20 : decode cX4_isValue 20 = .ok (.if_icmp .le 14, 3) := by decide +kernel
theorem dX4_isValue_23 : decode cX4_isValue 23 = .ok (.iload_n 0, 1) := by decide +kernel
theorem dX4_isValue_24 : decode cX4_isValue 24 = .ok (.sipush 163, 3) := by decide +kernel
theorem dX4_isValue_27 : decode cX4_isValue 27 = .ok (.if_icmp .gt 7, 3) := by decide +kernel
theorem dX4_isValue_30 : decode cX4_isValue 30 = .ok (.iconst 1, 1) := by decide +kernel
theorem dX4_isValue_31 : decode cX4_isValue 31 = .ok (.goto 4, 3) := by decide +kernel
theorem dX4_isValue_34 : decode cX4_isValue 34 = .ok (.iconst 0, 1) := by decide +kernel
theorem dX4_isValue_35 : decode cX4_isValue 35 = .ok (.istore_n 2, 1) := by decide +kernel
theorem dX4_isValue_36 : decode cX4_isValue 36 = .ok (.iload_n 1, 1) := by decide +kernel
theorem dX4_isValue_37 : decode cX4_isValue 37 = .ok (.ifCond .ne 7, 3) := by decide +kernel
theorem dX4_isValue_40 : decode cX4_isValue 40 = .ok (.iload_n 2, 1) := by decide +kernel
theorem dX4_isValue_41 : decode cX4_isValue 41 = .ok (.ifCond .eq 7, 3) := by decide +kernel
theorem dX4_isValue_44 : decode cX4_isValue 44 = .ok (.iconst 1, 1) := by decide +kernel
theorem dX4_isValue_45 : decode cX4_isValue 45 = .ok (.goto 4, 3) := by decide +kernel
theorem dX4_isValue_48 : decode cX4_isValue 48 = .ok (.iconst 0, 1) := by decide +kernel
theorem dX4_isValue_49 : decode cX4_isValue 49 = .ok (.ireturn, 1) := by decide +kernel
theorem dX4_has_0 : decode cX4_has 0 = .ok (.iload_n 0, 1) := by decide +kernel
theorem dX4_has_1 : decode cX4_has 1 = .ok (.iload_n 1, 1) := by decide +kernel
theorem dX4_has_2 : decode cX4_has 2 = .ok (.ishr, 1) := by decide +kernel
theorem dX4_has_3 : decode cX4_has 3 = .ok (.iconst 1, 1) := by decide +kernel
theorem dX4_has_4 : decode cX4_has 4 = .ok (.iand, 1) := by decide +kernel
theorem dX4_has_5 : decode cX4_has 5 = .ok (.iconst 1, 1) := by decide +kernel
theorem dX4_has_6 : decode cX4_has 6 = .ok (.if_icmp .ne 7, 3) := by decide +kernel
theorem dX4_has_9 : decode cX4_has 9 = .ok (.iconst 1, 1) := by decide +kernel
theorem dX4_has_10 : decode cX4_has 10 = .ok (.goto 4, 3) := by decide +kernel
theorem dX4_has_13 : decode cX4_has 13 = .ok (.iconst 0, 1) := by decide +kernel
theorem dX4_has_14 : decode cX4_has 14 = .ok (.ireturn, 1) := by decide +kernel
theorem dX4_orNone_0 : decode cX4_orNone 0 = .ok (.iload_n 0, 1) := by decide +kernel
theorem dX4_orNone_1 : decode cX4_orNone 1 = .ok (.ifCond .ne 8, 3) := by decide +kernel
theorem dX4_orNone_4 : decode cX4_orNone 4 = .ok (.bipush (-5), 2) := by decide +kernel
theorem dX4_orNone_6 : decode cX4_orNone 6 = .ok (.goto 4, 3) := by decide +kernel
theorem dX4_orNone_9 : decode cX4_orNone 9 = .ok (.iload_n 0, 1) := by decide +kernel
theorem dX4_orNone_10 : decode cX4_orNone 10 = .ok (.ireturn, 1) := by decide +kernel
theorem dX4_cell_0 : decode cX4_cell 0 = .ok (.iload_n 0, 1) := by decide +kernel
theorem dX4_cell_1 : decode cX4_cell 1 = .ok (.bipush 16, 2) := by decide +kernel
theorem dX4_cell_3 : decode cX4_cell 3 = .ok (.imul, 1) := by decide +kernel
theorem dX4_cell_4 : decode cX4_cell 4 = .ok (.iload_n 1, 1) := by decide +kernel
theorem dX4_cell_5 : decode cX4_cell 5 = .ok (.iadd, 1) := by decide +kernel
theorem dX4_cell_6 : decode cX4_cell 6 = .ok (.iconst 1, 1) := by decide +kernel
theorem dX4_cell_7 : decode cX4_cell 7 = .ok (.isub, 1) := by decide +kernel
theorem dX4_cell_8 : decode cX4_cell 8 = .ok (.ireturn, 1) := by decide +kernel
set_option maxRecDepth 20000 in
theorem ggX4_lowest_X4_has : GoodIn wsX4_lowest wsX4_has := goodIn_r _ [4] (by decide +kernel) (by decide +kernel)
set_option maxRecDepth 20000 in
theorem gX4_lowest_X4_has : GoodIn wsX4_lowest (va_wsS RX4 138 yX4_has wsX4_has) := goodIn_app (goodIn_of _ (by decide +kernel)) ggX4_lowest_X4_has
theorem dX4_lowest_0 : decode cX4_lowest 0 = .ok (.iconst 0, 1) := by decide +kernel
theorem dX4_lowest_1 : decode cX4_lowest 1 = .ok (.istore_n 2, 1) := by decide +kernel
theorem dX4_lowest_2 : decode cX4_lowest 2 = .ok (.iload_n 1, 1) := by decide +kernel
theorem dX4_lowest_3 : decode cX4_lowest 3 = .ok (.istore_n 3, 1) := by decide +kernel
theorem dX4_lowest_4 : decode cX4_lowest 4 = .ok (.iconst 0, 1) := by decide +kernel
theorem dX4_lowest_5 : decode cX4_lowest 5 = .ok (.istore 4, 2) := by decide +kernel
theorem dX4_lowest_7 : decode cX4_lowest 7 = .ok (.iload 4, 2) := by decide +kernel
theorem dX4_lowest_9 : decode cX4_lowest 9 = .ok (.bipush 6, 2) := by decide +kernel
theorem dX4_lowest_11 : decode cX4_lowest 11 = .ok (.if_icmp .ge 32, 3) := by decide +kernel
theorem dX4_lowest_14 : decode cX4_lowest 14 = .ok (.iload_n 3, 1) := by decide +kernel
theorem dX4_lowest_15 : decode cX4_lowest 15 = .ok (.ifCond .le 28, 3) := by decide +kernel
theorem dX4_lowest_18 : decode cX4_lowest 18 = .ok (.iload_n 0, 1) := by decide +kernel
theorem dX4_lowest_19 : decode cX4_lowest 19 = .ok (.iload 4, 2) := by decide +kernel
theorem dX4_lowest_21 : decode cX4_lowest 21 = .ok (.invokestatic 138, 3) := by decide +kernel
theorem dX4_lowest_24 : decode cX4_lowest 24 = .ok (.ifCond .eq 13, 3) := by decide +kernel
theorem dX4_lowest_27 : decode cX4_lowest 27 = .ok (.iload_n 2, 1) := by decide +kernel
theorem dX4_lowest_28 : decode cX4_lowest 28 = .ok (.iconst 1, 1) := by decide +kernel
theorem dX4_lowest_29 : decode cX4_lowest 29 = .ok (.iload 4, 2) := by decide +kernel
theorem dX4_lowest_31 : decode cX4_lowest 31 = .ok (.ishl, 1) := by decide +kernel
theorem dX4_lowest_32 : decode cX4_lowest 32 = .ok (.ior, 1) := by decide +kernel
theorem dX4_lowest_33 : decode cX4_lowest 33 = .ok (.istore_n 2, 1) := by decide +kernel
theorem dX4_lowest_34 : decode cX4_lowest 34 = .ok (.iinc 3 (-1), 3) := by decide +kernel
theorem dX4_lowest_37 : decode cX4_lowest 37 = .ok (.iinc 4 1, 3) := by decide +kernel
theorem dX4_lowest_40 : decode cX4_lowest 40 = .ok (.goto (-33), 3) := by decide +kernel
theorem dX4_lowest_43 : decode cX4_lowest 43 = .ok (.iload_n 2, 1) := by decide +kernel
theorem dX4_lowest_44 : decode cX4_lowest 44 = .ok (.ireturn, 1) := by decide +kernel
