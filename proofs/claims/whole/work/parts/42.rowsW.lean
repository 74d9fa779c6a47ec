theorem dL_setSizes_0 : decode cL_setSizes 0 = .ok (.aload 4, 2) := by decide +kernel
theorem dL_setSizes_2 : decode cL_setSizes 2 = .ok (.iconst 0, 1) := by decide +kernel
theorem dL_setSizes_3 : decode cL_setSizes 3 = .ok (.aload_n 0, 1) := by decide +kernel
theorem dL_setSizes_4 : decode cL_setSizes 4 = .ok (.iload_n 1, 1) := by decide +kernel
theorem dL_setSizes_5 : decode cL_setSizes 5 = .ok (.iload_n 2, 1) := by decide +kernel
theorem dL_setSizes_6 : decode cL_setSizes 6 = .ok (.iload_n 3, 1) := by decide +kernel
theorem dL_setSizes_7 : decode cL_setSizes 7 = .ok (.invokevirtual 7, 3) := by decide +kernel
theorem dL_setSizes_10 : decode cL_setSizes 10 = .ok (.ifCond .eq 7, 3) := by decide +kernel
theorem dL_setSizes_13 : decode cL_setSizes 13 = .ok (.lconst 1, 1) := by decide +kernel
theorem dL_setSizes_14 : decode cL_setSizes 14 = .ok (.goto 4, 3) := by decide +kernel
theorem dL_setSizes_17 : decode cL_setSizes 17 = .ok (.lconst 0, 1) := by decide +kernel
theorem dL_setSizes_18 : decode cL_setSizes 18 = .ok (.lastore, 1) := by decide +kernel
theorem dL_setSizes_19 : decode cL_setSizes 19 = .ok (.goto 7, 3) := by decide +kernel
theorem dL_setSizes_22 : decode cL_setSizes 22 = .ok (.astore 5, 2) := by decide +kernel
theorem dL_setSizes_24 : decode cL_setSizes 24 = .ok (.iconst 1, 1) := by decide +kernel
theorem dL_setSizes_25 : decode cL_setSizes 25 = .ok (.ireturn, 1) := by decide +kernel
theorem dL_setSizes_26 : decode cL_setSizes 26 = .ok (.iconst 0, 1) := by decide +kernel
theorem dL_setSizes_27 : decode cL_setSizes 27 = .ok (.ireturn, 1) := by decide +kernel
set_option maxRecDepth 20000 in
theorem ggL_predict_X4_predict : GoodIn wsL_predict wsX4_predict := goodIn_ca (goodIn_ca (goodIn_r _ [7, 8, 9, 10, 11, 12, 6, 13, 14, 15, 16, 17, 18, 19, 20, 21, 22, 23, 24, 25, 26, 27, 28, 29, 30, 31, 32, 33, 34, 35, 36, 37, 38, 39, 40, 41, 42, 43, 44, 45, 46, 47, 48, 49, 50, 51, 52, 53, 54, 55, 56, 57, 58, 59, 60, 61, 62, 63, 64, 65, 66, 67, 68, 69, 70, 71, 72, 73, 74, 75, 76, 77, 78, 79, 80, 81, 82, 83, 84, 85, 86, 87, 88, 89, 90, 91, 92, 93, 94, 95, 96, 97, 98, 99, 100, 101, 102, 103, 104, 105, 106, 107, 108, 109, 110, 111, 112, 113, 114] (by decide +kernel) (by decide +kernel)) (goodIn_sub (fun _ h => List.mem_cons_of_mem _ (List.mem_append_left _ (List.mem_append_right _ h))) (by decide +kernel))) (goodIn_sub (fun _ h => List.mem_cons_of_mem _ (List.mem_append_right _ h)) (by decide +kernel))
set_option maxRecDepth 20000 in
theorem gL_predict_X4_predict : GoodIn wsL_predict (wsV RL 15 RX4 yX4_predict wsX4_predict) := goodIn_app (goodIn_of _ (by decide +kernel)) ggL_predict_X4_predict
theorem dL_predict_0 : decode cL_predict 0 = .ok (.aload_n 2, 1) := by decide +kernel
theorem dL_predict_1 : decode cL_predict 1 = .ok (.iconst 0, 1) := by decide +kernel
theorem dL_predict_2 : decode cL_predict 2 = .ok (.aload_n 0, 1) := by decide +kernel
theorem dL_predict_3 : decode cL_predict 3 = .ok (.iload_n 1, 1) := by decide +kernel
theorem dL_predict_4 : decode cL_predict 4 = .ok (.invokevirtual 15, 3) := by decide +kernel
theorem dL_predict_7 : decode cL_predict 7 = .ok (.ifCond .eq 7, 3) := by decide +kernel
theorem dL_predict_10 : decode cL_predict 10 = .ok (.lconst 1, 1) := by decide +kernel
theorem dL_predict_11 : decode cL_predict 11 = .ok (.goto 4, 3) := by decide +kernel
theorem dL_predict_14 : decode cL_predict 14 = .ok (.lconst 0, 1) := by decide +kernel
theorem dL_predict_15 : decode cL_predict 15 = .ok (.lastore, 1) := by decide +kernel
theorem dL_predict_16 : decode cL_predict 16 = .ok (.goto 9, 3) := by decide +kernel
theorem dL_predict_19 : decode cL_predict 19 = .ok (.astore_n 3, 1) := by decide +kernel
theorem dL_predict_20 : decode cL_predict 20 = .ok (.iconst 1, 1) := by decide +kernel
theorem dL_predict_21 : decode cL_predict 21 = .ok (.ireturn, 1) := by decide +kernel
theorem dL_predict_22 : decode cL_predict 22 = .ok (.astore_n 3, 1) := by decide +kernel
theorem dL_predict_23 : decode cL_predict 23 = .ok (.iconst 2, 1) := by decide +kernel
theorem dL_predict_24 : decode cL_predict 24 = .ok (.ireturn, 1) := by decide +kernel
theorem dL_predict_25 : decode cL_predict 25 = .ok (.iconst 0, 1) := by decide +kernel
theorem dL_predict_26 : decode cL_predict 26 = .ok (.ireturn, 1) := by decide +kernel
set_option maxRecDepth 20000 in
theorem ggL_resolve_X4_resolve : GoodIn wsL_resolve wsX4_resolve := goodIn_ca (goodIn_ca (goodIn_r _ [7, 8, 9, 10, 11, 12, 13, 6, 14, 15, 16, 17, 18, 19, 20, 21, 22, 23, 24, 25, 26, 27, 28, 29, 30, 31, 32, 33, 34, 35, 36, 37, 38, 39, 40, 41, 42, 43, 44, 45, 46, 47, 48, 49, 50, 51, 52, 53, 54, 55, 56, 57, 58, 59, 60, 61, 62, 63, 64, 65] (by decide +kernel) (by decide +kernel)) (goodIn_sub (fun _ h => List.mem_cons_of_mem _ (List.mem_append_left _ (List.mem_append_right _ h))) (by decide +kernel))) (goodIn_sub (fun _ h => List.mem_cons_of_mem _ (List.mem_append_right _ h)) (by decide +kernel))
set_option maxRecDepth 20000 in
theorem gL_resolve_X4_resolve : GoodIn wsL_resolve (wsV RL 21 RX4 yX4_resolve wsX4_resolve) := goodIn_app (goodIn_of _ (by decide +kernel)) ggL_resolve_X4_resolve
theorem dL_resolve_0 : decode cL_resolve 0 = .ok (.aload_n 3, 1) := by decide +kernel
theorem dL_resolve_1 : decode cL_resolve 1 = .ok (.iconst 0, 1) := by decide +kernel
theorem dL_resolve_2 : decode cL_resolve 2 = .ok (.aload_n 0, 1) := by decide +kernel
theorem dL_resolve_3 : decode cL_resolve 3 = .ok (.iload_n 1, 1) := by decide +kernel
theorem dL_resolve_4 : decode cL_resolve 4 = .ok (.iload_n 2, 1) := by decide +kernel
theorem dL_resolve_5 : decode cL_resolve 5 = .ok (.invokevirtual 21, 3) := by decide +kernel
theorem dL_resolve_8 : decode cL_resolve 8 = .ok (.i2l, 1) := by decide +kernel
theorem dL_resolve_9 : decode cL_resolve 9 = .ok (.lastore, 1) := by decide +kernel
theorem dL_resolve_10 : decode cL_resolve 10 = .ok (.goto 11, 3) := by decide +kernel
theorem dL_resolve_13 : decode cL_resolve 13 = .ok (.astore 4, 2) := by decide +kernel
theorem dL_resolve_15 : decode cL_resolve 15 = .ok (.iconst 1, 1) := by decide +kernel
theorem dL_resolve_16 : decode cL_resolve 16 = .ok (.ireturn, 1) := by decide +kernel
theorem dL_resolve_17 : decode cL_resolve 17 = .ok (.astore 4, 2) := by decide +kernel
theorem dL_resolve_19 : decode cL_resolve 19 = .ok (.iconst 2, 1) := by decide +kernel
theorem dL_resolve_20 : decode cL_resolve 20 = .ok (.ireturn, 1) := by decide +kernel
theorem dL_resolve_21 : decode cL_resolve 21 = .ok (.iconst 0, 1) := by decide +kernel
theorem dL_resolve_22 : decode cL_resolve 22 = .ok (.ireturn, 1) := by decide +kernel
set_option maxRecDepth 20000 in
theorem ggL_commit_X4_commit : GoodIn wsL_commit wsX4_commit := goodIn_ca (goodIn_r _ [6, 7, 8, 9, 10, 11, 12, 13, 5, 14, 15, 16, 17, 18, 19, 20, 21, 22, 23, 24, 25, 26, 27, 28, 29, 30, 31, 32, 33, 34, 35, 36, 37, 38, 39, 40, 41, 42, 43, 44, 45, 46, 47, 48, 49, 50, 51, 52, 53, 54, 55, 56, 57, 58, 59, 60, 61, 62, 63, 64, 65, 66, 67, 68, 69, 70, 71, 72, 73, 74, 75, 76, 77, 78, 79, 80, 81, 82, 83, 84, 85, 86, 87, 88, 89, 90, 91, 92, 93, 94, 95, 96, 97, 98, 99, 100, 101, 102, 103, 104, 105, 106, 107, 108, 109, 110, 111, 112, 113, 114, 115, 116, 117, 118, 119, 120, 121, 122, 123, 124, 125, 126, 127, 128, 129, 130, 131, 132, 133, 134, 135, 136, 137, 138, 139, 140, 141, 142, 143, 144, 145, 146, 147, 148, 149, 150, 151, 152, 153] (by decide +kernel) (by decide +kernel)) (goodIn_sub (fun _ h => List.mem_cons_of_mem _ (List.mem_append_right _ h)) (by decide +kernel))
set_option maxRecDepth 20000 in
theorem gL_commit_X4_commit : GoodIn wsL_commit (wsV RL 27 RX4 yX4_commit wsX4_commit) := goodIn_app (goodIn_of _ (by decide +kernel)) ggL_commit_X4_commit
theorem dL_commit_0 : decode cL_commit 0 = .ok (.aload_n 1, 1) := by decide +kernel
theorem dL_commit_1 : decode cL_commit 1 = .ok (.iconst 0, 1) := by decide +kernel
theorem dL_commit_2 : decode cL_commit 2 = .ok (.aload_n 0, 1) := by decide +kernel
theorem dL_commit_3 : decode cL_commit 3 = .ok (.invokevirtual 27, 3) := by decide +kernel
theorem dL_commit_6 : decode cL_commit 6 = .ok (.ifCond .eq 7, 3) := by decide +kernel
theorem dL_commit_9 : decode cL_commit 9 = .ok (.lconst 1, 1) := by decide +kernel
theorem dL_commit_10 : decode cL_commit 10 = .ok (.goto 4, 3) := by decide +kernel
theorem dL_commit_13 : decode cL_commit 13 = .ok (.lconst 0, 1) := by decide +kernel
theorem dL_commit_14 : decode cL_commit 14 = .ok (.lastore, 1) := by decide +kernel
theorem dL_commit_15 : decode cL_commit 15 = .ok (.goto 6, 3) := by decide +kernel
theorem dL_commit_18 : decode cL_commit 18 = .ok (.astore_n 2, 1) := by decide +kernel
theorem dL_commit_19 : decode cL_commit 19 = .ok (.iconst 1, 1) := by decide +kernel
theorem dL_commit_20 : decode cL_commit 20 = .ok (.ireturn, 1) := by decide +kernel
theorem dL_commit_21 : decode cL_commit 21 = .ok (.iconst 0, 1) := by decide +kernel
theorem dL_commit_22 : decode cL_commit 22 = .ok (.ireturn, 1) := by decide +kernel
set_option maxRecDepth 20000 in
theorem ggL_train_X4_train : GoodIn wsL_train wsX4_train := goodIn_ca (goodIn_ca (goodIn_r _ [7, 8, 9, 10, 11, 12, 6, 13, 14, 15, 16, 17, 18, 19, 20, 21, 22, 23, 24, 25, 26, 27, 28, 29, 30, 31, 32, 33, 34, 35, 36, 37, 38, 39, 40, 41, 42, 43, 44, 45, 46, 47, 48, 49, 50, 51, 52, 53, 54, 55, 56, 57, 58, 59, 60, 61, 62, 63, 64, 65, 66, 67, 68, 69, 70, 71, 72, 73, 74, 75, 76, 77, 78, 79, 80, 81, 82, 83, 84, 85, 86, 87, 88, 89, 90, 91, 92, 93, 94, 95, 96, 97, 98, 99, 100, 101, 102, 103, 104, 105, 106, 107, 108, 109, 110, 111, 112, 113, 114, 115, 116, 117, 118, 119, 120, 121, 122, 123, 124, 125, 126, 127, 128, 129, 130, 131, 132, 133, 134, 135, 136, 137, 138, 139, 140, 141, 142, 143, 144, 145, 146, 147, 148, 149, 150, 151, 152, 153, 154, 155, 156, 157, 158, 159, 160, 161, 162, 163, 164, 165, 166, 167, 168, 169, 170, 171, 172, 173, 174, 175, 176, 177, 178, 179, 180, 181, 182, 183, 184, 185, 186, 187, 188, 189, 190, 191, 192, 193, 194, 195, 196, 197] (by decide +kernel) (by decide +kernel)) (goodIn_sub (fun _ h => List.mem_cons_of_mem _ (List.mem_append_left _ (List.mem_append_right _ h))) (by decide +kernel))) (goodIn_sub (fun _ h => List.mem_cons_of_mem _ (List.mem_append_right _ h)) (by decide +kernel))
set_option maxRecDepth 20000 in
theorem gL_train_X4_train : GoodIn wsL_train (wsV RL 31 RX4 yX4_train wsX4_train) := goodIn_app (goodIn_of _ (by decide +kernel)) ggL_train_X4_train
theorem dL_train_0 : decode cL_train 0 = .ok (.aload_n 3, 1) := by decide +kernel
theorem dL_train_1 : decode cL_train 1 = .ok (.iconst 0, 1) := by decide +kernel
theorem dL_train_2 : decode cL_train 2 = .ok (.aload_n 0, 1) := by decide +kernel
theorem dL_train_3 : decode cL_train 3 = .ok (.iload_n 1, 1) := by decide +kernel
theorem dL_train_4 : decode cL_train 4 = .ok (.iload_n 2, 1) := by decide +kernel
theorem dL_train_5 : decode cL_train 5 = .ok (.invokevirtual 31, 3) := by decide +kernel
theorem dL_train_8 : decode cL_train 8 = .ok (.ifCond .eq 7, 3) := by decide +kernel
theorem dL_train_11 : decode cL_train 11 = .ok (.lconst 1, 1) := by decide +kernel
theorem dL_train_12 : decode cL_train 12 = .ok (.goto 4, 3) := by decide +kernel
theorem dL_train_15 : decode cL_train 15 = .ok (.lconst 0, 1) := by decide +kernel
theorem dL_train_16 : decode cL_train 16 = .ok (.lastore, 1) := by decide +kernel
theorem dL_train_17 : decode cL_train 17 = .ok (.goto 11, 3) := by decide +kernel
theorem dL_train_20 : decode cL_train 20 = .ok (.astore 4, 2) := by decide +kernel
theorem dL_train_22 : decode cL_train 22 = .ok (.iconst 1, 1) := by decide +kernel
theorem dL_train_23 : decode cL_train 23 = .ok (.ireturn, 1) := by decide +kernel
theorem dL_train_24 : decode cL_train 24 = .ok (.astore 4, 2) := by decide +kernel
theorem dL_train_26 : decode cL_train 26 = .ok (.iconst 2, 1) := by decide +kernel
theorem dL_train_27 : decode cL_train 27 = .ok (.ireturn, 1) := by decide +kernel
theorem dL_train_28 : decode cL_train 28 = .ok (.iconst 0, 1) := by decide +kernel
theorem dL_train_29 : decode cL_train 29 = .ok (.ireturn, 1) := by decide +kernel
set_option maxRecDepth 20000 in
theorem ggL_flush_X4_flush : GoodIn wsL_flush wsX4_flush := goodIn_ca (goodIn_r _ [6, 7, 8, 9, 10, 11, 12, 13, 14, 5, 15, 16, 17, 18, 19, 20, 21, 22, 23, 24, 25, 26, 27, 28, 29, 30, 31, 32, 33, 34, 35, 36, 37, 38, 39, 40, 41, 42, 43, 44, 45, 46, 47] (by decide +kernel) (by decide +kernel)) (goodIn_sub (fun _ h => List.mem_cons_of_mem _ (List.mem_append_right _ h)) (by decide +kernel))
set_option maxRecDepth 20000 in
theorem gL_flush_X4_flush : GoodIn wsL_flush (wsV RL 35 RX4 yX4_flush wsX4_flush) := goodIn_app (goodIn_of _ (by decide +kernel)) ggL_flush_X4_flush
theorem dL_flush_0 : decode cL_flush 0 = .ok (.aload_n 2, 1) := by decide +kernel
theorem dL_flush_1 : decode cL_flush 1 = .ok (.iconst 0, 1) := by decide +kernel
theorem dL_flush_2 : decode cL_flush 2 = .ok (.aload_n 0, 1) := by decide +kernel
theorem dL_flush_3 : decode cL_flush 3 = .ok (.iload_n 1, 1) := by decide +kernel
theorem dL_flush_4 : decode cL_flush 4 = .ok (.invokevirtual 35, 3) := by decide +kernel
theorem dL_flush_7 : decode cL_flush 7 = .ok (.i2l, 1) := by decide +kernel
theorem dL_flush_8 : decode cL_flush 8 = .ok (.lastore, 1) := by decide +kernel
theorem dL_flush_9 : decode cL_flush 9 = .ok (.goto 6, 3) := by decide +kernel
theorem dL_flush_12 : decode cL_flush 12 = .ok (.astore_n 3, 1) := by decide +kernel
theorem dL_flush_13 : decode cL_flush 13 = .ok (.iconst 1, 1) := by decide +kernel
theorem dL_flush_14 : decode cL_flush 14 = .ok (.ireturn, 1) := by decide +kernel
theorem dL_flush_15 : decode cL_flush 15 = .ok (.iconst 0, 1) := by decide +kernel
theorem dL_flush_16 : decode cL_flush 16 = .ok (.ireturn, 1) := by decide +kernel
set_option maxRecDepth 20000 in
theorem ggL_place_X4_place : GoodIn wsL_place wsX4_place := goodIn_ca (goodIn_r _ [6, 7, 8, 9, 10, 5, 11, 12, 13, 14, 15, 16, 17, 18, 19, 20, 21, 22, 23, 24, 25, 26, 27, 28, 29, 30, 31, 32, 33, 34, 35, 36, 37, 38, 39, 40, 41, 42, 43, 44, 45] (by decide +kernel) (by decide +kernel)) (goodIn_sub (fun _ h => List.mem_cons_of_mem _ (List.mem_append_right _ h)) (by decide +kernel))
set_option maxRecDepth 20000 in
theorem gL_place_X4_place : GoodIn wsL_place (wsV RL 39 RX4 yX4_place wsX4_place) := goodIn_app (goodIn_of _ (by decide +kernel)) ggL_place_X4_place
theorem dL_place_0 : decode cL_place 0 = .ok (.aload_n 2, 1) := by decide +kernel
theorem dL_place_1 : decode cL_place 1 = .ok (.iconst 0, 1) := by decide +kernel
theorem dL_place_2 : decode cL_place 2 = .ok (.aload_n 0, 1) := by decide +kernel
theorem dL_place_3 : decode cL_place 3 = .ok (.iload_n 1, 1) := by decide +kernel
theorem dL_place_4 : decode cL_place 4 = .ok (.invokevirtual 39, 3) := by decide +kernel
theorem dL_place_7 : decode cL_place 7 = .ok (.i2l, 1) := by decide +kernel
theorem dL_place_8 : decode cL_place 8 = .ok (.lastore, 1) := by decide +kernel
theorem dL_place_9 : decode cL_place 9 = .ok (.goto 6, 3) := by decide +kernel
theorem dL_place_12 : decode cL_place 12 = .ok (.astore_n 3, 1) := by decide +kernel
theorem dL_place_13 : decode cL_place 13 = .ok (.iconst 1, 1) := by decide +kernel
theorem dL_place_14 : decode cL_place 14 = .ok (.ireturn, 1) := by decide +kernel
theorem dL_place_15 : decode cL_place 15 = .ok (.iconst 0, 1) := by decide +kernel
theorem dL_place_16 : decode cL_place 16 = .ok (.ireturn, 1) := by decide +kernel
set_option maxRecDepth 20000 in
theorem ggL_state_X4_state : GoodIn wsL_state wsX4_state := goodIn_ca (goodIn_r _ [6, 7, 8, 9, 10, 5, 11, 12, 13, 14, 15, 16, 17, 18, 19, 20, 21, 22, 23, 24, 25, 26, 27, 28, 29, 30, 31, 32, 33, 34, 35, 36, 37, 38, 39, 40, 41, 42, 43, 44, 45] (by decide +kernel) (by decide +kernel)) (goodIn_sub (fun _ h => List.mem_cons_of_mem _ (List.mem_append_right _ h)) (by decide +kernel))
set_option maxRecDepth 20000 in
theorem gL_state_X4_state : GoodIn wsL_state (wsV RL 42 RX4 yX4_state wsX4_state) := goodIn_app (goodIn_of _ (by decide +kernel)) ggL_state_X4_state
theorem dL_state_0 : decode cL_state 0 = .ok (.aload_n 2, 1) := by decide +kernel
theorem dL_state_1 : decode cL_state 1 = .ok (.iconst 0, 1) := by decide +kernel
theorem dL_state_2 : decode cL_state 2 = .ok (.aload_n 0, 1) := by decide +kernel
theorem dL_state_3 : decode cL_state 3 = .ok (.iload_n 1, 1) := by decide +kernel
theorem dL_state_4 : decode cL_state 4 = .ok (.invokevirtual 42, 3) := by decide +kernel
theorem dL_state_7 : decode cL_state 7 = .ok (.i2l, 1) := by decide +kernel
theorem dL_state_8 : decode cL_state 8 = .ok (.lastore, 1) := by decide +kernel
theorem dL_state_9 : decode cL_state 9 = .ok (.goto 6, 3) := by decide +kernel
theorem dL_state_12 : decode cL_state 12 = .ok (.astore_n 3, 1) := by decide +kernel
theorem dL_state_13 : decode cL_state 13 = .ok (.iconst 1, 1) := by decide +kernel
theorem dL_state_14 : decode cL_state 14 = .ok (.ireturn, 1) := by decide +kernel
theorem dL_state_15 : decode cL_state 15 = .ok (.iconst 0, 1) := by decide +kernel
theorem dL_state_16 : decode cL_state 16 = .ok (.ireturn, 1) := by decide +kernel
set_option maxRecDepth 20000 in
theorem ggL_predicted_X4_predicted : GoodIn wsL_predicted wsX4_predicted := goodIn_ca (goodIn_r _ [6, 7, 8, 9, 5, 10, 11, 12, 13, 14, 15, 16, 17, 18, 19, 20, 21, 22, 23, 24, 25, 26, 27, 28, 29, 30, 31, 32, 33, 34, 35, 36, 37, 38, 39, 40, 41, 42, 43, 44, 45, 46, 47, 48, 49, 50, 51, 52, 53, 54, 55, 56] (by decide +kernel) (by decide +kernel)) (goodIn_sub (fun _ h => List.mem_cons_of_mem _ (List.mem_append_right _ h)) (by decide +kernel))
set_option maxRecDepth 20000 in
theorem gL_predicted_X4_predicted : GoodIn wsL_predicted (wsV RL 45 RX4 yX4_predicted wsX4_predicted) := goodIn_app (goodIn_of _ (by decide +kernel)) ggL_predicted_X4_predicted
theorem dL_predicted_0 : decode cL_predicted 0 = .ok (.aload_n 3, 1) := by decide +kernel
theorem dL_predicted_1 : decode cL_predicted 1 = .ok (.iconst 0, 1) := by decide +kernel
theorem dL_predicted_2 : decode cL_predicted 2 = .ok (.aload_n 0, 1) := by decide +kernel
theorem dL_predicted_3 : decode cL_predicted 3 = .ok (.iload_n 1, 1) := by decide +kernel
theorem dL_predicted_4 : decode cL_predicted 4 = .ok (.iload_n 2, 1) := by decide +kernel
theorem dL_predicted_5 : decode cL_predicted 5 = .ok (.invokevirtual 45, 3) := by decide +kernel
theorem dL_predicted_8 : decode cL_predicted 8 = .ok (.ifCond .eq 7, 3) := by decide +kernel
theorem dL_predicted_11 : decode cL_predicted 11 = .ok (.lconst 1, 1) := by decide +kernel
theorem dL_predicted_12 : decode cL_predicted 12 = .ok (.goto 4, 3) := by decide +kernel
theorem dL_predicted_15 : decode cL_predicted 15 = .ok (.lconst 0, 1) := by decide +kernel
theorem dL_predicted_16 : decode cL_predicted 16 = .ok (.lastore, 1) := by decide +kernel
theorem dL_predicted_17 : decode cL_predicted 17 = .ok (.goto 7, 3) := by decide +kernel
theorem dL_predicted_20 : decode cL_predicted 20 = .ok (.astore 4, 2) := by decide +kernel
theorem dL_predicted_22 : decode cL_predicted 22 = .ok (.iconst 1, 1) := by decide +kernel
theorem dL_predicted_23 : decode cL_predicted 23 = .ok (.ireturn, 1) := by decide +kernel
theorem dL_predicted_24 : decode cL_predicted 24 = .ok (.iconst 0, 1) := by decide +kernel
theorem dL_predicted_25 : decode cL_predicted 25 = .ok (.ireturn, 1) := by decide +kernel
set_option maxRecDepth 20000 in
theorem ggL_counter_X4_counter : GoodIn wsL_counter wsX4_counter := goodIn_ca (goodIn_r _ [6, 7, 8, 9, 10, 11, 12, 5, 13, 14, 15, 16, 17, 18, 19, 20, 21, 22, 23, 24, 25, 26, 27, 28, 29, 30, 31, 32, 33, 34, 35, 36, 37, 38, 39, 40] (by decide +kernel) (by decide +kernel)) (goodIn_sub (fun _ h => List.mem_cons_of_mem _ (List.mem_append_right _ h)) (by decide +kernel))
set_option maxRecDepth 20000 in
theorem gL_counter_X4_counter : GoodIn wsL_counter (wsV RL 49 RX4 yX4_counter wsX4_counter) := goodIn_app (goodIn_of _ (by decide +kernel)) ggL_counter_X4_counter
theorem dL_counter_0 : decode cL_counter 0 = .ok (.aload_n 3, 1) := by decide +kernel
theorem dL_counter_1 : decode cL_counter 1 = .ok (.iconst 0, 1) := by decide +kernel
theorem dL_counter_2 : decode cL_counter 2 = .ok (.aload_n 0, 1) := by decide +kernel
theorem dL_counter_3 : decode cL_counter 3 = .ok (.iload_n 1, 1) := by decide +kernel
theorem dL_counter_4 : decode cL_counter 4 = .ok (.iload_n 2, 1) := by decide +kernel
theorem dL_counter_5 : decode cL_counter 5 = .ok (.invokevirtual 49, 3) := by decide +kernel
theorem dL_counter_8 : decode cL_counter 8 = .ok (.i2l, 1) := by decide +kernel
theorem dL_counter_9 : decode cL_counter 9 = .ok (.lastore, 1) := by decide +kernel
theorem dL_counter_10 : decode cL_counter 10 = .ok (.goto 7, 3) := by decide +kernel
theorem dL_counter_13 : decode cL_counter 13 = .ok (.astore 4, 2) := by decide +kernel
theorem dL_counter_15 : decode cL_counter 15 = .ok (.iconst 1, 1) := by decide +kernel
theorem dL_counter_16 : decode cL_counter 16 = .ok (.ireturn, 1) := by decide +kernel
theorem dL_counter_17 : decode cL_counter 17 = .ok (.iconst 0, 1) := by decide +kernel
theorem dL_counter_18 : decode cL_counter 18 = .ok (.ireturn, 1) := by decide +kernel
set_option maxRecDepth 20000 in
theorem ggL_loop_X4_loop : GoodIn wsL_loop wsX4_loop := goodIn_ca (goodIn_r _ [6, 7, 8, 9, 10, 11, 12, 13, 14, 15, 16, 17, 18, 19, 20, 21, 22, 5, 23, 24, 25, 26, 27, 28, 29, 30, 31, 32, 33, 34, 35, 36, 37, 38, 39, 40, 41, 42, 43, 44, 45, 46, 47, 48, 49, 50, 51, 52, 53, 54, 55, 56, 57, 58, 59, 60, 61, 62, 63, 64, 65, 66, 67] (by decide +kernel) (by decide +kernel)) (goodIn_sub (fun _ h => List.mem_cons_of_mem _ (List.mem_append_right _ h)) (by decide +kernel))
set_option maxRecDepth 20000 in
theorem gL_loop_X4_loop : GoodIn wsL_loop (wsV RL 53 RX4 yX4_loop wsX4_loop) := goodIn_app (goodIn_of _ (by decide +kernel)) ggL_loop_X4_loop
theorem dL_loop_0 : decode cL_loop 0 = .ok (.aload_n 3, 1) := by decide +kernel
theorem dL_loop_1 : decode cL_loop 1 = .ok (.iconst 0, 1) := by decide +kernel
theorem dL_loop_2 : decode cL_loop 2 = .ok (.aload_n 0, 1) := by decide +kernel
theorem dL_loop_3 : decode cL_loop 3 = .ok (.iload_n 1, 1) := by decide +kernel
theorem dL_loop_4 : decode cL_loop 4 = .ok (.iload_n 2, 1) := by decide +kernel
theorem dL_loop_5 : decode cL_loop 5 = .ok (.invokevirtual 53, 3) := by decide +kernel
theorem dL_loop_8 : decode cL_loop 8 = .ok (.i2l, 1) := by decide +kernel
theorem dL_loop_9 : decode cL_loop 9 = .ok (.lastore, 1) := by decide +kernel
theorem dL_loop_10 : decode cL_loop 10 = .ok (.goto 7, 3) := by decide +kernel
theorem dL_loop_13 : decode cL_loop 13 = .ok (.astore 4, 2) := by decide +kernel
theorem dL_loop_15 : decode cL_loop 15 = .ok (.iconst 1, 1) := by decide +kernel
theorem dL_loop_16 : decode cL_loop 16 = .ok (.ireturn, 1) := by decide +kernel
theorem dL_loop_17 : decode cL_loop 17 = .ok (.iconst 0, 1) := by decide +kernel
theorem dL_loop_18 : decode cL_loop 18 = .ok (.ireturn, 1) := by decide +kernel
set_option maxRecDepth 20000 in
theorem ggL_misses_X4_misses : GoodIn wsL_misses wsX4_misses := goodIn_ca (goodIn_r _ [6, 7, 8, 9, 5, 10, 11, 12, 13, 14, 15, 16, 17, 18, 19, 20, 21, 22, 23, 24, 25, 26, 27, 28] (by decide +kernel) (by decide +kernel)) (goodIn_sub (fun _ h => List.mem_cons_of_mem _ (List.mem_append_right _ h)) (by decide +kernel))
set_option maxRecDepth 20000 in
theorem gL_misses_X4_misses : GoodIn wsL_misses (wsV RL 56 RX4 yX4_misses wsX4_misses) := goodIn_app (goodIn_of _ (by decide +kernel)) ggL_misses_X4_misses
theorem dL_misses_0 : decode cL_misses 0 = .ok (.aload_n 2, 1) := by decide +kernel
theorem dL_misses_1 : decode cL_misses 1 = .ok (.iconst 0, 1) := by decide +kernel
theorem dL_misses_2 : decode cL_misses 2 = .ok (.aload_n 0, 1) := by decide +kernel
theorem dL_misses_3 : decode cL_misses 3 = .ok (.iload_n 1, 1) := by decide +kernel
theorem dL_misses_4 : decode cL_misses 4 = .ok (.invokevirtual 56, 3) := by decide +kernel
theorem dL_misses_7 : decode cL_misses 7 = .ok (.lastore, 1) := by decide +kernel
theorem dL_misses_8 : decode cL_misses 8 = .ok (.goto 6, 3) := by decide +kernel
theorem dL_misses_11 : decode cL_misses 11 = .ok (.astore_n 3, 1) := by decide +kernel
theorem dL_misses_12 : decode cL_misses 12 = .ok (.iconst 1, 1) := by decide +kernel
theorem dL_misses_13 : decode cL_misses 13 = .ok (.ireturn, 1) := by decide +kernel
theorem dL_misses_14 : decode cL_misses 14 = .ok (.iconst 0, 1) := by decide +kernel
theorem dL_misses_15 : decode cL_misses 15 = .ok (.ireturn, 1) := by decide +kernel
set_option maxRecDepth 20000 in
theorem ggL_meetings_X4_meetings : GoodIn wsL_meetings wsX4_meetings := goodIn_ca (goodIn_r _ [6, 7, 8, 9, 10, 11, 12, 13, 14, 15, 16, 17, 18, 19, 20, 21, 22, 23, 24, 25, 26, 27, 28, 29, 30, 31] (by decide +kernel) (by decide +kernel)) (goodIn_sub (fun _ h => List.mem_cons_of_mem _ (List.mem_append_right _ h)) (by decide +kernel))
set_option maxRecDepth 20000 in
theorem gL_meetings_X4_meetings : GoodIn wsL_meetings (wsV RL 60 RX4 yX4_meetings wsX4_meetings) := goodIn_app (goodIn_of _ (by decide +kernel)) ggL_meetings_X4_meetings
theorem dL_meetings_0 : decode cL_meetings 0 = .ok (.aload_n 3, 1) := by decide +kernel
theorem dL_meetings_1 : decode cL_meetings 1 = .ok (.iconst 0, 1) := by decide +kernel
theorem dL_meetings_2 : decode cL_meetings 2 = .ok (.aload_n 0, 1) := by decide +kernel
theorem dL_meetings_3 : decode cL_meetings 3 = .ok (.iload_n 1, 1) := by decide +kernel
theorem dL_meetings_4 : decode cL_meetings 4 = .ok (.iload_n 2, 1) := by decide +kernel
theorem dL_meetings_5 : decode cL_meetings 5 = .ok (.invokevirtual 60, 3) := by decide +kernel
theorem dL_meetings_8 : decode cL_meetings 8 = .ok (.lastore, 1) := by decide +kernel
theorem dL_meetings_9 : decode cL_meetings 9 = .ok (.goto 7, 3) := by decide +kernel
theorem dL_meetings_12 : decode cL_meetings 12 = .ok (.astore 4, 2) := by decide +kernel
theorem dL_meetings_14 : decode cL_meetings 14 = .ok (.iconst 1, 1) := by decide +kernel
theorem dL_meetings_15 : decode cL_meetings 15 = .ok (.ireturn, 1) := by decide +kernel
theorem dL_meetings_16 : decode cL_meetings 16 = .ok (.iconst 0, 1) := by decide +kernel
theorem dL_meetings_17 : decode cL_meetings 17 = .ok (.ireturn, 1) := by decide +kernel
set_option maxRecDepth 20000 in
theorem ggL_law_X4_init : GoodIn wsL_law wsX4_init := goodIn_r _ [9, 10, 11, 12, 13, 14, 15, 16, 17, 18, 19, 20, 21, 22, 23, 24, 25, 26, 27, 6, 28, 29, 30, 31, 32, 33, 34, 35, 36, 37, 38, 39, 40, 41, 42, 43, 44, 45, 46, 47, 48, 49, 50, 51, 52, 53, 54, 55, 2, 56, 57, 58, 59, 60, 61, 62, 63, 64, 65, 66, 67, 68, 69, 70, 71, 72, 603, 604, 565, 566, 567, 568, 569, 570, 571, 572, 573, 574, 575, 576, 577, 578, 579, 580, 605, 606, 607, 608, 609, 610, 611, 612, 613, 614, 615, 616, 617, 618, 619, 620] (by decide +kernel) (by decide +kernel)
set_option maxRecDepth 20000 in
theorem gL_law_X4_init : GoodIn wsL_law (wsX4_init) := ggL_law_X4_init
set_option maxRecDepth 20000 in
theorem ggL_law_X5_init : GoodIn wsL_law wsX5_init := goodIn_r _ [75, 76, 11, 12, 39, 77, 78, 79, 80, 81, 82, 83, 84, 85, 86, 87, 88, 89, 6, 90, 91, 92, 93, 94, 5, 95, 96, 97, 98, 99, 100, 101, 102, 581, 582, 583, 584, 585, 586, 587, 588, 589, 590, 591, 592, 593, 594, 595, 596, 597, 598, 599, 600, 601, 602] (by decide +kernel) (by decide +kernel)
set_option maxRecDepth 20000 in
theorem gL_law_X5_init : GoodIn wsL_law (wsX5_init) := ggL_law_X5_init
set_option maxRecDepth 20000 in
theorem ggL_law_L_setSizes : GoodIn wsL_law wsL_setSizes := goodIn_ca (goodIn_r _ [106, 107, 108, 109, 110, 2, 111, 112, 113, 29, 30, 31, 114, 115, 116, 53, 54, 55, 56, 16, 17, 18, 22, 23, 27, 57, 28, 58, 59, 60, 61, 62, 63, 64, 65, 15, 66, 41, 40, 67, 68, 69, 21, 70, 45, 71, 72, 565, 566, 567, 568, 569, 570, 571, 572, 573, 574, 575, 576, 577, 578, 579, 580, 617, 618, 619, 620, 603, 604, 605, 606, 607] (by decide +kernel) (by decide +kernel)) (goodIn_sub (fun _ h => List.mem_append_left _ (List.mem_append_left _ (List.mem_append_right _ h))) (by decide +kernel))
set_option maxRecDepth 20000 in
theorem gL_law_L_setSizes : GoodIn wsL_law (va_wsS RL 68 yL_setSizes wsL_setSizes) := goodIn_app (goodIn_of _ (by decide +kernel)) ggL_law_L_setSizes
set_option maxRecDepth 20000 in
theorem ggL_law_X5_setSizes : GoodIn wsL_law wsX5_setSizes := goodIn_r _ [120, 121, 96, 97, 98, 122, 123, 124, 5, 125, 92, 93, 94, 95, 99, 100, 101, 102, 77, 78, 85, 90, 91, 581, 582, 583, 584, 585, 586, 587, 588, 589, 590, 591, 592, 593, 594, 595, 596, 597, 598, 599, 600, 601, 602] (by decide +kernel) (by decide +kernel)
set_option maxRecDepth 20000 in
theorem gL_law_X5_setSizes : GoodIn wsL_law (wsV RL 73 RX5 yX5_setSizes wsX5_setSizes) := goodIn_app (goodIn_of _ (by decide +kernel)) ggL_law_X5_setSizes
set_option maxRecDepth 20000 in
theorem ggL_law_X5_thrown : GoodIn wsL_law wsX5_thrown := goodIn_r _ [129, 121, 581, 582, 583, 584, 585, 586, 587, 588, 589, 590, 591, 592, 593, 594, 595, 596, 597, 598, 599, 600, 601, 602] (by decide +kernel) (by decide +kernel)
set_option maxRecDepth 20000 in
theorem gL_law_X5_thrown : GoodIn wsL_law (wsV RL 74 RX5 yX5_thrown wsX5_thrown) := goodIn_app (goodIn_of _ (by decide +kernel)) ggL_law_X5_thrown
set_option maxRecDepth 20000 in
theorem ggL_law_L_predict : GoodIn wsL_law wsL_predict := goodIn_ca (goodIn_ca (goodIn_r _ [132, 107, 133, 134, 135, 136, 2, 137, 138, 139, 60, 140, 141, 142, 112, 113, 143, 144, 145, 146, 147, 148, 149, 58, 150, 16, 151, 17, 152, 153, 154, 18, 155, 156, 157, 158, 159, 160, 25, 59, 161, 162, 163, 15, 164, 41, 165, 166, 167, 168, 169, 170, 171, 172, 40, 173, 174, 175, 176, 27, 177, 178, 179, 180, 181, 182, 57, 183, 184, 185, 186, 187, 188, 189, 190, 33, 191, 192, 193, 194, 195, 196, 197, 31, 565, 566, 567, 568, 569, 570, 571, 572, 573, 574, 575, 576, 577, 578, 579, 580, 608, 609, 610, 611, 612, 613, 614, 615, 616, 603, 604, 617, 618, 619, 620] (by decide +kernel) (by decide +kernel)) (goodIn_sub (fun _ h => List.mem_append_left _ (List.mem_append_right _ h)) (by decide +kernel))) (goodIn_sub (fun _ h => List.mem_append_left _ (List.mem_append_left _ (List.mem_append_right _ h))) (by decide +kernel))
set_option maxRecDepth 20000 in
theorem gL_law_L_predict : GoodIn wsL_law (va_wsS RL 78 yL_predict wsL_predict) := goodIn_app (goodIn_of _ (by decide +kernel)) ggL_law_L_predict
set_option maxRecDepth 20000 in
theorem ggL_law_X5_predict : GoodIn wsL_law wsX5_predict := goodIn_r _ [201, 121, 202, 100, 122, 123, 124, 5, 125, 203, 204, 205, 206, 82, 99, 89, 88, 79, 80, 83, 207, 208, 209, 210, 96, 211, 212, 213, 214, 77, 215, 216, 217, 218, 97, 219, 220, 221, 222, 223, 224, 225, 226, 85, 86, 227, 228, 229, 230, 87, 231, 232, 233, 234, 84, 235, 236, 237, 238, 98, 581, 582, 583, 584, 585, 586, 587, 588, 589, 590, 591, 592, 593, 594, 595, 596, 597, 598, 599, 600, 601, 602] (by decide +kernel) (by decide +kernel)
set_option maxRecDepth 20000 in
theorem gL_law_X5_predict : GoodIn wsL_law (wsV RL 81 RX5 yX5_predict wsX5_predict) := goodIn_app (goodIn_of _ (by decide +kernel)) ggL_law_X5_predict
set_option maxRecDepth 20000 in
theorem ggL_law_L_resolve : GoodIn wsL_law wsL_resolve := goodIn_ca (goodIn_ca (goodIn_r _ [241, 242, 133, 243, 244, 245, 2, 246, 138, 139, 149, 247, 248, 249, 250, 251, 252, 60, 157, 158, 159, 160, 25, 59, 253, 254, 255, 256, 156, 150, 58, 194, 195, 196, 197, 31, 257, 258, 259, 260, 62, 608, 609, 610, 611, 612, 613, 614, 615, 616, 565, 566, 567, 568, 569, 570, 571, 572, 573, 574, 575, 576, 577, 578, 579, 580] (by decide +kernel) (by decide +kernel)) (goodIn_sub (fun _ h => List.mem_append_left _ (List.mem_append_right _ h)) (by decide +kernel))) (goodIn_sub (fun _ h => List.mem_append_right _ h) (by decide +kernel))
set_option maxRecDepth 20000 in
theorem gL_law_L_resolve : GoodIn wsL_law (va_wsS RL 82 yL_resolve wsL_resolve) := goodIn_app (goodIn_of _ (by decide +kernel)) ggL_law_L_resolve
set_option maxRecDepth 20000 in
theorem ggL_law_X5_resolve : GoodIn wsL_law wsX5_resolve := goodIn_r _ [264, 121, 83, 265, 266, 267, 5, 268, 100, 269, 270, 271, 272, 273, 274, 275, 276, 84, 102, 80, 99, 277, 278, 279, 280, 82, 235, 236, 237, 238, 98, 581, 582, 583, 584, 585, 586, 587, 588, 589, 590, 591, 592, 593, 594, 595, 596, 597, 598, 599, 600, 601, 602] (by decide +kernel) (by decide +kernel)
set_option maxRecDepth 20000 in
theorem gL_law_X5_resolve : GoodIn wsL_law (wsV RL 85 RX5 yX5_resolve wsX5_resolve) := goodIn_app (goodIn_of _ (by decide +kernel)) ggL_law_X5_resolve
set_option maxRecDepth 20000 in
theorem ggL_law_L_commit : GoodIn wsL_law wsL_commit := goodIn_ca (goodIn_r _ [283, 133, 284, 285, 286, 2, 287, 138, 139, 60, 149, 157, 158, 159, 160, 25, 59, 288, 289, 290, 291, 16, 22, 151, 148, 17, 23, 152, 61, 188, 189, 190, 33, 191, 192, 193, 292, 293, 294, 295, 28, 296, 297, 298, 299, 300, 301, 302, 303, 304, 305, 306, 153, 154, 18, 307, 308, 309, 15, 310, 311, 312, 313, 314, 315, 316, 317, 40, 169, 170, 171, 172, 318, 319, 320, 165, 166, 167, 168, 321, 322, 323, 21, 324, 45, 71, 72, 325, 326, 327, 328, 27, 179, 180, 181, 182, 57, 329, 330, 331, 35, 332, 333, 52, 334, 335, 336, 337, 338, 339, 340, 177, 341, 342, 343, 344, 345, 346, 347, 348, 565, 566, 567, 568, 569, 570, 571, 572, 573, 574, 575, 576, 577, 578, 579, 580, 608, 609, 610, 611, 612, 613, 614, 615, 616, 603, 604, 605, 606, 607, 617, 618, 619, 620] (by decide +kernel) (by decide +kernel)) (goodIn_sub (fun _ h => List.mem_append_left _ (List.mem_append_right _ h)) (by decide +kernel))
set_option maxRecDepth 20000 in
theorem gL_law_L_commit : GoodIn wsL_law (va_wsS RL 86 yL_commit wsL_commit) := goodIn_app (goodIn_of _ (by decide +kernel)) ggL_law_L_commit
set_option maxRecDepth 20000 in
theorem ggL_law_X5_commit : GoodIn wsL_law wsX5_commit := goodIn_r _ [352, 121, 100, 83, 353, 354, 355, 5, 356, 79, 84, 82, 80, 90, 101, 277, 278, 279, 280, 219, 220, 221, 222, 96, 357, 358, 359, 360, 77, 361, 312, 313, 314, 362, 316, 317, 215, 216, 217, 218, 97, 207, 208, 209, 210, 363, 364, 365, 366, 78, 91, 211, 212, 213, 214, 367, 368, 369, 370, 87, 85, 88, 89, 223, 224, 225, 226, 86, 371, 372, 373, 374, 122, 123, 124, 125, 581, 582, 583, 584, 585, 586, 587, 588, 589, 590, 591, 592, 593, 594, 595, 596, 597, 598, 599, 600, 601, 602] (by decide +kernel) (by decide +kernel)
set_option maxRecDepth 20000 in
theorem gL_law_X5_commit : GoodIn wsL_law (wsV RL 89 RX5 yX5_commit wsX5_commit) := goodIn_app (goodIn_of _ (by decide +kernel)) ggL_law_X5_commit
set_option maxRecDepth 20000 in
theorem ggL_law_L_train : GoodIn wsL_law wsL_train := goodIn_ca (goodIn_ca (goodIn_r _ [377, 107, 133, 378, 379, 380, 2, 381, 138, 139, 60, 140, 141, 142, 112, 113, 143, 144, 145, 146, 147, 148, 149, 58, 150, 16, 151, 17, 152, 153, 154, 18, 155, 156, 157, 158, 159, 160, 25, 59, 161, 162, 163, 15, 164, 41, 165, 166, 167, 168, 169, 170, 171, 172, 40, 173, 174, 175, 176, 27, 177, 178, 179, 180, 181, 182, 57, 183, 184, 185, 186, 187, 188, 189, 190, 33, 191, 192, 193, 194, 195, 196, 197, 31, 253, 254, 255, 256, 257, 258, 259, 260, 62, 288, 289, 290, 291, 22, 23, 61, 292, 293, 294, 295, 28, 296, 297, 298, 299, 300, 301, 302, 303, 304, 305, 306, 307, 308, 309, 310, 311, 312, 313, 314, 315, 316, 317, 318, 319, 320, 321, 322, 323, 21, 324, 45, 71, 72, 325, 326, 327, 328, 329, 330, 331, 35, 332, 333, 52, 334, 335, 336, 337, 338, 339, 340, 341, 342, 343, 344, 345, 346, 347, 348, 565, 566, 567, 568, 569, 570, 571, 572, 573, 574, 575, 576, 577, 578, 579, 580, 608, 609, 610, 611, 612, 613, 614, 615, 616, 603, 604, 617, 618, 619, 620, 605, 606, 607] (by decide +kernel) (by decide +kernel)) (goodIn_sub (fun _ h => List.mem_append_left _ (List.mem_append_right _ h)) (by decide +kernel))) (goodIn_sub (fun _ h => List.mem_append_left _ (List.mem_append_left _ (List.mem_append_right _ h))) (by decide +kernel))
set_option maxRecDepth 20000 in
theorem gL_law_L_train : GoodIn wsL_law (va_wsS RL 90 yL_train wsL_train) := goodIn_app (goodIn_of _ (by decide +kernel)) ggL_law_L_train
set_option maxRecDepth 20000 in
theorem ggL_law_X5_train : GoodIn wsL_law wsX5_train := goodIn_r _ [385, 121, 202, 100, 122, 123, 124, 5, 125, 203, 204, 205, 206, 82, 99, 89, 88, 79, 80, 83, 207, 208, 209, 210, 96, 211, 212, 213, 214, 77, 215, 216, 217, 218, 97, 219, 220, 221, 222, 223, 224, 225, 226, 85, 86, 227, 228, 229, 230, 87, 231, 232, 233, 234, 84, 235, 236, 237, 238, 98, 273, 274, 275, 276, 102, 277, 278, 279, 280, 353, 354, 355, 356, 90, 101, 357, 358, 359, 360, 361, 312, 313, 314, 362, 316, 317, 363, 364, 365, 366, 78, 91, 367, 368, 369, 370, 371, 372, 373, 374, 581, 582, 583, 584, 585, 586, 587, 588, 589, 590, 591, 592, 593, 594, 595, 596, 597, 598, 599, 600, 601, 602] (by decide +kernel) (by decide +kernel)
set_option maxRecDepth 20000 in
theorem gL_law_X5_train : GoodIn wsL_law (wsV RL 92 RX5 yX5_train wsX5_train) := goodIn_app (goodIn_of _ (by decide +kernel)) ggL_law_X5_train
set_option maxRecDepth 20000 in
theorem ggL_law_L_flush : GoodIn wsL_law wsL_flush := goodIn_ca (goodIn_r _ [388, 107, 389, 390, 391, 2, 392, 112, 113, 60, 150, 58, 157, 158, 159, 160, 25, 59, 257, 258, 259, 260, 62, 565, 566, 567, 568, 569, 570, 571, 572, 573, 574, 575, 576, 577, 578, 579, 580, 608, 609, 610, 611, 612, 613, 614, 615, 616] (by decide +kernel) (by decide +kernel)) (goodIn_sub (fun _ h => List.mem_append_left _ (List.mem_append_left _ (List.mem_append_right _ h))) (by decide +kernel))
set_option maxRecDepth 20000 in
theorem gL_law_L_flush : GoodIn wsL_law (va_wsS RL 93 yL_flush wsL_flush) := goodIn_app (goodIn_of _ (by decide +kernel)) ggL_law_L_flush
set_option maxRecDepth 20000 in
theorem ggL_law_X5_flush : GoodIn wsL_law wsX5_flush := goodIn_r _ [396, 121, 100, 102, 80, 99, 269, 270, 271, 5, 272, 581, 582, 583, 584, 585, 586, 587, 588, 589, 590, 591, 592, 593, 594, 595, 596, 597, 598, 599, 600, 601, 602] (by decide +kernel) (by decide +kernel)
set_option maxRecDepth 20000 in
theorem gL_law_X5_flush : GoodIn wsL_law (wsV RL 95 RX5 yX5_flush wsX5_flush) := goodIn_app (goodIn_of _ (by decide +kernel)) ggL_law_X5_flush
set_option maxRecDepth 20000 in
theorem ggL_law_X4_inFlight : GoodIn wsL_law wsX4_inFlight := goodIn_r _ [400, 60, 565, 566, 567, 568, 569, 570, 571, 572, 573, 574, 575, 576, 577, 578, 579, 580] (by decide +kernel) (by decide +kernel)
set_option maxRecDepth 20000 in
theorem gL_law_X4_inFlight : GoodIn wsL_law (wsV RL 96 RX4 yX4_inFlight wsX4_inFlight) := goodIn_app (goodIn_of _ (by decide +kernel)) ggL_law_X4_inFlight
set_option maxRecDepth 20000 in
theorem ggL_law_X5_inFlight : GoodIn wsL_law wsX5_inFlight := goodIn_r _ [404, 121, 100, 581, 582, 583, 584, 585, 586, 587, 588, 589, 590, 591, 592, 593, 594, 595, 596, 597, 598, 599, 600, 601, 602] (by decide +kernel) (by decide +kernel)
set_option maxRecDepth 20000 in
theorem gL_law_X5_inFlight : GoodIn wsL_law (wsV RL 99 RX5 yX5_inFlight wsX5_inFlight) := goodIn_app (goodIn_of _ (by decide +kernel)) ggL_law_X5_inFlight
set_option maxRecDepth 20000 in
theorem ggL_law_L_place : GoodIn wsL_law wsL_place := goodIn_ca (goodIn_r _ [407, 242, 408, 409, 410, 2, 411, 148, 247, 248, 249, 250, 251, 252, 60, 157, 158, 159, 160, 25, 59, 608, 609, 610, 611, 612, 613, 614, 615, 616, 565, 566, 567, 568, 569, 570, 571, 572, 573, 574, 575, 576, 577, 578, 579, 580] (by decide +kernel) (by decide +kernel)) (goodIn_sub (fun _ h => List.mem_append_right _ h) (by decide +kernel))
set_option maxRecDepth 20000 in
theorem gL_law_L_place : GoodIn wsL_law (va_wsS RL 100 yL_place wsL_place) := goodIn_app (goodIn_of _ (by decide +kernel)) ggL_law_L_place
set_option maxRecDepth 20000 in
theorem ggL_law_X5_place : GoodIn wsL_law wsX5_place := goodIn_r _ [415, 121, 79, 265, 266, 267, 5, 268, 100, 269, 270, 271, 272, 581, 582, 583, 584, 585, 586, 587, 588, 589, 590, 591, 592, 593, 594, 595, 596, 597, 598, 599, 600, 601, 602] (by decide +kernel) (by decide +kernel)
set_option maxRecDepth 20000 in
theorem gL_law_X5_place : GoodIn wsL_law (wsV RL 102 RX5 yX5_place wsX5_place) := goodIn_app (goodIn_of _ (by decide +kernel)) ggL_law_X5_place
set_option maxRecDepth 20000 in
theorem ggL_law_L_state : GoodIn wsL_law wsL_state := goodIn_ca (goodIn_r _ [418, 242, 419, 420, 421, 2, 422, 149, 247, 248, 249, 250, 251, 252, 60, 157, 158, 159, 160, 25, 59, 608, 609, 610, 611, 612, 613, 614, 615, 616, 565, 566, 567, 568, 569, 570, 571, 572, 573, 574, 575, 576, 577, 578, 579, 580] (by decide +kernel) (by decide +kernel)) (goodIn_sub (fun _ h => List.mem_append_right _ h) (by decide +kernel))
set_option maxRecDepth 20000 in
theorem gL_law_L_state : GoodIn wsL_law (va_wsS RL 103 yL_state wsL_state) := goodIn_app (goodIn_of _ (by decide +kernel)) ggL_law_L_state
set_option maxRecDepth 20000 in
theorem ggL_law_X5_state : GoodIn wsL_law wsX5_state := goodIn_r _ [426, 121, 265, 266, 267, 5, 268, 100, 427, 428, 429, 430, 83, 277, 278, 279, 280, 84, 82, 269, 270, 271, 272, 581, 582, 583, 584, 585, 586, 587, 588, 589, 590, 591, 592, 593, 594, 595, 596, 597, 598, 599, 600, 601, 602] (by decide +kernel) (by decide +kernel)
set_option maxRecDepth 20000 in
theorem gL_law_X5_state : GoodIn wsL_law (wsV RL 105 RX5 yX5_state wsX5_state) := goodIn_app (goodIn_of _ (by decide +kernel)) ggL_law_X5_state
set_option maxRecDepth 20000 in
theorem ggL_law_L_predicted : GoodIn wsL_law wsL_predicted := goodIn_ca (goodIn_r _ [433, 242, 434, 435, 436, 2, 437, 247, 248, 249, 250, 251, 252, 60, 438, 439, 440, 157, 158, 159, 160, 25, 59, 296, 297, 298, 33, 299, 300, 301, 302, 193, 565, 566, 567, 568, 569, 570, 571, 572, 573, 574, 575, 576, 577, 578, 579, 580, 608, 609, 610, 611, 612, 613, 614, 615, 616] (by decide +kernel) (by decide +kernel)) (goodIn_sub (fun _ h => List.mem_append_right _ h) (by decide +kernel))
set_option maxRecDepth 20000 in
theorem gL_law_L_predicted : GoodIn wsL_law (va_wsS RL 106 yL_predicted wsL_predicted) := goodIn_app (goodIn_of _ (by decide +kernel)) ggL_law_L_predicted
set_option maxRecDepth 20000 in
theorem ggL_law_X5_predicted : GoodIn wsL_law wsX5_predicted := goodIn_r _ [444, 121, 82, 265, 266, 267, 5, 268, 100, 445, 446, 447, 122, 123, 124, 125, 581, 582, 583, 584, 585, 586, 587, 588, 589, 590, 591, 592, 593, 594, 595, 596, 597, 598, 599, 600, 601, 602] (by decide +kernel) (by decide +kernel)
set_option maxRecDepth 20000 in
theorem gL_law_X5_predicted : GoodIn wsL_law (wsV RL 109 RX5 yX5_predicted wsX5_predicted) := goodIn_app (goodIn_of _ (by decide +kernel)) ggL_law_X5_predicted
set_option maxRecDepth 20000 in
theorem ggL_law_X4_history : GoodIn wsL_law wsX4_history := goodIn_r _ [451, 58, 565, 566, 567, 568, 569, 570, 571, 572, 573, 574, 575, 576, 577, 578, 579, 580] (by decide +kernel) (by decide +kernel)
set_option maxRecDepth 20000 in
theorem gL_law_X4_history : GoodIn wsL_law (wsV RL 110 RX4 yX4_history wsX4_history) := goodIn_app (goodIn_of _ (by decide +kernel)) ggL_law_X4_history
set_option maxRecDepth 20000 in
theorem ggL_law_X5_history : GoodIn wsL_law wsX5_history := goodIn_r _ [455, 121, 99, 581, 582, 583, 584, 585, 586, 587, 588, 589, 590, 591, 592, 593, 594, 595, 596, 597, 598, 599, 600, 601, 602] (by decide +kernel) (by decide +kernel)
set_option maxRecDepth 20000 in
theorem gL_law_X5_history : GoodIn wsL_law (wsV RL 113 RX5 yX5_history wsX5_history) := goodIn_app (goodIn_of _ (by decide +kernel)) ggL_law_X5_history
set_option maxRecDepth 20000 in
theorem ggL_law_L_counter : GoodIn wsL_law wsL_counter := goodIn_ca (goodIn_r _ [458, 242, 459, 460, 461, 2, 462, 251, 252, 463, 464, 465, 466, 467, 16, 17, 18, 468, 170, 171, 15, 172, 40, 603, 604, 565, 566, 567, 568, 569, 570, 571, 572, 573, 574, 575, 576, 577, 578, 579, 580] (by decide +kernel) (by decide +kernel)) (goodIn_sub (fun _ h => List.mem_append_right _ h) (by decide +kernel))
set_option maxRecDepth 20000 in
theorem gL_law_L_counter : GoodIn wsL_law (va_wsS RL 114 yL_counter wsL_counter) := goodIn_app (goodIn_of _ (by decide +kernel)) ggL_law_L_counter
set_option maxRecDepth 20000 in
theorem ggL_law_X5_counter : GoodIn wsL_law wsX5_counter := goodIn_r _ [472, 121, 77, 473, 474, 475, 5, 476, 97, 96, 269, 270, 271, 272, 581, 582, 583, 584, 585, 586, 587, 588, 589, 590, 591, 592, 593, 594, 595, 596, 597, 598, 599, 600, 601, 602] (by decide +kernel) (by decide +kernel)
set_option maxRecDepth 20000 in
theorem gL_law_X5_counter : GoodIn wsL_law (wsV RL 116 RX5 yX5_counter wsX5_counter) := goodIn_app (goodIn_of _ (by decide +kernel)) ggL_law_X5_counter
set_option maxRecDepth 20000 in
theorem ggL_law_L_loop : GoodIn wsL_law wsL_loop := goodIn_ca (goodIn_r _ [479, 242, 480, 481, 482, 2, 483, 251, 252, 27, 57, 187, 178, 177, 341, 342, 343, 35, 344, 52, 183, 184, 185, 186, 60, 148, 157, 158, 159, 160, 25, 59, 188, 189, 190, 33, 191, 192, 193, 565, 566, 567, 568, 569, 570, 571, 572, 573, 574, 575, 576, 577, 578, 579, 580, 617, 618, 619, 620, 608, 609, 610, 611, 612, 613, 614, 615, 616] (by decide +kernel) (by decide +kernel)) (goodIn_sub (fun _ h => List.mem_append_right _ h) (by decide +kernel))
set_option maxRecDepth 20000 in
theorem gL_law_L_loop : GoodIn wsL_law (va_wsS RL 117 yL_loop wsL_loop) := goodIn_app (goodIn_of _ (by decide +kernel)) ggL_law_L_loop
set_option maxRecDepth 20000 in
theorem ggL_law_X5_loop : GoodIn wsL_law wsX5_loop := goodIn_r _ [487, 121, 488, 489, 490, 5, 491, 85, 86, 87, 88, 89, 227, 228, 229, 230, 100, 79, 231, 232, 233, 234, 83, 84, 82, 269, 270, 271, 272, 581, 582, 583, 584, 585, 586, 587, 588, 589, 590, 591, 592, 593, 594, 595, 596, 597, 598, 599, 600, 601, 602] (by decide +kernel) (by decide +kernel)
set_option maxRecDepth 20000 in
theorem gL_law_X5_loop : GoodIn wsL_law (wsV RL 119 RX5 yX5_loop wsX5_loop) := goodIn_app (goodIn_of _ (by decide +kernel)) ggL_law_X5_loop
set_option maxRecDepth 20000 in
theorem ggL_law_X4_commits : GoodIn wsL_law wsX4_commits := goodIn_r _ [495, 61, 565, 566, 567, 568, 569, 570, 571, 572, 573, 574, 575, 576, 577, 578, 579, 580] (by decide +kernel) (by decide +kernel)
set_option maxRecDepth 20000 in
theorem gL_law_X4_commits : GoodIn wsL_law (wsV RL 120 RX4 yX4_commits wsX4_commits) := goodIn_app (goodIn_of _ (by decide +kernel)) ggL_law_X4_commits
set_option maxRecDepth 20000 in
theorem ggL_law_X5_commits : GoodIn wsL_law wsX5_commits := goodIn_r _ [499, 121, 101, 581, 582, 583, 584, 585, 586, 587, 588, 589, 590, 591, 592, 593, 594, 595, 596, 597, 598, 599, 600, 601, 602] (by decide +kernel) (by decide +kernel)
set_option maxRecDepth 20000 in
theorem gL_law_X5_commits : GoodIn wsL_law (wsV RL 124 RX5 yX5_commits wsX5_commits) := goodIn_app (goodIn_of _ (by decide +kernel)) ggL_law_X5_commits
set_option maxRecDepth 20000 in
theorem ggL_law_L_misses : GoodIn wsL_law wsL_misses := goodIn_ca (goodIn_r _ [502, 242, 503, 504, 505, 2, 506, 28, 438, 439, 440, 251, 252, 565, 566, 567, 568, 569, 570, 571, 572, 573, 574, 575, 576, 577, 578, 579, 580] (by decide +kernel) (by decide +kernel)) (goodIn_sub (fun _ h => List.mem_append_right _ h) (by decide +kernel))
set_option maxRecDepth 20000 in
theorem gL_law_L_misses : GoodIn wsL_law (va_wsS RL 125 yL_misses wsL_misses) := goodIn_app (goodIn_of _ (by decide +kernel)) ggL_law_L_misses
set_option maxRecDepth 20000 in
theorem ggL_law_X5_misses : GoodIn wsL_law wsX5_misses := goodIn_r _ [510, 121, 90, 445, 446, 5, 447, 269, 270, 271, 272, 581, 582, 583, 584, 585, 586, 587, 588, 589, 590, 591, 592, 593, 594, 595, 596, 597, 598, 599, 600, 601, 602] (by decide +kernel) (by decide +kernel)
set_option maxRecDepth 20000 in
theorem gL_law_X5_misses : GoodIn wsL_law (wsV RL 127 RX5 yX5_misses wsX5_misses) := goodIn_app (goodIn_of _ (by decide +kernel)) ggL_law_X5_misses
set_option maxRecDepth 20000 in
theorem ggL_law_X4_drops : GoodIn wsL_law wsX4_drops := goodIn_r _ [514, 62, 565, 566, 567, 568, 569, 570, 571, 572, 573, 574, 575, 576, 577, 578, 579, 580] (by decide +kernel) (by decide +kernel)
set_option maxRecDepth 20000 in
theorem gL_law_X4_drops : GoodIn wsL_law (wsV RL 128 RX4 yX4_drops wsX4_drops) := goodIn_app (goodIn_of _ (by decide +kernel)) ggL_law_X4_drops
set_option maxRecDepth 20000 in
theorem ggL_law_X5_drops : GoodIn wsL_law wsX5_drops := goodIn_r _ [518, 121, 102, 581, 582, 583, 584, 585, 586, 587, 588, 589, 590, 591, 592, 593, 594, 595, 596, 597, 598, 599, 600, 601, 602] (by decide +kernel) (by decide +kernel)
set_option maxRecDepth 20000 in
theorem gL_law_X5_drops : GoodIn wsL_law (wsV RL 131 RX5 yX5_drops wsX5_drops) := goodIn_app (goodIn_of _ (by decide +kernel)) ggL_law_X5_drops
set_option maxRecDepth 20000 in
theorem ggL_law_L_meetings : GoodIn wsL_law wsL_meetings := goodIn_ca (goodIn_r _ [521, 242, 522, 523, 524, 2, 525, 251, 252, 22, 23, 526, 527, 565, 566, 567, 568, 569, 570, 571, 572, 573, 574, 575, 576, 577, 578, 579, 580, 605, 606, 607] (by decide +kernel) (by decide +kernel)) (goodIn_sub (fun _ h => List.mem_append_right _ h) (by decide +kernel))
set_option maxRecDepth 20000 in
theorem gL_law_L_meetings : GoodIn wsL_law (va_wsS RL 132 yL_meetings wsL_meetings) := goodIn_app (goodIn_of _ (by decide +kernel)) ggL_law_L_meetings
set_option maxRecDepth 20000 in
theorem ggL_law_X5_meetings : GoodIn wsL_law wsX5_meetings := goodIn_r _ [531, 121, 91, 269, 270, 271, 5, 272, 581, 582, 583, 584, 585, 586, 587, 588, 589, 590, 591, 592, 593, 594, 595, 596, 597, 598, 599, 600, 601, 602] (by decide +kernel) (by decide +kernel)
set_option maxRecDepth 20000 in
theorem gL_law_X5_meetings : GoodIn wsL_law (wsV RL 134 RX5 yX5_meetings wsX5_meetings) := goodIn_app (goodIn_of _ (by decide +kernel)) ggL_law_X5_meetings
set_option maxRecDepth 20000 in
theorem ggL_law_X4_accuracy : GoodIn wsL_law wsX4_accuracy := goodIn_r _ [535, 61, 28, 565, 566, 567, 568, 569, 570, 571, 572, 573, 574, 575, 576, 577, 578, 579, 580] (by decide +kernel) (by decide +kernel)
set_option maxRecDepth 20000 in
theorem gL_law_X4_accuracy : GoodIn wsL_law (wsV RL 135 RX4 yX4_accuracy wsX4_accuracy) := goodIn_app (goodIn_of _ (by decide +kernel)) ggL_law_X4_accuracy
set_option maxRecDepth 20000 in
theorem ggL_law_X5_accuracy : GoodIn wsL_law wsX5_accuracy := goodIn_r _ [539, 121, 101, 90, 581, 582, 583, 584, 585, 586, 587, 588, 589, 590, 591, 592, 593, 594, 595, 596, 597, 598, 599, 600, 601, 602] (by decide +kernel) (by decide +kernel)
set_option maxRecDepth 20000 in
theorem gL_law_X5_accuracy : GoodIn wsL_law (wsV RL 139 RX5 yX5_accuracy wsX5_accuracy) := goodIn_app (goodIn_of _ (by decide +kernel)) ggL_law_X5_accuracy
set_option maxRecDepth 20000 in
theorem ggL_law_X4_digest : GoodIn wsL_law wsX4_digest := goodIn_r _ [543, 544, 29, 30, 31, 58, 16, 17, 18, 27, 60, 148, 149, 61, 62, 22, 527, 23, 545, 546, 2, 547, 548, 549, 550, 551, 15, 552, 41, 40, 553, 554, 555, 35, 556, 557, 52, 333, 334, 335, 558, 342, 343, 344, 157, 158, 159, 160, 25, 59, 565, 566, 567, 568, 569, 570, 571, 572, 573, 574, 575, 576, 577, 578, 579, 580, 608, 609, 610, 611, 612, 613, 614, 615, 616, 605, 606, 607, 603, 604, 617, 618, 619, 620] (by decide +kernel) (by decide +kernel)
set_option maxRecDepth 20000 in
theorem gL_law_X4_digest : GoodIn wsL_law (wsV RL 140 RX4 yX4_digest wsX4_digest) := goodIn_app (goodIn_of _ (by decide +kernel)) ggL_law_X4_digest
set_option maxRecDepth 20000 in
theorem ggL_law_X5_digest : GoodIn wsL_law wsX5_digest := goodIn_r _ [562, 121, 563, 96, 564, 97, 98, 99, 77, 100, 79, 101, 102, 91, 473, 474, 475, 5, 476, 488, 489, 490, 491, 85, 86, 87, 88, 89, 227, 228, 229, 230, 231, 232, 233, 234, 83, 84, 82, 427, 428, 429, 430, 277, 278, 279, 280, 581, 582, 583, 584, 585, 586, 587, 588, 589, 590, 591, 592, 593, 594, 595, 596, 597, 598, 599, 600, 601, 602] (by decide +kernel) (by decide +kernel)
set_option maxRecDepth 20000 in
theorem gL_law_X5_digest : GoodIn wsL_law (wsV RL 143 RX5 yX5_digest wsX5_digest) := goodIn_app (goodIn_of _ (by decide +kernel)) ggL_law_X5_digest
