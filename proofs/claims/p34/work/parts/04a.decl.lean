set_option maxRecDepth 20000 in
theorem ggL_adds_X0_addLine : GoodIn wsL_adds wsX0_addLine := goodIn_ca (goodIn_ca (goodIn_r _ [9, 10, 11, 12, 13, 14, 8, 15, 16, 17, 18, 19, 20, 21, 22, 23, 24, 25, 26, 27, 28, 29, 30, 31, 32, 33, 34, 35, 36, 37, 38] (by decide +kernel) (by decide +kernel)) (goodIn_sub (fun _ h => List.mem_cons_of_mem _ (List.mem_append_left _ (List.mem_append_right _ h))) (by decide +kernel))) (goodIn_sub (fun _ h => List.mem_cons_of_mem _ (List.mem_append_right _ h)) (by decide +kernel))
set_option maxRecDepth 20000 in
theorem gL_adds_X0_addLine : GoodIn wsL_adds (wsV RL 7 RX0 yX0_addLine wsX0_addLine) := goodIn_app (goodIn_of _ (by decide +kernel)) ggL_adds_X0_addLine
theorem dL_adds_0 : decode cL_adds 0 = .ok (.aload_n 0, 1) := by decide +kernel
theorem dL_adds_1 : decode cL_adds 1 = .ok (.iload_n 1, 1) := by decide +kernel
theorem dL_adds_2 : decode cL_adds 2 = .ok (.invokevirtual 7, 3) := by decide +kernel
theorem dL_adds_5 : decode cL_adds 5 = .ok (.ireturn, 1) := by decide +kernel
theorem dL_adds_6 : decode cL_adds 6 = .ok (.astore_n 2, 1) := by decide +kernel
theorem dL_adds_7 : decode cL_adds 7 = .ok (.ldc 15, 2) := by decide +kernel
theorem dL_adds_9 : decode cL_adds 9 = .ok (.ireturn, 1) := by decide +kernel
theorem dL_adds_10 : decode cL_adds 10 = .ok (.astore_n 2, 1) := by decide +kernel
theorem dL_adds_11 : decode cL_adds 11 = .ok (.ldc 18, 2) := by decide +kernel
theorem dL_adds_13 : decode cL_adds 13 = .ok (.ireturn, 1) := by decide +kernel
set_option maxRecDepth 20000 in
theorem ggL_changes_X0_changeValue : GoodIn wsL_changes wsX0_changeValue := goodIn_ca (goodIn_ca (goodIn_ca (goodIn_r _ [11, 12, 13, 14, 15, 16, 17, 18, 19, 10, 20, 21, 22, 23, 24, 25, 26, 27, 28, 29, 30, 31, 32, 33, 34, 35, 36, 37, 38, 39, 40, 41, 42, 43] (by decide +kernel) (by decide +kernel)) (goodIn_sub (fun _ h => List.mem_cons_of_mem _ (List.mem_append_left _ (List.mem_append_left _ (List.mem_append_right _ h)))) (by decide +kernel))) (goodIn_sub (fun _ h => List.mem_cons_of_mem _ (List.mem_append_left _ (List.mem_append_right _ h))) (by decide +kernel))) (goodIn_sub (fun _ h => List.mem_cons_of_mem _ (List.mem_append_right _ h)) (by decide +kernel))
set_option maxRecDepth 20000 in
theorem gL_changes_X0_changeValue : GoodIn wsL_changes (wsV RL 19 RX0 yX0_changeValue wsX0_changeValue) := goodIn_app (goodIn_of _ (by decide +kernel)) ggL_changes_X0_changeValue
theorem dL_changes_0 : decode cL_changes 0 = .ok (.aload_n 0, 1) := by decide +kernel
theorem dL_changes_1 : decode cL_changes 1 = .ok (.iload_n 1, 1) := by decide +kernel
theorem dL_changes_2 : decode cL_changes 2 = .ok (.iload_n 2, 1) := by decide +kernel
theorem dL_changes_3 : decode cL_changes 3 = .ok (.invokevirtual 19, 3) := by decide +kernel
theorem dL_changes_6 : decode cL_changes 6 = .ok (.ireturn, 1) := by decide +kernel
theorem dL_changes_7 : decode cL_changes 7 = .ok (.astore_n 3, 1) := by decide +kernel
theorem dL_changes_8 : decode cL_changes 8 = .ok (.ldc 25, 2) := by decide +kernel
theorem dL_changes_10 : decode cL_changes 10 = .ok (.ireturn, 1) := by decide +kernel
theorem dL_changes_11 : decode cL_changes 11 = .ok (.astore_n 3, 1) := by decide +kernel
theorem dL_changes_12 : decode cL_changes 12 = .ok (.ldc 15, 2) := by decide +kernel
theorem dL_changes_14 : decode cL_changes 14 = .ok (.ireturn, 1) := by decide +kernel
theorem dL_changes_15 : decode cL_changes 15 = .ok (.astore_n 3, 1) := by decide +kernel
theorem dL_changes_16 : decode cL_changes 16 = .ok (.ldc 18, 2) := by decide +kernel
theorem dL_changes_18 : decode cL_changes 18 = .ok (.ireturn, 1) := by decide +kernel
set_option maxRecDepth 20000 in
theorem ggL_splits_X0_split : GoodIn wsL_splits wsX0_split := goodIn_ca (goodIn_ca (goodIn_ca (goodIn_r _ [11, 12, 13, 14, 15, 16, 17, 18, 19, 20, 10, 21, 22, 23, 24, 25, 26, 27, 28, 29, 30, 31, 32, 33, 34, 35, 36, 37, 38, 39, 40, 41, 42, 43, 44, 45, 46, 47, 48, 49, 50, 51, 52, 53, 54, 55, 56, 57, 58, 59] (by decide +kernel) (by decide +kernel)) (goodIn_sub (fun _ h => List.mem_cons_of_mem _ (List.mem_append_left _ (List.mem_append_left _ (List.mem_append_right _ h)))) (by decide +kernel))) (goodIn_sub (fun _ h => List.mem_cons_of_mem _ (List.mem_append_left _ (List.mem_append_right _ h))) (by decide +kernel))) (goodIn_sub (fun _ h => List.mem_cons_of_mem _ (List.mem_append_right _ h)) (by decide +kernel))
set_option maxRecDepth 20000 in
theorem gL_splits_X0_split : GoodIn wsL_splits (wsV RL 26 RX0 yX0_split wsX0_split) := goodIn_app (goodIn_of _ (by decide +kernel)) ggL_splits_X0_split
theorem dL_splits_0 : decode cL_splits 0 = .ok (.aload_n 0, 1) := by decide +kernel
theorem dL_splits_1 : decode cL_splits 1 = .ok (.iload_n 1, 1) := by decide +kernel
theorem dL_splits_2 : decode cL_splits 2 = .ok (.iload_n 2, 1) := by decide +kernel
theorem dL_splits_3 : decode cL_splits 3 = .ok (.invokevirtual 26, 3) := by decide +kernel
theorem dL_splits_6 : decode cL_splits 6 = .ok (.ireturn, 1) := by decide +kernel
theorem dL_splits_7 : decode cL_splits 7 = .ok (.astore_n 3, 1) := by decide +kernel
theorem dL_splits_8 : decode cL_splits 8 = .ok (.ldc 25, 2) := by decide +kernel
theorem dL_splits_10 : decode cL_splits 10 = .ok (.ireturn, 1) := by decide +kernel
theorem dL_splits_11 : decode cL_splits 11 = .ok (.astore_n 3, 1) := by decide +kernel
theorem dL_splits_12 : decode cL_splits 12 = .ok (.ldc 15, 2) := by decide +kernel
theorem dL_splits_14 : decode cL_splits 14 = .ok (.ireturn, 1) := by decide +kernel
theorem dL_splits_15 : decode cL_splits 15 = .ok (.astore_n 3, 1) := by decide +kernel
theorem dL_splits_16 : decode cL_splits 16 = .ok (.ldc 18, 2) := by decide +kernel
theorem dL_splits_18 : decode cL_splits 18 = .ok (.ireturn, 1) := by decide +kernel
set_option maxRecDepth 20000 in
theorem ggL_works_X0_setWork : GoodIn wsL_works wsX0_setWork := goodIn_ca (goodIn_ca (goodIn_ca (goodIn_r _ [11, 12, 13, 14, 15, 16, 17, 18, 19, 10, 20, 21, 22, 23, 24, 25, 26, 27, 28, 29, 30, 31, 32, 33, 34, 35, 36, 37, 38, 39, 40, 41, 42, 43, 44, 45, 46, 47, 48, 49, 50, 51, 52, 53, 54, 55, 56] (by decide +kernel) (by decide +kernel)) (goodIn_sub (fun _ h => List.mem_cons_of_mem _ (List.mem_append_left _ (List.mem_append_left _ (List.mem_append_right _ h)))) (by decide +kernel))) (goodIn_sub (fun _ h => List.mem_cons_of_mem _ (List.mem_append_left _ (List.mem_append_right _ h))) (by decide +kernel))) (goodIn_sub (fun _ h => List.mem_cons_of_mem _ (List.mem_append_right _ h)) (by decide +kernel))
set_option maxRecDepth 20000 in
theorem gL_works_X0_setWork : GoodIn wsL_works (wsV RL 29 RX0 yX0_setWork wsX0_setWork) := goodIn_app (goodIn_of _ (by decide +kernel)) ggL_works_X0_setWork
theorem dL_works_0 : decode cL_works 0 = .ok (.aload_n 0, 1) := by decide +kernel
theorem dL_works_1 : decode cL_works 1 = .ok (.iload_n 1, 1) := by decide +kernel
theorem dL_works_2 : decode cL_works 2 = .ok (.iload_n 2, 1) := by decide +kernel
theorem dL_works_3 : decode cL_works 3 = .ok (.invokevirtual 29, 3) := by decide +kernel
theorem dL_works_6 : decode cL_works 6 = .ok (.ireturn, 1) := by decide +kernel
theorem dL_works_7 : decode cL_works 7 = .ok (.astore_n 3, 1) := by decide +kernel
theorem dL_works_8 : decode cL_works 8 = .ok (.ldc 25, 2) := by decide +kernel
theorem dL_works_10 : decode cL_works 10 = .ok (.ireturn, 1) := by decide +kernel
theorem dL_works_11 : decode cL_works 11 = .ok (.astore_n 3, 1) := by decide +kernel
theorem dL_works_12 : decode cL_works 12 = .ok (.ldc 15, 2) := by decide +kernel
theorem dL_works_14 : decode cL_works 14 = .ok (.ireturn, 1) := by decide +kernel
theorem dL_works_15 : decode cL_works 15 = .ok (.astore_n 3, 1) := by decide +kernel
theorem dL_works_16 : decode cL_works 16 = .ok (.ldc 18, 2) := by decide +kernel
theorem dL_works_18 : decode cL_works 18 = .ok (.ireturn, 1) := by decide +kernel
set_option maxRecDepth 20000 in
theorem ggL_stores_X0_store : GoodIn wsL_stores wsX0_store := goodIn_ca (goodIn_ca (goodIn_ca (goodIn_r _ [11, 12, 13, 14, 15, 16, 17, 10, 18, 19, 20, 21, 22, 23, 24, 25, 26, 27, 28, 29, 30, 31, 32, 33, 34, 35, 36, 37, 38, 39, 40, 41, 42, 43, 44, 45, 46, 47, 48] (by decide +kernel) (by decide +kernel)) (goodIn_sub (fun _ h => List.mem_cons_of_mem _ (List.mem_append_left _ (List.mem_append_left _ (List.mem_append_right _ h)))) (by decide +kernel))) (goodIn_sub (fun _ h => List.mem_cons_of_mem _ (List.mem_append_left _ (List.mem_append_right _ h))) (by decide +kernel))) (goodIn_sub (fun _ h => List.mem_cons_of_mem _ (List.mem_append_right _ h)) (by decide +kernel))
set_option maxRecDepth 20000 in
theorem gL_stores_X0_store : GoodIn wsL_stores (wsV RL 32 RX0 yX0_store wsX0_store) := goodIn_app (goodIn_of _ (by decide +kernel)) ggL_stores_X0_store
theorem dL_stores_0 : decode cL_stores 0 = .ok (.aload_n 0, 1) := by decide +kernel
theorem dL_stores_1 : decode cL_stores 1 = .ok (.iload_n 1, 1) := by decide +kernel
theorem dL_stores_2 : decode cL_stores 2 = .ok (.iload_n 2, 1) := by decide +kernel
theorem dL_stores_3 : decode cL_stores 3 = .ok (.invokevirtual 32, 3) := by decide +kernel
theorem dL_stores_6 : decode cL_stores 6 = .ok (.ireturn, 1) := by decide +kernel
theorem dL_stores_7 : decode cL_stores 7 = .ok (.astore_n 3, 1) := by decide +kernel
theorem dL_stores_8 : decode cL_stores 8 = .ok (.ldc 25, 2) := by decide +kernel
theorem dL_stores_10 : decode cL_stores 10 = .ok (.ireturn, 1) := by decide +kernel
theorem dL_stores_11 : decode cL_stores 11 = .ok (.astore_n 3, 1) := by decide +kernel
theorem dL_stores_12 : decode cL_stores 12 = .ok (.ldc 15, 2) := by decide +kernel
theorem dL_stores_14 : decode cL_stores 14 = .ok (.ireturn, 1) := by decide +kernel
theorem dL_stores_15 : decode cL_stores 15 = .ok (.astore_n 3, 1) := by decide +kernel
theorem dL_stores_16 : decode cL_stores 16 = .ok (.ldc 18, 2) := by decide +kernel
theorem dL_stores_18 : decode cL_stores 18 = .ok (.ireturn, 1) := by decide +kernel
set_option maxRecDepth 20000 in
theorem ggL_places_X0_place : GoodIn wsL_places wsX0_place := goodIn_ca (goodIn_ca (goodIn_ca (goodIn_r _ [11, 12, 13, 14, 15, 16, 17, 18, 19, 10, 20, 21, 22, 23, 24, 25, 26, 27, 28, 29, 30, 31, 32, 33, 34, 35, 36, 37, 38, 39, 40, 41, 42, 43] (by decide +kernel) (by decide +kernel)) (goodIn_sub (fun _ h => List.mem_cons_of_mem _ (List.mem_append_left _ (List.mem_append_left _ (List.mem_append_right _ h)))) (by decide +kernel))) (goodIn_sub (fun _ h => List.mem_cons_of_mem _ (List.mem_append_left _ (List.mem_append_right _ h))) (by decide +kernel))) (goodIn_sub (fun _ h => List.mem_cons_of_mem _ (List.mem_append_right _ h)) (by decide +kernel))
set_option maxRecDepth 20000 in
theorem gL_places_X0_place : GoodIn wsL_places (wsV RL 35 RX0 yX0_place wsX0_place) := goodIn_app (goodIn_of _ (by decide +kernel)) ggL_places_X0_place
theorem dL_places_0 : decode cL_places 0 = .ok (.aload_n 0, 1) := by decide +kernel
theorem dL_places_1 : decode cL_places 1 = .ok (.iload_n 1, 1) := by decide +kernel
theorem dL_places_2 : decode cL_places 2 = .ok (.iload_n 2, 1) := by decide +kernel
theorem dL_places_3 : decode cL_places 3 = .ok (.invokevirtual 35, 3) := by decide +kernel
theorem dL_places_6 : decode cL_places 6 = .ok (.ireturn, 1) := by decide +kernel
theorem dL_places_7 : decode cL_places 7 = .ok (.astore_n 3, 1) := by decide +kernel
theorem dL_places_8 : decode cL_places 8 = .ok (.ldc 25, 2) := by decide +kernel
theorem dL_places_10 : decode cL_places 10 = .ok (.ireturn, 1) := by decide +kernel
theorem dL_places_11 : decode cL_places 11 = .ok (.astore_n 3, 1) := by decide +kernel
theorem dL_places_12 : decode cL_places 12 = .ok (.ldc 15, 2) := by decide +kernel
theorem dL_places_14 : decode cL_places 14 = .ok (.ireturn, 1) := by decide +kernel
theorem dL_places_15 : decode cL_places 15 = .ok (.astore_n 3, 1) := by decide +kernel
theorem dL_places_16 : decode cL_places 16 = .ok (.ldc 18, 2) := by decide +kernel
theorem dL_places_18 : decode cL_places 18 = .ok (.ireturn, 1) := by decide +kernel
set_option maxRecDepth 20000 in
theorem ggL_sets_X0_setStep : GoodIn wsL_sets wsX0_setStep := goodIn_ca (goodIn_ca (goodIn_r _ [9, 10, 11, 12, 8, 13, 14, 15, 16, 17, 18, 19, 20, 21, 22, 23, 24, 25, 26, 27, 28, 29, 30, 31, 32, 33, 34, 35, 36, 37, 38, 39, 40, 41, 42] (by decide +kernel) (by decide +kernel)) (goodIn_sub (fun _ h => List.mem_cons_of_mem _ (List.mem_append_left _ (List.mem_append_right _ h))) (by decide +kernel))) (goodIn_sub (fun _ h => List.mem_cons_of_mem _ (List.mem_append_right _ h)) (by decide +kernel))
set_option maxRecDepth 20000 in
theorem gL_sets_X0_setStep : GoodIn wsL_sets (wsV RL 38 RX0 yX0_setStep wsX0_setStep) := goodIn_app (goodIn_of _ (by decide +kernel)) ggL_sets_X0_setStep
theorem dL_sets_0 : decode cL_sets 0 = .ok (.aload_n 0, 1) := by decide +kernel
theorem dL_sets_1 : decode cL_sets 1 = .ok (.iload_n 1, 1) := by decide +kernel
theorem dL_sets_2 : decode cL_sets 2 = .ok (.iload_n 2, 1) := by decide +kernel
theorem dL_sets_3 : decode cL_sets 3 = .ok (.invokevirtual 38, 3) := by decide +kernel
theorem dL_sets_6 : decode cL_sets 6 = .ok (.ireturn, 1) := by decide +kernel
theorem dL_sets_7 : decode cL_sets 7 = .ok (.astore_n 3, 1) := by decide +kernel
theorem dL_sets_8 : decode cL_sets 8 = .ok (.ldc 15, 2) := by decide +kernel
theorem dL_sets_10 : decode cL_sets 10 = .ok (.ireturn, 1) := by decide +kernel
theorem dL_sets_11 : decode cL_sets 11 = .ok (.astore_n 3, 1) := by decide +kernel
theorem dL_sets_12 : decode cL_sets 12 = .ok (.ldc 18, 2) := by decide +kernel
theorem dL_sets_14 : decode cL_sets 14 = .ok (.ireturn, 1) := by decide +kernel
set_option maxRecDepth 20000 in
theorem ggL_drops_X0_dropStep : GoodIn wsL_drops wsX0_dropStep := goodIn_ca (goodIn_ca (goodIn_r _ [9, 10, 11, 12, 13, 14, 15, 16, 8, 17, 18, 19, 20, 21, 22, 23, 24, 25, 26, 27, 28, 29, 30, 31, 32, 33, 34, 35, 36, 37, 38] (by decide +kernel) (by decide +kernel)) (goodIn_sub (fun _ h => List.mem_cons_of_mem _ (List.mem_append_left _ (List.mem_append_right _ h))) (by decide +kernel))) (goodIn_sub (fun _ h => List.mem_cons_of_mem _ (List.mem_append_right _ h)) (by decide +kernel))
set_option maxRecDepth 20000 in
theorem gL_drops_X0_dropStep : GoodIn wsL_drops (wsV RL 41 RX0 yX0_dropStep wsX0_dropStep) := goodIn_app (goodIn_of _ (by decide +kernel)) ggL_drops_X0_dropStep
theorem dL_drops_0 : decode cL_drops 0 = .ok (.aload_n 0, 1) := by decide +kernel
theorem dL_drops_1 : decode cL_drops 1 = .ok (.iload_n 1, 1) := by decide +kernel
theorem dL_drops_2 : decode cL_drops 2 = .ok (.invokevirtual 41, 3) := by decide +kernel
theorem dL_drops_5 : decode cL_drops 5 = .ok (.ireturn, 1) := by decide +kernel
theorem dL_drops_6 : decode cL_drops 6 = .ok (.astore_n 2, 1) := by decide +kernel
theorem dL_drops_7 : decode cL_drops 7 = .ok (.ldc 15, 2) := by decide +kernel
theorem dL_drops_9 : decode cL_drops 9 = .ok (.ireturn, 1) := by decide +kernel
theorem dL_drops_10 : decode cL_drops 10 = .ok (.astore_n 2, 1) := by decide +kernel
theorem dL_drops_11 : decode cL_drops 11 = .ok (.ldc 18, 2) := by decide +kernel
theorem dL_drops_13 : decode cL_drops 13 = .ok (.ireturn, 1) := by decide +kernel
set_option maxRecDepth 20000 in
theorem ggL_closes_X0_close : GoodIn wsL_closes wsX0_close := goodIn_ca (goodIn_r _ [7, 8, 9, 10, 11, 12, 13, 14, 15, 16, 17, 18, 19, 20, 6, 21, 22, 23, 24, 25, 26, 27, 28, 29, 30, 31, 32, 33, 34, 35, 36, 37, 38, 39, 40, 41, 42, 43, 44, 45, 46, 47, 48, 49, 50, 51, 52, 53, 54, 55, 56, 57, 58, 59, 60, 61, 62, 63, 64, 65, 66, 67, 68, 69, 70, 71, 72, 73, 74, 75, 76, 77, 78] (by decide +kernel) (by decide +kernel)) (goodIn_sub (fun _ h => List.mem_cons_of_mem _ (List.mem_append_right _ h)) (by decide +kernel))
set_option maxRecDepth 20000 in
theorem gL_closes_X0_close : GoodIn wsL_closes (wsV RL 44 RX0 yX0_close wsX0_close) := goodIn_app (goodIn_of _ (by decide +kernel)) ggL_closes_X0_close
theorem dL_closes_0 : decode cL_closes 0 = .ok (.aload_n 0, 1) := by decide +kernel
theorem dL_closes_1 : decode cL_closes 1 = .ok (.invokevirtual 44, 3) := by decide +kernel
theorem dL_closes_4 : decode cL_closes 4 = .ok (.ireturn, 1) := by decide +kernel
theorem dL_closes_5 : decode cL_closes 5 = .ok (.astore_n 1, 1) := by decide +kernel
theorem dL_closes_6 : decode cL_closes 6 = .ok (.ldc 18, 2) := by decide +kernel
theorem dL_closes_8 : decode cL_closes 8 = .ok (.ireturn, 1) := by decide +kernel
set_option maxRecDepth 20000 in
theorem ggL_pays_X0_pay : GoodIn wsL_pays wsX0_pay := goodIn_ca (goodIn_ca (goodIn_r _ [9, 10, 11, 12, 13, 14, 15, 16, 8, 17, 18, 19, 20, 21, 22, 23, 24, 25, 26, 27, 28, 29, 30, 31, 32, 33, 34, 35, 36, 37, 38, 39] (by decide +kernel) (by decide +kernel)) (goodIn_sub (fun _ h => List.mem_cons_of_mem _ (List.mem_append_left _ (List.mem_append_right _ h))) (by decide +kernel))) (goodIn_sub (fun _ h => List.mem_cons_of_mem _ (List.mem_append_right _ h)) (by decide +kernel))
set_option maxRecDepth 20000 in
theorem gL_pays_X0_pay : GoodIn wsL_pays (wsV RL 48 RX0 yX0_pay wsX0_pay) := goodIn_app (goodIn_of _ (by decide +kernel)) ggL_pays_X0_pay
theorem dL_pays_0 : decode cL_pays 0 = .ok (.aload_n 0, 1) := by decide +kernel
theorem dL_pays_1 : decode cL_pays 1 = .ok (.iload_n 1, 1) := by decide +kernel
theorem dL_pays_2 : decode cL_pays 2 = .ok (.invokevirtual 48, 3) := by decide +kernel
theorem dL_pays_5 : decode cL_pays 5 = .ok (.ireturn, 1) := by decide +kernel
theorem dL_pays_6 : decode cL_pays 6 = .ok (.astore_n 2, 1) := by decide +kernel
theorem dL_pays_7 : decode cL_pays 7 = .ok (.ldc 25, 2) := by decide +kernel
theorem dL_pays_9 : decode cL_pays 9 = .ok (.ireturn, 1) := by decide +kernel
theorem dL_pays_10 : decode cL_pays 10 = .ok (.astore_n 2, 1) := by decide +kernel
theorem dL_pays_11 : decode cL_pays 11 = .ok (.ldc 18, 2) := by decide +kernel
theorem dL_pays_13 : decode cL_pays 13 = .ok (.ireturn, 1) := by decide +kernel
set_option maxRecDepth 20000 in
theorem ggL_waives_X0_waive : GoodIn wsL_waives wsX0_waive := goodIn_ca (goodIn_ca (goodIn_r _ [9, 10, 11, 12, 13, 14, 15, 8, 16, 17, 18, 19, 20, 21, 22, 23, 24, 25, 26, 27, 28, 29, 30, 31, 32, 33, 34, 35, 36, 37, 38] (by decide +kernel) (by decide +kernel)) (goodIn_sub (fun _ h => List.mem_cons_of_mem _ (List.mem_append_left _ (List.mem_append_right _ h))) (by decide +kernel))) (goodIn_sub (fun _ h => List.mem_cons_of_mem _ (List.mem_append_right _ h)) (by decide +kernel))
set_option maxRecDepth 20000 in
theorem gL_waives_X0_waive : GoodIn wsL_waives (wsV RL 51 RX0 yX0_waive wsX0_waive) := goodIn_app (goodIn_of _ (by decide +kernel)) ggL_waives_X0_waive
theorem dL_waives_0 : decode cL_waives 0 = .ok (.aload_n 0, 1) := by decide +kernel
theorem dL_waives_1 : decode cL_waives 1 = .ok (.iload_n 1, 1) := by decide +kernel
theorem dL_waives_2 : decode cL_waives 2 = .ok (.invokevirtual 51, 3) := by decide +kernel
theorem dL_waives_5 : decode cL_waives 5 = .ok (.ireturn, 1) := by decide +kernel
theorem dL_waives_6 : decode cL_waives 6 = .ok (.astore_n 2, 1) := by decide +kernel
theorem dL_waives_7 : decode cL_waives 7 = .ok (.ldc 25, 2) := by decide +kernel
theorem dL_waives_9 : decode cL_waives 9 = .ok (.ireturn, 1) := by decide +kernel
theorem dL_waives_10 : decode cL_waives 10 = .ok (.astore_n 2, 1) := by decide +kernel
theorem dL_waives_11 : decode cL_waives 11 = .ok (.ldc 18, 2) := by decide +kernel
theorem dL_waives_13 : decode cL_waives 13 = .ok (.ireturn, 1) := by decide +kernel
set_option maxRecDepth 20000 in
theorem ggL_state_X0_state : GoodIn wsL_state wsX0_state := goodIn_ca (goodIn_r _ [7, 8, 9, 10, 11, 6, 12, 13, 14, 15, 16, 17, 18, 19, 20, 21, 22, 23, 24, 25, 26, 27, 28, 29, 30] (by decide +kernel) (by decide +kernel)) (goodIn_sub (fun _ h => List.mem_cons_of_mem _ (List.mem_append_right _ h)) (by decide +kernel))
set_option maxRecDepth 20000 in
theorem gL_state_X0_state : GoodIn wsL_state (wsV RL 54 RX0 yX0_state wsX0_state) := goodIn_app (goodIn_of _ (by decide +kernel)) ggL_state_X0_state
theorem dL_state_0 : decode cL_state 0 = .ok (.aload_n 0, 1) := by decide +kernel
theorem dL_state_1 : decode cL_state 1 = .ok (.iload_n 1, 1) := by decide +kernel
theorem dL_state_2 : decode cL_state 2 = .ok (.invokevirtual 54, 3) := by decide +kernel
theorem dL_state_5 : decode cL_state 5 = .ok (.ireturn, 1) := by decide +kernel
theorem dL_state_6 : decode cL_state 6 = .ok (.astore_n 2, 1) := by decide +kernel
theorem dL_state_7 : decode cL_state 7 = .ok (.ldc 25, 2) := by decide +kernel
theorem dL_state_9 : decode cL_state 9 = .ok (.ireturn, 1) := by decide +kernel
set_option maxRecDepth 20000 in
theorem ggL_amount_X0_amount : GoodIn wsL_amount wsX0_amount := goodIn_ca (goodIn_r _ [7, 8, 9, 10, 11, 6, 12, 13, 14, 15, 16, 17, 18, 19, 20, 21, 22, 23, 24, 25, 26, 27, 28, 29, 30] (by decide +kernel) (by decide +kernel)) (goodIn_sub (fun _ h => List.mem_cons_of_mem _ (List.mem_append_right _ h)) (by decide +kernel))
set_option maxRecDepth 20000 in
theorem gL_amount_X0_amount : GoodIn wsL_amount (wsV RL 57 RX0 yX0_amount wsX0_amount) := goodIn_app (goodIn_of _ (by decide +kernel)) ggL_amount_X0_amount
theorem dL_amount_0 : decode cL_amount 0 = .ok (.aload_n 0, 1) := by decide +kernel
theorem dL_amount_1 : decode cL_amount 1 = .ok (.iload_n 1, 1) := by decide +kernel
theorem dL_amount_2 : decode cL_amount 2 = .ok (.invokevirtual 57, 3) := by decide +kernel
theorem dL_amount_5 : decode cL_amount 5 = .ok (.ireturn, 1) := by decide +kernel
theorem dL_amount_6 : decode cL_amount 6 = .ok (.astore_n 2, 1) := by decide +kernel
theorem dL_amount_7 : decode cL_amount 7 = .ok (.ldc 25, 2) := by decide +kernel
theorem dL_amount_9 : decode cL_amount 9 = .ok (.ireturn, 1) := by decide +kernel
set_option maxRecDepth 20000 in
theorem ggL_billedBehind_X0_billedBehind : GoodIn wsL_billedBehind wsX0_billedBehind := goodIn_ca (goodIn_r _ [7, 8, 9, 10, 11, 6, 12, 13, 14, 15, 16, 17, 18, 19, 20, 21, 22, 23, 24, 25, 26, 27, 28, 29, 30] (by decide +kernel) (by decide +kernel)) (goodIn_sub (fun _ h => List.mem_cons_of_mem _ (List.mem_append_right _ h)) (by decide +kernel))
set_option maxRecDepth 20000 in
theorem gL_billedBehind_X0_billedBehind : GoodIn wsL_billedBehind (wsV RL 60 RX0 yX0_billedBehind wsX0_billedBehind) := goodIn_app (goodIn_of _ (by decide +kernel)) ggL_billedBehind_X0_billedBehind
theorem dL_billedBehind_0 : decode cL_billedBehind 0 = .ok (.aload_n 0, 1) := by decide +kernel
theorem dL_billedBehind_1 : decode cL_billedBehind 1 = .ok (.iload_n 1, 1) := by decide +kernel
theorem dL_billedBehind_2 : decode cL_billedBehind 2 = .ok (.invokevirtual 60, 3) := by decide +kernel
theorem dL_billedBehind_5 : decode cL_billedBehind 5 = .ok (.ireturn, 1) := by decide +kernel
theorem dL_billedBehind_6 : decode cL_billedBehind 6 = .ok (.astore_n 2, 1) := by decide +kernel
theorem dL_billedBehind_7 : decode cL_billedBehind 7 = .ok (.ldc 25, 2) := by decide +kernel
theorem dL_billedBehind_9 : decode cL_billedBehind 9 = .ok (.ireturn, 1) := by decide +kernel
set_option maxRecDepth 20000 in
theorem ggL_heldBehind_X0_heldBehind : GoodIn wsL_heldBehind wsX0_heldBehind := goodIn_ca (goodIn_r _ [7, 8, 9, 10, 11, 6, 12, 13, 14, 15, 16, 17, 18, 19, 20, 21, 22, 23, 24, 25, 26, 27, 28, 29, 30] (by decide +kernel) (by decide +kernel)) (goodIn_sub (fun _ h => List.mem_cons_of_mem _ (List.mem_append_right _ h)) (by decide +kernel))
set_option maxRecDepth 20000 in
theorem gL_heldBehind_X0_heldBehind : GoodIn wsL_heldBehind (wsV RL 63 RX0 yX0_heldBehind wsX0_heldBehind) := goodIn_app (goodIn_of _ (by decide +kernel)) ggL_heldBehind_X0_heldBehind
theorem dL_heldBehind_0 : decode cL_heldBehind 0 = .ok (.aload_n 0, 1) := by decide +kernel
theorem dL_heldBehind_1 : decode cL_heldBehind 1 = .ok (.iload_n 1, 1) := by decide +kernel
theorem dL_heldBehind_2 : decode cL_heldBehind 2 = .ok (.invokevirtual 63, 3) := by decide +kernel
theorem dL_heldBehind_5 : decode cL_heldBehind 5 = .ok (.ireturn, 1) := by decide +kernel
theorem dL_heldBehind_6 : decode cL_heldBehind 6 = .ok (.astore_n 2, 1) := by decide +kernel
theorem dL_heldBehind_7 : decode cL_heldBehind 7 = .ok (.ldc 25, 2) := by decide +kernel
theorem dL_heldBehind_9 : decode cL_heldBehind 9 = .ok (.ireturn, 1) := by decide +kernel
set_option maxRecDepth 20000 in
theorem ggL_value_X0_value : GoodIn wsL_value wsX0_value := goodIn_ca (goodIn_r _ [7, 8, 9, 10, 11, 6, 12, 13, 14, 15, 16, 17, 18, 19, 20, 21, 22, 23, 24, 25, 26, 27, 28, 29, 30] (by decide +kernel) (by decide +kernel)) (goodIn_sub (fun _ h => List.mem_cons_of_mem _ (List.mem_append_right _ h)) (by decide +kernel))
set_option maxRecDepth 20000 in
theorem gL_value_X0_value : GoodIn wsL_value (wsV RL 66 RX0 yX0_value wsX0_value) := goodIn_app (goodIn_of _ (by decide +kernel)) ggL_value_X0_value
theorem dL_value_0 : decode cL_value 0 = .ok (.aload_n 0, 1) := by decide +kernel
theorem dL_value_1 : decode cL_value 1 = .ok (.iload_n 1, 1) := by decide +kernel
theorem dL_value_2 : decode cL_value 2 = .ok (.invokevirtual 66, 3) := by decide +kernel
theorem dL_value_5 : decode cL_value 5 = .ok (.ireturn, 1) := by decide +kernel
theorem dL_value_6 : decode cL_value 6 = .ok (.astore_n 2, 1) := by decide +kernel
theorem dL_value_7 : decode cL_value 7 = .ok (.ldc 25, 2) := by decide +kernel
theorem dL_value_9 : decode cL_value 9 = .ok (.ireturn, 1) := by decide +kernel
set_option maxRecDepth 20000 in
theorem ggL_work_X0_work : GoodIn wsL_work wsX0_work := goodIn_ca (goodIn_r _ [7, 8, 9, 10, 11, 6, 12, 13, 14, 15, 16, 17, 18, 19, 20, 21, 22, 23, 24, 25, 26, 27, 28, 29, 30] (by decide +kernel) (by decide +kernel)) (goodIn_sub (fun _ h => List.mem_cons_of_mem _ (List.mem_append_right _ h)) (by decide +kernel))
set_option maxRecDepth 20000 in
theorem gL_work_X0_work : GoodIn wsL_work (wsV RL 69 RX0 yX0_work wsX0_work) := goodIn_app (goodIn_of _ (by decide +kernel)) ggL_work_X0_work
theorem dL_work_0 : decode cL_work 0 = .ok (.aload_n 0, 1) := by decide +kernel
theorem dL_work_1 : decode cL_work 1 = .ok (.iload_n 1, 1) := by decide +kernel
theorem dL_work_2 : decode cL_work 2 = .ok (.invokevirtual 69, 3) := by decide +kernel
theorem dL_work_5 : decode cL_work 5 = .ok (.ireturn, 1) := by decide +kernel
theorem dL_work_6 : decode cL_work 6 = .ok (.astore_n 2, 1) := by decide +kernel
theorem dL_work_7 : decode cL_work 7 = .ok (.ldc 25, 2) := by decide +kernel
theorem dL_work_9 : decode cL_work 9 = .ok (.ireturn, 1) := by decide +kernel
set_option maxRecDepth 20000 in
theorem ggL_goods_X0_goods : GoodIn wsL_goods wsX0_goods := goodIn_ca (goodIn_r _ [7, 8, 9, 10, 11, 12, 6, 13, 14, 15, 16, 17, 18, 19, 20, 21, 22, 23, 24, 25, 26, 27, 28, 29, 30, 31] (by decide +kernel) (by decide +kernel)) (goodIn_sub (fun _ h => List.mem_cons_of_mem _ (List.mem_append_right _ h)) (by decide +kernel))
set_option maxRecDepth 20000 in
theorem gL_goods_X0_goods : GoodIn wsL_goods (wsV RL 72 RX0 yX0_goods wsX0_goods) := goodIn_app (goodIn_of _ (by decide +kernel)) ggL_goods_X0_goods
theorem dL_goods_0 : decode cL_goods 0 = .ok (.aload_n 0, 1) := by decide +kernel
theorem dL_goods_1 : decode cL_goods 1 = .ok (.iload_n 1, 1) := by decide +kernel
theorem dL_goods_2 : decode cL_goods 2 = .ok (.invokevirtual 72, 3) := by decide +kernel
theorem dL_goods_5 : decode cL_goods 5 = .ok (.ireturn, 1) := by decide +kernel
theorem dL_goods_6 : decode cL_goods 6 = .ok (.astore_n 2, 1) := by decide +kernel
theorem dL_goods_7 : decode cL_goods 7 = .ok (.ldc 25, 2) := by decide +kernel
theorem dL_goods_9 : decode cL_goods 9 = .ok (.ireturn, 1) := by decide +kernel
set_option maxRecDepth 20000 in
theorem ggL_billed_X0_billed : GoodIn wsL_billed wsX0_billed := goodIn_ca (goodIn_r _ [7, 8, 9, 10, 11, 6, 12, 13, 14, 15, 16, 17, 18, 19, 20, 21, 22, 23, 24, 25, 26, 27, 28, 29, 30] (by decide +kernel) (by decide +kernel)) (goodIn_sub (fun _ h => List.mem_cons_of_mem _ (List.mem_append_right _ h)) (by decide +kernel))
set_option maxRecDepth 20000 in
theorem gL_billed_X0_billed : GoodIn wsL_billed (wsV RL 75 RX0 yX0_billed wsX0_billed) := goodIn_app (goodIn_of _ (by decide +kernel)) ggL_billed_X0_billed
theorem dL_billed_0 : decode cL_billed 0 = .ok (.aload_n 0, 1) := by decide +kernel
theorem dL_billed_1 : decode cL_billed 1 = .ok (.iload_n 1, 1) := by decide +kernel
theorem dL_billed_2 : decode cL_billed 2 = .ok (.invokevirtual 75, 3) := by decide +kernel
theorem dL_billed_5 : decode cL_billed 5 = .ok (.ireturn, 1) := by decide +kernel
theorem dL_billed_6 : decode cL_billed 6 = .ok (.astore_n 2, 1) := by decide +kernel
theorem dL_billed_7 : decode cL_billed 7 = .ok (.ldc 25, 2) := by decide +kernel
theorem dL_billed_9 : decode cL_billed 9 = .ok (.ireturn, 1) := by decide +kernel
set_option maxRecDepth 20000 in
theorem ggL_held_X0_held : GoodIn wsL_held wsX0_held := goodIn_ca (goodIn_r _ [7, 8, 9, 10, 11, 6, 12, 13, 14, 15, 16, 17, 18, 19, 20, 21, 22, 23, 24, 25, 26, 27, 28, 29, 30] (by decide +kernel) (by decide +kernel)) (goodIn_sub (fun _ h => List.mem_cons_of_mem _ (List.mem_append_right _ h)) (by decide +kernel))
set_option maxRecDepth 20000 in
theorem gL_held_X0_held : GoodIn wsL_held (wsV RL 78 RX0 yX0_held wsX0_held) := goodIn_app (goodIn_of _ (by decide +kernel)) ggL_held_X0_held
theorem dL_held_0 : decode cL_held 0 = .ok (.aload_n 0, 1) := by decide +kernel
theorem dL_held_1 : decode cL_held 1 = .ok (.iload_n 1, 1) := by decide +kernel
theorem dL_held_2 : decode cL_held 2 = .ok (.invokevirtual 78, 3) := by decide +kernel
theorem dL_held_5 : decode cL_held 5 = .ok (.ireturn, 1) := by decide +kernel
theorem dL_held_6 : decode cL_held 6 = .ok (.astore_n 2, 1) := by decide +kernel
theorem dL_held_7 : decode cL_held 7 = .ok (.ldc 25, 2) := by decide +kernel
theorem dL_held_9 : decode cL_held 9 = .ok (.ireturn, 1) := by decide +kernel
set_option maxRecDepth 20000 in
theorem ggL_byShare_X0_lineByShare : GoodIn wsL_byShare wsX0_lineByShare := goodIn_ca (goodIn_r _ [7, 8, 9, 10, 11, 6, 12, 13, 14, 15, 16, 17, 18, 19, 20, 21, 22, 23, 24, 25, 26, 27, 28, 29, 30, 31, 32, 33, 34, 35, 36, 37, 38, 39, 40, 41, 42, 43, 44, 45, 46, 47] (by decide +kernel) (by decide +kernel)) (goodIn_sub (fun _ h => List.mem_cons_of_mem _ (List.mem_append_right _ h)) (by decide +kernel))
set_option maxRecDepth 20000 in
theorem gL_byShare_X0_lineByShare : GoodIn wsL_byShare (wsV RL 81 RX0 yX0_lineByShare wsX0_lineByShare) := goodIn_app (goodIn_of _ (by decide +kernel)) ggL_byShare_X0_lineByShare
theorem dL_byShare_0 : decode cL_byShare 0 = .ok (.aload_n 0, 1) := by decide +kernel
theorem dL_byShare_1 : decode cL_byShare 1 = .ok (.iload_n 1, 1) := by decide +kernel
theorem dL_byShare_2 : decode cL_byShare 2 = .ok (.invokevirtual 81, 3) := by decide +kernel
theorem dL_byShare_5 : decode cL_byShare 5 = .ok (.ireturn, 1) := by decide +kernel
theorem dL_byShare_6 : decode cL_byShare 6 = .ok (.astore_n 2, 1) := by decide +kernel
theorem dL_byShare_7 : decode cL_byShare 7 = .ok (.ldc 25, 2) := by decide +kernel
theorem dL_byShare_9 : decode cL_byShare 9 = .ok (.ireturn, 1) := by decide +kernel
theorem dL_drawn_0 : decode cL_drawn 0 = .ok (.iload_n 1, 1) := by decide +kernel
theorem dL_drawn_1 : decode cL_drawn 1 = .ok (.aload_n 0, 1) := by decide +kernel
theorem dL_drawn_2 : decode cL_drawn 2 = .ok (.arraylength, 1) := by decide +kernel
theorem dL_drawn_3 : decode cL_drawn 3 = .ok (.if_icmp .ge 9, 3) := by decide +kernel
theorem dL_drawn_6 : decode cL_drawn 6 = .ok (.aload_n 0, 1) := by decide +kernel
theorem dL_drawn_7 : decode cL_drawn 7 = .ok (.iload_n 1, 1) := by decide +kernel
theorem dL_drawn_8 : decode cL_drawn 8 = .ok (.iaload, 1) := by decide +kernel
theorem dL_drawn_9 : decode cL_drawn 9 = .ok (.goto 13, 3) := by decide +kernel
theorem dL_drawn_12 : decode cL_drawn 12 = .ok (.ldc 84, 2) := by decide +kernel
theorem dL_drawn_14 : decode cL_drawn 14 = .ok (.iload_n 1, 1) := by decide +kernel
theorem dL_drawn_15 : decode cL_drawn 15 = .ok (.iconst 3, 1) := by decide +kernel
theorem dL_drawn_16 : decode cL_drawn 16 = .ok (.iadd, 1) := by decide +kernel
theorem dL_drawn_17 : decode cL_drawn 17 = .ok (.imul, 1) := by decide +kernel
theorem dL_drawn_18 : decode cL_drawn 18 = .ok (.sipush 13523, 3) := by decide +kernel
theorem dL_drawn_21 : decode cL_drawn 21 = .ok (.iadd, 1) := by decide +kernel
theorem dL_drawn_22 : decode cL_drawn 22 = .ok (.ldc 85, 2) := by decide +kernel
theorem dL_drawn_24 : decode cL_drawn 24 = .ok (.iand, 1) := by decide +kernel
theorem dL_drawn_25 : decode cL_drawn 25 = .ok (.ireturn, 1) := by decide +kernel
set_option maxRecDepth 20000 in
theorem ggL_refuses_X0_lines : GoodIn wsL_refuses wsX0_lines := goodIn_r _ [10, 11, 277, 278, 279, 280, 281, 282, 283, 284, 285, 286, 287, 288, 289, 290, 291] (by decide +kernel) (by decide +kernel)
set_option maxRecDepth 20000 in
theorem gL_refuses_X0_lines : GoodIn wsL_refuses (wsV RL 86 RX0 yX0_lines wsX0_lines) := goodIn_app (goodIn_of _ (by decide +kernel)) ggL_refuses_X0_lines
set_option maxRecDepth 20000 in
theorem ggL_refuses_X0_applications : GoodIn wsL_refuses wsX0_applications := goodIn_r _ [15, 16, 277, 278, 279, 280, 281, 282, 283, 284, 285, 286, 287, 288, 289, 290, 291] (by decide +kernel) (by decide +kernel)
set_option maxRecDepth 20000 in
theorem gL_refuses_X0_applications : GoodIn wsL_refuses (wsV RL 89 RX0 yX0_applications wsX0_applications) := goodIn_app (goodIn_of _ (by decide +kernel)) ggL_refuses_X0_applications
set_option maxRecDepth 20000 in
theorem ggL_refuses_L_adds : GoodIn wsL_refuses wsL_adds := goodIn_ca (goodIn_ca (goodIn_r _ [20, 21, 22, 1, 4, 23, 24, 25, 9, 26, 27, 11, 28, 29, 30, 31, 32, 33, 34, 35, 36, 37, 38, 39, 277, 278, 279, 280, 281, 282, 283, 284, 285, 286, 287, 288, 289, 290, 291] (by decide +kernel) (by decide +kernel)) (goodIn_sub (fun _ h => List.mem_cons_of_mem _ (List.mem_append_left _ (List.mem_append_left _ (List.mem_append_right _ h)))) (by decide +kernel))) (goodIn_sub (fun _ h => List.mem_cons_of_mem _ (List.mem_append_left _ (List.mem_append_right _ h))) (by decide +kernel))
set_option maxRecDepth 20000 in
theorem gL_refuses_L_adds : GoodIn wsL_refuses (va_wsS RL 92 yL_adds wsL_adds) := goodIn_app (goodIn_of _ (by decide +kernel)) ggL_refuses_L_adds
set_option maxRecDepth 20000 in
theorem ggL_refuses_L_changes : GoodIn wsL_refuses wsL_changes := goodIn_ca (goodIn_ca (goodIn_ca (goodIn_r _ [42, 43, 21, 22, 3, 1, 4, 44, 45, 46, 9, 47, 38, 39, 27, 48, 28, 49, 50, 51, 52, 53, 54, 11, 29, 30, 31, 32, 33, 277, 278, 279, 280, 281, 282, 283, 284, 285, 286, 287, 288, 289, 290, 291] (by decide +kernel) (by decide +kernel)) (goodIn_sub (fun _ h => List.mem_cons_of_mem _ (List.mem_append_left _ (List.mem_append_right _ h))) (by decide +kernel))) (goodIn_sub (fun _ h => List.mem_cons_of_mem _ (List.mem_append_right _ h)) (by decide +kernel))) (goodIn_sub (fun _ h => List.mem_cons_of_mem _ (List.mem_append_left _ (List.mem_append_left _ (List.mem_append_right _ h)))) (by decide +kernel))
set_option maxRecDepth 20000 in
theorem gL_refuses_L_changes : GoodIn wsL_refuses (va_wsS RL 99 yL_changes wsL_changes) := goodIn_app (goodIn_of _ (by decide +kernel)) ggL_refuses_L_changes
set_option maxRecDepth 20000 in
theorem ggL_refuses_L_splits : GoodIn wsL_refuses wsL_splits := goodIn_ca (goodIn_ca (goodIn_ca (goodIn_r _ [57, 43, 21, 22, 3, 1, 4, 58, 59, 60, 9, 61, 28, 11, 48, 62, 63, 64, 49, 50, 51, 52, 53, 54, 29, 30, 31, 32, 33, 34, 35, 36, 37, 38, 39, 65, 66, 67, 68, 69, 70, 71, 72, 73, 74, 277, 278, 279, 280, 281, 282, 283, 284, 285, 286, 287, 288, 289, 290, 291] (by decide +kernel) (by decide +kernel)) (goodIn_sub (fun _ h => List.mem_cons_of_mem _ (List.mem_append_right _ h)) (by decide +kernel))) (goodIn_sub (fun _ h => List.mem_cons_of_mem _ (List.mem_append_left _ (List.mem_append_left _ (List.mem_append_right _ h)))) (by decide +kernel))) (goodIn_sub (fun _ h => List.mem_cons_of_mem _ (List.mem_append_left _ (List.mem_append_right _ h))) (by decide +kernel))
set_option maxRecDepth 20000 in
theorem gL_refuses_L_splits : GoodIn wsL_refuses (va_wsS RL 103 yL_splits wsL_splits) := goodIn_app (goodIn_of _ (by decide +kernel)) ggL_refuses_L_splits
set_option maxRecDepth 20000 in
theorem ggL_refuses_L_works : GoodIn wsL_refuses wsL_works := goodIn_ca (goodIn_ca (goodIn_ca (goodIn_r _ [77, 43, 21, 22, 3, 1, 4, 78, 79, 80, 9, 81, 38, 39, 28, 62, 48, 49, 50, 51, 52, 53, 54, 11, 29, 30, 31, 32, 33, 82, 83, 84, 85, 86, 71, 72, 73, 74, 87, 88, 89, 90, 277, 278, 279, 280, 281, 282, 283, 284, 285, 286, 287, 288, 289, 290, 291] (by decide +kernel) (by decide +kernel)) (goodIn_sub (fun _ h => List.mem_cons_of_mem _ (List.mem_append_left _ (List.mem_append_right _ h))) (by decide +kernel))) (goodIn_sub (fun _ h => List.mem_cons_of_mem _ (List.mem_append_right _ h)) (by decide +kernel))) (goodIn_sub (fun _ h => List.mem_cons_of_mem _ (List.mem_append_left _ (List.mem_append_left _ (List.mem_append_right _ h)))) (by decide +kernel))
set_option maxRecDepth 20000 in
theorem gL_refuses_L_works : GoodIn wsL_refuses (va_wsS RL 106 yL_works wsL_works) := goodIn_app (goodIn_of _ (by decide +kernel)) ggL_refuses_L_works
set_option maxRecDepth 20000 in
theorem ggL_refuses_L_stores : GoodIn wsL_refuses wsL_stores := goodIn_ca (goodIn_ca (goodIn_ca (goodIn_r _ [93, 43, 21, 22, 3, 1, 4, 94, 95, 96, 9, 97, 27, 48, 62, 49, 50, 51, 52, 53, 54, 11, 29, 30, 31, 32, 33, 87, 88, 89, 90, 38, 39, 28, 277, 278, 279, 280, 281, 282, 283, 284, 285, 286, 287, 288, 289, 290, 291] (by decide +kernel) (by decide +kernel)) (goodIn_sub (fun _ h => List.mem_cons_of_mem _ (List.mem_append_right _ h)) (by decide +kernel))) (goodIn_sub (fun _ h => List.mem_cons_of_mem _ (List.mem_append_left _ (List.mem_append_left _ (List.mem_append_right _ h)))) (by decide +kernel))) (goodIn_sub (fun _ h => List.mem_cons_of_mem _ (List.mem_append_left _ (List.mem_append_right _ h))) (by decide +kernel))
set_option maxRecDepth 20000 in
theorem gL_refuses_L_stores : GoodIn wsL_refuses (va_wsS RL 109 yL_stores wsL_stores) := goodIn_app (goodIn_of _ (by decide +kernel)) ggL_refuses_L_stores
set_option maxRecDepth 20000 in
theorem ggL_refuses_L_places : GoodIn wsL_refuses wsL_places := goodIn_ca (goodIn_ca (goodIn_ca (goodIn_r _ [100, 43, 21, 22, 3, 1, 4, 101, 102, 103, 9, 104, 38, 39, 27, 48, 62, 49, 50, 51, 52, 53, 54, 11, 29, 30, 31, 32, 33, 277, 278, 279, 280, 281, 282, 283, 284, 285, 286, 287, 288, 289, 290, 291] (by decide +kernel) (by decide +kernel)) (goodIn_sub (fun _ h => List.mem_cons_of_mem _ (List.mem_append_left _ (List.mem_append_right _ h))) (by decide +kernel))) (goodIn_sub (fun _ h => List.mem_cons_of_mem _ (List.mem_append_right _ h)) (by decide +kernel))) (goodIn_sub (fun _ h => List.mem_cons_of_mem _ (List.mem_append_left _ (List.mem_append_left _ (List.mem_append_right _ h)))) (by decide +kernel))
set_option maxRecDepth 20000 in
theorem gL_refuses_L_places : GoodIn wsL_refuses (va_wsS RL 112 yL_places wsL_places) := goodIn_app (goodIn_of _ (by decide +kernel)) ggL_refuses_L_places
