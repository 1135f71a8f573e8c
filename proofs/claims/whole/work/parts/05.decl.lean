theorem dL_addLine_0 : decode cL_addLine 0 = .ok (.aload_n 2, 1) := by decide +kernel
theorem dL_addLine_1 : decode cL_addLine 1 = .ok (.iconst 0, 1) := by decide +kernel
theorem dL_addLine_2 : decode cL_addLine 2 = .ok (.aload_n 0, 1) := by decide +kernel
theorem dL_addLine_3 : decode cL_addLine 3 = .ok (.iload_n 1, 1) := by decide +kernel
theorem dL_addLine_4 : decode cL_addLine 4 = .ok (.invokevirtual 7, 3) := by decide +kernel
theorem dL_addLine_7 : decode cL_addLine 7 = .ok (.i2l, 1) := by decide +kernel
theorem dL_addLine_8 : decode cL_addLine 8 = .ok (.lastore, 1) := by decide +kernel
theorem dL_addLine_9 : decode cL_addLine 9 = .ok (.goto 9, 3) := by decide +kernel
theorem dL_addLine_12 : decode cL_addLine 12 = .ok (.astore_n 3, 1) := by decide +kernel
theorem dL_addLine_13 : decode cL_addLine 13 = .ok (.iconst 1, 1) := by decide +kernel
theorem dL_addLine_14 : decode cL_addLine 14 = .ok (.ireturn, 1) := by decide +kernel
theorem dL_addLine_15 : decode cL_addLine 15 = .ok (.astore_n 3, 1) := by decide +kernel
theorem dL_addLine_16 : decode cL_addLine 16 = .ok (.iconst 2, 1) := by decide +kernel
theorem dL_addLine_17 : decode cL_addLine 17 = .ok (.ireturn, 1) := by decide +kernel
theorem dL_addLine_18 : decode cL_addLine 18 = .ok (.iconst 0, 1) := by decide +kernel
theorem dL_addLine_19 : decode cL_addLine 19 = .ok (.ireturn, 1) := by decide +kernel
set_option maxRecDepth 20000 in
theorem ggL_changeValue_X0_changeValue : GoodIn wsL_changeValue wsX0_changeValue := goodIn_ca (goodIn_ca (goodIn_ca (goodIn_r _ [8, 9, 10, 11, 12, 13, 14, 15, 16, 7, 17, 18, 19, 20, 21, 22, 23, 24, 25, 26, 27, 28, 29, 30, 31, 32, 33, 34, 35, 36, 37, 38, 39, 40] (by decide +kernel) (by decide +kernel)) (goodIn_sub (fun _ h => List.mem_cons_of_mem _ (List.mem_append_left _ (List.mem_append_left _ (List.mem_append_right _ h)))) (by decide +kernel))) (goodIn_sub (fun _ h => List.mem_cons_of_mem _ (List.mem_append_left _ (List.mem_append_right _ h))) (by decide +kernel))) (goodIn_sub (fun _ h => List.mem_cons_of_mem _ (List.mem_append_right _ h)) (by decide +kernel))
set_option maxRecDepth 20000 in
theorem gL_changeValue_X0_changeValue : GoodIn wsL_changeValue (wsV RL 17 RX0 yX0_changeValue wsX0_changeValue) := goodIn_app (goodIn_of _ (by decide +kernel)) ggL_changeValue_X0_changeValue
theorem dL_changeValue_0 : decode cL_changeValue 0 = .ok (.aload_n 3, 1) := by decide +kernel
theorem dL_changeValue_1 : decode cL_changeValue 1 = .ok (.iconst 0, 1) := by decide +kernel
theorem dL_changeValue_2 : decode cL_changeValue 2 = .ok (.aload_n 0, 1) := by decide +kernel
theorem dL_changeValue_3 : decode cL_changeValue 3 = .ok (.iload_n 1, 1) := by decide +kernel
theorem dL_changeValue_4 : decode cL_changeValue 4 = .ok (.iload_n 2, 1) := by decide +kernel
theorem dL_changeValue_5 : decode cL_changeValue 5 = .ok (.invokevirtual 17, 3) := by decide +kernel
theorem dL_changeValue_8 : decode cL_changeValue 8 = .ok (.i2l, 1) := by decide +kernel
theorem dL_changeValue_9 : decode cL_changeValue 9 = .ok (.lastore, 1) := by decide +kernel
theorem dL_changeValue_10 : decode cL_changeValue 10 = .ok (.goto 15, 3) := by decide +kernel
theorem dL_changeValue_13 : decode cL_changeValue 13 = .ok (.astore 4, 2) := by decide +kernel
theorem dL_changeValue_15 : decode cL_changeValue 15 = .ok (.iconst 1, 1) := by decide +kernel
theorem dL_changeValue_16 : decode cL_changeValue 16 = .ok (.ireturn, 1) := by decide +kernel
theorem dL_changeValue_17 : decode cL_changeValue 17 = .ok (.astore 4, 2) := by decide +kernel
theorem dL_changeValue_19 : decode cL_changeValue 19 = .ok (.iconst 2, 1) := by decide +kernel
theorem dL_changeValue_20 : decode cL_changeValue 20 = .ok (.ireturn, 1) := by decide +kernel
theorem dL_changeValue_21 : decode cL_changeValue 21 = .ok (.astore 4, 2) := by decide +kernel
theorem dL_changeValue_23 : decode cL_changeValue 23 = .ok (.iconst 3, 1) := by decide +kernel
theorem dL_changeValue_24 : decode cL_changeValue 24 = .ok (.ireturn, 1) := by decide +kernel
theorem dL_changeValue_25 : decode cL_changeValue 25 = .ok (.iconst 0, 1) := by decide +kernel
theorem dL_changeValue_26 : decode cL_changeValue 26 = .ok (.ireturn, 1) := by decide +kernel
set_option maxRecDepth 20000 in
theorem ggL_split_X0_split : GoodIn wsL_split wsX0_split := goodIn_ca (goodIn_ca (goodIn_ca (goodIn_r _ [8, 9, 10, 11, 12, 13, 14, 15, 16, 17, 7, 18, 19, 20, 21, 22, 23, 24, 25, 26, 27, 28, 29, 30, 31, 32, 33, 34, 35, 36, 37, 38, 39, 40, 41, 42, 43, 44, 45, 46, 47, 48, 49, 50, 51, 52, 53, 54, 55, 56] (by decide +kernel) (by decide +kernel)) (goodIn_sub (fun _ h => List.mem_cons_of_mem _ (List.mem_append_left _ (List.mem_append_left _ (List.mem_append_right _ h)))) (by decide +kernel))) (goodIn_sub (fun _ h => List.mem_cons_of_mem _ (List.mem_append_left _ (List.mem_append_right _ h))) (by decide +kernel))) (goodIn_sub (fun _ h => List.mem_cons_of_mem _ (List.mem_append_right _ h)) (by decide +kernel))
set_option maxRecDepth 20000 in
theorem gL_split_X0_split : GoodIn wsL_split (wsV RL 23 RX0 yX0_split wsX0_split) := goodIn_app (goodIn_of _ (by decide +kernel)) ggL_split_X0_split
theorem dL_split_0 : decode cL_split 0 = .ok (.aload_n 3, 1) := by decide +kernel
theorem dL_split_1 : decode cL_split 1 = .ok (.iconst 0, 1) := by decide +kernel
theorem dL_split_2 : decode cL_split 2 = .ok (.aload_n 0, 1) := by decide +kernel
theorem dL_split_3 : decode cL_split 3 = .ok (.iload_n 1, 1) := by decide +kernel
theorem dL_split_4 : decode cL_split 4 = .ok (.iload_n 2, 1) := by decide +kernel
theorem dL_split_5 : decode cL_split 5 = .ok (.invokevirtual 23, 3) := by decide +kernel
theorem dL_split_8 : decode cL_split 8 = .ok (.i2l, 1) := by decide +kernel
theorem dL_split_9 : decode cL_split 9 = .ok (.lastore, 1) := by decide +kernel
theorem dL_split_10 : decode cL_split 10 = .ok (.goto 15, 3) := by decide +kernel
theorem dL_split_13 : decode cL_split 13 = .ok (.astore 4, 2) := by decide +kernel
theorem dL_split_15 : decode cL_split 15 = .ok (.iconst 1, 1) := by decide +kernel
theorem dL_split_16 : decode cL_split 16 = .ok (.ireturn, 1) := by decide +kernel
theorem dL_split_17 : decode cL_split 17 = .ok (.astore 4, 2) := by decide +kernel
theorem dL_split_19 : decode cL_split 19 = .ok (.iconst 2, 1) := by decide +kernel
theorem dL_split_20 : decode cL_split 20 = .ok (.ireturn, 1) := by decide +kernel
theorem dL_split_21 : decode cL_split 21 = .ok (.astore 4, 2) := by decide +kernel
theorem dL_split_23 : decode cL_split 23 = .ok (.iconst 3, 1) := by decide +kernel
theorem dL_split_24 : decode cL_split 24 = .ok (.ireturn, 1) := by decide +kernel
theorem dL_split_25 : decode cL_split 25 = .ok (.iconst 0, 1) := by decide +kernel
theorem dL_split_26 : decode cL_split 26 = .ok (.ireturn, 1) := by decide +kernel
set_option maxRecDepth 20000 in
theorem ggL_setWork_X0_setWork : GoodIn wsL_setWork wsX0_setWork := goodIn_ca (goodIn_ca (goodIn_ca (goodIn_r _ [8, 9, 10, 11, 12, 13, 14, 15, 16, 7, 17, 18, 19, 20, 21, 22, 23, 24, 25, 26, 27, 28, 29, 30, 31, 32, 33, 34, 35, 36, 37, 38, 39, 40, 41, 42, 43, 44, 45, 46, 47, 48, 49, 50, 51, 52, 53] (by decide +kernel) (by decide +kernel)) (goodIn_sub (fun _ h => List.mem_cons_of_mem _ (List.mem_append_left _ (List.mem_append_left _ (List.mem_append_right _ h)))) (by decide +kernel))) (goodIn_sub (fun _ h => List.mem_cons_of_mem _ (List.mem_append_left _ (List.mem_append_right _ h))) (by decide +kernel))) (goodIn_sub (fun _ h => List.mem_cons_of_mem _ (List.mem_append_right _ h)) (by decide +kernel))
set_option maxRecDepth 20000 in
theorem gL_setWork_X0_setWork : GoodIn wsL_setWork (wsV RL 26 RX0 yX0_setWork wsX0_setWork) := goodIn_app (goodIn_of _ (by decide +kernel)) ggL_setWork_X0_setWork
theorem dL_setWork_0 : decode cL_setWork 0 = .ok (.aload_n 3, 1) := by decide +kernel
theorem dL_setWork_1 : decode cL_setWork 1 = .ok (.iconst 0, 1) := by decide +kernel
theorem dL_setWork_2 : decode cL_setWork 2 = .ok (.aload_n 0, 1) := by decide +kernel
theorem dL_setWork_3 : decode cL_setWork 3 = .ok (.iload_n 1, 1) := by decide +kernel
theorem dL_setWork_4 : decode cL_setWork 4 = .ok (.iload_n 2, 1) := by decide +kernel
theorem dL_setWork_5 : decode cL_setWork 5 = .ok (.invokevirtual 26, 3) := by decide +kernel
theorem dL_setWork_8 : decode cL_setWork 8 = .ok (.i2l, 1) := by decide +kernel
theorem dL_setWork_9 : decode cL_setWork 9 = .ok (.lastore, 1) := by decide +kernel
theorem dL_setWork_10 : decode cL_setWork 10 = .ok (.goto 15, 3) := by decide +kernel
theorem dL_setWork_13 : decode cL_setWork 13 = .ok (.astore 4, 2) := by decide +kernel
theorem dL_setWork_15 : decode cL_setWork 15 = .ok (.iconst 1, 1) := by decide +kernel
theorem dL_setWork_16 : decode cL_setWork 16 = .ok (.ireturn, 1) := by decide +kernel
theorem dL_setWork_17 : decode cL_setWork 17 = .ok (.astore 4, 2) := by decide +kernel
theorem dL_setWork_19 : decode cL_setWork 19 = .ok (.iconst 2, 1) := by decide +kernel
theorem dL_setWork_20 : decode cL_setWork 20 = .ok (.ireturn, 1) := by decide +kernel
theorem dL_setWork_21 : decode cL_setWork 21 = .ok (.astore 4, 2) := by decide +kernel
theorem dL_setWork_23 : decode cL_setWork 23 = .ok (.iconst 3, 1) := by decide +kernel
theorem dL_setWork_24 : decode cL_setWork 24 = .ok (.ireturn, 1) := by decide +kernel
theorem dL_setWork_25 : decode cL_setWork 25 = .ok (.iconst 0, 1) := by decide +kernel
theorem dL_setWork_26 : decode cL_setWork 26 = .ok (.ireturn, 1) := by decide +kernel
set_option maxRecDepth 20000 in
theorem ggL_store_X0_store : GoodIn wsL_store wsX0_store := goodIn_ca (goodIn_ca (goodIn_ca (goodIn_r _ [8, 9, 10, 11, 12, 13, 14, 7, 15, 16, 17, 18, 19, 20, 21, 22, 23, 24, 25, 26, 27, 28, 29, 30, 31, 32, 33, 34, 35, 36, 37, 38, 39, 40, 41, 42, 43, 44, 45] (by decide +kernel) (by decide +kernel)) (goodIn_sub (fun _ h => List.mem_cons_of_mem _ (List.mem_append_left _ (List.mem_append_left _ (List.mem_append_right _ h)))) (by decide +kernel))) (goodIn_sub (fun _ h => List.mem_cons_of_mem _ (List.mem_append_left _ (List.mem_append_right _ h))) (by decide +kernel))) (goodIn_sub (fun _ h => List.mem_cons_of_mem _ (List.mem_append_right _ h)) (by decide +kernel))
set_option maxRecDepth 20000 in
theorem gL_store_X0_store : GoodIn wsL_store (wsV RL 29 RX0 yX0_store wsX0_store) := goodIn_app (goodIn_of _ (by decide +kernel)) ggL_store_X0_store
theorem dL_store_0 : decode cL_store 0 = .ok (.aload_n 3, 1) := by decide +kernel
theorem dL_store_1 : decode cL_store 1 = .ok (.iconst 0, 1) := by decide +kernel
theorem dL_store_2 : decode cL_store 2 = .ok (.aload_n 0, 1) := by decide +kernel
theorem dL_store_3 : decode cL_store 3 = .ok (.iload_n 1, 1) := by decide +kernel
theorem dL_store_4 : decode cL_store 4 = .ok (.iload_n 2, 1) := by decide +kernel
theorem dL_store_5 : decode cL_store 5 = .ok (.invokevirtual 29, 3) := by decide +kernel
theorem dL_store_8 : decode cL_store 8 = .ok (.i2l, 1) := by decide +kernel
theorem dL_store_9 : decode cL_store 9 = .ok (.lastore, 1) := by decide +kernel
theorem dL_store_10 : decode cL_store 10 = .ok (.goto 15, 3) := by decide +kernel
theorem dL_store_13 : decode cL_store 13 = .ok (.astore 4, 2) := by decide +kernel
theorem dL_store_15 : decode cL_store 15 = .ok (.iconst 1, 1) := by decide +kernel
theorem dL_store_16 : decode cL_store 16 = .ok (.ireturn, 1) := by decide +kernel
theorem dL_store_17 : decode cL_store 17 = .ok (.astore 4, 2) := by decide +kernel
theorem dL_store_19 : decode cL_store 19 = .ok (.iconst 2, 1) := by decide +kernel
theorem dL_store_20 : decode cL_store 20 = .ok (.ireturn, 1) := by decide +kernel
theorem dL_store_21 : decode cL_store 21 = .ok (.astore 4, 2) := by decide +kernel
theorem dL_store_23 : decode cL_store 23 = .ok (.iconst 3, 1) := by decide +kernel
theorem dL_store_24 : decode cL_store 24 = .ok (.ireturn, 1) := by decide +kernel
theorem dL_store_25 : decode cL_store 25 = .ok (.iconst 0, 1) := by decide +kernel
theorem dL_store_26 : decode cL_store 26 = .ok (.ireturn, 1) := by decide +kernel
set_option maxRecDepth 20000 in
theorem ggL_place_X0_place : GoodIn wsL_place wsX0_place := goodIn_ca (goodIn_ca (goodIn_ca (goodIn_r _ [8, 9, 10, 11, 12, 13, 14, 15, 16, 7, 17, 18, 19, 20, 21, 22, 23, 24, 25, 26, 27, 28, 29, 30, 31, 32, 33, 34, 35, 36, 37, 38, 39, 40] (by decide +kernel) (by decide +kernel)) (goodIn_sub (fun _ h => List.mem_cons_of_mem _ (List.mem_append_left _ (List.mem_append_left _ (List.mem_append_right _ h)))) (by decide +kernel))) (goodIn_sub (fun _ h => List.mem_cons_of_mem _ (List.mem_append_left _ (List.mem_append_right _ h))) (by decide +kernel))) (goodIn_sub (fun _ h => List.mem_cons_of_mem _ (List.mem_append_right _ h)) (by decide +kernel))
set_option maxRecDepth 20000 in
theorem gL_place_X0_place : GoodIn wsL_place (wsV RL 32 RX0 yX0_place wsX0_place) := goodIn_app (goodIn_of _ (by decide +kernel)) ggL_place_X0_place
theorem dL_place_0 : decode cL_place 0 = .ok (.aload_n 3, 1) := by decide +kernel
theorem dL_place_1 : decode cL_place 1 = .ok (.iconst 0, 1) := by decide +kernel
theorem dL_place_2 : decode cL_place 2 = .ok (.aload_n 0, 1) := by decide +kernel
theorem dL_place_3 : decode cL_place 3 = .ok (.iload_n 1, 1) := by decide +kernel
theorem dL_place_4 : decode cL_place 4 = .ok (.iload_n 2, 1) := by decide +kernel
theorem dL_place_5 : decode cL_place 5 = .ok (.invokevirtual 32, 3) := by decide +kernel
theorem dL_place_8 : decode cL_place 8 = .ok (.i2l, 1) := by decide +kernel
theorem dL_place_9 : decode cL_place 9 = .ok (.lastore, 1) := by decide +kernel
theorem dL_place_10 : decode cL_place 10 = .ok (.goto 15, 3) := by decide +kernel
theorem dL_place_13 : decode cL_place 13 = .ok (.astore 4, 2) := by decide +kernel
theorem dL_place_15 : decode cL_place 15 = .ok (.iconst 1, 1) := by decide +kernel
theorem dL_place_16 : decode cL_place 16 = .ok (.ireturn, 1) := by decide +kernel
theorem dL_place_17 : decode cL_place 17 = .ok (.astore 4, 2) := by decide +kernel
theorem dL_place_19 : decode cL_place 19 = .ok (.iconst 2, 1) := by decide +kernel
theorem dL_place_20 : decode cL_place 20 = .ok (.ireturn, 1) := by decide +kernel
theorem dL_place_21 : decode cL_place 21 = .ok (.astore 4, 2) := by decide +kernel
theorem dL_place_23 : decode cL_place 23 = .ok (.iconst 3, 1) := by decide +kernel
theorem dL_place_24 : decode cL_place 24 = .ok (.ireturn, 1) := by decide +kernel
theorem dL_place_25 : decode cL_place 25 = .ok (.iconst 0, 1) := by decide +kernel
theorem dL_place_26 : decode cL_place 26 = .ok (.ireturn, 1) := by decide +kernel
set_option maxRecDepth 20000 in
theorem ggL_setStep_X0_setStep : GoodIn wsL_setStep wsX0_setStep := goodIn_ca (goodIn_ca (goodIn_r _ [7, 8, 9, 10, 6, 11, 12, 13, 14, 15, 16, 17, 18, 19, 20, 21, 22, 23, 24, 25, 26, 27, 28, 29, 30, 31, 32, 33, 34, 35, 36, 37, 38, 39, 40] (by decide +kernel) (by decide +kernel)) (goodIn_sub (fun _ h => List.mem_cons_of_mem _ (List.mem_append_left _ (List.mem_append_right _ h))) (by decide +kernel))) (goodIn_sub (fun _ h => List.mem_cons_of_mem _ (List.mem_append_right _ h)) (by decide +kernel))
set_option maxRecDepth 20000 in
theorem gL_setStep_X0_setStep : GoodIn wsL_setStep (wsV RL 35 RX0 yX0_setStep wsX0_setStep) := goodIn_app (goodIn_of _ (by decide +kernel)) ggL_setStep_X0_setStep
theorem dL_setStep_0 : decode cL_setStep 0 = .ok (.aload_n 3, 1) := by decide +kernel
theorem dL_setStep_1 : decode cL_setStep 1 = .ok (.iconst 0, 1) := by decide +kernel
theorem dL_setStep_2 : decode cL_setStep 2 = .ok (.aload_n 0, 1) := by decide +kernel
theorem dL_setStep_3 : decode cL_setStep 3 = .ok (.iload_n 1, 1) := by decide +kernel
theorem dL_setStep_4 : decode cL_setStep 4 = .ok (.iload_n 2, 1) := by decide +kernel
theorem dL_setStep_5 : decode cL_setStep 5 = .ok (.invokevirtual 35, 3) := by decide +kernel
theorem dL_setStep_8 : decode cL_setStep 8 = .ok (.i2l, 1) := by decide +kernel
theorem dL_setStep_9 : decode cL_setStep 9 = .ok (.lastore, 1) := by decide +kernel
theorem dL_setStep_10 : decode cL_setStep 10 = .ok (.goto 11, 3) := by decide +kernel
theorem dL_setStep_13 : decode cL_setStep 13 = .ok (.astore 4, 2) := by decide +kernel
theorem dL_setStep_15 : decode cL_setStep 15 = .ok (.iconst 1, 1) := by decide +kernel
theorem dL_setStep_16 : decode cL_setStep 16 = .ok (.ireturn, 1) := by decide +kernel
theorem dL_setStep_17 : decode cL_setStep 17 = .ok (.astore 4, 2) := by decide +kernel
theorem dL_setStep_19 : decode cL_setStep 19 = .ok (.iconst 2, 1) := by decide +kernel
theorem dL_setStep_20 : decode cL_setStep 20 = .ok (.ireturn, 1) := by decide +kernel
theorem dL_setStep_21 : decode cL_setStep 21 = .ok (.iconst 0, 1) := by decide +kernel
theorem dL_setStep_22 : decode cL_setStep 22 = .ok (.ireturn, 1) := by decide +kernel
set_option maxRecDepth 20000 in
theorem ggL_dropStep_X0_dropStep : GoodIn wsL_dropStep wsX0_dropStep := goodIn_ca (goodIn_ca (goodIn_r _ [7, 8, 9, 10, 11, 12, 13, 14, 6, 15, 16, 17, 18, 19, 20, 21, 22, 23, 24, 25, 26, 27, 28, 29, 30, 31, 32, 33, 34, 35, 36] (by decide +kernel) (by decide +kernel)) (goodIn_sub (fun _ h => List.mem_cons_of_mem _ (List.mem_append_left _ (List.mem_append_right _ h))) (by decide +kernel))) (goodIn_sub (fun _ h => List.mem_cons_of_mem _ (List.mem_append_right _ h)) (by decide +kernel))
set_option maxRecDepth 20000 in
theorem gL_dropStep_X0_dropStep : GoodIn wsL_dropStep (wsV RL 38 RX0 yX0_dropStep wsX0_dropStep) := goodIn_app (goodIn_of _ (by decide +kernel)) ggL_dropStep_X0_dropStep
theorem dL_dropStep_0 : decode cL_dropStep 0 = .ok (.aload_n 2, 1) := by decide +kernel
theorem dL_dropStep_1 : decode cL_dropStep 1 = .ok (.iconst 0, 1) := by decide +kernel
theorem dL_dropStep_2 : decode cL_dropStep 2 = .ok (.aload_n 0, 1) := by decide +kernel
theorem dL_dropStep_3 : decode cL_dropStep 3 = .ok (.iload_n 1, 1) := by decide +kernel
theorem dL_dropStep_4 : decode cL_dropStep 4 = .ok (.invokevirtual 38, 3) := by decide +kernel
theorem dL_dropStep_7 : decode cL_dropStep 7 = .ok (.i2l, 1) := by decide +kernel
theorem dL_dropStep_8 : decode cL_dropStep 8 = .ok (.lastore, 1) := by decide +kernel
theorem dL_dropStep_9 : decode cL_dropStep 9 = .ok (.goto 9, 3) := by decide +kernel
theorem dL_dropStep_12 : decode cL_dropStep 12 = .ok (.astore_n 3, 1) := by decide +kernel
theorem dL_dropStep_13 : decode cL_dropStep 13 = .ok (.iconst 1, 1) := by decide +kernel
theorem dL_dropStep_14 : decode cL_dropStep 14 = .ok (.ireturn, 1) := by decide +kernel
theorem dL_dropStep_15 : decode cL_dropStep 15 = .ok (.astore_n 3, 1) := by decide +kernel
theorem dL_dropStep_16 : decode cL_dropStep 16 = .ok (.iconst 2, 1) := by decide +kernel
theorem dL_dropStep_17 : decode cL_dropStep 17 = .ok (.ireturn, 1) := by decide +kernel
theorem dL_dropStep_18 : decode cL_dropStep 18 = .ok (.iconst 0, 1) := by decide +kernel
theorem dL_dropStep_19 : decode cL_dropStep 19 = .ok (.ireturn, 1) := by decide +kernel
set_option maxRecDepth 20000 in
theorem ggL_close_X0_close : GoodIn wsL_close wsX0_close := goodIn_ca (goodIn_r _ [6, 7, 8, 9, 10, 11, 12, 13, 14, 15, 16, 17, 18, 19, 5, 20, 21, 22, 23, 24, 25, 26, 27, 28, 29, 30, 31, 32, 33, 34, 35, 36, 37, 38, 39, 40, 41, 42, 43, 44, 45, 46, 47, 48, 49, 50, 51, 52, 53, 54, 55, 56, 57, 58, 59, 60, 61, 62, 63, 64, 65, 66, 67, 68, 69, 70, 71, 72, 73, 74, 75, 76, 77] (by decide +kernel) (by decide +kernel)) (goodIn_sub (fun _ h => List.mem_cons_of_mem _ (List.mem_append_right _ h)) (by decide +kernel))
set_option maxRecDepth 20000 in
theorem gL_close_X0_close : GoodIn wsL_close (wsV RL 41 RX0 yX0_close wsX0_close) := goodIn_app (goodIn_of _ (by decide +kernel)) ggL_close_X0_close
theorem dL_close_0 : decode cL_close 0 = .ok (.aload_n 1, 1) := by decide +kernel
theorem dL_close_1 : decode cL_close 1 = .ok (.iconst 0, 1) := by decide +kernel
theorem dL_close_2 : decode cL_close 2 = .ok (.aload_n 0, 1) := by decide +kernel
theorem dL_close_3 : decode cL_close 3 = .ok (.invokevirtual 41, 3) := by decide +kernel
theorem dL_close_6 : decode cL_close 6 = .ok (.i2l, 1) := by decide +kernel
theorem dL_close_7 : decode cL_close 7 = .ok (.lastore, 1) := by decide +kernel
theorem dL_close_8 : decode cL_close 8 = .ok (.goto 6, 3) := by decide +kernel
theorem dL_close_11 : decode cL_close 11 = .ok (.astore_n 2, 1) := by decide +kernel
theorem dL_close_12 : decode cL_close 12 = .ok (.iconst 1, 1) := by decide +kernel
theorem dL_close_13 : decode cL_close 13 = .ok (.ireturn, 1) := by decide +kernel
theorem dL_close_14 : decode cL_close 14 = .ok (.iconst 0, 1) := by decide +kernel
theorem dL_close_15 : decode cL_close 15 = .ok (.ireturn, 1) := by decide +kernel
set_option maxRecDepth 20000 in
theorem ggL_pay_X0_pay : GoodIn wsL_pay wsX0_pay := goodIn_ca (goodIn_ca (goodIn_r _ [7, 8, 9, 10, 11, 12, 13, 14, 6, 15, 16, 17, 18, 19, 20, 21, 22, 23, 24, 25, 26, 27, 28, 29, 30, 31, 32, 33, 34, 35, 36, 37] (by decide +kernel) (by decide +kernel)) (goodIn_sub (fun _ h => List.mem_cons_of_mem _ (List.mem_append_left _ (List.mem_append_right _ h))) (by decide +kernel))) (goodIn_sub (fun _ h => List.mem_cons_of_mem _ (List.mem_append_right _ h)) (by decide +kernel))
set_option maxRecDepth 20000 in
theorem gL_pay_X0_pay : GoodIn wsL_pay (wsV RL 45 RX0 yX0_pay wsX0_pay) := goodIn_app (goodIn_of _ (by decide +kernel)) ggL_pay_X0_pay
theorem dL_pay_0 : decode cL_pay 0 = .ok (.aload_n 2, 1) := by decide +kernel
theorem dL_pay_1 : decode cL_pay 1 = .ok (.iconst 0, 1) := by decide +kernel
theorem dL_pay_2 : decode cL_pay 2 = .ok (.aload_n 0, 1) := by decide +kernel
theorem dL_pay_3 : decode cL_pay 3 = .ok (.iload_n 1, 1) := by decide +kernel
theorem dL_pay_4 : decode cL_pay 4 = .ok (.invokevirtual 45, 3) := by decide +kernel
theorem dL_pay_7 : decode cL_pay 7 = .ok (.i2l, 1) := by decide +kernel
theorem dL_pay_8 : decode cL_pay 8 = .ok (.lastore, 1) := by decide +kernel
theorem dL_pay_9 : decode cL_pay 9 = .ok (.goto 9, 3) := by decide +kernel
theorem dL_pay_12 : decode cL_pay 12 = .ok (.astore_n 3, 1) := by decide +kernel
theorem dL_pay_13 : decode cL_pay 13 = .ok (.iconst 1, 1) := by decide +kernel
theorem dL_pay_14 : decode cL_pay 14 = .ok (.ireturn, 1) := by decide +kernel
theorem dL_pay_15 : decode cL_pay 15 = .ok (.astore_n 3, 1) := by decide +kernel
theorem dL_pay_16 : decode cL_pay 16 = .ok (.iconst 2, 1) := by decide +kernel
theorem dL_pay_17 : decode cL_pay 17 = .ok (.ireturn, 1) := by decide +kernel
theorem dL_pay_18 : decode cL_pay 18 = .ok (.iconst 0, 1) := by decide +kernel
theorem dL_pay_19 : decode cL_pay 19 = .ok (.ireturn, 1) := by decide +kernel
set_option maxRecDepth 20000 in
theorem ggL_waive_X0_waive : GoodIn wsL_waive wsX0_waive := goodIn_ca (goodIn_ca (goodIn_r _ [7, 8, 9, 10, 11, 12, 13, 6, 14, 15, 16, 17, 18, 19, 20, 21, 22, 23, 24, 25, 26, 27, 28, 29, 30, 31, 32, 33, 34, 35, 36] (by decide +kernel) (by decide +kernel)) (goodIn_sub (fun _ h => List.mem_cons_of_mem _ (List.mem_append_left _ (List.mem_append_right _ h))) (by decide +kernel))) (goodIn_sub (fun _ h => List.mem_cons_of_mem _ (List.mem_append_right _ h)) (by decide +kernel))
set_option maxRecDepth 20000 in
theorem gL_waive_X0_waive : GoodIn wsL_waive (wsV RL 48 RX0 yX0_waive wsX0_waive) := goodIn_app (goodIn_of _ (by decide +kernel)) ggL_waive_X0_waive
theorem dL_waive_0 : decode cL_waive 0 = .ok (.aload_n 2, 1) := by decide +kernel
theorem dL_waive_1 : decode cL_waive 1 = .ok (.iconst 0, 1) := by decide +kernel
theorem dL_waive_2 : decode cL_waive 2 = .ok (.aload_n 0, 1) := by decide +kernel
theorem dL_waive_3 : decode cL_waive 3 = .ok (.iload_n 1, 1) := by decide +kernel
theorem dL_waive_4 : decode cL_waive 4 = .ok (.invokevirtual 48, 3) := by decide +kernel
theorem dL_waive_7 : decode cL_waive 7 = .ok (.i2l, 1) := by decide +kernel
theorem dL_waive_8 : decode cL_waive 8 = .ok (.lastore, 1) := by decide +kernel
theorem dL_waive_9 : decode cL_waive 9 = .ok (.goto 9, 3) := by decide +kernel
theorem dL_waive_12 : decode cL_waive 12 = .ok (.astore_n 3, 1) := by decide +kernel
theorem dL_waive_13 : decode cL_waive 13 = .ok (.iconst 1, 1) := by decide +kernel
theorem dL_waive_14 : decode cL_waive 14 = .ok (.ireturn, 1) := by decide +kernel
theorem dL_waive_15 : decode cL_waive 15 = .ok (.astore_n 3, 1) := by decide +kernel
theorem dL_waive_16 : decode cL_waive 16 = .ok (.iconst 2, 1) := by decide +kernel
theorem dL_waive_17 : decode cL_waive 17 = .ok (.ireturn, 1) := by decide +kernel
theorem dL_waive_18 : decode cL_waive 18 = .ok (.iconst 0, 1) := by decide +kernel
theorem dL_waive_19 : decode cL_waive 19 = .ok (.ireturn, 1) := by decide +kernel
set_option maxRecDepth 20000 in
theorem ggL_state_X0_state : GoodIn wsL_state wsX0_state := goodIn_ca (goodIn_r _ [6, 7, 8, 9, 10, 5, 11, 12, 13, 14, 15, 16, 17, 18, 19, 20, 21, 22, 23, 24, 25, 26, 27, 28, 29] (by decide +kernel) (by decide +kernel)) (goodIn_sub (fun _ h => List.mem_cons_of_mem _ (List.mem_append_right _ h)) (by decide +kernel))
set_option maxRecDepth 20000 in
theorem gL_state_X0_state : GoodIn wsL_state (wsV RL 51 RX0 yX0_state wsX0_state) := goodIn_app (goodIn_of _ (by decide +kernel)) ggL_state_X0_state
theorem dL_state_0 : decode cL_state 0 = .ok (.aload_n 2, 1) := by decide +kernel
theorem dL_state_1 : decode cL_state 1 = .ok (.iconst 0, 1) := by decide +kernel
theorem dL_state_2 : decode cL_state 2 = .ok (.aload_n 0, 1) := by decide +kernel
theorem dL_state_3 : decode cL_state 3 = .ok (.iload_n 1, 1) := by decide +kernel
theorem dL_state_4 : decode cL_state 4 = .ok (.invokevirtual 51, 3) := by decide +kernel
theorem dL_state_7 : decode cL_state 7 = .ok (.i2l, 1) := by decide +kernel
theorem dL_state_8 : decode cL_state 8 = .ok (.lastore, 1) := by decide +kernel
theorem dL_state_9 : decode cL_state 9 = .ok (.goto 6, 3) := by decide +kernel
theorem dL_state_12 : decode cL_state 12 = .ok (.astore_n 3, 1) := by decide +kernel
theorem dL_state_13 : decode cL_state 13 = .ok (.iconst 1, 1) := by decide +kernel
theorem dL_state_14 : decode cL_state 14 = .ok (.ireturn, 1) := by decide +kernel
theorem dL_state_15 : decode cL_state 15 = .ok (.iconst 0, 1) := by decide +kernel
theorem dL_state_16 : decode cL_state 16 = .ok (.ireturn, 1) := by decide +kernel
set_option maxRecDepth 20000 in
theorem ggL_amount_X0_amount : GoodIn wsL_amount wsX0_amount := goodIn_ca (goodIn_r _ [6, 7, 8, 9, 10, 5, 11, 12, 13, 14, 15, 16, 17, 18, 19, 20, 21, 22, 23, 24, 25, 26, 27, 28, 29] (by decide +kernel) (by decide +kernel)) (goodIn_sub (fun _ h => List.mem_cons_of_mem _ (List.mem_append_right _ h)) (by decide +kernel))
set_option maxRecDepth 20000 in
theorem gL_amount_X0_amount : GoodIn wsL_amount (wsV RL 54 RX0 yX0_amount wsX0_amount) := goodIn_app (goodIn_of _ (by decide +kernel)) ggL_amount_X0_amount
theorem dL_amount_0 : decode cL_amount 0 = .ok (.aload_n 2, 1) := by decide +kernel
theorem dL_amount_1 : decode cL_amount 1 = .ok (.iconst 0, 1) := by decide +kernel
theorem dL_amount_2 : decode cL_amount 2 = .ok (.aload_n 0, 1) := by decide +kernel
theorem dL_amount_3 : decode cL_amount 3 = .ok (.iload_n 1, 1) := by decide +kernel
theorem dL_amount_4 : decode cL_amount 4 = .ok (.invokevirtual 54, 3) := by decide +kernel
theorem dL_amount_7 : decode cL_amount 7 = .ok (.i2l, 1) := by decide +kernel
theorem dL_amount_8 : decode cL_amount 8 = .ok (.lastore, 1) := by decide +kernel
theorem dL_amount_9 : decode cL_amount 9 = .ok (.goto 6, 3) := by decide +kernel
theorem dL_amount_12 : decode cL_amount 12 = .ok (.astore_n 3, 1) := by decide +kernel
theorem dL_amount_13 : decode cL_amount 13 = .ok (.iconst 1, 1) := by decide +kernel
theorem dL_amount_14 : decode cL_amount 14 = .ok (.ireturn, 1) := by decide +kernel
theorem dL_amount_15 : decode cL_amount 15 = .ok (.iconst 0, 1) := by decide +kernel
theorem dL_amount_16 : decode cL_amount 16 = .ok (.ireturn, 1) := by decide +kernel
set_option maxRecDepth 20000 in
theorem ggL_billedBehind_X0_billedBehind : GoodIn wsL_billedBehind wsX0_billedBehind := goodIn_ca (goodIn_r _ [6, 7, 8, 9, 10, 5, 11, 12, 13, 14, 15, 16, 17, 18, 19, 20, 21, 22, 23, 24, 25, 26, 27, 28, 29] (by decide +kernel) (by decide +kernel)) (goodIn_sub (fun _ h => List.mem_cons_of_mem _ (List.mem_append_right _ h)) (by decide +kernel))
set_option maxRecDepth 20000 in
theorem gL_billedBehind_X0_billedBehind : GoodIn wsL_billedBehind (wsV RL 57 RX0 yX0_billedBehind wsX0_billedBehind) := goodIn_app (goodIn_of _ (by decide +kernel)) ggL_billedBehind_X0_billedBehind
theorem dL_billedBehind_0 : decode cL_billedBehind 0 = .ok (.aload_n 2, 1) := by decide +kernel
theorem dL_billedBehind_1 : decode cL_billedBehind 1 = .ok (.iconst 0, 1) := by decide +kernel
theorem dL_billedBehind_2 : decode cL_billedBehind 2 = .ok (.aload_n 0, 1) := by decide +kernel
theorem dL_billedBehind_3 : decode cL_billedBehind 3 = .ok (.iload_n 1, 1) := by decide +kernel
theorem dL_billedBehind_4 : decode cL_billedBehind 4 = .ok (.invokevirtual 57, 3) := by decide +kernel
theorem dL_billedBehind_7 : decode cL_billedBehind 7 = .ok (.i2l, 1) := by decide +kernel
theorem dL_billedBehind_8 : decode cL_billedBehind 8 = .ok (.lastore, 1) := by decide +kernel
theorem dL_billedBehind_9 : decode cL_billedBehind 9 = .ok (.goto 6, 3) := by decide +kernel
theorem dL_billedBehind_12 : decode cL_billedBehind 12 = .ok (.astore_n 3, 1) := by decide +kernel
theorem dL_billedBehind_13 : decode cL_billedBehind 13 = .ok (.iconst 1, 1) := by decide +kernel
theorem dL_billedBehind_14 : decode cL_billedBehind 14 = .ok (.ireturn, 1) := by decide +kernel
theorem dL_billedBehind_15 : decode cL_billedBehind 15 = .ok (.iconst 0, 1) := by decide +kernel
theorem dL_billedBehind_16 : decode cL_billedBehind 16 = .ok (.ireturn, 1) := by decide +kernel
set_option maxRecDepth 20000 in
theorem ggL_heldBehind_X0_heldBehind : GoodIn wsL_heldBehind wsX0_heldBehind := goodIn_ca (goodIn_r _ [6, 7, 8, 9, 10, 5, 11, 12, 13, 14, 15, 16, 17, 18, 19, 20, 21, 22, 23, 24, 25, 26, 27, 28, 29] (by decide +kernel) (by decide +kernel)) (goodIn_sub (fun _ h => List.mem_cons_of_mem _ (List.mem_append_right _ h)) (by decide +kernel))
set_option maxRecDepth 20000 in
theorem gL_heldBehind_X0_heldBehind : GoodIn wsL_heldBehind (wsV RL 60 RX0 yX0_heldBehind wsX0_heldBehind) := goodIn_app (goodIn_of _ (by decide +kernel)) ggL_heldBehind_X0_heldBehind
theorem dL_heldBehind_0 : decode cL_heldBehind 0 = .ok (.aload_n 2, 1) := by decide +kernel
theorem dL_heldBehind_1 : decode cL_heldBehind 1 = .ok (.iconst 0, 1) := by decide +kernel
theorem dL_heldBehind_2 : decode cL_heldBehind 2 = .ok (.aload_n 0, 1) := by decide +kernel
theorem dL_heldBehind_3 : decode cL_heldBehind 3 = .ok (.iload_n 1, 1) := by decide +kernel
theorem dL_heldBehind_4 : decode cL_heldBehind 4 = .ok (.invokevirtual 60, 3) := by decide +kernel
theorem dL_heldBehind_7 : decode cL_heldBehind 7 = .ok (.i2l, 1) := by decide +kernel
theorem dL_heldBehind_8 : decode cL_heldBehind 8 = .ok (.lastore, 1) := by decide +kernel
theorem dL_heldBehind_9 : decode cL_heldBehind 9 = .ok (.goto 6, 3) := by decide +kernel
theorem dL_heldBehind_12 : decode cL_heldBehind 12 = .ok (.astore_n 3, 1) := by decide +kernel
theorem dL_heldBehind_13 : decode cL_heldBehind 13 = .ok (.iconst 1, 1) := by decide +kernel
theorem dL_heldBehind_14 : decode cL_heldBehind 14 = .ok (.ireturn, 1) := by decide +kernel
theorem dL_heldBehind_15 : decode cL_heldBehind 15 = .ok (.iconst 0, 1) := by decide +kernel
theorem dL_heldBehind_16 : decode cL_heldBehind 16 = .ok (.ireturn, 1) := by decide +kernel
set_option maxRecDepth 20000 in
theorem ggL_value_X0_value : GoodIn wsL_value wsX0_value := goodIn_ca (goodIn_r _ [6, 7, 8, 9, 10, 5, 11, 12, 13, 14, 15, 16, 17, 18, 19, 20, 21, 22, 23, 24, 25, 26, 27, 28, 29] (by decide +kernel) (by decide +kernel)) (goodIn_sub (fun _ h => List.mem_cons_of_mem _ (List.mem_append_right _ h)) (by decide +kernel))
set_option maxRecDepth 20000 in
theorem gL_value_X0_value : GoodIn wsL_value (wsV RL 63 RX0 yX0_value wsX0_value) := goodIn_app (goodIn_of _ (by decide +kernel)) ggL_value_X0_value
theorem dL_value_0 : decode cL_value 0 = .ok (.aload_n 2, 1) := by decide +kernel
theorem dL_value_1 : decode cL_value 1 = .ok (.iconst 0, 1) := by decide +kernel
theorem dL_value_2 : decode cL_value 2 = .ok (.aload_n 0, 1) := by decide +kernel
theorem dL_value_3 : decode cL_value 3 = .ok (.iload_n 1, 1) := by decide +kernel
theorem dL_value_4 : decode cL_value 4 = .ok (.invokevirtual 63, 3) := by decide +kernel
theorem dL_value_7 : decode cL_value 7 = .ok (.i2l, 1) := by decide +kernel
theorem dL_value_8 : decode cL_value 8 = .ok (.lastore, 1) := by decide +kernel
theorem dL_value_9 : decode cL_value 9 = .ok (.goto 6, 3) := by decide +kernel
theorem dL_value_12 : decode cL_value 12 = .ok (.astore_n 3, 1) := by decide +kernel
theorem dL_value_13 : decode cL_value 13 = .ok (.iconst 1, 1) := by decide +kernel
theorem dL_value_14 : decode cL_value 14 = .ok (.ireturn, 1) := by decide +kernel
theorem dL_value_15 : decode cL_value 15 = .ok (.iconst 0, 1) := by decide +kernel
theorem dL_value_16 : decode cL_value 16 = .ok (.ireturn, 1) := by decide +kernel
set_option maxRecDepth 20000 in
theorem ggL_work_X0_work : GoodIn wsL_work wsX0_work := goodIn_ca (goodIn_r _ [6, 7, 8, 9, 10, 5, 11, 12, 13, 14, 15, 16, 17, 18, 19, 20, 21, 22, 23, 24, 25, 26, 27, 28, 29] (by decide +kernel) (by decide +kernel)) (goodIn_sub (fun _ h => List.mem_cons_of_mem _ (List.mem_append_right _ h)) (by decide +kernel))
set_option maxRecDepth 20000 in
theorem gL_work_X0_work : GoodIn wsL_work (wsV RL 66 RX0 yX0_work wsX0_work) := goodIn_app (goodIn_of _ (by decide +kernel)) ggL_work_X0_work
theorem dL_work_0 : decode cL_work 0 = .ok (.aload_n 2, 1) := by decide +kernel
theorem dL_work_1 : decode cL_work 1 = .ok (.iconst 0, 1) := by decide +kernel
theorem dL_work_2 : decode cL_work 2 = .ok (.aload_n 0, 1) := by decide +kernel
theorem dL_work_3 : decode cL_work 3 = .ok (.iload_n 1, 1) := by decide +kernel
theorem dL_work_4 : decode cL_work 4 = .ok (.invokevirtual 66, 3) := by decide +kernel
theorem dL_work_7 : decode cL_work 7 = .ok (.i2l, 1) := by decide +kernel
theorem dL_work_8 : decode cL_work 8 = .ok (.lastore, 1) := by decide +kernel
theorem dL_work_9 : decode cL_work 9 = .ok (.goto 6, 3) := by decide +kernel
theorem dL_work_12 : decode cL_work 12 = .ok (.astore_n 3, 1) := by decide +kernel
theorem dL_work_13 : decode cL_work 13 = .ok (.iconst 1, 1) := by decide +kernel
theorem dL_work_14 : decode cL_work 14 = .ok (.ireturn, 1) := by decide +kernel
theorem dL_work_15 : decode cL_work 15 = .ok (.iconst 0, 1) := by decide +kernel
theorem dL_work_16 : decode cL_work 16 = .ok (.ireturn, 1) := by decide +kernel
set_option maxRecDepth 20000 in
theorem ggL_goods_X0_goods : GoodIn wsL_goods wsX0_goods := goodIn_ca (goodIn_r _ [6, 7, 8, 9, 10, 11, 5, 12, 13, 14, 15, 16, 17, 18, 19, 20, 21, 22, 23, 24, 25, 26, 27, 28, 29, 30] (by decide +kernel) (by decide +kernel)) (goodIn_sub (fun _ h => List.mem_cons_of_mem _ (List.mem_append_right _ h)) (by decide +kernel))
set_option maxRecDepth 20000 in
theorem gL_goods_X0_goods : GoodIn wsL_goods (wsV RL 69 RX0 yX0_goods wsX0_goods) := goodIn_app (goodIn_of _ (by decide +kernel)) ggL_goods_X0_goods
theorem dL_goods_0 : decode cL_goods 0 = .ok (.aload_n 2, 1) := by decide +kernel
theorem dL_goods_1 : decode cL_goods 1 = .ok (.iconst 0, 1) := by decide +kernel
theorem dL_goods_2 : decode cL_goods 2 = .ok (.aload_n 0, 1) := by decide +kernel
theorem dL_goods_3 : decode cL_goods 3 = .ok (.iload_n 1, 1) := by decide +kernel
theorem dL_goods_4 : decode cL_goods 4 = .ok (.invokevirtual 69, 3) := by decide +kernel
theorem dL_goods_7 : decode cL_goods 7 = .ok (.i2l, 1) := by decide +kernel
theorem dL_goods_8 : decode cL_goods 8 = .ok (.lastore, 1) := by decide +kernel
theorem dL_goods_9 : decode cL_goods 9 = .ok (.goto 6, 3) := by decide +kernel
theorem dL_goods_12 : decode cL_goods 12 = .ok (.astore_n 3, 1) := by decide +kernel
theorem dL_goods_13 : decode cL_goods 13 = .ok (.iconst 1, 1) := by decide +kernel
theorem dL_goods_14 : decode cL_goods 14 = .ok (.ireturn, 1) := by decide +kernel
theorem dL_goods_15 : decode cL_goods 15 = .ok (.iconst 0, 1) := by decide +kernel
theorem dL_goods_16 : decode cL_goods 16 = .ok (.ireturn, 1) := by decide +kernel
set_option maxRecDepth 20000 in
theorem ggL_billed_X0_billed : GoodIn wsL_billed wsX0_billed := goodIn_ca (goodIn_r _ [6, 7, 8, 9, 10, 5, 11, 12, 13, 14, 15, 16, 17, 18, 19, 20, 21, 22, 23, 24, 25, 26, 27, 28, 29] (by decide +kernel) (by decide +kernel)) (goodIn_sub (fun _ h => List.mem_cons_of_mem _ (List.mem_append_right _ h)) (by decide +kernel))
set_option maxRecDepth 20000 in
theorem gL_billed_X0_billed : GoodIn wsL_billed (wsV RL 72 RX0 yX0_billed wsX0_billed) := goodIn_app (goodIn_of _ (by decide +kernel)) ggL_billed_X0_billed
theorem dL_billed_0 : decode cL_billed 0 = .ok (.aload_n 2, 1) := by decide +kernel
theorem dL_billed_1 : decode cL_billed 1 = .ok (.iconst 0, 1) := by decide +kernel
theorem dL_billed_2 : decode cL_billed 2 = .ok (.aload_n 0, 1) := by decide +kernel
theorem dL_billed_3 : decode cL_billed 3 = .ok (.iload_n 1, 1) := by decide +kernel
theorem dL_billed_4 : decode cL_billed 4 = .ok (.invokevirtual 72, 3) := by decide +kernel
theorem dL_billed_7 : decode cL_billed 7 = .ok (.i2l, 1) := by decide +kernel
theorem dL_billed_8 : decode cL_billed 8 = .ok (.lastore, 1) := by decide +kernel
theorem dL_billed_9 : decode cL_billed 9 = .ok (.goto 6, 3) := by decide +kernel
theorem dL_billed_12 : decode cL_billed 12 = .ok (.astore_n 3, 1) := by decide +kernel
theorem dL_billed_13 : decode cL_billed 13 = .ok (.iconst 1, 1) := by decide +kernel
theorem dL_billed_14 : decode cL_billed 14 = .ok (.ireturn, 1) := by decide +kernel
theorem dL_billed_15 : decode cL_billed 15 = .ok (.iconst 0, 1) := by decide +kernel
theorem dL_billed_16 : decode cL_billed 16 = .ok (.ireturn, 1) := by decide +kernel
set_option maxRecDepth 20000 in
theorem ggL_held_X0_held : GoodIn wsL_held wsX0_held := goodIn_ca (goodIn_r _ [6, 7, 8, 9, 10, 5, 11, 12, 13, 14, 15, 16, 17, 18, 19, 20, 21, 22, 23, 24, 25, 26, 27, 28, 29] (by decide +kernel) (by decide +kernel)) (goodIn_sub (fun _ h => List.mem_cons_of_mem _ (List.mem_append_right _ h)) (by decide +kernel))
set_option maxRecDepth 20000 in
theorem gL_held_X0_held : GoodIn wsL_held (wsV RL 75 RX0 yX0_held wsX0_held) := goodIn_app (goodIn_of _ (by decide +kernel)) ggL_held_X0_held
theorem dL_held_0 : decode cL_held 0 = .ok (.aload_n 2, 1) := by decide +kernel
theorem dL_held_1 : decode cL_held 1 = .ok (.iconst 0, 1) := by decide +kernel
theorem dL_held_2 : decode cL_held 2 = .ok (.aload_n 0, 1) := by decide +kernel
theorem dL_held_3 : decode cL_held 3 = .ok (.iload_n 1, 1) := by decide +kernel
theorem dL_held_4 : decode cL_held 4 = .ok (.invokevirtual 75, 3) := by decide +kernel
theorem dL_held_7 : decode cL_held 7 = .ok (.i2l, 1) := by decide +kernel
theorem dL_held_8 : decode cL_held 8 = .ok (.lastore, 1) := by decide +kernel
theorem dL_held_9 : decode cL_held 9 = .ok (.goto 6, 3) := by decide +kernel
theorem dL_held_12 : decode cL_held 12 = .ok (.astore_n 3, 1) := by decide +kernel
theorem dL_held_13 : decode cL_held 13 = .ok (.iconst 1, 1) := by decide +kernel
theorem dL_held_14 : decode cL_held 14 = .ok (.ireturn, 1) := by decide +kernel
theorem dL_held_15 : decode cL_held 15 = .ok (.iconst 0, 1) := by decide +kernel
theorem dL_held_16 : decode cL_held 16 = .ok (.ireturn, 1) := by decide +kernel
set_option maxRecDepth 20000 in
theorem ggL_lineByShare_X0_lineByShare : GoodIn wsL_lineByShare wsX0_lineByShare := goodIn_ca (goodIn_r _ [6, 7, 8, 9, 10, 5, 11, 12, 13, 14, 15, 16, 17, 18, 19, 20, 21, 22, 23, 24, 25, 26, 27, 28, 29, 30, 31, 32, 33, 34, 35, 36, 37, 38, 39, 40, 41, 42, 43, 44, 45, 46] (by decide +kernel) (by decide +kernel)) (goodIn_sub (fun _ h => List.mem_cons_of_mem _ (List.mem_append_right _ h)) (by decide +kernel))
set_option maxRecDepth 20000 in
theorem gL_lineByShare_X0_lineByShare : GoodIn wsL_lineByShare (wsV RL 78 RX0 yX0_lineByShare wsX0_lineByShare) := goodIn_app (goodIn_of _ (by decide +kernel)) ggL_lineByShare_X0_lineByShare
theorem dL_lineByShare_0 : decode cL_lineByShare 0 = .ok (.aload_n 2, 1) := by decide +kernel
theorem dL_lineByShare_1 : decode cL_lineByShare 1 = .ok (.iconst 0, 1) := by decide +kernel
theorem dL_lineByShare_2 : decode cL_lineByShare 2 = .ok (.aload_n 0, 1) := by decide +kernel
theorem dL_lineByShare_3 : decode cL_lineByShare 3 = .ok (.iload_n 1, 1) := by decide +kernel
theorem dL_lineByShare_4 : decode cL_lineByShare 4 = .ok (.invokevirtual 78, 3) := by decide +kernel
theorem dL_lineByShare_7 : decode cL_lineByShare 7 = .ok (.i2l, 1) := by decide +kernel
theorem dL_lineByShare_8 : decode cL_lineByShare 8 = .ok (.lastore, 1) := by decide +kernel
theorem dL_lineByShare_9 : decode cL_lineByShare 9 = .ok (.goto 6, 3) := by decide +kernel
theorem dL_lineByShare_12 : decode cL_lineByShare 12 = .ok (.astore_n 3, 1) := by decide +kernel
theorem dL_lineByShare_13 : decode cL_lineByShare 13 = .ok (.iconst 1, 1) := by decide +kernel
theorem dL_lineByShare_14 : decode cL_lineByShare 14 = .ok (.ireturn, 1) := by decide +kernel
theorem dL_lineByShare_15 : decode cL_lineByShare 15 = .ok (.iconst 0, 1) := by decide +kernel
theorem dL_lineByShare_16 : decode cL_lineByShare 16 = .ok (.ireturn, 1) := by decide +kernel
set_option maxRecDepth 20000 in
theorem ggL_law_X0_init : GoodIn wsL_law wsX0_init := goodIn_r _ [9, 10, 11, 12, 13, 14, 15, 16, 17, 18, 19, 20, 21, 22, 23, 24, 25, 527, 528, 529, 530, 531, 532, 533, 534, 535, 536, 537, 538, 539, 540, 541] (by decide +kernel) (by decide +kernel)
set_option maxRecDepth 20000 in
theorem gL_law_X0_init : GoodIn wsL_law (wsX0_init) := ggL_law_X0_init
set_option maxRecDepth 20000 in
theorem ggL_law_X1_init : GoodIn wsL_law wsX1_init := goodIn_r _ [28, 29, 11, 12, 13, 30, 31, 32, 33, 34, 35, 36, 37, 38, 39, 542, 543, 544, 545, 546, 547, 548, 549, 550, 551, 552, 553, 554, 555] (by decide +kernel) (by decide +kernel)
set_option maxRecDepth 20000 in
theorem gL_law_X1_init : GoodIn wsL_law (wsX1_init) := ggL_law_X1_init
set_option maxRecDepth 20000 in
theorem ggL_law_L_addLine : GoodIn wsL_law wsL_addLine := goodIn_ca (goodIn_ca (goodIn_r _ [43, 44, 45, 46, 47, 48, 2, 49, 50, 51, 14, 52, 53, 54, 55, 56, 57, 58, 59, 60, 61, 62, 527, 528, 529, 530, 531, 532, 533, 534, 535, 536, 537, 538, 539, 540, 541] (by decide +kernel) (by decide +kernel)) (goodIn_sub (fun _ h => List.mem_append_left _ (List.mem_append_left _ (List.mem_append_right _ h))) (by decide +kernel))) (goodIn_sub (fun _ h => List.mem_append_left _ (List.mem_append_right _ h)) (by decide +kernel))
set_option maxRecDepth 20000 in
theorem gL_law_L_addLine : GoodIn wsL_law (va_wsS RL 85 yL_addLine wsL_addLine) := goodIn_app (goodIn_of _ (by decide +kernel)) ggL_law_L_addLine
set_option maxRecDepth 20000 in
theorem ggL_law_X1_addLine : GoodIn wsL_law wsX1_addLine := goodIn_r _ [66, 67, 68, 69, 70, 5, 71, 72, 73, 74, 75, 76, 77, 78, 79, 80, 30, 31, 32, 33, 34, 542, 543, 544, 545, 546, 547, 548, 549, 550, 551, 552, 553, 554, 555] (by decide +kernel) (by decide +kernel)
set_option maxRecDepth 20000 in
theorem gL_law_X1_addLine : GoodIn wsL_law (wsV RL 90 RX1 yX1_addLine wsX1_addLine) := goodIn_app (goodIn_of _ (by decide +kernel)) ggL_law_X1_addLine
set_option maxRecDepth 20000 in
theorem ggL_law_X1_thrown : GoodIn wsL_law wsX1_thrown := goodIn_r _ [84, 76, 542, 543, 544, 545, 546, 547, 548, 549, 550, 551, 552, 553, 554, 555] (by decide +kernel) (by decide +kernel)
set_option maxRecDepth 20000 in
theorem gL_law_X1_thrown : GoodIn wsL_law (wsV RL 91 RX1 yX1_thrown wsX1_thrown) := goodIn_app (goodIn_of _ (by decide +kernel)) ggL_law_X1_thrown
set_option maxRecDepth 20000 in
theorem ggL_law_L_changeValue : GoodIn wsL_law wsL_changeValue := goodIn_ca (goodIn_ca (goodIn_ca (goodIn_r _ [87, 88, 44, 45, 89, 90, 91, 2, 92, 61, 62, 50, 15, 14, 93, 94, 95, 96, 97, 98, 51, 52, 53, 54, 55, 56, 527, 528, 529, 530, 531, 532, 533, 534, 535, 536, 537, 538, 539, 540, 541] (by decide +kernel) (by decide +kernel)) (goodIn_sub (fun _ h => List.mem_append_left _ (List.mem_append_right _ h)) (by decide +kernel))) (goodIn_sub (fun _ h => List.mem_append_right _ h) (by decide +kernel))) (goodIn_sub (fun _ h => List.mem_append_left _ (List.mem_append_left _ (List.mem_append_right _ h))) (by decide +kernel))
set_option maxRecDepth 20000 in
theorem gL_law_L_changeValue : GoodIn wsL_law (va_wsS RL 94 yL_changeValue wsL_changeValue) := goodIn_app (goodIn_of _ (by decide +kernel)) ggL_law_L_changeValue
set_option maxRecDepth 20000 in
theorem ggL_law_X1_changeValue : GoodIn wsL_law wsX1_changeValue := goodIn_r _ [102, 67, 31, 30, 103, 104, 105, 5, 106, 68, 69, 70, 71, 72, 73, 74, 75, 76, 542, 543, 544, 545, 546, 547, 548, 549, 550, 551, 552, 553, 554, 555] (by decide +kernel) (by decide +kernel)
set_option maxRecDepth 20000 in
theorem gL_law_X1_changeValue : GoodIn wsL_law (wsV RL 97 RX1 yX1_changeValue wsX1_changeValue) := goodIn_app (goodIn_of _ (by decide +kernel)) ggL_law_X1_changeValue
set_option maxRecDepth 20000 in
theorem ggL_law_L_split : GoodIn wsL_law wsL_split := goodIn_ca (goodIn_ca (goodIn_ca (goodIn_r _ [109, 88, 44, 45, 110, 111, 112, 2, 113, 14, 51, 15, 16, 17, 18, 93, 94, 95, 96, 97, 98, 52, 53, 54, 55, 56, 57, 58, 59, 60, 61, 62, 114, 115, 116, 117, 118, 119, 120, 121, 122, 123, 527, 528, 529, 530, 531, 532, 533, 534, 535, 536, 537, 538, 539, 540, 541] (by decide +kernel) (by decide +kernel)) (goodIn_sub (fun _ h => List.mem_append_right _ h) (by decide +kernel))) (goodIn_sub (fun _ h => List.mem_append_left _ (List.mem_append_left _ (List.mem_append_right _ h))) (by decide +kernel))) (goodIn_sub (fun _ h => List.mem_append_left _ (List.mem_append_right _ h)) (by decide +kernel))
set_option maxRecDepth 20000 in
theorem gL_law_L_split : GoodIn wsL_law (va_wsS RL 98 yL_split wsL_split) := goodIn_app (goodIn_of _ (by decide +kernel)) ggL_law_L_split
set_option maxRecDepth 20000 in
theorem ggL_law_X1_split : GoodIn wsL_law wsX1_split := goodIn_r _ [127, 30, 68, 31, 32, 33, 34, 103, 104, 105, 5, 106, 69, 70, 71, 72, 73, 74, 75, 76, 128, 129, 130, 77, 78, 79, 80, 542, 543, 544, 545, 546, 547, 548, 549, 550, 551, 552, 553, 554, 555] (by decide +kernel) (by decide +kernel)
set_option maxRecDepth 20000 in
theorem gL_law_X1_split : GoodIn wsL_law (wsV RL 100 RX1 yX1_split wsX1_split) := goodIn_app (goodIn_of _ (by decide +kernel)) ggL_law_X1_split
set_option maxRecDepth 20000 in
theorem ggL_law_L_setWork : GoodIn wsL_law wsL_setWork := goodIn_ca (goodIn_ca (goodIn_ca (goodIn_r _ [133, 88, 44, 45, 134, 135, 136, 2, 137, 61, 62, 14, 16, 15, 93, 94, 95, 96, 97, 98, 51, 52, 53, 54, 55, 56, 138, 139, 140, 141, 142, 120, 121, 122, 123, 143, 144, 145, 146, 527, 528, 529, 530, 531, 532, 533, 534, 535, 536, 537, 538, 539, 540, 541] (by decide +kernel) (by decide +kernel)) (goodIn_sub (fun _ h => List.mem_append_left _ (List.mem_append_right _ h)) (by decide +kernel))) (goodIn_sub (fun _ h => List.mem_append_right _ h) (by decide +kernel))) (goodIn_sub (fun _ h => List.mem_append_left _ (List.mem_append_left _ (List.mem_append_right _ h))) (by decide +kernel))
set_option maxRecDepth 20000 in
theorem gL_law_L_setWork : GoodIn wsL_law (va_wsS RL 101 yL_setWork wsL_setWork) := goodIn_app (goodIn_of _ (by decide +kernel)) ggL_law_L_setWork
set_option maxRecDepth 20000 in
theorem ggL_law_X1_setWork : GoodIn wsL_law wsX1_setWork := goodIn_r _ [150, 30, 32, 31, 103, 104, 105, 5, 106, 68, 69, 70, 71, 151, 152, 153, 154, 155, 72, 73, 74, 75, 76, 542, 543, 544, 545, 546, 547, 548, 549, 550, 551, 552, 553, 554, 555] (by decide +kernel) (by decide +kernel)
set_option maxRecDepth 20000 in
theorem gL_law_X1_setWork : GoodIn wsL_law (wsV RL 103 RX1 yX1_setWork wsX1_setWork) := goodIn_app (goodIn_of _ (by decide +kernel)) ggL_law_X1_setWork
set_option maxRecDepth 20000 in
theorem ggL_law_L_store : GoodIn wsL_law wsL_store := goodIn_ca (goodIn_ca (goodIn_ca (goodIn_r _ [158, 88, 44, 45, 159, 160, 161, 2, 162, 50, 15, 16, 93, 94, 95, 96, 97, 98, 51, 52, 53, 54, 55, 56, 143, 144, 145, 146, 61, 62, 14, 527, 528, 529, 530, 531, 532, 533, 534, 535, 536, 537, 538, 539, 540, 541] (by decide +kernel) (by decide +kernel)) (goodIn_sub (fun _ h => List.mem_append_right _ h) (by decide +kernel))) (goodIn_sub (fun _ h => List.mem_append_left _ (List.mem_append_left _ (List.mem_append_right _ h))) (by decide +kernel))) (goodIn_sub (fun _ h => List.mem_append_left _ (List.mem_append_right _ h)) (by decide +kernel))
set_option maxRecDepth 20000 in
theorem gL_law_L_store : GoodIn wsL_law (va_wsS RL 104 yL_store wsL_store) := goodIn_app (goodIn_of _ (by decide +kernel)) ggL_law_L_store
set_option maxRecDepth 20000 in
theorem ggL_law_X1_store : GoodIn wsL_law wsX1_store := goodIn_r _ [166, 67, 30, 31, 32, 103, 104, 105, 5, 106, 68, 69, 70, 71, 72, 73, 74, 75, 76, 542, 543, 544, 545, 546, 547, 548, 549, 550, 551, 552, 553, 554, 555] (by decide +kernel) (by decide +kernel)
set_option maxRecDepth 20000 in
theorem gL_law_X1_store : GoodIn wsL_law (wsV RL 106 RX1 yX1_store wsX1_store) := goodIn_app (goodIn_of _ (by decide +kernel)) ggL_law_X1_store
set_option maxRecDepth 20000 in
theorem ggL_law_L_place : GoodIn wsL_law wsL_place := goodIn_ca (goodIn_ca (goodIn_ca (goodIn_r _ [169, 88, 44, 45, 170, 171, 172, 2, 173, 61, 62, 50, 15, 16, 93, 94, 95, 96, 97, 98, 51, 52, 53, 54, 55, 56, 527, 528, 529, 530, 531, 532, 533, 534, 535, 536, 537, 538, 539, 540, 541] (by decide +kernel) (by decide +kernel)) (goodIn_sub (fun _ h => List.mem_append_left _ (List.mem_append_right _ h)) (by decide +kernel))) (goodIn_sub (fun _ h => List.mem_append_right _ h) (by decide +kernel))) (goodIn_sub (fun _ h => List.mem_append_left _ (List.mem_append_left _ (List.mem_append_right _ h))) (by decide +kernel))
set_option maxRecDepth 20000 in
theorem gL_law_L_place : GoodIn wsL_law (va_wsS RL 107 yL_place wsL_place) := goodIn_app (goodIn_of _ (by decide +kernel)) ggL_law_L_place
set_option maxRecDepth 20000 in
theorem ggL_law_X1_place : GoodIn wsL_law wsX1_place := goodIn_r _ [177, 67, 31, 32, 103, 104, 105, 5, 106, 68, 69, 70, 71, 72, 73, 74, 75, 76, 542, 543, 544, 545, 546, 547, 548, 549, 550, 551, 552, 553, 554, 555] (by decide +kernel) (by decide +kernel)
set_option maxRecDepth 20000 in
theorem gL_law_X1_place : GoodIn wsL_law (wsV RL 109 RX1 yX1_place wsX1_place) := goodIn_app (goodIn_of _ (by decide +kernel)) ggL_law_X1_place
set_option maxRecDepth 20000 in
theorem ggL_law_L_setStep : GoodIn wsL_law wsL_setStep := goodIn_ca (goodIn_ca (goodIn_r _ [180, 44, 45, 181, 182, 183, 2, 184, 20, 52, 53, 54, 55, 56, 185, 186, 187, 188, 25, 19, 189, 190, 191, 192, 61, 62, 527, 528, 529, 530, 531, 532, 533, 534, 535, 536, 537, 538, 539, 540, 541] (by decide +kernel) (by decide +kernel)) (goodIn_sub (fun _ h => List.mem_append_left _ (List.mem_append_left _ (List.mem_append_right _ h))) (by decide +kernel))) (goodIn_sub (fun _ h => List.mem_append_left _ (List.mem_append_right _ h)) (by decide +kernel))
set_option maxRecDepth 20000 in
theorem gL_law_L_setStep : GoodIn wsL_law (va_wsS RL 110 yL_setStep wsL_setStep) := goodIn_app (goodIn_of _ (by decide +kernel)) ggL_law_L_setStep
set_option maxRecDepth 20000 in
theorem ggL_law_X1_setStep : GoodIn wsL_law wsX1_setStep := goodIn_r _ [196, 35, 69, 70, 5, 71, 197, 198, 199, 200, 72, 73, 74, 75, 76, 542, 543, 544, 545, 546, 547, 548, 549, 550, 551, 552, 553, 554, 555] (by decide +kernel) (by decide +kernel)
set_option maxRecDepth 20000 in
theorem gL_law_X1_setStep : GoodIn wsL_law (wsV RL 112 RX1 yX1_setStep wsX1_setStep) := goodIn_app (goodIn_of _ (by decide +kernel)) ggL_law_X1_setStep
set_option maxRecDepth 20000 in
theorem ggL_law_L_dropStep : GoodIn wsL_law wsL_dropStep := goodIn_ca (goodIn_ca (goodIn_r _ [203, 44, 45, 204, 205, 206, 2, 207, 61, 62, 20, 25, 19, 52, 53, 54, 55, 56, 185, 186, 187, 188, 527, 528, 529, 530, 531, 532, 533, 534, 535, 536, 537, 538, 539, 540, 541] (by decide +kernel) (by decide +kernel)) (goodIn_sub (fun _ h => List.mem_append_left _ (List.mem_append_right _ h)) (by decide +kernel))) (goodIn_sub (fun _ h => List.mem_append_left _ (List.mem_append_left _ (List.mem_append_right _ h))) (by decide +kernel))
set_option maxRecDepth 20000 in
theorem gL_law_L_dropStep : GoodIn wsL_law (va_wsS RL 113 yL_dropStep wsL_dropStep) := goodIn_app (goodIn_of _ (by decide +kernel)) ggL_law_L_dropStep
set_option maxRecDepth 20000 in
theorem ggL_law_X1_dropStep : GoodIn wsL_law wsX1_dropStep := goodIn_r _ [211, 35, 69, 70, 5, 71, 72, 73, 74, 75, 76, 542, 543, 544, 545, 546, 547, 548, 549, 550, 551, 552, 553, 554, 555] (by decide +kernel) (by decide +kernel)
set_option maxRecDepth 20000 in
theorem gL_law_X1_dropStep : GoodIn wsL_law (wsV RL 115 RX1 yX1_dropStep wsX1_dropStep) := goodIn_app (goodIn_of _ (by decide +kernel)) ggL_law_X1_dropStep
set_option maxRecDepth 20000 in
theorem ggL_law_X0_hold : GoodIn wsL_law wsX0_hold := goodIn_r _ [215, 216, 527, 528, 529, 530, 531, 532, 533, 534, 535, 536, 537, 538, 539, 540, 541] (by decide +kernel) (by decide +kernel)
set_option maxRecDepth 20000 in
theorem gL_law_X0_hold : GoodIn wsL_law (wsV RL 116 RX0 yX0_hold wsX0_hold) := goodIn_app (goodIn_of _ (by decide +kernel)) ggL_law_X0_hold
set_option maxRecDepth 20000 in
theorem ggL_law_X1_hold : GoodIn wsL_law wsX1_hold := goodIn_r _ [220, 76, 221, 542, 543, 544, 545, 546, 547, 548, 549, 550, 551, 552, 553, 554, 555] (by decide +kernel) (by decide +kernel)
set_option maxRecDepth 20000 in
theorem gL_law_X1_hold : GoodIn wsL_law (wsV RL 120 RX1 yX1_hold wsX1_hold) := goodIn_app (goodIn_of _ (by decide +kernel)) ggL_law_X1_hold
set_option maxRecDepth 20000 in
theorem ggL_law_X0_steps : GoodIn wsL_law wsX0_steps := goodIn_r _ [225, 25, 527, 528, 529, 530, 531, 532, 533, 534, 535, 536, 537, 538, 539, 540, 541] (by decide +kernel) (by decide +kernel)
set_option maxRecDepth 20000 in
theorem gL_law_X0_steps : GoodIn wsL_law (wsV RL 121 RX0 yX0_steps wsX0_steps) := goodIn_app (goodIn_of _ (by decide +kernel)) ggL_law_X0_steps
set_option maxRecDepth 20000 in
theorem ggL_law_X1_steps : GoodIn wsL_law wsX1_steps := goodIn_r _ [229, 197, 198, 199, 5, 200, 35, 230, 231, 232, 233, 76, 542, 543, 544, 545, 546, 547, 548, 549, 550, 551, 552, 553, 554, 555] (by decide +kernel) (by decide +kernel)
set_option maxRecDepth 20000 in
theorem gL_law_X1_steps : GoodIn wsL_law (wsV RL 124 RX1 yX1_steps wsX1_steps) := goodIn_app (goodIn_of _ (by decide +kernel)) ggL_law_X1_steps
set_option maxRecDepth 20000 in
theorem ggL_law_X0_progress : GoodIn wsL_law wsX0_progress := goodIn_r _ [237, 16, 51, 238, 239, 2, 240, 241, 242, 243, 244, 14, 117, 118, 119, 120, 121, 122, 123, 527, 528, 529, 530, 531, 532, 533, 534, 535, 536, 537, 538, 539, 540, 541] (by decide +kernel) (by decide +kernel)
set_option maxRecDepth 20000 in
theorem gL_law_X0_progress : GoodIn wsL_law (wsV RL 125 RX0 yX0_progress wsX0_progress) := goodIn_app (goodIn_of _ (by decide +kernel)) ggL_law_X0_progress
set_option maxRecDepth 20000 in
theorem ggL_law_X1_progress : GoodIn wsL_law wsX1_progress := goodIn_r _ [248, 249, 250, 251, 5, 252, 30, 32, 155, 253, 254, 255, 256, 68, 230, 231, 232, 233, 76, 542, 543, 544, 545, 546, 547, 548, 549, 550, 551, 552, 553, 554, 555] (by decide +kernel) (by decide +kernel)
set_option maxRecDepth 20000 in
theorem gL_law_X1_progress : GoodIn wsL_law (wsV RL 128 RX1 yX1_progress wsX1_progress) := goodIn_app (goodIn_of _ (by decide +kernel)) ggL_law_X1_progress
set_option maxRecDepth 20000 in
theorem ggL_law_X0_rate : GoodIn wsL_law wsX0_rate := goodIn_r _ [260, 25, 19, 20, 261, 235, 236, 2, 237, 16, 51, 238, 239, 240, 241, 242, 243, 244, 14, 117, 118, 119, 120, 121, 122, 123, 527, 528, 529, 530, 531, 532, 533, 534, 535, 536, 537, 538, 539, 540, 541] (by decide +kernel) (by decide +kernel)
set_option maxRecDepth 20000 in
theorem gL_law_X0_rate : GoodIn wsL_law (wsV RL 129 RX0 yX0_rate wsX0_rate) := goodIn_app (goodIn_of _ (by decide +kernel)) ggL_law_X0_rate
set_option maxRecDepth 20000 in
theorem ggL_law_X1_rate : GoodIn wsL_law wsX1_rate := goodIn_r _ [265, 266, 267, 268, 5, 269, 35, 249, 250, 251, 252, 30, 32, 155, 253, 254, 255, 256, 68, 230, 231, 232, 233, 76, 542, 543, 544, 545, 546, 547, 548, 549, 550, 551, 552, 553, 554, 555] (by decide +kernel) (by decide +kernel)
set_option maxRecDepth 20000 in
theorem gL_law_X1_rate : GoodIn wsL_law (wsV RL 132 RX1 yX1_rate wsX1_rate) := goodIn_app (goodIn_of _ (by decide +kernel)) ggL_law_X1_rate
set_option maxRecDepth 20000 in
theorem ggL_law_L_close : GoodIn wsL_law wsL_close := goodIn_ca (goodIn_r _ [272, 45, 273, 274, 275, 2, 276, 61, 62, 51, 277, 22, 21, 23, 17, 24, 18, 278, 279, 280, 281, 15, 282, 258, 259, 260, 25, 19, 20, 261, 235, 236, 237, 16, 238, 239, 240, 241, 242, 243, 244, 14, 117, 118, 119, 120, 121, 122, 123, 283, 284, 285, 286, 216, 138, 139, 140, 141, 142, 287, 288, 289, 290, 527, 528, 529, 530, 531, 532, 533, 534, 535, 536, 537, 538, 539, 540, 541] (by decide +kernel) (by decide +kernel)) (goodIn_sub (fun _ h => List.mem_append_left _ (List.mem_append_right _ h)) (by decide +kernel))
set_option maxRecDepth 20000 in
theorem gL_law_L_close : GoodIn wsL_law (va_wsS RL 133 yL_close wsL_close) := goodIn_app (goodIn_of _ (by decide +kernel)) ggL_law_L_close
set_option maxRecDepth 20000 in
theorem ggL_law_X1_close : GoodIn wsL_law wsX1_close := goodIn_r _ [294, 68, 295, 37, 34, 33, 31, 36, 38, 39, 72, 73, 74, 5, 75, 76, 296, 297, 298, 299, 253, 254, 255, 256, 300, 301, 302, 303, 221, 266, 267, 268, 269, 35, 249, 250, 251, 252, 30, 32, 155, 151, 152, 153, 154, 542, 543, 544, 545, 546, 547, 548, 549, 550, 551, 552, 553, 554, 555] (by decide +kernel) (by decide +kernel)
set_option maxRecDepth 20000 in
theorem gL_law_X1_close : GoodIn wsL_law (wsV RL 136 RX1 yX1_close wsX1_close) := goodIn_app (goodIn_of _ (by decide +kernel)) ggL_law_X1_close
set_option maxRecDepth 20000 in
theorem ggL_law_X0_nextAmount : GoodIn wsL_law wsX0_nextAmount := goodIn_r _ [281, 15, 51, 22, 277, 282, 258, 259, 2, 260, 25, 19, 20, 261, 235, 236, 237, 16, 238, 239, 240, 241, 242, 243, 244, 14, 117, 118, 119, 120, 121, 122, 123, 283, 284, 285, 286, 216, 18, 17, 138, 139, 140, 141, 142, 527, 528, 529, 530, 531, 532, 533, 534, 535, 536, 537, 538, 539, 540, 541] (by decide +kernel) (by decide +kernel)
set_option maxRecDepth 20000 in
theorem gL_law_X0_nextAmount : GoodIn wsL_law (wsV RL 137 RX0 yX0_nextAmount wsX0_nextAmount) := goodIn_app (goodIn_of _ (by decide +kernel)) ggL_law_X0_nextAmount
set_option maxRecDepth 20000 in
theorem ggL_law_X1_nextAmount : GoodIn wsL_law wsX1_nextAmount := goodIn_r _ [308, 296, 297, 298, 5, 299, 31, 68, 295, 37, 253, 254, 255, 256, 300, 301, 302, 303, 221, 34, 33, 266, 267, 268, 269, 35, 249, 250, 251, 252, 30, 32, 155, 151, 152, 153, 154, 230, 231, 232, 233, 76, 542, 543, 544, 545, 546, 547, 548, 549, 550, 551, 552, 553, 554, 555] (by decide +kernel) (by decide +kernel)
set_option maxRecDepth 20000 in
theorem gL_law_X1_nextAmount : GoodIn wsL_law (wsV RL 140 RX1 yX1_nextAmount wsX1_nextAmount) := goodIn_app (goodIn_of _ (by decide +kernel)) ggL_law_X1_nextAmount
set_option maxRecDepth 20000 in
theorem ggL_law_L_pay : GoodIn wsL_law wsL_pay := goodIn_ca (goodIn_ca (goodIn_r _ [311, 88, 45, 312, 313, 314, 2, 315, 61, 62, 21, 22, 316, 317, 318, 319, 97, 98, 277, 320, 321, 322, 323, 527, 528, 529, 530, 531, 532, 533, 534, 535, 536, 537, 538, 539, 540, 541] (by decide +kernel) (by decide +kernel)) (goodIn_sub (fun _ h => List.mem_append_left _ (List.mem_append_right _ h)) (by decide +kernel))) (goodIn_sub (fun _ h => List.mem_append_right _ h) (by decide +kernel))
set_option maxRecDepth 20000 in
theorem gL_law_L_pay : GoodIn wsL_law (va_wsS RL 141 yL_pay wsL_pay) := goodIn_app (goodIn_of _ (by decide +kernel)) ggL_law_L_pay
set_option maxRecDepth 20000 in
theorem ggL_law_X1_pay : GoodIn wsL_law wsX1_pay := goodIn_r _ [327, 36, 37, 328, 329, 330, 5, 331, 295, 69, 70, 71, 332, 333, 334, 335, 72, 73, 74, 75, 76, 542, 543, 544, 545, 546, 547, 548, 549, 550, 551, 552, 553, 554, 555] (by decide +kernel) (by decide +kernel)
set_option maxRecDepth 20000 in
theorem gL_law_X1_pay : GoodIn wsL_law (wsV RL 143 RX1 yX1_pay wsX1_pay) := goodIn_app (goodIn_of _ (by decide +kernel)) ggL_law_X1_pay
set_option maxRecDepth 20000 in
theorem ggL_law_L_waive : GoodIn wsL_law wsL_waive := goodIn_ca (goodIn_ca (goodIn_r _ [338, 88, 45, 339, 340, 341, 2, 342, 61, 62, 21, 316, 317, 318, 319, 97, 98, 277, 320, 321, 322, 323, 527, 528, 529, 530, 531, 532, 533, 534, 535, 536, 537, 538, 539, 540, 541] (by decide +kernel) (by decide +kernel)) (goodIn_sub (fun _ h => List.mem_append_left _ (List.mem_append_right _ h)) (by decide +kernel))) (goodIn_sub (fun _ h => List.mem_append_right _ h) (by decide +kernel))
set_option maxRecDepth 20000 in
theorem gL_law_L_waive : GoodIn wsL_law (va_wsS RL 144 yL_waive wsL_waive) := goodIn_app (goodIn_of _ (by decide +kernel)) ggL_law_L_waive
set_option maxRecDepth 20000 in
theorem ggL_law_X1_waive : GoodIn wsL_law wsX1_waive := goodIn_r _ [346, 36, 328, 329, 330, 5, 331, 295, 69, 70, 71, 72, 73, 74, 75, 76, 332, 333, 334, 335, 542, 543, 544, 545, 546, 547, 548, 549, 550, 551, 552, 553, 554, 555] (by decide +kernel) (by decide +kernel)
set_option maxRecDepth 20000 in
theorem gL_law_X1_waive : GoodIn wsL_law (wsV RL 146 RX1 yX1_waive wsX1_waive) := goodIn_app (goodIn_of _ (by decide +kernel)) ggL_law_X1_waive
set_option maxRecDepth 20000 in
theorem ggL_law_X0_applications : GoodIn wsL_law wsX0_applications := goodIn_r _ [350, 277, 527, 528, 529, 530, 531, 532, 533, 534, 535, 536, 537, 538, 539, 540, 541] (by decide +kernel) (by decide +kernel)
set_option maxRecDepth 20000 in
theorem gL_law_X0_applications : GoodIn wsL_law (wsV RL 147 RX0 yX0_applications wsX0_applications) := goodIn_app (goodIn_of _ (by decide +kernel)) ggL_law_X0_applications
set_option maxRecDepth 20000 in
theorem ggL_law_X1_applications : GoodIn wsL_law wsX1_applications := goodIn_r _ [354, 295, 230, 231, 232, 5, 233, 76, 542, 543, 544, 545, 546, 547, 548, 549, 550, 551, 552, 553, 554, 555] (by decide +kernel) (by decide +kernel)
set_option maxRecDepth 20000 in
theorem gL_law_X1_applications : GoodIn wsL_law (wsV RL 150 RX1 yX1_applications wsX1_applications) := goodIn_app (goodIn_of _ (by decide +kernel)) ggL_law_X1_applications
set_option maxRecDepth 20000 in
theorem ggL_law_L_state : GoodIn wsL_law wsL_state := goodIn_ca (goodIn_r _ [357, 88, 358, 359, 360, 2, 361, 21, 316, 317, 318, 319, 97, 98, 277, 527, 528, 529, 530, 531, 532, 533, 534, 535, 536, 537, 538, 539, 540, 541] (by decide +kernel) (by decide +kernel)) (goodIn_sub (fun _ h => List.mem_append_right _ h) (by decide +kernel))
set_option maxRecDepth 20000 in
theorem gL_law_L_state : GoodIn wsL_law (va_wsS RL 151 yL_state wsL_state) := goodIn_app (goodIn_of _ (by decide +kernel)) ggL_law_L_state
set_option maxRecDepth 20000 in
theorem ggL_law_X1_state : GoodIn wsL_law wsX1_state := goodIn_r _ [365, 36, 366, 367, 368, 5, 369, 328, 329, 330, 331, 295, 69, 70, 71, 72, 73, 74, 75, 76, 542, 543, 544, 545, 546, 547, 548, 549, 550, 551, 552, 553, 554, 555] (by decide +kernel) (by decide +kernel)
set_option maxRecDepth 20000 in
theorem gL_law_X1_state : GoodIn wsL_law (wsV RL 153 RX1 yX1_state wsX1_state) := goodIn_app (goodIn_of _ (by decide +kernel)) ggL_law_X1_state
set_option maxRecDepth 20000 in
theorem ggL_law_L_amount : GoodIn wsL_law wsL_amount := goodIn_ca (goodIn_r _ [372, 88, 373, 374, 375, 2, 376, 22, 316, 317, 318, 319, 97, 98, 277, 527, 528, 529, 530, 531, 532, 533, 534, 535, 536, 537, 538, 539, 540, 541] (by decide +kernel) (by decide +kernel)) (goodIn_sub (fun _ h => List.mem_append_right _ h) (by decide +kernel))
set_option maxRecDepth 20000 in
theorem gL_law_L_amount : GoodIn wsL_law (va_wsS RL 154 yL_amount wsL_amount) := goodIn_app (goodIn_of _ (by decide +kernel)) ggL_law_L_amount
set_option maxRecDepth 20000 in
theorem ggL_law_X1_amount : GoodIn wsL_law wsX1_amount := goodIn_r _ [380, 37, 366, 367, 368, 5, 369, 328, 329, 330, 331, 295, 69, 70, 71, 72, 73, 74, 75, 76, 542, 543, 544, 545, 546, 547, 548, 549, 550, 551, 552, 553, 554, 555] (by decide +kernel) (by decide +kernel)
set_option maxRecDepth 20000 in
theorem gL_law_X1_amount : GoodIn wsL_law (wsV RL 156 RX1 yX1_amount wsX1_amount) := goodIn_app (goodIn_of _ (by decide +kernel)) ggL_law_X1_amount
set_option maxRecDepth 20000 in
theorem ggL_law_L_billedBehind : GoodIn wsL_law wsL_billedBehind := goodIn_ca (goodIn_r _ [383, 88, 384, 385, 386, 2, 387, 23, 316, 317, 318, 319, 97, 98, 277, 527, 528, 529, 530, 531, 532, 533, 534, 535, 536, 537, 538, 539, 540, 541] (by decide +kernel) (by decide +kernel)) (goodIn_sub (fun _ h => List.mem_append_right _ h) (by decide +kernel))
set_option maxRecDepth 20000 in
theorem gL_law_L_billedBehind : GoodIn wsL_law (va_wsS RL 157 yL_billedBehind wsL_billedBehind) := goodIn_app (goodIn_of _ (by decide +kernel)) ggL_law_L_billedBehind
set_option maxRecDepth 20000 in
theorem ggL_law_X1_billedBehind : GoodIn wsL_law wsX1_billedBehind := goodIn_r _ [391, 38, 366, 367, 368, 5, 369, 328, 329, 330, 331, 295, 69, 70, 71, 72, 73, 74, 75, 76, 542, 543, 544, 545, 546, 547, 548, 549, 550, 551, 552, 553, 554, 555] (by decide +kernel) (by decide +kernel)
set_option maxRecDepth 20000 in
theorem gL_law_X1_billedBehind : GoodIn wsL_law (wsV RL 159 RX1 yX1_billedBehind wsX1_billedBehind) := goodIn_app (goodIn_of _ (by decide +kernel)) ggL_law_X1_billedBehind
set_option maxRecDepth 20000 in
theorem ggL_law_L_heldBehind : GoodIn wsL_law wsL_heldBehind := goodIn_ca (goodIn_r _ [394, 88, 395, 396, 397, 2, 398, 24, 316, 317, 318, 319, 97, 98, 277, 527, 528, 529, 530, 531, 532, 533, 534, 535, 536, 537, 538, 539, 540, 541] (by decide +kernel) (by decide +kernel)) (goodIn_sub (fun _ h => List.mem_append_right _ h) (by decide +kernel))
set_option maxRecDepth 20000 in
theorem gL_law_L_heldBehind : GoodIn wsL_law (va_wsS RL 160 yL_heldBehind wsL_heldBehind) := goodIn_app (goodIn_of _ (by decide +kernel)) ggL_law_L_heldBehind
set_option maxRecDepth 20000 in
theorem ggL_law_X1_heldBehind : GoodIn wsL_law wsX1_heldBehind := goodIn_r _ [402, 39, 366, 367, 368, 5, 369, 328, 329, 330, 331, 295, 69, 70, 71, 72, 73, 74, 75, 76, 542, 543, 544, 545, 546, 547, 548, 549, 550, 551, 552, 553, 554, 555] (by decide +kernel) (by decide +kernel)
set_option maxRecDepth 20000 in
theorem gL_law_X1_heldBehind : GoodIn wsL_law (wsV RL 162 RX1 yX1_heldBehind wsX1_heldBehind) := goodIn_app (goodIn_of _ (by decide +kernel)) ggL_law_X1_heldBehind
set_option maxRecDepth 20000 in
theorem ggL_law_X0_lines : GoodIn wsL_law wsX0_lines := goodIn_r _ [406, 51, 527, 528, 529, 530, 531, 532, 533, 534, 535, 536, 537, 538, 539, 540, 541] (by decide +kernel) (by decide +kernel)
set_option maxRecDepth 20000 in
theorem gL_law_X0_lines : GoodIn wsL_law (wsV RL 163 RX0 yX0_lines wsX0_lines) := goodIn_app (goodIn_of _ (by decide +kernel)) ggL_law_X0_lines
set_option maxRecDepth 20000 in
theorem ggL_law_X1_lines : GoodIn wsL_law wsX1_lines := goodIn_r _ [410, 68, 230, 231, 232, 5, 233, 76, 542, 543, 544, 545, 546, 547, 548, 549, 550, 551, 552, 553, 554, 555] (by decide +kernel) (by decide +kernel)
set_option maxRecDepth 20000 in
theorem gL_law_X1_lines : GoodIn wsL_law (wsV RL 166 RX1 yX1_lines wsX1_lines) := goodIn_app (goodIn_of _ (by decide +kernel)) ggL_law_X1_lines
set_option maxRecDepth 20000 in
theorem ggL_law_L_value : GoodIn wsL_law wsL_value := goodIn_ca (goodIn_r _ [413, 88, 414, 415, 416, 2, 417, 14, 93, 94, 95, 96, 97, 98, 51, 527, 528, 529, 530, 531, 532, 533, 534, 535, 536, 537, 538, 539, 540, 541] (by decide +kernel) (by decide +kernel)) (goodIn_sub (fun _ h => List.mem_append_right _ h) (by decide +kernel))
set_option maxRecDepth 20000 in
theorem gL_law_L_value : GoodIn wsL_law (va_wsS RL 167 yL_value wsL_value) := goodIn_app (goodIn_of _ (by decide +kernel)) ggL_law_L_value
set_option maxRecDepth 20000 in
theorem ggL_law_X1_value : GoodIn wsL_law wsX1_value := goodIn_r _ [421, 30, 422, 423, 424, 5, 425, 103, 104, 105, 106, 68, 69, 70, 71, 72, 73, 74, 75, 76, 542, 543, 544, 545, 546, 547, 548, 549, 550, 551, 552, 553, 554, 555] (by decide +kernel) (by decide +kernel)
set_option maxRecDepth 20000 in
theorem gL_law_X1_value : GoodIn wsL_law (wsV RL 169 RX1 yX1_value wsX1_value) := goodIn_app (goodIn_of _ (by decide +kernel)) ggL_law_X1_value
set_option maxRecDepth 20000 in
theorem ggL_law_L_work : GoodIn wsL_law wsL_work := goodIn_ca (goodIn_r _ [428, 88, 429, 430, 431, 2, 432, 16, 93, 94, 95, 96, 97, 98, 51, 527, 528, 529, 530, 531, 532, 533, 534, 535, 536, 537, 538, 539, 540, 541] (by decide +kernel) (by decide +kernel)) (goodIn_sub (fun _ h => List.mem_append_right _ h) (by decide +kernel))
set_option maxRecDepth 20000 in
theorem gL_law_L_work : GoodIn wsL_law (va_wsS RL 170 yL_work wsL_work) := goodIn_app (goodIn_of _ (by decide +kernel)) ggL_law_L_work
set_option maxRecDepth 20000 in
theorem ggL_law_X1_work : GoodIn wsL_law wsX1_work := goodIn_r _ [436, 32, 422, 423, 424, 5, 425, 103, 104, 105, 106, 68, 69, 70, 71, 72, 73, 74, 75, 76, 542, 543, 544, 545, 546, 547, 548, 549, 550, 551, 552, 553, 554, 555] (by decide +kernel) (by decide +kernel)
set_option maxRecDepth 20000 in
theorem gL_law_X1_work : GoodIn wsL_law (wsV RL 172 RX1 yX1_work wsX1_work) := goodIn_app (goodIn_of _ (by decide +kernel)) ggL_law_X1_work
set_option maxRecDepth 20000 in
theorem ggL_law_L_goods : GoodIn wsL_law wsL_goods := goodIn_ca (goodIn_r _ [439, 88, 440, 441, 442, 2, 443, 15, 16, 93, 94, 95, 96, 97, 98, 51, 527, 528, 529, 530, 531, 532, 533, 534, 535, 536, 537, 538, 539, 540, 541] (by decide +kernel) (by decide +kernel)) (goodIn_sub (fun _ h => List.mem_append_right _ h) (by decide +kernel))
set_option maxRecDepth 20000 in
theorem gL_law_L_goods : GoodIn wsL_law (va_wsS RL 173 yL_goods wsL_goods) := goodIn_app (goodIn_of _ (by decide +kernel)) ggL_law_L_goods
set_option maxRecDepth 20000 in
theorem ggL_law_X1_goods : GoodIn wsL_law wsX1_goods := goodIn_r _ [447, 31, 32, 422, 423, 424, 5, 425, 103, 104, 105, 106, 68, 69, 70, 71, 72, 73, 74, 75, 76, 542, 543, 544, 545, 546, 547, 548, 549, 550, 551, 552, 553, 554, 555] (by decide +kernel) (by decide +kernel)
set_option maxRecDepth 20000 in
theorem gL_law_X1_goods : GoodIn wsL_law (wsV RL 175 RX1 yX1_goods wsX1_goods) := goodIn_app (goodIn_of _ (by decide +kernel)) ggL_law_X1_goods
set_option maxRecDepth 20000 in
theorem ggL_law_L_billed : GoodIn wsL_law wsL_billed := goodIn_ca (goodIn_r _ [450, 88, 451, 452, 453, 2, 454, 17, 93, 94, 95, 96, 97, 98, 51, 527, 528, 529, 530, 531, 532, 533, 534, 535, 536, 537, 538, 539, 540, 541] (by decide +kernel) (by decide +kernel)) (goodIn_sub (fun _ h => List.mem_append_right _ h) (by decide +kernel))
set_option maxRecDepth 20000 in
theorem gL_law_L_billed : GoodIn wsL_law (va_wsS RL 176 yL_billed wsL_billed) := goodIn_app (goodIn_of _ (by decide +kernel)) ggL_law_L_billed
set_option maxRecDepth 20000 in
theorem ggL_law_X1_billed : GoodIn wsL_law wsX1_billed := goodIn_r _ [458, 33, 422, 423, 424, 5, 425, 103, 104, 105, 106, 68, 69, 70, 71, 72, 73, 74, 75, 76, 542, 543, 544, 545, 546, 547, 548, 549, 550, 551, 552, 553, 554, 555] (by decide +kernel) (by decide +kernel)
set_option maxRecDepth 20000 in
theorem gL_law_X1_billed : GoodIn wsL_law (wsV RL 178 RX1 yX1_billed wsX1_billed) := goodIn_app (goodIn_of _ (by decide +kernel)) ggL_law_X1_billed
set_option maxRecDepth 20000 in
theorem ggL_law_L_held : GoodIn wsL_law wsL_held := goodIn_ca (goodIn_r _ [461, 88, 462, 463, 464, 2, 465, 18, 93, 94, 95, 96, 97, 98, 51, 527, 528, 529, 530, 531, 532, 533, 534, 535, 536, 537, 538, 539, 540, 541] (by decide +kernel) (by decide +kernel)) (goodIn_sub (fun _ h => List.mem_append_right _ h) (by decide +kernel))
set_option maxRecDepth 20000 in
theorem gL_law_L_held : GoodIn wsL_law (va_wsS RL 179 yL_held wsL_held) := goodIn_app (goodIn_of _ (by decide +kernel)) ggL_law_L_held
set_option maxRecDepth 20000 in
theorem ggL_law_X1_held : GoodIn wsL_law wsX1_held := goodIn_r _ [469, 34, 422, 423, 424, 5, 425, 103, 104, 105, 106, 68, 69, 70, 71, 72, 73, 74, 75, 76, 542, 543, 544, 545, 546, 547, 548, 549, 550, 551, 552, 553, 554, 555] (by decide +kernel) (by decide +kernel)
set_option maxRecDepth 20000 in
theorem gL_law_X1_held : GoodIn wsL_law (wsV RL 181 RX1 yX1_held wsX1_held) := goodIn_app (goodIn_of _ (by decide +kernel)) ggL_law_X1_held
set_option maxRecDepth 20000 in
theorem ggL_law_L_lineByShare : GoodIn wsL_law wsL_lineByShare := goodIn_ca (goodIn_r _ [472, 88, 473, 474, 475, 2, 476, 51, 93, 94, 95, 96, 97, 98, 477, 478, 479, 480, 481, 482, 483, 484, 16, 485, 486, 487, 488, 14, 489, 490, 491, 492, 527, 528, 529, 530, 531, 532, 533, 534, 535, 536, 537, 538, 539, 540, 541] (by decide +kernel) (by decide +kernel)) (goodIn_sub (fun _ h => List.mem_append_right _ h) (by decide +kernel))
set_option maxRecDepth 20000 in
theorem gL_law_L_lineByShare : GoodIn wsL_law (va_wsS RL 182 yL_lineByShare wsL_lineByShare) := goodIn_app (goodIn_of _ (by decide +kernel)) ggL_law_L_lineByShare
set_option maxRecDepth 20000 in
theorem ggL_law_X1_lineByShare : GoodIn wsL_law wsX1_lineByShare := goodIn_r _ [496, 68, 497, 498, 499, 5, 500, 32, 30, 72, 73, 74, 75, 76, 542, 543, 544, 545, 546, 547, 548, 549, 550, 551, 552, 553, 554, 555] (by decide +kernel) (by decide +kernel)
set_option maxRecDepth 20000 in
theorem gL_law_X1_lineByShare : GoodIn wsL_law (wsV RL 184 RX1 yX1_lineByShare wsX1_lineByShare) := goodIn_app (goodIn_of _ (by decide +kernel)) ggL_law_X1_lineByShare
set_option maxRecDepth 20000 in
theorem ggL_law_X0_contractSum : GoodIn wsL_law wsX0_contractSum := goodIn_r _ [244, 14, 51, 238, 239, 2, 240, 527, 528, 529, 530, 531, 532, 533, 534, 535, 536, 537, 538, 539, 540, 541] (by decide +kernel) (by decide +kernel)
set_option maxRecDepth 20000 in
theorem gL_law_X0_contractSum : GoodIn wsL_law (wsV RL 185 RX0 yX0_contractSum wsX0_contractSum) := goodIn_app (goodIn_of _ (by decide +kernel)) ggL_law_X0_contractSum
set_option maxRecDepth 20000 in
theorem ggL_law_X1_contractSum : GoodIn wsL_law wsX1_contractSum := goodIn_r _ [505, 30, 253, 254, 255, 5, 256, 68, 230, 231, 232, 233, 76, 542, 543, 544, 545, 546, 547, 548, 549, 550, 551, 552, 553, 554, 555] (by decide +kernel) (by decide +kernel)
set_option maxRecDepth 20000 in
theorem gL_law_X1_contractSum : GoodIn wsL_law (wsV RL 188 RX1 yX1_contractSum wsX1_contractSum) := goodIn_app (goodIn_of _ (by decide +kernel)) ggL_law_X1_contractSum
set_option maxRecDepth 20000 in
theorem ggL_law_X0_paid : GoodIn wsL_law wsX0_paid := goodIn_r _ [509, 277, 21, 22, 527, 528, 529, 530, 531, 532, 533, 534, 535, 536, 537, 538, 539, 540, 541] (by decide +kernel) (by decide +kernel)
set_option maxRecDepth 20000 in
theorem gL_law_X0_paid : GoodIn wsL_law (wsV RL 189 RX0 yX0_paid wsX0_paid) := goodIn_app (goodIn_of _ (by decide +kernel)) ggL_law_X0_paid
set_option maxRecDepth 20000 in
theorem ggL_law_X1_paid : GoodIn wsL_law wsX1_paid := goodIn_r _ [513, 514, 515, 516, 5, 517, 295, 36, 37, 230, 231, 232, 233, 76, 542, 543, 544, 545, 546, 547, 548, 549, 550, 551, 552, 553, 554, 555] (by decide +kernel) (by decide +kernel)
set_option maxRecDepth 20000 in
theorem gL_law_X1_paid : GoodIn wsL_law (wsV RL 192 RX1 yX1_paid wsX1_paid) := goodIn_app (goodIn_of _ (by decide +kernel)) ggL_law_X1_paid
set_option maxRecDepth 20000 in
theorem ggL_law_X0_toCome : GoodIn wsL_law wsX0_toCome := goodIn_r _ [521, 241, 242, 243, 2, 244, 14, 51, 238, 239, 240, 522, 507, 508, 509, 277, 21, 22, 527, 528, 529, 530, 531, 532, 533, 534, 535, 536, 537, 538, 539, 540, 541] (by decide +kernel) (by decide +kernel)
set_option maxRecDepth 20000 in
theorem gL_law_X0_toCome : GoodIn wsL_law (wsV RL 193 RX0 yX0_toCome wsX0_toCome) := goodIn_app (goodIn_of _ (by decide +kernel)) ggL_law_X0_toCome
set_option maxRecDepth 20000 in
theorem ggL_law_X1_toCome : GoodIn wsL_law wsX1_toCome := goodIn_r _ [526, 30, 253, 254, 255, 5, 256, 68, 514, 515, 516, 517, 295, 36, 37, 230, 231, 232, 233, 76, 542, 543, 544, 545, 546, 547, 548, 549, 550, 551, 552, 553, 554, 555] (by decide +kernel) (by decide +kernel)
set_option maxRecDepth 20000 in
theorem gL_law_X1_toCome : GoodIn wsL_law (wsV RL 196 RX1 yX1_toCome wsX1_toCome) := goodIn_app (goodIn_of _ (by decide +kernel)) ggL_law_X1_toCome
