theorem dX0_init_0 : decode cX0_init 0 = .ok (.aload_n 0, 1) := by decide +kernel
theorem dX0_init_1 : decode cX0_init 1 = .ok (.invokespecial 1, 3) := by decide +kernel
theorem dX0_init_4 : decode cX0_init 4 = .ok (.aload_n 0, 1) := by decide +kernel
theorem dX0_init_5 : decode cX0_init 5 = .ok (.bipush 16, 2) := by decide +kernel
theorem dX0_init_7 : decode cX0_init 7 = .ok (.newarray .int, 2) := by decide +kernel
theorem dX0_init_9 : decode cX0_init 9 = .ok (.putfield 9, 3) := by decide +kernel
theorem dX0_init_12 : decode cX0_init 12 = .ok (.aload_n 0, 1) := by decide +kernel
theorem dX0_init_13 : decode cX0_init 13 = .ok (.bipush 16, 2) := by decide +kernel
theorem dX0_init_15 : decode cX0_init 15 = .ok (.newarray .int, 2) := by decide +kernel
theorem dX0_init_17 : decode cX0_init 17 = .ok (.putfield 13, 3) := by decide +kernel
theorem dX0_init_20 : decode cX0_init 20 = .ok (.aload_n 0, 1) := by decide +kernel
theorem dX0_init_21 : decode cX0_init 21 = .ok (.bipush 16, 2) := by decide +kernel
theorem dX0_init_23 : decode cX0_init 23 = .ok (.newarray .int, 2) := by decide +kernel
theorem dX0_init_25 : decode cX0_init 25 = .ok (.putfield 16, 3) := by decide +kernel
theorem dX0_init_28 : decode cX0_init 28 = .ok (.aload_n 0, 1) := by decide +kernel
theorem dX0_init_29 : decode cX0_init 29 = .ok (.bipush 16, 2) := by decide +kernel
theorem dX0_init_31 : decode cX0_init 31 = .ok (.newarray .int, 2) := by decide +kernel
theorem dX0_init_33 : decode cX0_init 33 = .ok (.putfield 19, 3) := by decide +kernel
theorem dX0_init_36 : decode cX0_init 36 = .ok (.aload_n 0, 1) := by decide +kernel
theorem dX0_init_37 : decode cX0_init 37 = .ok (.bipush 16, 2) := by decide +kernel
theorem dX0_init_39 : decode cX0_init 39 = .ok (.newarray .int, 2) := by decide +kernel
theorem dX0_init_41 : decode cX0_init 41 = .ok (.putfield 22, 3) := by decide +kernel
theorem dX0_init_44 : decode cX0_init 44 = .ok (.aload_n 0, 1) := by decide +kernel
theorem dX0_init_45 : decode cX0_init 45 = .ok (.bipush 6, 2) := by decide +kernel
theorem dX0_init_47 : decode cX0_init 47 = .ok (.newarray .int, 2) := by decide +kernel
theorem dX0_init_49 : decode cX0_init 49 = .ok (.putfield 25, 3) := by decide +kernel
theorem dX0_init_52 : decode cX0_init 52 = .ok (.aload_n 0, 1) := by decide +kernel
theorem dX0_init_53 : decode cX0_init 53 = .ok (.bipush 6, 2) := by decide +kernel
theorem dX0_init_55 : decode cX0_init 55 = .ok (.newarray .int, 2) := by decide +kernel
theorem dX0_init_57 : decode cX0_init 57 = .ok (.putfield 28, 3) := by decide +kernel
theorem dX0_init_60 : decode cX0_init 60 = .ok (.aload_n 0, 1) := by decide +kernel
theorem dX0_init_61 : decode cX0_init 61 = .ok (.bipush 60, 2) := by decide +kernel
theorem dX0_init_63 : decode cX0_init 63 = .ok (.newarray .int, 2) := by decide +kernel
theorem dX0_init_65 : decode cX0_init 65 = .ok (.putfield 31, 3) := by decide +kernel
theorem dX0_init_68 : decode cX0_init 68 = .ok (.aload_n 0, 1) := by decide +kernel
theorem dX0_init_69 : decode cX0_init 69 = .ok (.bipush 60, 2) := by decide +kernel
theorem dX0_init_71 : decode cX0_init 71 = .ok (.newarray .int, 2) := by decide +kernel
theorem dX0_init_73 : decode cX0_init 73 = .ok (.putfield 34, 3) := by decide +kernel
theorem dX0_init_76 : decode cX0_init 76 = .ok (.aload_n 0, 1) := by decide +kernel
theorem dX0_init_77 : decode cX0_init 77 = .ok (.bipush 60, 2) := by decide +kernel
theorem dX0_init_79 : decode cX0_init 79 = .ok (.newarray .int, 2) := by decide +kernel
theorem dX0_init_81 : decode cX0_init 81 = .ok (.putfield 37, 3) := by decide +kernel
theorem dX0_init_84 : decode cX0_init 84 = .ok (.aload_n 0, 1) := by decide +kernel
theorem dX0_init_85 : decode cX0_init 85 = .ok (.bipush 60, 2) := by decide +kernel
theorem dX0_init_87 : decode cX0_init 87 = .ok (.newarray .int, 2) := by decide +kernel
theorem dX0_init_89 : decode cX0_init 89 = .ok (.putfield 40, 3) := by decide +kernel
theorem dX0_init_92 : decode cX0_init 92 = .ok (.aload_n 0, 1) := by decide +kernel
theorem dX0_init_93 : decode cX0_init 93 = .ok (.getfield 28, 3) := by decide +kernel
theorem dX0_init_96 : decode cX0_init 96 = .ok (.iconst 0, 1) := by decide +kernel
theorem dX0_init_97 : decode cX0_init 97 = .ok (.bipush 100, 2) := by decide +kernel
theorem dX0_init_99 : decode cX0_init 99 = .ok (.iastore, 1) := by decide +kernel
theorem dX0_init_100 : decode cX0_init 100 = .ok (.aload_n 0, 1) := by decide +kernel
theorem dX0_init_101 : decode cX0_init 101 = .ok (.iconst 1, 1) := by decide +kernel
theorem dX0_init_102 : decode cX0_init 102 = .ok (.putfield 43, 3) := by decide +kernel
theorem dX0_init_105 : decode cX0_init 105 = .ok (.return_, 1) := by decide +kernel
set_option maxRecDepth 20000 in
theorem ggX0_addLine_X0_requireBetween : GoodIn wsX0_addLine wsX0_requireBetween := goodIn_ca (goodIn_r _ [7, 8, 9] (by decide +kernel) (by decide +kernel)) (goodIn_sub (fun _ h => List.mem_cons_of_mem _ (List.mem_append_left _ (List.mem_append_right _ h))) (by decide +kernel))
set_option maxRecDepth 20000 in
theorem gX0_addLine_X0_requireBetween : GoodIn wsX0_addLine (va_wsS RX0 48 yX0_requireBetween wsX0_requireBetween) := goodIn_app (goodIn_of _ (by decide +kernel)) ggX0_addLine_X0_requireBetween
set_option maxRecDepth 20000 in
theorem ggX0_addLine_X0_requireRoomForLine : GoodIn wsX0_addLine wsX0_requireRoomForLine := goodIn_ca (goodIn_r _ [13, 14, 15, 2, 16, 17, 18, 19, 20, 21, 22, 23, 24, 25, 26, 27, 28, 29, 30] (by decide +kernel) (by decide +kernel)) (goodIn_sub (fun _ h => List.mem_cons_of_mem _ (List.mem_append_right _ h)) (by decide +kernel))
set_option maxRecDepth 20000 in
theorem gX0_addLine_X0_requireRoomForLine : GoodIn wsX0_addLine (wsV RX0 52 RX0 yX0_requireRoomForLine wsX0_requireRoomForLine) := goodIn_app (goodIn_of _ (by decide +kernel)) ggX0_addLine_X0_requireRoomForLine
theorem dX0_addLine_0 : decode cX0_addLine 0 = .ok (.iload_n 1, 1) := by decide +kernel
theorem dX0_addLine_1 : decode cX0_addLine 1 = .ok (.iconst 0, 1) := by decide +kernel
theorem dX0_addLine_2 : decode cX0_addLine 2 = .ok (.ldc 47, 2) := by decide +kernel
theorem dX0_addLine_4 : decode cX0_addLine 4 = .ok (.invokestatic 48, 3) := by decide +kernel
theorem dX0_addLine_7 : decode cX0_addLine 7 = .ok (.aload_n 0, 1) := by decide +kernel
theorem dX0_addLine_8 : decode cX0_addLine 8 = .ok (.invokevirtual 52, 3) := by decide +kernel
theorem dX0_addLine_11 : decode cX0_addLine 11 = .ok (.aload_n 0, 1) := by decide +kernel
theorem dX0_addLine_12 : decode cX0_addLine 12 = .ok (.getfield 55, 3) := by decide +kernel
theorem dX0_addLine_15 : decode cX0_addLine 15 = .ok (.istore_n 2, 1) := by decide +kernel
theorem dX0_addLine_16 : decode cX0_addLine 16 = .ok (.aload_n 0, 1) := by decide +kernel
theorem dX0_addLine_17 : decode cX0_addLine 17 = .ok (.getfield 9, 3) := by decide +kernel
theorem dX0_addLine_20 : decode cX0_addLine 20 = .ok (.iload_n 2, 1) := by decide +kernel
theorem dX0_addLine_21 : decode cX0_addLine 21 = .ok (.iload_n 1, 1) := by decide +kernel
theorem dX0_addLine_22 : decode cX0_addLine 22 = .ok (.iastore, 1) := by decide +kernel
theorem dX0_addLine_23 : decode cX0_addLine 23 = .ok (.aload_n 0, 1) := by decide +kernel
theorem dX0_addLine_24 : decode cX0_addLine 24 = .ok (.iload_n 2, 1) := by decide +kernel
theorem dX0_addLine_25 : decode cX0_addLine 25 = .ok (.iconst 1, 1) := by decide +kernel
theorem dX0_addLine_26 : decode cX0_addLine 26 = .ok (.iadd, 1) := by decide +kernel
theorem dX0_addLine_27 : decode cX0_addLine 27 = .ok (.putfield 55, 3) := by decide +kernel
theorem dX0_addLine_30 : decode cX0_addLine 30 = .ok (.iload_n 2, 1) := by decide +kernel
theorem dX0_addLine_31 : decode cX0_addLine 31 = .ok (.ireturn, 1) := by decide +kernel
set_option maxRecDepth 20000 in
theorem ggX0_changeValue_X0_requireLine : GoodIn wsX0_changeValue wsX0_requireLine := goodIn_ca (goodIn_r _ [10, 11, 12, 13, 19, 20, 21, 22, 23, 24, 25, 26, 27, 28, 29, 30, 31, 32, 33] (by decide +kernel) (by decide +kernel)) (goodIn_sub (fun _ h => List.mem_cons_of_mem _ (List.mem_append_left _ (List.mem_append_right _ h))) (by decide +kernel))
set_option maxRecDepth 20000 in
theorem gX0_changeValue_X0_requireLine : GoodIn wsX0_changeValue (wsV RX0 58 RX0 yX0_requireLine wsX0_requireLine) := goodIn_app (goodIn_of _ (by decide +kernel)) ggX0_changeValue_X0_requireLine
set_option maxRecDepth 20000 in
theorem ggX0_changeValue_X0_requireBetween : GoodIn wsX0_changeValue wsX0_requireBetween := goodIn_ca (goodIn_r _ [16, 17, 18] (by decide +kernel) (by decide +kernel)) (goodIn_sub (fun _ h => List.mem_cons_of_mem _ (List.mem_append_right _ h)) (by decide +kernel))
set_option maxRecDepth 20000 in
theorem gX0_changeValue_X0_requireBetween : GoodIn wsX0_changeValue (va_wsS RX0 48 yX0_requireBetween wsX0_requireBetween) := goodIn_app (goodIn_of _ (by decide +kernel)) ggX0_changeValue_X0_requireBetween
theorem dX0_changeValue_0 : decode cX0_changeValue 0 = .ok (.aload_n 0, 1) := by decide +kernel
theorem dX0_changeValue_1 : decode cX0_changeValue 1 = .ok (.iload_n 1, 1) := by decide +kernel
theorem dX0_changeValue_2 : decode cX0_changeValue 2 = .ok (.invokevirtual 58, 3) := by decide +kernel
theorem dX0_changeValue_5 : decode cX0_changeValue 5 = .ok (.iload_n 2, 1) := by decide +kernel
theorem dX0_changeValue_6 : decode cX0_changeValue 6 = .ok (.iconst 0, 1) := by decide +kernel
theorem dX0_changeValue_7 : decode cX0_changeValue 7 = .ok (.ldc 47, 2) := by decide +kernel
theorem dX0_changeValue_9 : decode cX0_changeValue 9 = .ok (.invokestatic 48, 3) := by decide +kernel
theorem dX0_changeValue_12 : decode cX0_changeValue 12 = .ok (.iload_n 2, 1) := by decide +kernel
theorem dX0_changeValue_13 : decode cX0_changeValue 13 = .ok (.aload_n 0, 1) := by decide +kernel
theorem dX0_changeValue_14 : decode cX0_changeValue 14 = .ok (.getfield 13, 3) := by decide +kernel
theorem dX0_changeValue_17 : decode cX0_changeValue 17 = .ok (.iload_n 1, 1) := by decide +kernel
theorem dX0_changeValue_18 : decode cX0_changeValue 18 = .ok (.iaload, 1) := by decide +kernel
theorem dX0_changeValue_19 : decode cX0_changeValue 19 = .ok (.if_icmp .ge 13, 3) := by decide +kernel
theorem dX0_changeValue_22 : decode cX0_changeValue 22 = .ok (.new 62, 3) := by decide +kernel
theorem dX0_changeValue_25 : decode cX0_changeValue 25 = .ok (.dup, 1) := by decide +kernel
theorem dX0_changeValue_26 : decode cX0_changeValue 26 = .ok (.ldc 64, 2) := by decide +kernel
theorem dX0_changeValue_28 : decode cX0_changeValue 28 = .ok (.invokespecial 66, 3) := by decide +kernel
theorem dX0_changeValue_31 : decode cX0_changeValue 31 = .ok (.athrow, 1) := by decide +kernel
theorem dX0_changeValue_32 : decode cX0_changeValue 32 = .ok (.iload_n 2, 1) := by decide +kernel
theorem dX0_changeValue_33 : decode cX0_changeValue 33 = .ok (.aload_n 0, 1) := by decide +kernel
theorem dX0_changeValue_34 : decode cX0_changeValue 34 = .ok (.getfield 9, 3) := by decide +kernel
theorem dX0_changeValue_37 : decode cX0_changeValue 37 = .ok (.iload_n 1, 1) := by decide +kernel
theorem dX0_changeValue_38 : decode cX0_changeValue 38 = .ok (.iaload, 1) := by decide +kernel
theorem dX0_changeValue_39 : decode cX0_changeValue 39 = .ok (.isub, 1) := by decide +kernel
theorem dX0_changeValue_40 : decode cX0_changeValue 40 = .ok (.istore_n 3, 1) := by decide +kernel
theorem dX0_changeValue_41 : decode cX0_changeValue 41 = .ok (.aload_n 0, 1) := by decide +kernel
theorem dX0_changeValue_42 : decode cX0_changeValue 42 = .ok (.getfield 9, 3) := by decide +kernel
theorem dX0_changeValue_45 : decode cX0_changeValue 45 = .ok (.iload_n 1, 1) := by decide +kernel
theorem dX0_changeValue_46 : decode cX0_changeValue 46 = .ok (.iload_n 2, 1) := by decide +kernel
theorem dX0_changeValue_47 : decode cX0_changeValue 47 = .ok (.iastore, 1) := by decide +kernel
theorem dX0_changeValue_48 : decode cX0_changeValue 48 = .ok (.iload_n 3, 1) := by decide +kernel
theorem dX0_changeValue_49 : decode cX0_changeValue 49 = .ok (.ireturn, 1) := by decide +kernel
set_option maxRecDepth 20000 in
theorem ggX0_split_X0_requireLine : GoodIn wsX0_split wsX0_requireLine := goodIn_ca (goodIn_r _ [11, 12, 13, 2, 35, 36, 37, 38, 39, 40, 41, 42, 43, 44, 45, 46, 47, 48, 49] (by decide +kernel) (by decide +kernel)) (goodIn_sub (fun _ h => List.mem_cons_of_mem _ (List.mem_append_left _ (List.mem_append_left _ (List.mem_append_right _ h)))) (by decide +kernel))
set_option maxRecDepth 20000 in
theorem gX0_split_X0_requireLine : GoodIn wsX0_split (wsV RX0 58 RX0 yX0_requireLine wsX0_requireLine) := goodIn_app (goodIn_of _ (by decide +kernel)) ggX0_split_X0_requireLine
set_option maxRecDepth 20000 in
theorem ggX0_split_X0_requireBetween : GoodIn wsX0_split wsX0_requireBetween := goodIn_ca (goodIn_r _ [16, 17, 18] (by decide +kernel) (by decide +kernel)) (goodIn_sub (fun _ h => List.mem_cons_of_mem _ (List.mem_append_left _ (List.mem_append_right _ h))) (by decide +kernel))
set_option maxRecDepth 20000 in
theorem gX0_split_X0_requireBetween : GoodIn wsX0_split (va_wsS RX0 48 yX0_requireBetween wsX0_requireBetween) := goodIn_app (goodIn_of _ (by decide +kernel)) ggX0_split_X0_requireBetween
set_option maxRecDepth 20000 in
theorem ggX0_split_X0_requireRoomForLine : GoodIn wsX0_split wsX0_requireRoomForLine := goodIn_ca (goodIn_r _ [22, 23, 24, 2, 35, 36, 37, 38, 39, 40, 41, 42, 43, 44, 45, 46, 47, 48, 49] (by decide +kernel) (by decide +kernel)) (goodIn_sub (fun _ h => List.mem_cons_of_mem _ (List.mem_append_right _ h)) (by decide +kernel))
set_option maxRecDepth 20000 in
theorem gX0_split_X0_requireRoomForLine : GoodIn wsX0_split (wsV RX0 52 RX0 yX0_requireRoomForLine wsX0_requireRoomForLine) := goodIn_app (goodIn_of _ (by decide +kernel)) ggX0_split_X0_requireRoomForLine
set_option maxRecDepth 20000 in
theorem ggX0_split_X0_moveShare : GoodIn wsX0_split wsX0_moveShare := goodIn_r _ [27, 28, 29, 10, 30, 31, 32, 33, 34] (by decide +kernel) (by decide +kernel)
set_option maxRecDepth 20000 in
theorem gX0_split_X0_moveShare : GoodIn wsX0_split (va_wsS RX0 69 yX0_moveShare wsX0_moveShare) := goodIn_app (goodIn_of _ (by decide +kernel)) ggX0_split_X0_moveShare
theorem dX0_split_0 : decode cX0_split 0 = .ok (.aload_n 0, 1) := by decide +kernel
theorem dX0_split_1 : decode cX0_split 1 = .ok (.iload_n 1, 1) := by decide +kernel
theorem dX0_split_2 : decode cX0_split 2 = .ok (.invokevirtual 58, 3) := by decide +kernel
theorem dX0_split_5 : decode cX0_split 5 = .ok (.aload_n 0, 1) := by decide +kernel
theorem dX0_split_6 : decode cX0_split 6 = .ok (.getfield 9, 3) := by decide +kernel
theorem dX0_split_9 : decode cX0_split 9 = .ok (.iload_n 1, 1) := by decide +kernel
theorem dX0_split_10 : decode cX0_split 10 = .ok (.iaload, 1) := by decide +kernel
theorem dX0_split_11 : decode cX0_split 11 = .ok (.istore_n 3, 1) := by decide +kernel
theorem dX0_split_12 : decode cX0_split 12 = .ok (.iload_n 2, 1) := by decide +kernel
theorem dX0_split_13 : decode cX0_split 13 = .ok (.iconst 1, 1) := by decide +kernel
theorem dX0_split_14 : decode cX0_split 14 = .ok (.iload_n 3, 1) := by decide +kernel
theorem dX0_split_15 : decode cX0_split 15 = .ok (.iconst 1, 1) := by decide +kernel
theorem dX0_split_16 : decode cX0_split 16 = .ok (.isub, 1) := by decide +kernel
theorem dX0_split_17 : decode cX0_split 17 = .ok (.invokestatic 48, 3) := by decide +kernel
theorem dX0_split_20 : decode cX0_split 20 = .ok (.aload_n 0, 1) := by decide +kernel
theorem dX0_split_21 : decode cX0_split 21 = .ok (.invokevirtual 52, 3) := by decide +kernel
theorem dX0_split_24 : decode cX0_split 24 = .ok (.aload_n 0, 1) := by decide +kernel
theorem dX0_split_25 : decode cX0_split 25 = .ok (.getfield 55, 3) := by decide +kernel
theorem dX0_split_28 : decode cX0_split 28 = .ok (.istore 4, 2) := by decide +kernel
theorem dX0_split_30 : decode cX0_split 30 = .ok (.aload_n 0, 1) := by decide +kernel
theorem dX0_split_31 : decode cX0_split 31 = .ok (.getfield 13, 3) := by decide +kernel
theorem dX0_split_34 : decode cX0_split 34 = .ok (.iload_n 1, 1) := by decide +kernel
theorem dX0_split_35 : decode cX0_split 35 = .ok (.iload 4, 2) := by decide +kernel
theorem dX0_split_37 : decode cX0_split 37 = .ok (.iload_n 2, 1) := by decide +kernel
theorem dX0_split_38 : decode cX0_split 38 = .ok (.iload_n 3, 1) := by decide +kernel
theorem dX0_split_39 : decode cX0_split 39 = .ok (.invokestatic 69, 3) := by decide +kernel
theorem dX0_split_42 : decode cX0_split 42 = .ok (.aload_n 0, 1) := by decide +kernel
theorem dX0_split_43 : decode cX0_split 43 = .ok (.getfield 16, 3) := by decide +kernel
theorem dX0_split_46 : decode cX0_split 46 = .ok (.iload_n 1, 1) := by decide +kernel
theorem dX0_split_47 : decode cX0_split 47 = .ok (.iload 4, 2) := by decide +kernel
theorem dX0_split_49 : decode cX0_split 49 = .ok (.iload_n 2, 1) := by decide +kernel
theorem dX0_split_50 : decode cX0_split 50 = .ok (.iload_n 3, 1) := by decide +kernel
theorem dX0_split_51 : decode cX0_split 51 = .ok (.invokestatic 69, 3) := by decide +kernel
theorem dX0_split_54 : decode cX0_split 54 = .ok (.aload_n 0, 1) := by decide +kernel
theorem dX0_split_55 : decode cX0_split 55 = .ok (.getfield 19, 3) := by decide +kernel
theorem dX0_split_58 : decode cX0_split 58 = .ok (.iload_n 1, 1) := by decide +kernel
theorem dX0_split_59 : decode cX0_split 59 = .ok (.iload 4, 2) := by decide +kernel
theorem dX0_split_61 : decode cX0_split 61 = .ok (.iload_n 2, 1) := by decide +kernel
theorem dX0_split_62 : decode cX0_split 62 = .ok (.iload_n 3, 1) := by decide +kernel
theorem dX0_split_63 : decode cX0_split 63 = .ok (.invokestatic 69, 3) := by decide +kernel
theorem dX0_split_66 : decode cX0_split 66 = .ok (.aload_n 0, 1) := by decide +kernel
theorem dX0_split_67 : decode cX0_split 67 = .ok (.getfield 22, 3) := by decide +kernel
theorem dX0_split_70 : decode cX0_split 70 = .ok (.iload_n 1, 1) := by decide +kernel
theorem dX0_split_71 : decode cX0_split 71 = .ok (.iload 4, 2) := by decide +kernel
theorem dX0_split_73 : decode cX0_split 73 = .ok (.iload_n 2, 1) := by decide +kernel
theorem dX0_split_74 : decode cX0_split 74 = .ok (.iload_n 3, 1) := by decide +kernel
theorem dX0_split_75 : decode cX0_split 75 = .ok (.invokestatic 69, 3) := by decide +kernel
theorem dX0_split_78 : decode cX0_split 78 = .ok (.aload_n 0, 1) := by decide +kernel
theorem dX0_split_79 : decode cX0_split 79 = .ok (.getfield 9, 3) := by decide +kernel
theorem dX0_split_82 : decode cX0_split 82 = .ok (.iload 4, 2) := by decide +kernel
theorem dX0_split_84 : decode cX0_split 84 = .ok (.iload_n 2, 1) := by decide +kernel
theorem dX0_split_85 : decode cX0_split 85 = .ok (.iastore, 1) := by decide +kernel
theorem dX0_split_86 : decode cX0_split 86 = .ok (.aload_n 0, 1) := by decide +kernel
theorem dX0_split_87 : decode cX0_split 87 = .ok (.getfield 9, 3) := by decide +kernel
theorem dX0_split_90 : decode cX0_split 90 = .ok (.iload_n 1, 1) := by decide +kernel
theorem dX0_split_91 : decode cX0_split 91 = .ok (.iload_n 3, 1) := by decide +kernel
theorem dX0_split_92 : decode cX0_split 92 = .ok (.iload_n 2, 1) := by decide +kernel
theorem dX0_split_93 : decode cX0_split 93 = .ok (.isub, 1) := by decide +kernel
theorem dX0_split_94 : decode cX0_split 94 = .ok (.iastore, 1) := by decide +kernel
theorem dX0_split_95 : decode cX0_split 95 = .ok (.aload_n 0, 1) := by decide +kernel
theorem dX0_split_96 : decode cX0_split 96 = .ok (.iload 4, 2) := by decide +kernel
theorem dX0_split_98 : decode cX0_split 98 = .ok (.iconst 1, 1) := by decide +kernel
theorem dX0_split_99 : decode cX0_split 99 = .ok (.iadd, 1) := by decide +kernel
theorem dX0_split_100 : decode cX0_split 100 = .ok (.putfield 55, 3) := by decide +kernel
theorem dX0_split_103 : decode cX0_split 103 = .ok (.iload 4, 2) := by decide +kernel
theorem dX0_split_105 : decode cX0_split 105 = .ok (.ireturn, 1) := by decide +kernel
set_option maxRecDepth 20000 in
theorem ggX0_setWork_X0_requireLine : GoodIn wsX0_setWork wsX0_requireLine := goodIn_ca (goodIn_r _ [10, 11, 12, 13, 32, 33, 34, 35, 36, 37, 38, 39, 40, 41, 42, 43, 44, 45, 46] (by decide +kernel) (by decide +kernel)) (goodIn_sub (fun _ h => List.mem_cons_of_mem _ (List.mem_append_left _ (List.mem_append_right _ h))) (by decide +kernel))
set_option maxRecDepth 20000 in
theorem gX0_setWork_X0_requireLine : GoodIn wsX0_setWork (wsV RX0 58 RX0 yX0_requireLine wsX0_requireLine) := goodIn_app (goodIn_of _ (by decide +kernel)) ggX0_setWork_X0_requireLine
set_option maxRecDepth 20000 in
theorem ggX0_setWork_X0_requireBetween : GoodIn wsX0_setWork wsX0_requireBetween := goodIn_ca (goodIn_r _ [16, 17, 18] (by decide +kernel) (by decide +kernel)) (goodIn_sub (fun _ h => List.mem_cons_of_mem _ (List.mem_append_right _ h)) (by decide +kernel))
set_option maxRecDepth 20000 in
theorem gX0_setWork_X0_requireBetween : GoodIn wsX0_setWork (va_wsS RX0 48 yX0_requireBetween wsX0_requireBetween) := goodIn_app (goodIn_of _ (by decide +kernel)) ggX0_setWork_X0_requireBetween
set_option maxRecDepth 20000 in
theorem ggX0_setWork_X0_thousandths : GoodIn wsX0_setWork wsX0_thousandths := goodIn_r _ [21, 22, 23, 24, 25, 26, 27] (by decide +kernel) (by decide +kernel)
set_option maxRecDepth 20000 in
theorem gX0_setWork_X0_thousandths : GoodIn wsX0_setWork (va_wsS RX0 73 yX0_thousandths wsX0_thousandths) := goodIn_app (goodIn_of _ (by decide +kernel)) ggX0_setWork_X0_thousandths
set_option maxRecDepth 20000 in
theorem ggX0_setWork_X0_requireValueFor : GoodIn wsX0_setWork wsX0_requireValueFor := goodIn_ca (goodIn_r _ [31, 1, 2, 5, 3, 32, 33, 34, 35, 36, 37, 38, 39, 40, 41, 42, 43, 44, 45, 46] (by decide +kernel) (by decide +kernel)) (goodIn_sub (fun _ h => List.mem_cons_of_mem _ (List.mem_append_left _ (List.mem_append_left _ (List.mem_append_right _ h)))) (by decide +kernel))
set_option maxRecDepth 20000 in
theorem gX0_setWork_X0_requireValueFor : GoodIn wsX0_setWork (wsV RX0 79 RX0 yX0_requireValueFor wsX0_requireValueFor) := goodIn_app (goodIn_of _ (by decide +kernel)) ggX0_setWork_X0_requireValueFor
theorem dX0_setWork_0 : decode cX0_setWork 0 = .ok (.aload_n 0, 1) := by decide +kernel
theorem dX0_setWork_1 : decode cX0_setWork 1 = .ok (.iload_n 1, 1) := by decide +kernel
theorem dX0_setWork_2 : decode cX0_setWork 2 = .ok (.invokevirtual 58, 3) := by decide +kernel
theorem dX0_setWork_5 : decode cX0_setWork 5 = .ok (.iload_n 2, 1) := by decide +kernel
theorem dX0_setWork_6 : decode cX0_setWork 6 = .ok (.iconst 0, 1) := by decide +kernel
theorem dX0_setWork_7 : decode cX0_setWork 7 = .ok (.sipush 1000, 3) := by decide +kernel
theorem dX0_setWork_10 : decode cX0_setWork 10 = .ok (.invokestatic 48, 3) := by decide +kernel
theorem dX0_setWork_13 : decode cX0_setWork 13 = .ok (.aload_n 0, 1) := by decide +kernel
theorem dX0_setWork_14 : decode cX0_setWork 14 = .ok (.getfield 9, 3) := by decide +kernel
theorem dX0_setWork_17 : decode cX0_setWork 17 = .ok (.iload_n 1, 1) := by decide +kernel
theorem dX0_setWork_18 : decode cX0_setWork 18 = .ok (.iaload, 1) := by decide +kernel
theorem dX0_setWork_19 : decode cX0_setWork 19 = .ok (.iload_n 2, 1) := by decide +kernel
theorem dX0_setWork_20 : decode cX0_setWork 20 = .ok (.invokestatic 73, 3) := by decide +kernel
theorem dX0_setWork_23 : decode cX0_setWork 23 = .ok (.aload_n 0, 1) := by decide +kernel
theorem dX0_setWork_24 : decode cX0_setWork 24 = .ok (.getfield 16, 3) := by decide +kernel
theorem dX0_setWork_27 : decode cX0_setWork 27 = .ok (.iload_n 1, 1) := by decide +kernel
theorem dX0_setWork_28 : decode cX0_setWork 28 = .ok (.iaload, 1) := by decide +kernel
theorem dX0_setWork_29 : decode cX0_setWork 29 = .ok (.isub, 1) := by decide +kernel
theorem dX0_setWork_30 : decode cX0_setWork 30 = .ok (.istore_n 3, 1) := by decide +kernel
theorem dX0_setWork_31 : decode cX0_setWork 31 = .ok (.iload_n 3, 1) := by decide +kernel
theorem dX0_setWork_32 : decode cX0_setWork 32 = .ok (.ifCond .ge 13, 3) := by decide +kernel
theorem dX0_setWork_35 : decode cX0_setWork 35 = .ok (.new 62, 3) := by decide +kernel
theorem dX0_setWork_38 : decode cX0_setWork 38 = .ok (.dup, 1) := by decide +kernel
theorem dX0_setWork_39 : decode cX0_setWork 39 = .ok (.ldc 77, 2) := by decide +kernel
theorem dX0_setWork_41 : decode cX0_setWork 41 = .ok (.invokespecial 66, 3) := by decide +kernel
theorem dX0_setWork_44 : decode cX0_setWork 44 = .ok (.athrow, 1) := by decide +kernel
theorem dX0_setWork_45 : decode cX0_setWork 45 = .ok (.aload_n 0, 1) := by decide +kernel
theorem dX0_setWork_46 : decode cX0_setWork 46 = .ok (.iload_n 1, 1) := by decide +kernel
theorem dX0_setWork_47 : decode cX0_setWork 47 = .ok (.iload_n 3, 1) := by decide +kernel
theorem dX0_setWork_48 : decode cX0_setWork 48 = .ok (.invokevirtual 79, 3) := by decide +kernel
theorem dX0_setWork_51 : decode cX0_setWork 51 = .ok (.aload_n 0, 1) := by decide +kernel
theorem dX0_setWork_52 : decode cX0_setWork 52 = .ok (.getfield 16, 3) := by decide +kernel
theorem dX0_setWork_55 : decode cX0_setWork 55 = .ok (.iload_n 1, 1) := by decide +kernel
theorem dX0_setWork_56 : decode cX0_setWork 56 = .ok (.dup2, 1) := by decide +kernel
theorem dX0_setWork_57 : decode cX0_setWork 57 = .ok (.iaload, 1) := by decide +kernel
theorem dX0_setWork_58 : decode cX0_setWork 58 = .ok (.iload_n 3, 1) := by decide +kernel
theorem dX0_setWork_59 : decode cX0_setWork 59 = .ok (.iadd, 1) := by decide +kernel
theorem dX0_setWork_60 : decode cX0_setWork 60 = .ok (.iastore, 1) := by decide +kernel
theorem dX0_setWork_61 : decode cX0_setWork 61 = .ok (.aload_n 0, 1) := by decide +kernel
theorem dX0_setWork_62 : decode cX0_setWork 62 = .ok (.getfield 13, 3) := by decide +kernel
theorem dX0_setWork_65 : decode cX0_setWork 65 = .ok (.iload_n 1, 1) := by decide +kernel
theorem dX0_setWork_66 : decode cX0_setWork 66 = .ok (.dup2, 1) := by decide +kernel
theorem dX0_setWork_67 : decode cX0_setWork 67 = .ok (.iaload, 1) := by decide +kernel
theorem dX0_setWork_68 : decode cX0_setWork 68 = .ok (.iload_n 3, 1) := by decide +kernel
theorem dX0_setWork_69 : decode cX0_setWork 69 = .ok (.iadd, 1) := by decide +kernel
theorem dX0_setWork_70 : decode cX0_setWork 70 = .ok (.iastore, 1) := by decide +kernel
theorem dX0_setWork_71 : decode cX0_setWork 71 = .ok (.iload_n 3, 1) := by decide +kernel
theorem dX0_setWork_72 : decode cX0_setWork 72 = .ok (.ireturn, 1) := by decide +kernel
set_option maxRecDepth 20000 in
theorem ggX0_store_X0_requireLine : GoodIn wsX0_store wsX0_requireLine := goodIn_ca (goodIn_r _ [8, 9, 10, 11, 24, 25, 26, 27, 28, 29, 30, 31, 32, 33, 34, 35, 36, 37, 38] (by decide +kernel) (by decide +kernel)) (goodIn_sub (fun _ h => List.mem_cons_of_mem _ (List.mem_append_left _ (List.mem_append_left _ (List.mem_append_right _ h)))) (by decide +kernel))
set_option maxRecDepth 20000 in
theorem gX0_store_X0_requireLine : GoodIn wsX0_store (wsV RX0 58 RX0 yX0_requireLine wsX0_requireLine) := goodIn_app (goodIn_of _ (by decide +kernel)) ggX0_store_X0_requireLine
set_option maxRecDepth 20000 in
theorem ggX0_store_X0_requireBetween : GoodIn wsX0_store wsX0_requireBetween := goodIn_ca (goodIn_r _ [14, 15, 16] (by decide +kernel) (by decide +kernel)) (goodIn_sub (fun _ h => List.mem_cons_of_mem _ (List.mem_append_left _ (List.mem_append_right _ h))) (by decide +kernel))
set_option maxRecDepth 20000 in
theorem gX0_store_X0_requireBetween : GoodIn wsX0_store (va_wsS RX0 48 yX0_requireBetween wsX0_requireBetween) := goodIn_app (goodIn_of _ (by decide +kernel)) ggX0_store_X0_requireBetween
set_option maxRecDepth 20000 in
theorem ggX0_store_X0_requireValueFor : GoodIn wsX0_store wsX0_requireValueFor := goodIn_ca (goodIn_r _ [20, 21, 22, 2, 23, 24, 25, 26, 27, 28, 29, 30, 31, 32, 33, 34, 35, 36, 37, 38] (by decide +kernel) (by decide +kernel)) (goodIn_sub (fun _ h => List.mem_cons_of_mem _ (List.mem_append_right _ h)) (by decide +kernel))
set_option maxRecDepth 20000 in
theorem gX0_store_X0_requireValueFor : GoodIn wsX0_store (wsV RX0 79 RX0 yX0_requireValueFor wsX0_requireValueFor) := goodIn_app (goodIn_of _ (by decide +kernel)) ggX0_store_X0_requireValueFor
theorem dX0_store_0 : decode cX0_store 0 = .ok (.aload_n 0, 1) := by decide +kernel
theorem dX0_store_1 : decode cX0_store 1 = .ok (.iload_n 1, 1) := by decide +kernel
theorem dX0_store_2 : decode cX0_store 2 = .ok (.invokevirtual 58, 3) := by decide +kernel
theorem dX0_store_5 : decode cX0_store 5 = .ok (.iload_n 2, 1) := by decide +kernel
theorem dX0_store_6 : decode cX0_store 6 = .ok (.iconst 1, 1) := by decide +kernel
theorem dX0_store_7 : decode cX0_store 7 = .ok (.ldc 47, 2) := by decide +kernel
theorem dX0_store_9 : decode cX0_store 9 = .ok (.invokestatic 48, 3) := by decide +kernel
theorem dX0_store_12 : decode cX0_store 12 = .ok (.aload_n 0, 1) := by decide +kernel
theorem dX0_store_13 : decode cX0_store 13 = .ok (.iload_n 1, 1) := by decide +kernel
theorem dX0_store_14 : decode cX0_store 14 = .ok (.iload_n 2, 1) := by decide +kernel
theorem dX0_store_15 : decode cX0_store 15 = .ok (.invokevirtual 79, 3) := by decide +kernel
theorem dX0_store_18 : decode cX0_store 18 = .ok (.aload_n 0, 1) := by decide +kernel
theorem dX0_store_19 : decode cX0_store 19 = .ok (.getfield 13, 3) := by decide +kernel
theorem dX0_store_22 : decode cX0_store 22 = .ok (.iload_n 1, 1) := by decide +kernel
theorem dX0_store_23 : decode cX0_store 23 = .ok (.dup2, 1) := by decide +kernel
theorem dX0_store_24 : decode cX0_store 24 = .ok (.iaload, 1) := by decide +kernel
theorem dX0_store_25 : decode cX0_store 25 = .ok (.iload_n 2, 1) := by decide +kernel
theorem dX0_store_26 : decode cX0_store 26 = .ok (.iadd, 1) := by decide +kernel
theorem dX0_store_27 : decode cX0_store 27 = .ok (.iastore, 1) := by decide +kernel
theorem dX0_store_28 : decode cX0_store 28 = .ok (.aload_n 0, 1) := by decide +kernel
theorem dX0_store_29 : decode cX0_store 29 = .ok (.getfield 13, 3) := by decide +kernel
theorem dX0_store_32 : decode cX0_store 32 = .ok (.iload_n 1, 1) := by decide +kernel
theorem dX0_store_33 : decode cX0_store 33 = .ok (.iaload, 1) := by decide +kernel
theorem dX0_store_34 : decode cX0_store 34 = .ok (.aload_n 0, 1) := by decide +kernel
theorem dX0_store_35 : decode cX0_store 35 = .ok (.getfield 16, 3) := by decide +kernel
theorem dX0_store_38 : decode cX0_store 38 = .ok (.iload_n 1, 1) := by decide +kernel
theorem dX0_store_39 : decode cX0_store 39 = .ok (.iaload, 1) := by decide +kernel
theorem dX0_store_40 : decode cX0_store 40 = .ok (.isub, 1) := by decide +kernel
theorem dX0_store_41 : decode cX0_store 41 = .ok (.ireturn, 1) := by decide +kernel
set_option maxRecDepth 20000 in
theorem ggX0_place_X0_requireLine : GoodIn wsX0_place wsX0_requireLine := goodIn_ca (goodIn_r _ [10, 11, 12, 13, 19, 20, 21, 22, 23, 24, 25, 26, 27, 28, 29, 30, 31, 32, 33] (by decide +kernel) (by decide +kernel)) (goodIn_sub (fun _ h => List.mem_cons_of_mem _ (List.mem_append_left _ (List.mem_append_right _ h))) (by decide +kernel))
set_option maxRecDepth 20000 in
theorem gX0_place_X0_requireLine : GoodIn wsX0_place (wsV RX0 58 RX0 yX0_requireLine wsX0_requireLine) := goodIn_app (goodIn_of _ (by decide +kernel)) ggX0_place_X0_requireLine
set_option maxRecDepth 20000 in
theorem ggX0_place_X0_requireBetween : GoodIn wsX0_place wsX0_requireBetween := goodIn_ca (goodIn_r _ [16, 17, 18] (by decide +kernel) (by decide +kernel)) (goodIn_sub (fun _ h => List.mem_cons_of_mem _ (List.mem_append_right _ h)) (by decide +kernel))
set_option maxRecDepth 20000 in
theorem gX0_place_X0_requireBetween : GoodIn wsX0_place (va_wsS RX0 48 yX0_requireBetween wsX0_requireBetween) := goodIn_app (goodIn_of _ (by decide +kernel)) ggX0_place_X0_requireBetween
theorem dX0_place_0 : decode cX0_place 0 = .ok (.aload_n 0, 1) := by decide +kernel
theorem dX0_place_1 : decode cX0_place 1 = .ok (.iload_n 1, 1) := by decide +kernel
theorem dX0_place_2 : decode cX0_place 2 = .ok (.invokevirtual 58, 3) := by decide +kernel
theorem dX0_place_5 : decode cX0_place 5 = .ok (.iload_n 2, 1) := by decide +kernel
theorem dX0_place_6 : decode cX0_place 6 = .ok (.iconst 1, 1) := by decide +kernel
theorem dX0_place_7 : decode cX0_place 7 = .ok (.ldc 47, 2) := by decide +kernel
theorem dX0_place_9 : decode cX0_place 9 = .ok (.invokestatic 48, 3) := by decide +kernel
theorem dX0_place_12 : decode cX0_place 12 = .ok (.iload_n 2, 1) := by decide +kernel
theorem dX0_place_13 : decode cX0_place 13 = .ok (.aload_n 0, 1) := by decide +kernel
theorem dX0_place_14 : decode cX0_place 14 = .ok (.getfield 13, 3) := by decide +kernel
theorem dX0_place_17 : decode cX0_place 17 = .ok (.iload_n 1, 1) := by decide +kernel
theorem dX0_place_18 : decode cX0_place 18 = .ok (.iaload, 1) := by decide +kernel
theorem dX0_place_19 : decode cX0_place 19 = .ok (.aload_n 0, 1) := by decide +kernel
theorem dX0_place_20 : decode cX0_place 20 = .ok (.getfield 16, 3) := by decide +kernel
theorem dX0_place_23 : decode cX0_place 23 = .ok (.iload_n 1, 1) := by decide +kernel
theorem dX0_place_24 : decode cX0_place 24 = .ok (.iaload, 1) := by decide +kernel
theorem dX0_place_25 : decode cX0_place 25 = .ok (.isub, 1) := by decide +kernel
theorem dX0_place_26 : decode cX0_place 26 = .ok (.if_icmp .le 13, 3) := by decide +kernel
theorem dX0_place_29 : decode cX0_place 29 = .ok (.new 62, 3) := by decide +kernel
theorem dX0_place_32 : decode cX0_place 32 = .ok (.dup, 1) := by decide +kernel
theorem dX0_place_33 : decode cX0_place 33 = .ok (.ldc 83, 2) := by decide +kernel
theorem dX0_place_35 : decode cX0_place 35 = .ok (.invokespecial 66, 3) := by decide +kernel
theorem dX0_place_38 : decode cX0_place 38 = .ok (.athrow, 1) := by decide +kernel
theorem dX0_place_39 : decode cX0_place 39 = .ok (.aload_n 0, 1) := by decide +kernel
theorem dX0_place_40 : decode cX0_place 40 = .ok (.getfield 16, 3) := by decide +kernel
theorem dX0_place_43 : decode cX0_place 43 = .ok (.iload_n 1, 1) := by decide +kernel
theorem dX0_place_44 : decode cX0_place 44 = .ok (.dup2, 1) := by decide +kernel
theorem dX0_place_45 : decode cX0_place 45 = .ok (.iaload, 1) := by decide +kernel
theorem dX0_place_46 : decode cX0_place 46 = .ok (.iload_n 2, 1) := by decide +kernel
theorem dX0_place_47 : decode cX0_place 47 = .ok (.iadd, 1) := by decide +kernel
theorem dX0_place_48 : decode cX0_place 48 = .ok (.iastore, 1) := by decide +kernel
theorem dX0_place_49 : decode cX0_place 49 = .ok (.aload_n 0, 1) := by decide +kernel
theorem dX0_place_50 : decode cX0_place 50 = .ok (.getfield 16, 3) := by decide +kernel
theorem dX0_place_53 : decode cX0_place 53 = .ok (.iload_n 1, 1) := by decide +kernel
theorem dX0_place_54 : decode cX0_place 54 = .ok (.iaload, 1) := by decide +kernel
theorem dX0_place_55 : decode cX0_place 55 = .ok (.ireturn, 1) := by decide +kernel
set_option maxRecDepth 20000 in
theorem ggX0_setStep_X0_requireBetween : GoodIn wsX0_setStep wsX0_requireBetween := goodIn_ca (goodIn_r _ [5, 6, 7] (by decide +kernel) (by decide +kernel)) (goodIn_sub (fun _ h => List.mem_cons_of_mem _ (List.mem_append_left _ (List.mem_append_right _ h))) (by decide +kernel))
set_option maxRecDepth 20000 in
theorem gX0_setStep_X0_requireBetween : GoodIn wsX0_setStep (va_wsS RX0 48 yX0_requireBetween wsX0_requireBetween) := goodIn_app (goodIn_of _ (by decide +kernel)) ggX0_setStep_X0_requireBetween
set_option maxRecDepth 20000 in
theorem ggX0_setStep_X0_stepWith : GoodIn wsX0_setStep wsX0_stepWith := goodIn_r _ [11, 12, 13, 20, 21, 22, 23, 24, 25, 26, 27, 28, 29, 30, 31, 32, 33, 34] (by decide +kernel) (by decide +kernel)
set_option maxRecDepth 20000 in
theorem gX0_setStep_X0_stepWith : GoodIn wsX0_setStep (wsV RX0 85 RX0 yX0_stepWith wsX0_stepWith) := goodIn_app (goodIn_of _ (by decide +kernel)) ggX0_setStep_X0_stepWith
set_option maxRecDepth 20000 in
theorem ggX0_setStep_X0_addStep : GoodIn wsX0_setStep wsX0_addStep := goodIn_ca (goodIn_r _ [17, 18, 19, 12, 13, 1, 20, 21, 22, 23, 24, 25, 26, 27, 28, 29, 30, 31, 32, 33, 34] (by decide +kernel) (by decide +kernel)) (goodIn_sub (fun _ h => List.mem_cons_of_mem _ (List.mem_append_right _ h)) (by decide +kernel))
set_option maxRecDepth 20000 in
theorem gX0_setStep_X0_addStep : GoodIn wsX0_setStep (wsV RX0 89 RX0 yX0_addStep wsX0_addStep) := goodIn_app (goodIn_of _ (by decide +kernel)) ggX0_setStep_X0_addStep
theorem dX0_setStep_0 : decode cX0_setStep 0 = .ok (.iload_n 1, 1) := by decide +kernel
theorem dX0_setStep_1 : decode cX0_setStep 1 = .ok (.iconst 0, 1) := by decide +kernel
theorem dX0_setStep_2 : decode cX0_setStep 2 = .ok (.sipush 1000, 3) := by decide +kernel
theorem dX0_setStep_5 : decode cX0_setStep 5 = .ok (.invokestatic 48, 3) := by decide +kernel
theorem dX0_setStep_8 : decode cX0_setStep 8 = .ok (.iload_n 2, 1) := by decide +kernel
theorem dX0_setStep_9 : decode cX0_setStep 9 = .ok (.iconst 0, 1) := by decide +kernel
theorem dX0_setStep_10 : decode cX0_setStep 10 = .ok (.sipush 1000, 3) := by decide +kernel
theorem dX0_setStep_13 : decode cX0_setStep 13 = .ok (.invokestatic 48, 3) := by decide +kernel
theorem dX0_setStep_16 : decode cX0_setStep 16 = .ok (.aload_n 0, 1) := by decide +kernel
theorem dX0_setStep_17 : decode cX0_setStep 17 = .ok (.iload_n 1, 1) := by decide +kernel
theorem dX0_setStep_18 : decode cX0_setStep 18 = .ok (.invokevirtual 85, 3) := by decide +kernel
theorem dX0_setStep_21 : decode cX0_setStep 21 = .ok (.istore_n 3, 1) := by decide +kernel
theorem dX0_setStep_22 : decode cX0_setStep 22 = .ok (.iload_n 3, 1) := by decide +kernel
theorem dX0_setStep_23 : decode cX0_setStep 23 = .ok (.ifCond .ge 11, 3) := by decide +kernel
theorem dX0_setStep_26 : decode cX0_setStep 26 = .ok (.aload_n 0, 1) := by decide +kernel
theorem dX0_setStep_27 : decode cX0_setStep 27 = .ok (.iload_n 1, 1) := by decide +kernel
theorem dX0_setStep_28 : decode cX0_setStep 28 = .ok (.iload_n 2, 1) := by decide +kernel
theorem dX0_setStep_29 : decode cX0_setStep 29 = .ok (.invokevirtual 89, 3) := by decide +kernel
theorem dX0_setStep_32 : decode cX0_setStep 32 = .ok (.iconst (-1), 1) := by decide +kernel
theorem dX0_setStep_33 : decode cX0_setStep 33 = .ok (.ireturn, 1) := by decide +kernel
theorem dX0_setStep_34 : decode cX0_setStep 34 = .ok (.aload_n 0, 1) := by decide +kernel
theorem dX0_setStep_35 : decode cX0_setStep 35 = .ok (.getfield 28, 3) := by decide +kernel
theorem dX0_setStep_38 : decode cX0_setStep 38 = .ok (.iload_n 3, 1) := by decide +kernel
theorem dX0_setStep_39 : decode cX0_setStep 39 = .ok (.iaload, 1) := by decide +kernel
theorem dX0_setStep_40 : decode cX0_setStep 40 = .ok (.istore 4, 2) := by decide +kernel
theorem dX0_setStep_42 : decode cX0_setStep 42 = .ok (.aload_n 0, 1) := by decide +kernel
theorem dX0_setStep_43 : decode cX0_setStep 43 = .ok (.getfield 28, 3) := by decide +kernel
theorem dX0_setStep_46 : decode cX0_setStep 46 = .ok (.iload_n 3, 1) := by decide +kernel
theorem dX0_setStep_47 : decode cX0_setStep 47 = .ok (.iload_n 2, 1) := by decide +kernel
theorem dX0_setStep_48 : decode cX0_setStep 48 = .ok (.iastore, 1) := by decide +kernel
theorem dX0_setStep_49 : decode cX0_setStep 49 = .ok (.iload 4, 2) := by decide +kernel
theorem dX0_setStep_51 : decode cX0_setStep 51 = .ok (.ireturn, 1) := by decide +kernel
set_option maxRecDepth 20000 in
theorem ggX0_dropStep_X0_requireBetween : GoodIn wsX0_dropStep wsX0_requireBetween := goodIn_ca (goodIn_r _ [9, 10, 11] (by decide +kernel) (by decide +kernel)) (goodIn_sub (fun _ h => List.mem_cons_of_mem _ (List.mem_append_right _ h)) (by decide +kernel))
set_option maxRecDepth 20000 in
theorem gX0_dropStep_X0_requireBetween : GoodIn wsX0_dropStep (va_wsS RX0 48 yX0_requireBetween wsX0_requireBetween) := goodIn_app (goodIn_of _ (by decide +kernel)) ggX0_dropStep_X0_requireBetween
set_option maxRecDepth 20000 in
theorem ggX0_dropStep_X0_stepWith : GoodIn wsX0_dropStep wsX0_stepWith := goodIn_r _ [15, 4, 5, 16, 17, 18, 19, 20, 21, 22, 23, 24, 25, 26, 27, 28, 29, 30] (by decide +kernel) (by decide +kernel)
set_option maxRecDepth 20000 in
theorem gX0_dropStep_X0_stepWith : GoodIn wsX0_dropStep (wsV RX0 85 RX0 yX0_stepWith wsX0_stepWith) := goodIn_app (goodIn_of _ (by decide +kernel)) ggX0_dropStep_X0_stepWith
theorem dX0_dropStep_0 : decode cX0_dropStep 0 = .ok (.iload_n 1, 1) := by decide +kernel
theorem dX0_dropStep_1 : decode cX0_dropStep 1 = .ok (.iconst 1, 1) := by decide +kernel
theorem dX0_dropStep_2 : decode cX0_dropStep 2 = .ok (.sipush 1000, 3) := by decide +kernel
theorem dX0_dropStep_5 : decode cX0_dropStep 5 = .ok (.invokestatic 48, 3) := by decide +kernel
theorem dX0_dropStep_8 : decode cX0_dropStep 8 = .ok (.aload_n 0, 1) := by decide +kernel
theorem dX0_dropStep_9 : decode cX0_dropStep 9 = .ok (.iload_n 1, 1) := by decide +kernel
theorem dX0_dropStep_10 : decode cX0_dropStep 10 = .ok (.invokevirtual 85, 3) := by decide +kernel
theorem dX0_dropStep_13 : decode cX0_dropStep 13 = .ok (.istore_n 2, 1) := by decide +kernel
theorem dX0_dropStep_14 : decode cX0_dropStep 14 = .ok (.iload_n 2, 1) := by decide +kernel
theorem dX0_dropStep_15 : decode cX0_dropStep 15 = .ok (.ifCond .ge 13, 3) := by decide +kernel
theorem dX0_dropStep_18 : decode cX0_dropStep 18 = .ok (.new 62, 3) := by decide +kernel
theorem dX0_dropStep_21 : decode cX0_dropStep 21 = .ok (.dup, 1) := by decide +kernel
theorem dX0_dropStep_22 : decode cX0_dropStep 22 = .ok (.ldc 92, 2) := by decide +kernel
theorem dX0_dropStep_24 : decode cX0_dropStep 24 = .ok (.invokespecial 66, 3) := by decide +kernel
theorem dX0_dropStep_27 : decode cX0_dropStep 27 = .ok (.athrow, 1) := by decide +kernel
theorem dX0_dropStep_28 : decode cX0_dropStep 28 = .ok (.aload_n 0, 1) := by decide +kernel
theorem dX0_dropStep_29 : decode cX0_dropStep 29 = .ok (.getfield 28, 3) := by decide +kernel
theorem dX0_dropStep_32 : decode cX0_dropStep 32 = .ok (.iload_n 2, 1) := by decide +kernel
theorem dX0_dropStep_33 : decode cX0_dropStep 33 = .ok (.iaload, 1) := by decide +kernel
theorem dX0_dropStep_34 : decode cX0_dropStep 34 = .ok (.istore_n 3, 1) := by decide +kernel
theorem dX0_dropStep_35 : decode cX0_dropStep 35 = .ok (.aload_n 0, 1) := by decide +kernel
theorem dX0_dropStep_36 : decode cX0_dropStep 36 = .ok (.getfield 43, 3) := by decide +kernel
theorem dX0_dropStep_39 : decode cX0_dropStep 39 = .ok (.iconst 1, 1) := by decide +kernel
theorem dX0_dropStep_40 : decode cX0_dropStep 40 = .ok (.isub, 1) := by decide +kernel
theorem dX0_dropStep_41 : decode cX0_dropStep 41 = .ok (.istore 4, 2) := by decide +kernel
theorem dX0_dropStep_43 : decode cX0_dropStep 43 = .ok (.aload_n 0, 1) := by decide +kernel
theorem dX0_dropStep_44 : decode cX0_dropStep 44 = .ok (.getfield 25, 3) := by decide +kernel
theorem dX0_dropStep_47 : decode cX0_dropStep 47 = .ok (.iload_n 2, 1) := by decide +kernel
theorem dX0_dropStep_48 : decode cX0_dropStep 48 = .ok (.aload_n 0, 1) := by decide +kernel
theorem dX0_dropStep_49 : decode cX0_dropStep 49 = .ok (.getfield 25, 3) := by decide +kernel
theorem dX0_dropStep_52 : decode cX0_dropStep 52 = .ok (.iload 4, 2) := by decide +kernel
theorem dX0_dropStep_54 : decode cX0_dropStep 54 = .ok (.iaload, 1) := by decide +kernel
theorem dX0_dropStep_55 : decode cX0_dropStep 55 = .ok (.iastore, 1) := by decide +kernel
theorem dX0_dropStep_56 : decode cX0_dropStep 56 = .ok (.aload_n 0, 1) := by decide +kernel
theorem dX0_dropStep_57 : decode cX0_dropStep 57 = .ok (.getfield 28, 3) := by decide +kernel
theorem dX0_dropStep_60 : decode cX0_dropStep 60 = .ok (.iload_n 2, 1) := by decide +kernel
theorem dX0_dropStep_61 : decode cX0_dropStep 61 = .ok (.aload_n 0, 1) := by decide +kernel
theorem dX0_dropStep_62 : decode cX0_dropStep 62 = .ok (.getfield 28, 3) := by decide +kernel
theorem dX0_dropStep_65 : decode cX0_dropStep 65 = .ok (.iload 4, 2) := by decide +kernel
theorem dX0_dropStep_67 : decode cX0_dropStep 67 = .ok (.iaload, 1) := by decide +kernel
theorem dX0_dropStep_68 : decode cX0_dropStep 68 = .ok (.iastore, 1) := by decide +kernel
theorem dX0_dropStep_69 : decode cX0_dropStep 69 = .ok (.aload_n 0, 1) := by decide +kernel
theorem dX0_dropStep_70 : decode cX0_dropStep 70 = .ok (.iload 4, 2) := by decide +kernel
theorem dX0_dropStep_72 : decode cX0_dropStep 72 = .ok (.putfield 43, 3) := by decide +kernel
theorem dX0_dropStep_75 : decode cX0_dropStep 75 = .ok (.iload_n 3, 1) := by decide +kernel
theorem dX0_dropStep_76 : decode cX0_dropStep 76 = .ok (.ireturn, 1) := by decide +kernel
theorem dX0_hold_0 : decode cX0_hold 0 = .ok (.aload_n 0, 1) := by decide +kernel
theorem dX0_hold_1 : decode cX0_hold 1 = .ok (.getfield 94, 3) := by decide +kernel
theorem dX0_hold_4 : decode cX0_hold 4 = .ok (.istore_n 2, 1) := by decide +kernel
theorem dX0_hold_5 : decode cX0_hold 5 = .ok (.aload_n 0, 1) := by decide +kernel
theorem dX0_hold_6 : decode cX0_hold 6 = .ok (.iload_n 1, 1) := by decide +kernel
theorem dX0_hold_7 : decode cX0_hold 7 = .ok (.putfield 94, 3) := by decide +kernel
theorem dX0_hold_10 : decode cX0_hold 10 = .ok (.iload_n 2, 1) := by decide +kernel
theorem dX0_hold_11 : decode cX0_hold 11 = .ok (.ireturn, 1) := by decide +kernel
theorem dX0_steps_0 : decode cX0_steps 0 = .ok (.aload_n 0, 1) := by decide +kernel
theorem dX0_steps_1 : decode cX0_steps 1 = .ok (.getfield 43, 3) := by decide +kernel
theorem dX0_steps_4 : decode cX0_steps 4 = .ok (.ireturn, 1) := by decide +kernel
set_option maxRecDepth 20000 in
theorem ggX0_progress_X0_sum : GoodIn wsX0_progress wsX0_sum := goodIn_r _ [6] (by decide +kernel) (by decide +kernel)
set_option maxRecDepth 20000 in
theorem gX0_progress_X0_sum : GoodIn wsX0_progress (va_wsS RX0 98 yX0_sum wsX0_sum) := goodIn_app (goodIn_of _ (by decide +kernel)) ggX0_progress_X0_sum
set_option maxRecDepth 20000 in
theorem ggX0_progress_X0_contractSum : GoodIn wsX0_progress wsX0_contractSum := goodIn_r _ [10, 11, 2, 3, 4, 5, 6, 19, 20, 21, 22, 23, 24, 25, 26, 27, 28, 29, 30, 31, 32, 33] (by decide +kernel) (by decide +kernel)
set_option maxRecDepth 20000 in
theorem gX0_progress_X0_contractSum : GoodIn wsX0_progress (wsV RX0 102 RX0 yX0_contractSum wsX0_contractSum) := goodIn_app (goodIn_of _ (by decide +kernel)) ggX0_progress_X0_contractSum
set_option maxRecDepth 20000 in
theorem ggX0_progress_X0_scaledDown : GoodIn wsX0_progress wsX0_scaledDown := goodIn_r _ [14, 15, 16, 17, 18] (by decide +kernel) (by decide +kernel)
set_option maxRecDepth 20000 in
theorem gX0_progress_X0_scaledDown : GoodIn wsX0_progress (va_wsS RX0 106 yX0_scaledDown wsX0_scaledDown) := goodIn_app (goodIn_of _ (by decide +kernel)) ggX0_progress_X0_scaledDown
theorem dX0_progress_0 : decode cX0_progress 0 = .ok (.aload_n 0, 1) := by decide +kernel
theorem dX0_progress_1 : decode cX0_progress 1 = .ok (.getfield 16, 3) := by decide +kernel
theorem dX0_progress_4 : decode cX0_progress 4 = .ok (.aload_n 0, 1) := by decide +kernel
theorem dX0_progress_5 : decode cX0_progress 5 = .ok (.getfield 55, 3) := by decide +kernel
theorem dX0_progress_8 : decode cX0_progress 8 = .ok (.invokestatic 98, 3) := by decide +kernel
theorem dX0_progress_11 : decode cX0_progress 11 = .ok (.sipush 1000, 3) := by decide +kernel
theorem dX0_progress_14 : decode cX0_progress 14 = .ok (.aload_n 0, 1) := by decide +kernel
theorem dX0_progress_15 : decode cX0_progress 15 = .ok (.invokevirtual 102, 3) := by decide +kernel
theorem dX0_progress_18 : decode cX0_progress 18 = .ok (.invokestatic 106, 3) := by decide +kernel
theorem dX0_progress_21 : decode cX0_progress 21 = .ok (.ireturn, 1) := by decide +kernel
set_option maxRecDepth 20000 in
theorem ggX0_rate_X0_progress : GoodIn wsX0_rate wsX0_progress := goodIn_r _ [8, 9, 10, 11, 12, 7, 13, 14, 15, 16, 17, 18, 19, 20, 21, 22, 23, 24, 25, 26, 27, 28, 29, 30, 31, 32, 33, 34, 35, 36, 37, 38, 39, 40] (by decide +kernel) (by decide +kernel)
set_option maxRecDepth 20000 in
theorem gX0_rate_X0_progress : GoodIn wsX0_rate (wsV RX0 110 RX0 yX0_progress wsX0_progress) := goodIn_app (goodIn_of _ (by decide +kernel)) ggX0_rate_X0_progress
theorem dX0_rate_0 : decode cX0_rate 0 = .ok (.aload_n 0, 1) := by decide +kernel
theorem dX0_rate_1 : decode cX0_rate 1 = .ok (.invokevirtual 110, 3) := by decide +kernel
theorem dX0_rate_4 : decode cX0_rate 4 = .ok (.istore_n 1, 1) := by decide +kernel
theorem dX0_rate_5 : decode cX0_rate 5 = .ok (.iconst 0, 1) := by decide +kernel
theorem dX0_rate_6 : decode cX0_rate 6 = .ok (.istore_n 2, 1) := by decide +kernel
theorem dX0_rate_7 : decode cX0_rate 7 = .ok (.iconst 1, 1) := by decide +kernel
theorem dX0_rate_8 : decode cX0_rate 8 = .ok (.istore_n 3, 1) := by decide +kernel
theorem dX0_rate_9 : decode cX0_rate 9 = .ok (.iload_n 3, 1) := by decide +kernel
theorem dX0_rate_10 : decode cX0_rate 10 = .ok (.aload_n 0, 1) := by decide +kernel
theorem dX0_rate_11 : decode cX0_rate 11 = .ok (.getfield 43, 3) := by decide +kernel
theorem dX0_rate_14 : decode cX0_rate 14 = .ok (.if_icmp .ge 36, 3) := by decide +kernel
theorem dX0_rate_17 : decode cX0_rate 17 = .ok (.aload_n 0, 1) := by decide +kernel
theorem dX0_rate_18 : decode cX0_rate 18 = .ok (.getfield 25, 3) := by decide +kernel
theorem dX0_rate_21 : decode cX0_rate 21 = .ok (.iload_n 3, 1) := by decide +kernel
theorem dX0_rate_22 : decode cX0_rate 22 = .ok (.iaload, 1) := by decide +kernel
theorem dX0_rate_23 : decode cX0_rate 23 = .ok (.iload_n 1, 1) := by decide +kernel
theorem dX0_rate_24 : decode cX0_rate 24 = .ok (.if_icmp .gt 20, 3) := by decide +kernel
theorem dX0_rate_27 : decode cX0_rate 27 = .ok (.aload_n 0, 1) := by decide +kernel
theorem dX0_rate_28 : decode cX0_rate 28 = .ok (.getfield 25, 3) := by decide +kernel
theorem dX0_rate_31 : decode cX0_rate 31 = .ok (.iload_n 3, 1) := by decide +kernel
theorem dX0_rate_32 : decode cX0_rate 32 = .ok (.iaload, 1) := by decide +kernel
theorem dX0_rate_33 : decode cX0_rate 33 = .ok (.aload_n 0, 1) := by decide +kernel
theorem dX0_rate_34 : decode cX0_rate 34 = .ok (.getfield 25, 3) := by decide +kernel
theorem dX0_rate_37 : decode cX0_rate 37 = .ok (.iload_n 2, 1) := by decide +kernel
theorem dX0_rate_38 : decode cX0_rate 38 = .ok (.iaload, 1) := by decide +kernel
theorem dX0_rate_39 : decode cX0_rate 39 = .ok (.if_icmp .le 5, 3) := by decide +kernel
theorem dX0_rate_42 : decode cX0_rate 42 = .ok (.iload_n 3, 1) := by decide +kernel
theorem dX0_rate_43 : decode cX0_rate 43 = .ok (.istore_n 2, 1) := by decide +kernel
theorem dX0_rate_44 : decode cX0_rate 44 = .ok (.iinc 3 1, 3) := by decide +kernel
theorem dX0_rate_47 : decode cX0_rate 47 = .ok (.goto (-38), 3) := by decide +kernel
theorem dX0_rate_50 : decode cX0_rate 50 = .ok (.aload_n 0, 1) := by decide +kernel
theorem dX0_rate_51 : decode cX0_rate 51 = .ok (.getfield 28, 3) := by decide +kernel
theorem dX0_rate_54 : decode cX0_rate 54 = .ok (.iload_n 2, 1) := by decide +kernel
theorem dX0_rate_55 : decode cX0_rate 55 = .ok (.iaload, 1) := by decide +kernel
theorem dX0_rate_56 : decode cX0_rate 56 = .ok (.ireturn, 1) := by decide +kernel
set_option maxRecDepth 20000 in
theorem ggX0_close_X0_nextAmount : GoodIn wsX0_close wsX0_nextAmount := goodIn_r _ [15, 16, 3, 5, 4, 17, 18, 19, 14, 20, 21, 22, 23, 24, 25, 26, 27, 28, 29, 30, 31, 32, 33, 34, 35, 36, 37, 38, 39, 40, 41, 42, 43, 44, 45, 46, 47, 48, 10, 8, 49, 50, 51, 52, 53, 58, 59, 60, 61, 62, 63, 64, 65, 66, 67, 68, 69, 70, 71, 72] (by decide +kernel) (by decide +kernel)
set_option maxRecDepth 20000 in
theorem gX0_close_X0_nextAmount : GoodIn wsX0_close (wsV RX0 120 RX0 yX0_nextAmount wsX0_nextAmount) := goodIn_app (goodIn_of _ (by decide +kernel)) ggX0_close_X0_nextAmount
set_option maxRecDepth 20000 in
theorem ggX0_close_X0_billLines : GoodIn wsX0_close wsX0_billLines := goodIn_r _ [57, 3, 10, 8, 16, 17, 18, 19, 14, 20, 21, 22, 23, 24, 25, 26, 27, 28, 29, 30, 31, 32, 33, 34, 35, 36, 37, 38, 39, 40, 41, 42, 43, 44, 45, 46, 47, 48, 49, 50, 51, 52, 53, 58, 59, 60, 61, 62, 63, 64, 65, 66, 67, 68, 69, 70, 71, 72] (by decide +kernel) (by decide +kernel)
set_option maxRecDepth 20000 in
theorem gX0_close_X0_billLines : GoodIn wsX0_close (wsV RX0 123 RX0 yX0_billLines wsX0_billLines) := goodIn_app (goodIn_of _ (by decide +kernel)) ggX0_close_X0_billLines
set_option maxRecDepth 20000 in
theorem ggX0_close_X0_sum : GoodIn wsX0_close wsX0_sum := goodIn_r _ [31] (by decide +kernel) (by decide +kernel)
set_option maxRecDepth 20000 in
theorem gX0_close_X0_sum : GoodIn wsX0_close (va_wsS RX0 98 yX0_sum wsX0_sum) := goodIn_app (goodIn_of _ (by decide +kernel)) ggX0_close_X0_sum
theorem dX0_close_0 : decode cX0_close 0 = .ok (.aload_n 0, 1) := by decide +kernel
theorem dX0_close_1 : decode cX0_close 1 = .ok (.getfield 55, 3) := by decide +kernel
theorem dX0_close_4 : decode cX0_close 4 = .ok (.ifCond .ne 13, 3) := by decide +kernel
theorem dX0_close_7 : decode cX0_close 7 = .ok (.new 62, 3) := by decide +kernel
theorem dX0_close_10 : decode cX0_close 10 = .ok (.dup, 1) := by decide +kernel
theorem dX0_close_11 : decode cX0_close 11 = .ok (.ldc 113, 2) := by decide +kernel
theorem dX0_close_13 : decode cX0_close 13 = .ok (.invokespecial 66, 3) := by decide +kernel
theorem dX0_close_16 : decode cX0_close 16 = .ok (.athrow, 1) := by decide +kernel
theorem dX0_close_17 : decode cX0_close 17 = .ok (.aload_n 0, 1) := by decide +kernel
theorem dX0_close_18 : decode cX0_close 18 = .ok (.getfield 115, 3) := by decide +kernel
theorem dX0_close_21 : decode cX0_close 21 = .ok (.bipush 60, 2) := by decide +kernel
theorem dX0_close_23 : decode cX0_close 23 = .ok (.if_icmp .lt 13, 3) := by decide +kernel
theorem dX0_close_26 : decode cX0_close 26 = .ok (.new 62, 3) := by decide +kernel
theorem dX0_close_29 : decode cX0_close 29 = .ok (.dup, 1) := by decide +kernel
theorem dX0_close_30 : decode cX0_close 30 = .ok (.ldc 118, 2) := by decide +kernel
theorem dX0_close_32 : decode cX0_close 32 = .ok (.invokespecial 66, 3) := by decide +kernel
theorem dX0_close_35 : decode cX0_close 35 = .ok (.athrow, 1) := by decide +kernel
theorem dX0_close_36 : decode cX0_close 36 = .ok (.aload_n 0, 1) := by decide +kernel
theorem dX0_close_37 : decode cX0_close 37 = .ok (.getfield 115, 3) := by decide +kernel
theorem dX0_close_40 : decode cX0_close 40 = .ok (.istore_n 1, 1) := by decide +kernel
theorem dX0_close_41 : decode cX0_close 41 = .ok (.aload_n 0, 1) := by decide +kernel
theorem dX0_close_42 : decode cX0_close 42 = .ok (.getfield 34, 3) := by decide +kernel
theorem dX0_close_45 : decode cX0_close 45 = .ok (.iload_n 1, 1) := by decide +kernel
theorem dX0_close_46 : decode cX0_close 46 = .ok (.aload_n 0, 1) := by decide +kernel
theorem dX0_close_47 : decode cX0_close 47 = .ok (.invokevirtual 120, 3) := by decide +kernel
theorem dX0_close_50 : decode cX0_close 50 = .ok (.iastore, 1) := by decide +kernel
theorem dX0_close_51 : decode cX0_close 51 = .ok (.aload_n 0, 1) := by decide +kernel
theorem dX0_close_52 : decode cX0_close 52 = .ok (.invokevirtual 123, 3) := by decide +kernel
theorem dX0_close_55 : decode cX0_close 55 = .ok (.aload_n 0, 1) := by decide +kernel
theorem dX0_close_56 : decode cX0_close 56 = .ok (.getfield 31, 3) := by decide +kernel
theorem dX0_close_59 : decode cX0_close 59 = .ok (.iload_n 1, 1) := by decide +kernel
theorem dX0_close_60 : decode cX0_close 60 = .ok (.iconst 0, 1) := by decide +kernel
theorem dX0_close_61 : decode cX0_close 61 = .ok (.iastore, 1) := by decide +kernel
theorem dX0_close_62 : decode cX0_close 62 = .ok (.aload_n 0, 1) := by decide +kernel
theorem dX0_close_63 : decode cX0_close 63 = .ok (.getfield 37, 3) := by decide +kernel
theorem dX0_close_66 : decode cX0_close 66 = .ok (.iload_n 1, 1) := by decide +kernel
theorem dX0_close_67 : decode cX0_close 67 = .ok (.aload_n 0, 1) := by decide +kernel
theorem dX0_close_68 : decode cX0_close 68 = .ok (.getfield 19, 3) := by decide +kernel
theorem dX0_close_71 : decode cX0_close 71 = .ok (.aload_n 0, 1) := by decide +kernel
theorem dX0_close_72 : decode cX0_close 72 = .ok (.getfield 55, 3) := by decide +kernel
theorem dX0_close_75 : decode cX0_close 75 = .ok (.invokestatic 98, 3) := by decide +kernel
theorem dX0_close_78 : decode cX0_close 78 = .ok (.iastore, 1) := by decide +kernel
theorem dX0_close_79 : decode cX0_close 79 = .ok (.aload_n 0, 1) := by decide +kernel
theorem dX0_close_80 : decode cX0_close 80 = .ok (.getfield 40, 3) := by decide +kernel
theorem dX0_close_83 : decode cX0_close 83 = .ok (.iload_n 1, 1) := by decide +kernel
theorem dX0_close_84 : decode cX0_close 84 = .ok (.aload_n 0, 1) := by decide +kernel
theorem dX0_close_85 : decode cX0_close 85 = .ok (.getfield 22, 3) := by decide +kernel
theorem dX0_close_88 : decode cX0_close 88 = .ok (.aload_n 0, 1) := by decide +kernel
theorem dX0_close_89 : decode cX0_close 89 = .ok (.getfield 55, 3) := by decide +kernel
theorem dX0_close_92 : decode cX0_close 92 = .ok (.invokestatic 98, 3) := by decide +kernel
theorem dX0_close_95 : decode cX0_close 95 = .ok (.iastore, 1) := by decide +kernel
theorem dX0_close_96 : decode cX0_close 96 = .ok (.aload_n 0, 1) := by decide +kernel
theorem dX0_close_97 : decode cX0_close 97 = .ok (.iload_n 1, 1) := by decide +kernel
theorem dX0_close_98 : decode cX0_close 98 = .ok (.iconst 1, 1) := by decide +kernel
theorem dX0_close_99 : decode cX0_close 99 = .ok (.iadd, 1) := by decide +kernel
theorem dX0_close_100 : decode cX0_close 100 = .ok (.putfield 115, 3) := by decide +kernel
theorem dX0_close_103 : decode cX0_close 103 = .ok (.iload_n 1, 1) := by decide +kernel
theorem dX0_close_104 : decode cX0_close 104 = .ok (.ireturn, 1) := by decide +kernel
set_option maxRecDepth 20000 in
theorem ggX0_nextAmount_X0_rate : GoodIn wsX0_nextAmount wsX0_rate := goodIn_r _ [9, 10, 11, 12, 13, 14, 15, 8, 16, 17, 2, 18, 19, 20, 21, 22, 23, 24, 25, 26, 27, 28, 29, 30, 31, 32, 45, 46, 47, 48, 49, 50, 51, 52, 53, 54, 55, 56, 57, 58, 59] (by decide +kernel) (by decide +kernel)
set_option maxRecDepth 20000 in
theorem gX0_nextAmount_X0_rate : GoodIn wsX0_nextAmount (wsV RX0 126 RX0 yX0_rate wsX0_rate) := goodIn_app (goodIn_of _ (by decide +kernel)) ggX0_nextAmount_X0_rate
set_option maxRecDepth 20000 in
theorem ggX0_nextAmount_X0_sum : GoodIn wsX0_nextAmount wsX0_sum := goodIn_r _ [20] (by decide +kernel) (by decide +kernel)
set_option maxRecDepth 20000 in
theorem gX0_nextAmount_X0_sum : GoodIn wsX0_nextAmount (va_wsS RX0 98 yX0_sum wsX0_sum) := goodIn_app (goodIn_of _ (by decide +kernel)) ggX0_nextAmount_X0_sum
set_option maxRecDepth 20000 in
theorem ggX0_nextAmount_X0_heldIfClosed : GoodIn wsX0_nextAmount wsX0_heldIfClosed := goodIn_r _ [36, 37, 38, 1, 39, 40, 41, 8, 42, 43, 44, 29, 30, 31, 32, 45, 46, 47, 48, 49, 50, 51, 52, 53, 54, 55, 56, 57, 58, 59] (by decide +kernel) (by decide +kernel)
set_option maxRecDepth 20000 in
theorem gX0_nextAmount_X0_heldIfClosed : GoodIn wsX0_nextAmount (wsV RX0 129 RX0 yX0_heldIfClosed wsX0_heldIfClosed) := goodIn_app (goodIn_of _ (by decide +kernel)) ggX0_nextAmount_X0_heldIfClosed
theorem dX0_nextAmount_0 : decode cX0_nextAmount 0 = .ok (.aload_n 0, 1) := by decide +kernel
theorem dX0_nextAmount_1 : decode cX0_nextAmount 1 = .ok (.invokevirtual 126, 3) := by decide +kernel
theorem dX0_nextAmount_4 : decode cX0_nextAmount 4 = .ok (.istore_n 1, 1) := by decide +kernel
theorem dX0_nextAmount_5 : decode cX0_nextAmount 5 = .ok (.aload_n 0, 1) := by decide +kernel
theorem dX0_nextAmount_6 : decode cX0_nextAmount 6 = .ok (.getfield 13, 3) := by decide +kernel
theorem dX0_nextAmount_9 : decode cX0_nextAmount 9 = .ok (.aload_n 0, 1) := by decide +kernel
theorem dX0_nextAmount_10 : decode cX0_nextAmount 10 = .ok (.getfield 55, 3) := by decide +kernel
theorem dX0_nextAmount_13 : decode cX0_nextAmount 13 = .ok (.invokestatic 98, 3) := by decide +kernel
theorem dX0_nextAmount_16 : decode cX0_nextAmount 16 = .ok (.aload_n 0, 1) := by decide +kernel
theorem dX0_nextAmount_17 : decode cX0_nextAmount 17 = .ok (.getfield 34, 3) := by decide +kernel
theorem dX0_nextAmount_20 : decode cX0_nextAmount 20 = .ok (.aload_n 0, 1) := by decide +kernel
theorem dX0_nextAmount_21 : decode cX0_nextAmount 21 = .ok (.getfield 115, 3) := by decide +kernel
theorem dX0_nextAmount_24 : decode cX0_nextAmount 24 = .ok (.invokestatic 98, 3) := by decide +kernel
theorem dX0_nextAmount_27 : decode cX0_nextAmount 27 = .ok (.isub, 1) := by decide +kernel
theorem dX0_nextAmount_28 : decode cX0_nextAmount 28 = .ok (.istore_n 2, 1) := by decide +kernel
theorem dX0_nextAmount_29 : decode cX0_nextAmount 29 = .ok (.iconst 0, 1) := by decide +kernel
theorem dX0_nextAmount_30 : decode cX0_nextAmount 30 = .ok (.istore_n 3, 1) := by decide +kernel
theorem dX0_nextAmount_31 : decode cX0_nextAmount 31 = .ok (.iload_n 3, 1) := by decide +kernel
theorem dX0_nextAmount_32 : decode cX0_nextAmount 32 = .ok (.aload_n 0, 1) := by decide +kernel
theorem dX0_nextAmount_33 : decode cX0_nextAmount 33 = .ok (.getfield 55, 3) := by decide +kernel
theorem dX0_nextAmount_36 : decode cX0_nextAmount 36 = .ok (.if_icmp .ge 18, 3) := by decide +kernel
theorem dX0_nextAmount_39 : decode cX0_nextAmount 39 = .ok (.iload_n 2, 1) := by decide +kernel
theorem dX0_nextAmount_40 : decode cX0_nextAmount 40 = .ok (.aload_n 0, 1) := by decide +kernel
theorem dX0_nextAmount_41 : decode cX0_nextAmount 41 = .ok (.iload_n 3, 1) := by decide +kernel
theorem dX0_nextAmount_42 : decode cX0_nextAmount 42 = .ok (.iload_n 1, 1) := by decide +kernel
theorem dX0_nextAmount_43 : decode cX0_nextAmount 43 = .ok (.invokevirtual 129, 3) := by decide +kernel
theorem dX0_nextAmount_46 : decode cX0_nextAmount 46 = .ok (.isub, 1) := by decide +kernel
theorem dX0_nextAmount_47 : decode cX0_nextAmount 47 = .ok (.istore_n 2, 1) := by decide +kernel
theorem dX0_nextAmount_48 : decode cX0_nextAmount 48 = .ok (.iinc 3 1, 3) := by decide +kernel
theorem dX0_nextAmount_51 : decode cX0_nextAmount 51 = .ok (.goto (-20), 3) := by decide +kernel
theorem dX0_nextAmount_54 : decode cX0_nextAmount 54 = .ok (.iload_n 2, 1) := by decide +kernel
theorem dX0_nextAmount_55 : decode cX0_nextAmount 55 = .ok (.ireturn, 1) := by decide +kernel
set_option maxRecDepth 20000 in
theorem ggX0_pay_X0_requireApplication : GoodIn wsX0_pay wsX0_requireApplication := goodIn_ca (goodIn_r _ [9, 10, 11, 12, 17, 18, 19, 20, 21, 22, 23, 24, 25, 26, 27, 28, 29, 30, 31] (by decide +kernel) (by decide +kernel)) (goodIn_sub (fun _ h => List.mem_cons_of_mem _ (List.mem_append_right _ h)) (by decide +kernel))
set_option maxRecDepth 20000 in
theorem gX0_pay_X0_requireApplication : GoodIn wsX0_pay (wsV RX0 132 RX0 yX0_requireApplication wsX0_requireApplication) := goodIn_app (goodIn_of _ (by decide +kernel)) ggX0_pay_X0_requireApplication
set_option maxRecDepth 20000 in
theorem ggX0_pay_X0_waiversGiven : GoodIn wsX0_pay wsX0_waiversGiven := goodIn_r _ [16, 12, 3, 17, 18, 19, 20, 21, 22, 23, 24, 25, 26, 27, 28, 29, 30, 31] (by decide +kernel) (by decide +kernel)
set_option maxRecDepth 20000 in
theorem gX0_pay_X0_waiversGiven : GoodIn wsX0_pay (wsV RX0 137 RX0 yX0_waiversGiven wsX0_waiversGiven) := goodIn_app (goodIn_of _ (by decide +kernel)) ggX0_pay_X0_waiversGiven
theorem dX0_pay_0 : decode cX0_pay 0 = .ok (.aload_n 0, 1) := by decide +kernel
theorem dX0_pay_1 : decode cX0_pay 1 = .ok (.iload_n 1, 1) := by decide +kernel
theorem dX0_pay_2 : decode cX0_pay 2 = .ok (.invokevirtual 132, 3) := by decide +kernel
theorem dX0_pay_5 : decode cX0_pay 5 = .ok (.aload_n 0, 1) := by decide +kernel
theorem dX0_pay_6 : decode cX0_pay 6 = .ok (.getfield 31, 3) := by decide +kernel
theorem dX0_pay_9 : decode cX0_pay 9 = .ok (.iload_n 1, 1) := by decide +kernel
theorem dX0_pay_10 : decode cX0_pay 10 = .ok (.iaload, 1) := by decide +kernel
theorem dX0_pay_11 : decode cX0_pay 11 = .ok (.ifCond .eq 13, 3) := by decide +kernel
theorem dX0_pay_14 : decode cX0_pay 14 = .ok (.new 62, 3) := by decide +kernel
theorem dX0_pay_17 : decode cX0_pay 17 = .ok (.dup, 1) := by decide +kernel
theorem dX0_pay_18 : decode cX0_pay 18 = .ok (.ldc 135, 2) := by decide +kernel
theorem dX0_pay_20 : decode cX0_pay 20 = .ok (.invokespecial 66, 3) := by decide +kernel
theorem dX0_pay_23 : decode cX0_pay 23 = .ok (.athrow, 1) := by decide +kernel
theorem dX0_pay_24 : decode cX0_pay 24 = .ok (.aload_n 0, 1) := by decide +kernel
theorem dX0_pay_25 : decode cX0_pay 25 = .ok (.invokevirtual 137, 3) := by decide +kernel
theorem dX0_pay_28 : decode cX0_pay 28 = .ok (.iload_n 1, 1) := by decide +kernel
theorem dX0_pay_29 : decode cX0_pay 29 = .ok (.if_icmp .ge 13, 3) := by decide +kernel
theorem dX0_pay_32 : decode cX0_pay 32 = .ok (.new 62, 3) := by decide +kernel
theorem dX0_pay_35 : decode cX0_pay 35 = .ok (.dup, 1) := by decide +kernel
theorem dX0_pay_36 : decode cX0_pay 36 = .ok (.ldc 140, 2) := by decide +kernel
theorem dX0_pay_38 : decode cX0_pay 38 = .ok (.invokespecial 66, 3) := by decide +kernel
theorem dX0_pay_41 : decode cX0_pay 41 = .ok (.athrow, 1) := by decide +kernel
theorem dX0_pay_42 : decode cX0_pay 42 = .ok (.aload_n 0, 1) := by decide +kernel
theorem dX0_pay_43 : decode cX0_pay 43 = .ok (.getfield 31, 3) := by decide +kernel
theorem dX0_pay_46 : decode cX0_pay 46 = .ok (.iload_n 1, 1) := by decide +kernel
theorem dX0_pay_47 : decode cX0_pay 47 = .ok (.iconst 1, 1) := by decide +kernel
theorem dX0_pay_48 : decode cX0_pay 48 = .ok (.iastore, 1) := by decide +kernel
theorem dX0_pay_49 : decode cX0_pay 49 = .ok (.aload_n 0, 1) := by decide +kernel
theorem dX0_pay_50 : decode cX0_pay 50 = .ok (.getfield 34, 3) := by decide +kernel
theorem dX0_pay_53 : decode cX0_pay 53 = .ok (.iload_n 1, 1) := by decide +kernel
theorem dX0_pay_54 : decode cX0_pay 54 = .ok (.iaload, 1) := by decide +kernel
theorem dX0_pay_55 : decode cX0_pay 55 = .ok (.ireturn, 1) := by decide +kernel
set_option maxRecDepth 20000 in
theorem ggX0_waive_X0_requireApplication : GoodIn wsX0_waive wsX0_requireApplication := goodIn_ca (goodIn_r _ [8, 9, 10, 11, 16, 17, 18, 19, 20, 21, 22, 23, 24, 25, 26, 27, 28, 29, 30] (by decide +kernel) (by decide +kernel)) (goodIn_sub (fun _ h => List.mem_cons_of_mem _ (List.mem_append_right _ h)) (by decide +kernel))
set_option maxRecDepth 20000 in
theorem gX0_waive_X0_requireApplication : GoodIn wsX0_waive (wsV RX0 132 RX0 yX0_requireApplication wsX0_requireApplication) := goodIn_app (goodIn_of _ (by decide +kernel)) ggX0_waive_X0_requireApplication
set_option maxRecDepth 20000 in
theorem ggX0_waive_X0_waiversGiven : GoodIn wsX0_waive wsX0_waiversGiven := goodIn_r _ [15, 11, 3, 16, 17, 18, 19, 20, 21, 22, 23, 24, 25, 26, 27, 28, 29, 30] (by decide +kernel) (by decide +kernel)
set_option maxRecDepth 20000 in
theorem gX0_waive_X0_waiversGiven : GoodIn wsX0_waive (wsV RX0 137 RX0 yX0_waiversGiven wsX0_waiversGiven) := goodIn_app (goodIn_of _ (by decide +kernel)) ggX0_waive_X0_waiversGiven
theorem dX0_waive_0 : decode cX0_waive 0 = .ok (.aload_n 0, 1) := by decide +kernel
theorem dX0_waive_1 : decode cX0_waive 1 = .ok (.iload_n 1, 1) := by decide +kernel
theorem dX0_waive_2 : decode cX0_waive 2 = .ok (.invokevirtual 132, 3) := by decide +kernel
theorem dX0_waive_5 : decode cX0_waive 5 = .ok (.aload_n 0, 1) := by decide +kernel
theorem dX0_waive_6 : decode cX0_waive 6 = .ok (.getfield 31, 3) := by decide +kernel
theorem dX0_waive_9 : decode cX0_waive 9 = .ok (.iload_n 1, 1) := by decide +kernel
theorem dX0_waive_10 : decode cX0_waive 10 = .ok (.iaload, 1) := by decide +kernel
theorem dX0_waive_11 : decode cX0_waive 11 = .ok (.iconst 1, 1) := by decide +kernel
theorem dX0_waive_12 : decode cX0_waive 12 = .ok (.if_icmp .eq 13, 3) := by decide +kernel
theorem dX0_waive_15 : decode cX0_waive 15 = .ok (.new 62, 3) := by decide +kernel
theorem dX0_waive_18 : decode cX0_waive 18 = .ok (.dup, 1) := by decide +kernel
theorem dX0_waive_19 : decode cX0_waive 19 = .ok (.ldc 142, 2) := by decide +kernel
theorem dX0_waive_21 : decode cX0_waive 21 = .ok (.invokespecial 66, 3) := by decide +kernel
theorem dX0_waive_24 : decode cX0_waive 24 = .ok (.athrow, 1) := by decide +kernel
theorem dX0_waive_25 : decode cX0_waive 25 = .ok (.aload_n 0, 1) := by decide +kernel
theorem dX0_waive_26 : decode cX0_waive 26 = .ok (.getfield 31, 3) := by decide +kernel
theorem dX0_waive_29 : decode cX0_waive 29 = .ok (.iload_n 1, 1) := by decide +kernel
theorem dX0_waive_30 : decode cX0_waive 30 = .ok (.iconst 2, 1) := by decide +kernel
theorem dX0_waive_31 : decode cX0_waive 31 = .ok (.iastore, 1) := by decide +kernel
theorem dX0_waive_32 : decode cX0_waive 32 = .ok (.aload_n 0, 1) := by decide +kernel
theorem dX0_waive_33 : decode cX0_waive 33 = .ok (.invokevirtual 137, 3) := by decide +kernel
theorem dX0_waive_36 : decode cX0_waive 36 = .ok (.ireturn, 1) := by decide +kernel
theorem dX0_applications_0 : decode cX0_applications 0 = .ok (.aload_n 0, 1) := by decide +kernel
theorem dX0_applications_1 : decode cX0_applications 1 = .ok (.getfield 115, 3) := by decide +kernel
theorem dX0_applications_4 : decode cX0_applications 4 = .ok (.ireturn, 1) := by decide +kernel
set_option maxRecDepth 20000 in
theorem ggX0_state_X0_requireApplication : GoodIn wsX0_state wsX0_requireApplication := goodIn_ca (goodIn_r _ [6, 7, 8, 9, 10, 11, 12, 13, 14, 15, 16, 17, 18, 19, 20, 21, 22, 23, 24] (by decide +kernel) (by decide +kernel)) (goodIn_sub (fun _ h => List.mem_cons_of_mem _ (List.mem_append_right _ h)) (by decide +kernel))
set_option maxRecDepth 20000 in
theorem gX0_state_X0_requireApplication : GoodIn wsX0_state (wsV RX0 132 RX0 yX0_requireApplication wsX0_requireApplication) := goodIn_app (goodIn_of _ (by decide +kernel)) ggX0_state_X0_requireApplication
theorem dX0_state_0 : decode cX0_state 0 = .ok (.aload_n 0, 1) := by decide +kernel
theorem dX0_state_1 : decode cX0_state 1 = .ok (.iload_n 1, 1) := by decide +kernel
theorem dX0_state_2 : decode cX0_state 2 = .ok (.invokevirtual 132, 3) := by decide +kernel
theorem dX0_state_5 : decode cX0_state 5 = .ok (.aload_n 0, 1) := by decide +kernel
theorem dX0_state_6 : decode cX0_state 6 = .ok (.getfield 31, 3) := by decide +kernel
theorem dX0_state_9 : decode cX0_state 9 = .ok (.iload_n 1, 1) := by decide +kernel
theorem dX0_state_10 : decode cX0_state 10 = .ok (.iaload, 1) := by decide +kernel
theorem dX0_state_11 : decode cX0_state 11 = .ok (.ireturn, 1) := by decide +kernel
set_option maxRecDepth 20000 in
theorem ggX0_amount_X0_requireApplication : GoodIn wsX0_amount wsX0_requireApplication := goodIn_ca (goodIn_r _ [6, 7, 8, 9, 10, 11, 12, 13, 14, 15, 16, 17, 18, 19, 20, 21, 22, 23, 24] (by decide +kernel) (by decide +kernel)) (goodIn_sub (fun _ h => List.mem_cons_of_mem _ (List.mem_append_right _ h)) (by decide +kernel))
set_option maxRecDepth 20000 in
theorem gX0_amount_X0_requireApplication : GoodIn wsX0_amount (wsV RX0 132 RX0 yX0_requireApplication wsX0_requireApplication) := goodIn_app (goodIn_of _ (by decide +kernel)) ggX0_amount_X0_requireApplication
theorem dX0_amount_0 : decode cX0_amount 0 = .ok (.aload_n 0, 1) := by decide +kernel
theorem dX0_amount_1 : decode cX0_amount 1 = .ok (.iload_n 1, 1) := by decide +kernel
theorem dX0_amount_2 : decode cX0_amount 2 = .ok (.invokevirtual 132, 3) := by decide +kernel
theorem dX0_amount_5 : decode cX0_amount 5 = .ok (.aload_n 0, 1) := by decide +kernel
theorem dX0_amount_6 : decode cX0_amount 6 = .ok (.getfield 34, 3) := by decide +kernel
theorem dX0_amount_9 : decode cX0_amount 9 = .ok (.iload_n 1, 1) := by decide +kernel
theorem dX0_amount_10 : decode cX0_amount 10 = .ok (.iaload, 1) := by decide +kernel
theorem dX0_amount_11 : decode cX0_amount 11 = .ok (.ireturn, 1) := by decide +kernel
set_option maxRecDepth 20000 in
theorem ggX0_billedBehind_X0_requireApplication : GoodIn wsX0_billedBehind wsX0_requireApplication := goodIn_ca (goodIn_r _ [6, 7, 8, 9, 10, 11, 12, 13, 14, 15, 16, 17, 18, 19, 20, 21, 22, 23, 24] (by decide +kernel) (by decide +kernel)) (goodIn_sub (fun _ h => List.mem_cons_of_mem _ (List.mem_append_right _ h)) (by decide +kernel))
set_option maxRecDepth 20000 in
theorem gX0_billedBehind_X0_requireApplication : GoodIn wsX0_billedBehind (wsV RX0 132 RX0 yX0_requireApplication wsX0_requireApplication) := goodIn_app (goodIn_of _ (by decide +kernel)) ggX0_billedBehind_X0_requireApplication
theorem dX0_billedBehind_0 : decode cX0_billedBehind 0 = .ok (.aload_n 0, 1) := by decide +kernel
theorem dX0_billedBehind_1 : decode cX0_billedBehind 1 = .ok (.iload_n 1, 1) := by decide +kernel
theorem dX0_billedBehind_2 : decode cX0_billedBehind 2 = .ok (.invokevirtual 132, 3) := by decide +kernel
theorem dX0_billedBehind_5 : decode cX0_billedBehind 5 = .ok (.aload_n 0, 1) := by decide +kernel
theorem dX0_billedBehind_6 : decode cX0_billedBehind 6 = .ok (.getfield 37, 3) := by decide +kernel
theorem dX0_billedBehind_9 : decode cX0_billedBehind 9 = .ok (.iload_n 1, 1) := by decide +kernel
theorem dX0_billedBehind_10 : decode cX0_billedBehind 10 = .ok (.iaload, 1) := by decide +kernel
theorem dX0_billedBehind_11 : decode cX0_billedBehind 11 = .ok (.ireturn, 1) := by decide +kernel
set_option maxRecDepth 20000 in
theorem ggX0_heldBehind_X0_requireApplication : GoodIn wsX0_heldBehind wsX0_requireApplication := goodIn_ca (goodIn_r _ [6, 7, 8, 9, 10, 11, 12, 13, 14, 15, 16, 17, 18, 19, 20, 21, 22, 23, 24] (by decide +kernel) (by decide +kernel)) (goodIn_sub (fun _ h => List.mem_cons_of_mem _ (List.mem_append_right _ h)) (by decide +kernel))
set_option maxRecDepth 20000 in
theorem gX0_heldBehind_X0_requireApplication : GoodIn wsX0_heldBehind (wsV RX0 132 RX0 yX0_requireApplication wsX0_requireApplication) := goodIn_app (goodIn_of _ (by decide +kernel)) ggX0_heldBehind_X0_requireApplication
theorem dX0_heldBehind_0 : decode cX0_heldBehind 0 = .ok (.aload_n 0, 1) := by decide +kernel
theorem dX0_heldBehind_1 : decode cX0_heldBehind 1 = .ok (.iload_n 1, 1) := by decide +kernel
theorem dX0_heldBehind_2 : decode cX0_heldBehind 2 = .ok (.invokevirtual 132, 3) := by decide +kernel
theorem dX0_heldBehind_5 : decode cX0_heldBehind 5 = .ok (.aload_n 0, 1) := by decide +kernel
theorem dX0_heldBehind_6 : decode cX0_heldBehind 6 = .ok (.getfield 40, 3) := by decide +kernel
theorem dX0_heldBehind_9 : decode cX0_heldBehind 9 = .ok (.iload_n 1, 1) := by decide +kernel
theorem dX0_heldBehind_10 : decode cX0_heldBehind 10 = .ok (.iaload, 1) := by decide +kernel
theorem dX0_heldBehind_11 : decode cX0_heldBehind 11 = .ok (.ireturn, 1) := by decide +kernel
theorem dX0_lines_0 : decode cX0_lines 0 = .ok (.aload_n 0, 1) := by decide +kernel
theorem dX0_lines_1 : decode cX0_lines 1 = .ok (.getfield 55, 3) := by decide +kernel
theorem dX0_lines_4 : decode cX0_lines 4 = .ok (.ireturn, 1) := by decide +kernel
set_option maxRecDepth 20000 in
theorem ggX0_value_X0_requireLine : GoodIn wsX0_value wsX0_requireLine := goodIn_ca (goodIn_r _ [6, 7, 8, 9, 10, 11, 12, 13, 14, 15, 16, 17, 18, 19, 20, 21, 22, 23, 24] (by decide +kernel) (by decide +kernel)) (goodIn_sub (fun _ h => List.mem_cons_of_mem _ (List.mem_append_right _ h)) (by decide +kernel))
set_option maxRecDepth 20000 in
theorem gX0_value_X0_requireLine : GoodIn wsX0_value (wsV RX0 58 RX0 yX0_requireLine wsX0_requireLine) := goodIn_app (goodIn_of _ (by decide +kernel)) ggX0_value_X0_requireLine
theorem dX0_value_0 : decode cX0_value 0 = .ok (.aload_n 0, 1) := by decide +kernel
theorem dX0_value_1 : decode cX0_value 1 = .ok (.iload_n 1, 1) := by decide +kernel
theorem dX0_value_2 : decode cX0_value 2 = .ok (.invokevirtual 58, 3) := by decide +kernel
theorem dX0_value_5 : decode cX0_value 5 = .ok (.aload_n 0, 1) := by decide +kernel
theorem dX0_value_6 : decode cX0_value 6 = .ok (.getfield 9, 3) := by decide +kernel
theorem dX0_value_9 : decode cX0_value 9 = .ok (.iload_n 1, 1) := by decide +kernel
theorem dX0_value_10 : decode cX0_value 10 = .ok (.iaload, 1) := by decide +kernel
theorem dX0_value_11 : decode cX0_value 11 = .ok (.ireturn, 1) := by decide +kernel
set_option maxRecDepth 20000 in
theorem ggX0_work_X0_requireLine : GoodIn wsX0_work wsX0_requireLine := goodIn_ca (goodIn_r _ [6, 7, 8, 9, 10, 11, 12, 13, 14, 15, 16, 17, 18, 19, 20, 21, 22, 23, 24] (by decide +kernel) (by decide +kernel)) (goodIn_sub (fun _ h => List.mem_cons_of_mem _ (List.mem_append_right _ h)) (by decide +kernel))
set_option maxRecDepth 20000 in
theorem gX0_work_X0_requireLine : GoodIn wsX0_work (wsV RX0 58 RX0 yX0_requireLine wsX0_requireLine) := goodIn_app (goodIn_of _ (by decide +kernel)) ggX0_work_X0_requireLine
theorem dX0_work_0 : decode cX0_work 0 = .ok (.aload_n 0, 1) := by decide +kernel
theorem dX0_work_1 : decode cX0_work 1 = .ok (.iload_n 1, 1) := by decide +kernel
theorem dX0_work_2 : decode cX0_work 2 = .ok (.invokevirtual 58, 3) := by decide +kernel
theorem dX0_work_5 : decode cX0_work 5 = .ok (.aload_n 0, 1) := by decide +kernel
theorem dX0_work_6 : decode cX0_work 6 = .ok (.getfield 16, 3) := by decide +kernel
theorem dX0_work_9 : decode cX0_work 9 = .ok (.iload_n 1, 1) := by decide +kernel
theorem dX0_work_10 : decode cX0_work 10 = .ok (.iaload, 1) := by decide +kernel
theorem dX0_work_11 : decode cX0_work 11 = .ok (.ireturn, 1) := by decide +kernel
set_option maxRecDepth 20000 in
theorem ggX0_goods_X0_requireLine : GoodIn wsX0_goods wsX0_requireLine := goodIn_ca (goodIn_r _ [7, 8, 9, 10, 11, 12, 13, 14, 15, 16, 17, 18, 19, 20, 21, 22, 23, 24, 25] (by decide +kernel) (by decide +kernel)) (goodIn_sub (fun _ h => List.mem_cons_of_mem _ (List.mem_append_right _ h)) (by decide +kernel))
set_option maxRecDepth 20000 in
theorem gX0_goods_X0_requireLine : GoodIn wsX0_goods (wsV RX0 58 RX0 yX0_requireLine wsX0_requireLine) := goodIn_app (goodIn_of _ (by decide +kernel)) ggX0_goods_X0_requireLine
theorem dX0_goods_0 : decode cX0_goods 0 = .ok (.aload_n 0, 1) := by decide +kernel
theorem dX0_goods_1 : decode cX0_goods 1 = .ok (.iload_n 1, 1) := by decide +kernel
theorem dX0_goods_2 : decode cX0_goods 2 = .ok (.invokevirtual 58, 3) := by decide +kernel
theorem dX0_goods_5 : decode cX0_goods 5 = .ok (.aload_n 0, 1) := by decide +kernel
theorem dX0_goods_6 : decode cX0_goods 6 = .ok (.getfield 13, 3) := by decide +kernel
theorem dX0_goods_9 : decode cX0_goods 9 = .ok (.iload_n 1, 1) := by decide +kernel
theorem dX0_goods_10 : decode cX0_goods 10 = .ok (.iaload, 1) := by decide +kernel
theorem dX0_goods_11 : decode cX0_goods 11 = .ok (.aload_n 0, 1) := by decide +kernel
theorem dX0_goods_12 : decode cX0_goods 12 = .ok (.getfield 16, 3) := by decide +kernel
theorem dX0_goods_15 : decode cX0_goods 15 = .ok (.iload_n 1, 1) := by decide +kernel
theorem dX0_goods_16 : decode cX0_goods 16 = .ok (.iaload, 1) := by decide +kernel
theorem dX0_goods_17 : decode cX0_goods 17 = .ok (.isub, 1) := by decide +kernel
theorem dX0_goods_18 : decode cX0_goods 18 = .ok (.ireturn, 1) := by decide +kernel
set_option maxRecDepth 20000 in
theorem ggX0_billed_X0_requireLine : GoodIn wsX0_billed wsX0_requireLine := goodIn_ca (goodIn_r _ [6, 7, 8, 9, 10, 11, 12, 13, 14, 15, 16, 17, 18, 19, 20, 21, 22, 23, 24] (by decide +kernel) (by decide +kernel)) (goodIn_sub (fun _ h => List.mem_cons_of_mem _ (List.mem_append_right _ h)) (by decide +kernel))
set_option maxRecDepth 20000 in
theorem gX0_billed_X0_requireLine : GoodIn wsX0_billed (wsV RX0 58 RX0 yX0_requireLine wsX0_requireLine) := goodIn_app (goodIn_of _ (by decide +kernel)) ggX0_billed_X0_requireLine
theorem dX0_billed_0 : decode cX0_billed 0 = .ok (.aload_n 0, 1) := by decide +kernel
theorem dX0_billed_1 : decode cX0_billed 1 = .ok (.iload_n 1, 1) := by decide +kernel
theorem dX0_billed_2 : decode cX0_billed 2 = .ok (.invokevirtual 58, 3) := by decide +kernel
theorem dX0_billed_5 : decode cX0_billed 5 = .ok (.aload_n 0, 1) := by decide +kernel
theorem dX0_billed_6 : decode cX0_billed 6 = .ok (.getfield 19, 3) := by decide +kernel
theorem dX0_billed_9 : decode cX0_billed 9 = .ok (.iload_n 1, 1) := by decide +kernel
theorem dX0_billed_10 : decode cX0_billed 10 = .ok (.iaload, 1) := by decide +kernel
theorem dX0_billed_11 : decode cX0_billed 11 = .ok (.ireturn, 1) := by decide +kernel
set_option maxRecDepth 20000 in
theorem ggX0_held_X0_requireLine : GoodIn wsX0_held wsX0_requireLine := goodIn_ca (goodIn_r _ [6, 7, 8, 9, 10, 11, 12, 13, 14, 15, 16, 17, 18, 19, 20, 21, 22, 23, 24] (by decide +kernel) (by decide +kernel)) (goodIn_sub (fun _ h => List.mem_cons_of_mem _ (List.mem_append_right _ h)) (by decide +kernel))
set_option maxRecDepth 20000 in
theorem gX0_held_X0_requireLine : GoodIn wsX0_held (wsV RX0 58 RX0 yX0_requireLine wsX0_requireLine) := goodIn_app (goodIn_of _ (by decide +kernel)) ggX0_held_X0_requireLine
theorem dX0_held_0 : decode cX0_held 0 = .ok (.aload_n 0, 1) := by decide +kernel
theorem dX0_held_1 : decode cX0_held 1 = .ok (.iload_n 1, 1) := by decide +kernel
theorem dX0_held_2 : decode cX0_held 2 = .ok (.invokevirtual 58, 3) := by decide +kernel
theorem dX0_held_5 : decode cX0_held 5 = .ok (.aload_n 0, 1) := by decide +kernel
theorem dX0_held_6 : decode cX0_held 6 = .ok (.getfield 22, 3) := by decide +kernel
theorem dX0_held_9 : decode cX0_held 9 = .ok (.iload_n 1, 1) := by decide +kernel
theorem dX0_held_10 : decode cX0_held 10 = .ok (.iaload, 1) := by decide +kernel
theorem dX0_held_11 : decode cX0_held 11 = .ok (.ireturn, 1) := by decide +kernel
set_option maxRecDepth 20000 in
theorem ggX0_lineByShare_X0_requireLine : GoodIn wsX0_lineByShare wsX0_requireLine := goodIn_ca (goodIn_r _ [6, 7, 8, 1, 27, 28, 29, 30, 31, 32, 33, 34, 35, 36, 37, 38, 39, 40, 41] (by decide +kernel) (by decide +kernel)) (goodIn_sub (fun _ h => List.mem_cons_of_mem _ (List.mem_append_right _ h)) (by decide +kernel))
set_option maxRecDepth 20000 in
theorem gX0_lineByShare_X0_requireLine : GoodIn wsX0_lineByShare (wsV RX0 58 RX0 yX0_requireLine wsX0_requireLine) := goodIn_app (goodIn_of _ (by decide +kernel)) ggX0_lineByShare_X0_requireLine
set_option maxRecDepth 20000 in
theorem ggX0_lineByShare_X0_placeByShare : GoodIn wsX0_lineByShare wsX0_placeByShare := goodIn_r _ [12, 1, 13, 14, 15, 5, 16, 17, 18, 19, 20, 21, 22, 23, 24, 25, 26, 27, 28, 29, 30, 31, 32, 33, 34, 35, 36, 37, 38, 39, 40, 41] (by decide +kernel) (by decide +kernel)
set_option maxRecDepth 20000 in
theorem gX0_lineByShare_X0_placeByShare : GoodIn wsX0_lineByShare (wsV RX0 144 RX0 yX0_placeByShare wsX0_placeByShare) := goodIn_app (goodIn_of _ (by decide +kernel)) ggX0_lineByShare_X0_placeByShare
theorem dX0_lineByShare_0 : decode cX0_lineByShare 0 = .ok (.aload_n 0, 1) := by decide +kernel
theorem dX0_lineByShare_1 : decode cX0_lineByShare 1 = .ok (.iload_n 1, 1) := by decide +kernel
theorem dX0_lineByShare_2 : decode cX0_lineByShare 2 = .ok (.invokevirtual 58, 3) := by decide +kernel
theorem dX0_lineByShare_5 : decode cX0_lineByShare 5 = .ok (.iconst 0, 1) := by decide +kernel
theorem dX0_lineByShare_6 : decode cX0_lineByShare 6 = .ok (.istore_n 2, 1) := by decide +kernel
theorem dX0_lineByShare_7 : decode cX0_lineByShare 7 = .ok (.iload_n 2, 1) := by decide +kernel
theorem dX0_lineByShare_8 : decode cX0_lineByShare 8 = .ok (.aload_n 0, 1) := by decide +kernel
theorem dX0_lineByShare_9 : decode cX0_lineByShare 9 = .ok (.getfield 55, 3) := by decide +kernel
theorem dX0_lineByShare_12 : decode cX0_lineByShare 12 = .ok (.iconst 1, 1) := by decide +kernel
theorem dX0_lineByShare_13 : decode cX0_lineByShare 13 = .ok (.isub, 1) := by decide +kernel
theorem dX0_lineByShare_14 : decode cX0_lineByShare 14 = .ok (.if_icmp .ge 18, 3) := by decide +kernel
theorem dX0_lineByShare_17 : decode cX0_lineByShare 17 = .ok (.aload_n 0, 1) := by decide +kernel
theorem dX0_lineByShare_18 : decode cX0_lineByShare 18 = .ok (.iload_n 2, 1) := by decide +kernel
theorem dX0_lineByShare_19 : decode cX0_lineByShare 19 = .ok (.invokevirtual 144, 3) := by decide +kernel
theorem dX0_lineByShare_22 : decode cX0_lineByShare 22 = .ok (.iload_n 1, 1) := by decide +kernel
theorem dX0_lineByShare_23 : decode cX0_lineByShare 23 = .ok (.if_icmp .eq 9, 3) := by decide +kernel
theorem dX0_lineByShare_26 : decode cX0_lineByShare 26 = .ok (.iinc 2 1, 3) := by decide +kernel
theorem dX0_lineByShare_29 : decode cX0_lineByShare 29 = .ok (.goto (-22), 3) := by decide +kernel
theorem dX0_lineByShare_32 : decode cX0_lineByShare 32 = .ok (.iload_n 2, 1) := by decide +kernel
theorem dX0_lineByShare_33 : decode cX0_lineByShare 33 = .ok (.ireturn, 1) := by decide +kernel
set_option maxRecDepth 20000 in
theorem ggX0_contractSum_X0_sum : GoodIn wsX0_contractSum wsX0_sum := goodIn_r _ [6] (by decide +kernel) (by decide +kernel)
set_option maxRecDepth 20000 in
theorem gX0_contractSum_X0_sum : GoodIn wsX0_contractSum (va_wsS RX0 98 yX0_sum wsX0_sum) := goodIn_app (goodIn_of _ (by decide +kernel)) ggX0_contractSum_X0_sum
theorem dX0_contractSum_0 : decode cX0_contractSum 0 = .ok (.aload_n 0, 1) := by decide +kernel
theorem dX0_contractSum_1 : decode cX0_contractSum 1 = .ok (.getfield 9, 3) := by decide +kernel
theorem dX0_contractSum_4 : decode cX0_contractSum 4 = .ok (.aload_n 0, 1) := by decide +kernel
theorem dX0_contractSum_5 : decode cX0_contractSum 5 = .ok (.getfield 55, 3) := by decide +kernel
theorem dX0_contractSum_8 : decode cX0_contractSum 8 = .ok (.invokestatic 98, 3) := by decide +kernel
theorem dX0_contractSum_11 : decode cX0_contractSum 11 = .ok (.ireturn, 1) := by decide +kernel
theorem dX0_paid_0 : decode cX0_paid 0 = .ok (.iconst 0, 1) := by decide +kernel
theorem dX0_paid_1 : decode cX0_paid 1 = .ok (.istore_n 1, 1) := by decide +kernel
theorem dX0_paid_2 : decode cX0_paid 2 = .ok (.iconst 0, 1) := by decide +kernel
theorem dX0_paid_3 : decode cX0_paid 3 = .ok (.istore_n 2, 1) := by decide +kernel
theorem dX0_paid_4 : decode cX0_paid 4 = .ok (.iload_n 2, 1) := by decide +kernel
theorem dX0_paid_5 : decode cX0_paid 5 = .ok (.aload_n 0, 1) := by decide +kernel
theorem dX0_paid_6 : decode cX0_paid 6 = .ok (.getfield 115, 3) := by decide +kernel
theorem dX0_paid_9 : decode cX0_paid 9 = .ok (.if_icmp .ge 27, 3) := by decide +kernel
theorem dX0_paid_12 : decode cX0_paid 12 = .ok (.aload_n 0, 1) := by decide +kernel
theorem dX0_paid_13 : decode cX0_paid 13 = .ok (.getfield 31, 3) := by decide +kernel
theorem dX0_paid_16 : decode cX0_paid 16 = .ok (.iload_n 2, 1) := by decide +kernel
theorem dX0_paid_17 : decode cX0_paid 17 = .ok (.iaload, 1) := by decide +kernel
theorem dX0_paid_18 : decode cX0_paid 18 = .ok (.ifCond .eq 12, 3) := by decide +kernel
theorem dX0_paid_21 : decode cX0_paid 21 = .ok (.iload_n 1, 1) := by decide +kernel
theorem dX0_paid_22 : decode cX0_paid 22 = .ok (.aload_n 0, 1) := by decide +kernel
theorem dX0_paid_23 : decode cX0_paid 23 = .ok (.getfield 34, 3) := by decide +kernel
theorem dX0_paid_26 : decode cX0_paid 26 = .ok (.iload_n 2, 1) := by decide +kernel
theorem dX0_paid_27 : decode cX0_paid 27 = .ok (.iaload, 1) := by decide +kernel
theorem dX0_paid_28 : decode cX0_paid 28 = .ok (.iadd, 1) := by decide +kernel
theorem dX0_paid_29 : decode cX0_paid 29 = .ok (.istore_n 1, 1) := by decide +kernel
theorem dX0_paid_30 : decode cX0_paid 30 = .ok (.iinc 2 1, 3) := by decide +kernel
theorem dX0_paid_33 : decode cX0_paid 33 = .ok (.goto (-29), 3) := by decide +kernel
theorem dX0_paid_36 : decode cX0_paid 36 = .ok (.iload_n 1, 1) := by decide +kernel
theorem dX0_paid_37 : decode cX0_paid 37 = .ok (.ireturn, 1) := by decide +kernel
set_option maxRecDepth 20000 in
theorem ggX0_toCome_X0_contractSum : GoodIn wsX0_toCome wsX0_contractSum := goodIn_r _ [5, 6, 7, 8, 9, 4, 10, 18, 19, 20, 21, 22, 23, 24, 25, 26, 27, 28, 29, 30, 31, 32] (by decide +kernel) (by decide +kernel)
set_option maxRecDepth 20000 in
theorem gX0_toCome_X0_contractSum : GoodIn wsX0_toCome (wsV RX0 102 RX0 yX0_contractSum wsX0_contractSum) := goodIn_app (goodIn_of _ (by decide +kernel)) ggX0_toCome_X0_contractSum
set_option maxRecDepth 20000 in
theorem ggX0_toCome_X0_paid : GoodIn wsX0_toCome wsX0_paid := goodIn_r _ [14, 15, 16, 17, 18, 19, 20, 21, 22, 23, 24, 25, 26, 27, 28, 29, 30, 31, 32] (by decide +kernel) (by decide +kernel)
set_option maxRecDepth 20000 in
theorem gX0_toCome_X0_paid : GoodIn wsX0_toCome (wsV RX0 147 RX0 yX0_paid wsX0_paid) := goodIn_app (goodIn_of _ (by decide +kernel)) ggX0_toCome_X0_paid
theorem dX0_toCome_0 : decode cX0_toCome 0 = .ok (.aload_n 0, 1) := by decide +kernel
theorem dX0_toCome_1 : decode cX0_toCome 1 = .ok (.invokevirtual 102, 3) := by decide +kernel
theorem dX0_toCome_4 : decode cX0_toCome 4 = .ok (.aload_n 0, 1) := by decide +kernel
theorem dX0_toCome_5 : decode cX0_toCome 5 = .ok (.invokevirtual 147, 3) := by decide +kernel
theorem dX0_toCome_8 : decode cX0_toCome 8 = .ok (.isub, 1) := by decide +kernel
theorem dX0_toCome_9 : decode cX0_toCome 9 = .ok (.ireturn, 1) := by decide +kernel
theorem dX0_requireLine_0 : decode cX0_requireLine 0 = .ok (.iload_n 1, 1) := by decide +kernel
theorem dX0_requireLine_1 : decode cX0_requireLine 1 = .ok (.ifCond .lt 11, 3) := by decide +kernel
theorem dX0_requireLine_4 : decode cX0_requireLine 4 = .ok (.iload_n 1, 1) := by decide +kernel
theorem dX0_requireLine_5 : decode cX0_requireLine 5 = .ok (.aload_n 0, 1) := by decide +kernel
theorem dX0_requireLine_6 : decode cX0_requireLine 6 = .ok (.getfield 55, 3) := by decide +kernel
theorem dX0_requireLine_9 : decode cX0_requireLine 9 = .ok (.if_icmp .lt 13, 3) := by decide +kernel
theorem dX0_requireLine_12 : decode cX0_requireLine 12 = .ok (.new 150, 3) := by decide +kernel
theorem dX0_requireLine_15 : decode cX0_requireLine 15 = .ok (.dup, 1) := by decide +kernel
theorem dX0_requireLine_16 : decode cX0_requireLine 16 = .ok (.ldc 152, 2) := by decide +kernel
theorem dX0_requireLine_18 : decode cX0_requireLine 18 = .ok (.invokespecial 154, 3) := by decide +kernel
theorem dX0_requireLine_21 : decode cX0_requireLine 21 = .ok (.athrow, 1) := by decide +kernel
theorem dX0_requireLine_22 : decode cX0_requireLine 22 = .ok (.return_, 1) := by decide +kernel
theorem dX0_requireApplication_0 : decode cX0_requireApplication 0 = .ok (.iload_n 1, 1) := by decide +kernel
theorem dX0_requireApplication_1 : decode cX0_requireApplication 1 = .ok (.ifCond .lt 11, 3) := by decide +kernel
theorem dX0_requireApplication_4 : decode cX0_requireApplication 4 = .ok (.iload_n 1, 1) := by decide +kernel
theorem dX0_requireApplication_5 : decode cX0_requireApplication 5 = .ok (.aload_n 0, 1) := by decide +kernel
theorem dX0_requireApplication_6 : decode cX0_requireApplication 6 = .ok (.getfield 115, 3) := by decide +kernel
theorem dX0_requireApplication_9 : decode cX0_requireApplication 9 = .ok (.if_icmp .lt 13, 3) := by decide +kernel
theorem dX0_requireApplication_12 : decode cX0_requireApplication 12 = .ok (.new 150, 3) := by decide +kernel
theorem dX0_requireApplication_15 : decode cX0_requireApplication 15 = .ok (.dup, 1) := by decide +kernel
theorem dX0_requireApplication_16 : decode cX0_requireApplication 16 = .ok (.ldc 155, 2) := by decide +kernel
theorem dX0_requireApplication_18 : decode cX0_requireApplication 18 = .ok (.invokespecial 154, 3) := by decide +kernel
theorem dX0_requireApplication_21 : decode cX0_requireApplication 21 = .ok (.athrow, 1) := by decide +kernel
theorem dX0_requireApplication_22 : decode cX0_requireApplication 22 = .ok (.return_, 1) := by decide +kernel
theorem dX0_requireBetween_0 : decode cX0_requireBetween 0 = .ok (.iload_n 0, 1) := by decide +kernel
theorem dX0_requireBetween_1 : decode cX0_requireBetween 1 = .ok (.iload_n 1, 1) := by decide +kernel
theorem dX0_requireBetween_2 : decode cX0_requireBetween 2 = .ok (.if_icmp .lt 8, 3) := by decide +kernel
theorem dX0_requireBetween_5 : decode cX0_requireBetween 5 = .ok (.iload_n 0, 1) := by decide +kernel
theorem dX0_requireBetween_6 : decode cX0_requireBetween 6 = .ok (.iload_n 2, 1) := by decide +kernel
theorem dX0_requireBetween_7 : decode cX0_requireBetween 7 = .ok (.if_icmp .le 13, 3) := by decide +kernel
theorem dX0_requireBetween_10 : decode cX0_requireBetween 10 = .ok (.new 157, 3) := by decide +kernel
theorem dX0_requireBetween_13 : decode cX0_requireBetween 13 = .ok (.dup, 1) := by decide +kernel
theorem dX0_requireBetween_14 : decode cX0_requireBetween 14 = .ok (.ldc 159, 2) := by decide +kernel
theorem dX0_requireBetween_16 : decode cX0_requireBetween 16 = .ok (.invokespecial 161, 3) := by decide +kernel
theorem dX0_requireBetween_19 : decode cX0_requireBetween 19 = .ok (.athrow, 1) := by decide +kernel
theorem dX0_requireBetween_20 : decode cX0_requireBetween 20 = .ok (.return_, 1) := by decide +kernel
theorem dX0_requireRoomForLine_0 : decode cX0_requireRoomForLine 0 = .ok (.aload_n 0, 1) := by decide +kernel
theorem dX0_requireRoomForLine_1 : decode cX0_requireRoomForLine 1 = .ok (.getfield 55, 3) := by decide +kernel
theorem dX0_requireRoomForLine_4 : decode cX0_requireRoomForLine 4 = .ok (.bipush 16, 2) := by decide +kernel
theorem dX0_requireRoomForLine_6 : decode cX0_requireRoomForLine 6 = .ok (.if_icmp .lt 13, 3) := by decide +kernel
theorem dX0_requireRoomForLine_9 : decode cX0_requireRoomForLine 9 = .ok (.new 62, 3) := by decide +kernel
theorem dX0_requireRoomForLine_12 : decode cX0_requireRoomForLine 12 = .ok (.dup, 1) := by decide +kernel
theorem dX0_requireRoomForLine_13 : decode cX0_requireRoomForLine 13 = .ok (.ldc 162, 2) := by decide +kernel
theorem dX0_requireRoomForLine_15 : decode cX0_requireRoomForLine 15 = .ok (.invokespecial 66, 3) := by decide +kernel
theorem dX0_requireRoomForLine_18 : decode cX0_requireRoomForLine 18 = .ok (.athrow, 1) := by decide +kernel
theorem dX0_requireRoomForLine_19 : decode cX0_requireRoomForLine 19 = .ok (.return_, 1) := by decide +kernel
theorem dX0_requireValueFor_0 : decode cX0_requireValueFor 0 = .ok (.aload_n 0, 1) := by decide +kernel
theorem dX0_requireValueFor_1 : decode cX0_requireValueFor 1 = .ok (.getfield 13, 3) := by decide +kernel
theorem dX0_requireValueFor_4 : decode cX0_requireValueFor 4 = .ok (.iload_n 1, 1) := by decide +kernel
theorem dX0_requireValueFor_5 : decode cX0_requireValueFor 5 = .ok (.iaload, 1) := by decide +kernel
theorem dX0_requireValueFor_6 : decode cX0_requireValueFor 6 = .ok (.iload_n 2, 1) := by decide +kernel
theorem dX0_requireValueFor_7 : decode cX0_requireValueFor 7 = .ok (.iadd, 1) := by decide +kernel
theorem dX0_requireValueFor_8 : decode cX0_requireValueFor 8 = .ok (.aload_n 0, 1) := by decide +kernel
theorem dX0_requireValueFor_9 : decode cX0_requireValueFor 9 = .ok (.getfield 9, 3) := by decide +kernel
theorem dX0_requireValueFor_12 : decode cX0_requireValueFor 12 = .ok (.iload_n 1, 1) := by decide +kernel
theorem dX0_requireValueFor_13 : decode cX0_requireValueFor 13 = .ok (.iaload, 1) := by decide +kernel
theorem dX0_requireValueFor_14 : decode cX0_requireValueFor 14 = .ok (.if_icmp .le 13, 3) := by decide +kernel
theorem dX0_requireValueFor_17 : decode cX0_requireValueFor 17 = .ok (.new 62, 3) := by decide +kernel
theorem dX0_requireValueFor_20 : decode cX0_requireValueFor 20 = .ok (.dup, 1) := by decide +kernel
theorem dX0_requireValueFor_21 : decode cX0_requireValueFor 21 = .ok (.ldc 164, 2) := by decide +kernel
theorem dX0_requireValueFor_23 : decode cX0_requireValueFor 23 = .ok (.invokespecial 66, 3) := by decide +kernel
theorem dX0_requireValueFor_26 : decode cX0_requireValueFor 26 = .ok (.athrow, 1) := by decide +kernel
theorem dX0_requireValueFor_27 : decode cX0_requireValueFor 27 = .ok (.return_, 1) := by decide +kernel
set_option maxRecDepth 20000 in
theorem ggX0_moveShare_X0_scaledDown : GoodIn wsX0_moveShare wsX0_scaledDown := goodIn_r _ [4, 5, 6, 7, 8] (by decide +kernel) (by decide +kernel)
set_option maxRecDepth 20000 in
theorem gX0_moveShare_X0_scaledDown : GoodIn wsX0_moveShare (va_wsS RX0 106 yX0_scaledDown wsX0_scaledDown) := goodIn_app (goodIn_of _ (by decide +kernel)) ggX0_moveShare_X0_scaledDown
theorem dX0_moveShare_0 : decode cX0_moveShare 0 = .ok (.aload_n 0, 1) := by decide +kernel
theorem dX0_moveShare_1 : decode cX0_moveShare 1 = .ok (.iload_n 1, 1) := by decide +kernel
theorem dX0_moveShare_2 : decode cX0_moveShare 2 = .ok (.iaload, 1) := by decide +kernel
theorem dX0_moveShare_3 : decode cX0_moveShare 3 = .ok (.iload_n 3, 1) := by decide +kernel
theorem dX0_moveShare_4 : decode cX0_moveShare 4 = .ok (.iload 4, 2) := by decide +kernel
theorem dX0_moveShare_6 : decode cX0_moveShare 6 = .ok (.invokestatic 106, 3) := by decide +kernel
theorem dX0_moveShare_9 : decode cX0_moveShare 9 = .ok (.istore 5, 2) := by decide +kernel
theorem dX0_moveShare_11 : decode cX0_moveShare 11 = .ok (.aload_n 0, 1) := by decide +kernel
theorem dX0_moveShare_12 : decode cX0_moveShare 12 = .ok (.iload_n 2, 1) := by decide +kernel
theorem dX0_moveShare_13 : decode cX0_moveShare 13 = .ok (.iload 5, 2) := by decide +kernel
theorem dX0_moveShare_15 : decode cX0_moveShare 15 = .ok (.iastore, 1) := by decide +kernel
theorem dX0_moveShare_16 : decode cX0_moveShare 16 = .ok (.aload_n 0, 1) := by decide +kernel
theorem dX0_moveShare_17 : decode cX0_moveShare 17 = .ok (.iload_n 1, 1) := by decide +kernel
theorem dX0_moveShare_18 : decode cX0_moveShare 18 = .ok (.dup2, 1) := by decide +kernel
theorem dX0_moveShare_19 : decode cX0_moveShare 19 = .ok (.iaload, 1) := by decide +kernel
theorem dX0_moveShare_20 : decode cX0_moveShare 20 = .ok (.iload 5, 2) := by decide +kernel
theorem dX0_moveShare_22 : decode cX0_moveShare 22 = .ok (.isub, 1) := by decide +kernel
theorem dX0_moveShare_23 : decode cX0_moveShare 23 = .ok (.iastore, 1) := by decide +kernel
theorem dX0_moveShare_24 : decode cX0_moveShare 24 = .ok (.return_, 1) := by decide +kernel
theorem dX0_stepWith_0 : decode cX0_stepWith 0 = .ok (.iconst 0, 1) := by decide +kernel
theorem dX0_stepWith_1 : decode cX0_stepWith 1 = .ok (.istore_n 2, 1) := by decide +kernel
theorem dX0_stepWith_2 : decode cX0_stepWith 2 = .ok (.iload_n 2, 1) := by decide +kernel
theorem dX0_stepWith_3 : decode cX0_stepWith 3 = .ok (.aload_n 0, 1) := by decide +kernel
theorem dX0_stepWith_4 : decode cX0_stepWith 4 = .ok (.getfield 43, 3) := by decide +kernel
theorem dX0_stepWith_7 : decode cX0_stepWith 7 = .ok (.if_icmp .ge 21, 3) := by decide +kernel
theorem dX0_stepWith_10 : decode cX0_stepWith 10 = .ok (.aload_n 0, 1) := by decide +kernel
theorem dX0_stepWith_11 : decode cX0_stepWith 11 = .ok (.getfield 25, 3) := by decide +kernel
theorem dX0_stepWith_14 : decode cX0_stepWith 14 = .ok (.iload_n 2, 1) := by decide +kernel
theorem dX0_stepWith_15 : decode cX0_stepWith 15 = .ok (.iaload, 1) := by decide +kernel
theorem dX0_stepWith_16 : decode cX0_stepWith 16 = .ok (.iload_n 1, 1) := by decide +kernel
theorem dX0_stepWith_17 : decode cX0_stepWith 17 = .ok (.if_icmp .ne 5, 3) := by decide +kernel
theorem dX0_stepWith_20 : decode cX0_stepWith 20 = .ok (.iload_n 2, 1) := by decide +kernel
theorem dX0_stepWith_21 : decode cX0_stepWith 21 = .ok (.ireturn, 1) := by decide +kernel
theorem dX0_stepWith_22 : decode cX0_stepWith 22 = .ok (.iinc 2 1, 3) := by decide +kernel
theorem dX0_stepWith_25 : decode cX0_stepWith 25 = .ok (.goto (-23), 3) := by decide +kernel
theorem dX0_stepWith_28 : decode cX0_stepWith 28 = .ok (.iconst (-1), 1) := by decide +kernel
theorem dX0_stepWith_29 : decode cX0_stepWith 29 = .ok (.ireturn, 1) := by decide +kernel
theorem dX0_addStep_0 : decode cX0_addStep 0 = .ok (.aload_n 0, 1) := by decide +kernel
theorem dX0_addStep_1 : decode cX0_addStep 1 = .ok (.getfield 43, 3) := by decide +kernel
theorem dX0_addStep_4 : decode cX0_addStep 4 = .ok (.bipush 6, 2) := by decide +kernel
theorem dX0_addStep_6 : decode cX0_addStep 6 = .ok (.if_icmp .lt 13, 3) := by decide +kernel
theorem dX0_addStep_9 : decode cX0_addStep 9 = .ok (.new 62, 3) := by decide +kernel
theorem dX0_addStep_12 : decode cX0_addStep 12 = .ok (.dup, 1) := by decide +kernel
theorem dX0_addStep_13 : decode cX0_addStep 13 = .ok (.ldc 166, 2) := by decide +kernel
theorem dX0_addStep_15 : decode cX0_addStep 15 = .ok (.invokespecial 66, 3) := by decide +kernel
theorem dX0_addStep_18 : decode cX0_addStep 18 = .ok (.athrow, 1) := by decide +kernel
theorem dX0_addStep_19 : decode cX0_addStep 19 = .ok (.aload_n 0, 1) := by decide +kernel
theorem dX0_addStep_20 : decode cX0_addStep 20 = .ok (.getfield 25, 3) := by decide +kernel
theorem dX0_addStep_23 : decode cX0_addStep 23 = .ok (.aload_n 0, 1) := by decide +kernel
theorem dX0_addStep_24 : decode cX0_addStep 24 = .ok (.getfield 43, 3) := by decide +kernel
theorem dX0_addStep_27 : decode cX0_addStep 27 = .ok (.iload_n 1, 1) := by decide +kernel
theorem dX0_addStep_28 : decode cX0_addStep 28 = .ok (.iastore, 1) := by decide +kernel
theorem dX0_addStep_29 : decode cX0_addStep 29 = .ok (.aload_n 0, 1) := by decide +kernel
theorem dX0_addStep_30 : decode cX0_addStep 30 = .ok (.getfield 28, 3) := by decide +kernel
theorem dX0_addStep_33 : decode cX0_addStep 33 = .ok (.aload_n 0, 1) := by decide +kernel
theorem dX0_addStep_34 : decode cX0_addStep 34 = .ok (.getfield 43, 3) := by decide +kernel
theorem dX0_addStep_37 : decode cX0_addStep 37 = .ok (.iload_n 2, 1) := by decide +kernel
theorem dX0_addStep_38 : decode cX0_addStep 38 = .ok (.iastore, 1) := by decide +kernel
theorem dX0_addStep_39 : decode cX0_addStep 39 = .ok (.aload_n 0, 1) := by decide +kernel
theorem dX0_addStep_40 : decode cX0_addStep 40 = .ok (.dup, 1) := by decide +kernel
theorem dX0_addStep_41 : decode cX0_addStep 41 = .ok (.getfield 43, 3) := by decide +kernel
theorem dX0_addStep_44 : decode cX0_addStep 44 = .ok (.iconst 1, 1) := by decide +kernel
theorem dX0_addStep_45 : decode cX0_addStep 45 = .ok (.iadd, 1) := by decide +kernel
theorem dX0_addStep_46 : decode cX0_addStep 46 = .ok (.putfield 43, 3) := by decide +kernel
theorem dX0_addStep_49 : decode cX0_addStep 49 = .ok (.return_, 1) := by decide +kernel
set_option maxRecDepth 20000 in
theorem ggX0_heldIfClosed_X0_thousandths : GoodIn wsX0_heldIfClosed wsX0_thousandths := goodIn_r _ [8, 9, 10, 11, 12, 13, 14] (by decide +kernel) (by decide +kernel)
set_option maxRecDepth 20000 in
theorem gX0_heldIfClosed_X0_thousandths : GoodIn wsX0_heldIfClosed (va_wsS RX0 73 yX0_thousandths wsX0_thousandths) := goodIn_app (goodIn_of _ (by decide +kernel)) ggX0_heldIfClosed_X0_thousandths
theorem dX0_heldIfClosed_0 : decode cX0_heldIfClosed 0 = .ok (.aload_n 0, 1) := by decide +kernel
theorem dX0_heldIfClosed_1 : decode cX0_heldIfClosed 1 = .ok (.getfield 94, 3) := by decide +kernel
theorem dX0_heldIfClosed_4 : decode cX0_heldIfClosed 4 = .ok (.ifCond .eq 28, 3) := by decide +kernel
theorem dX0_heldIfClosed_7 : decode cX0_heldIfClosed 7 = .ok (.aload_n 0, 1) := by decide +kernel
theorem dX0_heldIfClosed_8 : decode cX0_heldIfClosed 8 = .ok (.getfield 22, 3) := by decide +kernel
theorem dX0_heldIfClosed_11 : decode cX0_heldIfClosed 11 = .ok (.iload_n 1, 1) := by decide +kernel
theorem dX0_heldIfClosed_12 : decode cX0_heldIfClosed 12 = .ok (.iaload, 1) := by decide +kernel
theorem dX0_heldIfClosed_13 : decode cX0_heldIfClosed 13 = .ok (.aload_n 0, 1) := by decide +kernel
theorem dX0_heldIfClosed_14 : decode cX0_heldIfClosed 14 = .ok (.getfield 13, 3) := by decide +kernel
theorem dX0_heldIfClosed_17 : decode cX0_heldIfClosed 17 = .ok (.iload_n 1, 1) := by decide +kernel
theorem dX0_heldIfClosed_18 : decode cX0_heldIfClosed 18 = .ok (.iaload, 1) := by decide +kernel
theorem dX0_heldIfClosed_19 : decode cX0_heldIfClosed 19 = .ok (.aload_n 0, 1) := by decide +kernel
theorem dX0_heldIfClosed_20 : decode cX0_heldIfClosed 20 = .ok (.getfield 19, 3) := by decide +kernel
theorem dX0_heldIfClosed_23 : decode cX0_heldIfClosed 23 = .ok (.iload_n 1, 1) := by decide +kernel
theorem dX0_heldIfClosed_24 : decode cX0_heldIfClosed 24 = .ok (.iaload, 1) := by decide +kernel
theorem dX0_heldIfClosed_25 : decode cX0_heldIfClosed 25 = .ok (.isub, 1) := by decide +kernel
theorem dX0_heldIfClosed_26 : decode cX0_heldIfClosed 26 = .ok (.iload_n 2, 1) := by decide +kernel
theorem dX0_heldIfClosed_27 : decode cX0_heldIfClosed 27 = .ok (.invokestatic 73, 3) := by decide +kernel
theorem dX0_heldIfClosed_30 : decode cX0_heldIfClosed 30 = .ok (.iadd, 1) := by decide +kernel
theorem dX0_heldIfClosed_31 : decode cX0_heldIfClosed 31 = .ok (.ireturn, 1) := by decide +kernel
theorem dX0_heldIfClosed_32 : decode cX0_heldIfClosed 32 = .ok (.aload_n 0, 1) := by decide +kernel
theorem dX0_heldIfClosed_33 : decode cX0_heldIfClosed 33 = .ok (.getfield 13, 3) := by decide +kernel
theorem dX0_heldIfClosed_36 : decode cX0_heldIfClosed 36 = .ok (.iload_n 1, 1) := by decide +kernel
theorem dX0_heldIfClosed_37 : decode cX0_heldIfClosed 37 = .ok (.iaload, 1) := by decide +kernel
theorem dX0_heldIfClosed_38 : decode cX0_heldIfClosed 38 = .ok (.iload_n 2, 1) := by decide +kernel
theorem dX0_heldIfClosed_39 : decode cX0_heldIfClosed 39 = .ok (.invokestatic 73, 3) := by decide +kernel
theorem dX0_heldIfClosed_42 : decode cX0_heldIfClosed 42 = .ok (.ireturn, 1) := by decide +kernel
set_option maxRecDepth 20000 in
theorem ggX0_billLines_X0_rate : GoodIn wsX0_billLines wsX0_rate := goodIn_r _ [9, 10, 11, 12, 13, 14, 15, 8, 16, 17, 1, 18, 19, 20, 21, 22, 23, 24, 25, 26, 27, 28, 29, 30, 31, 32, 43, 44, 45, 46, 47, 48, 49, 50, 51, 52, 53, 54, 55, 56, 57] (by decide +kernel) (by decide +kernel)
set_option maxRecDepth 20000 in
theorem gX0_billLines_X0_rate : GoodIn wsX0_billLines (wsV RX0 126 RX0 yX0_rate wsX0_rate) := goodIn_app (goodIn_of _ (by decide +kernel)) ggX0_billLines_X0_rate
set_option maxRecDepth 20000 in
theorem ggX0_billLines_X0_heldIfClosed : GoodIn wsX0_billLines wsX0_heldIfClosed := goodIn_r _ [36, 37, 2, 4, 3, 38, 39, 8, 40, 41, 42, 29, 30, 31, 32, 43, 44, 45, 46, 47, 48, 49, 50, 51, 52, 53, 54, 55, 56, 57] (by decide +kernel) (by decide +kernel)
set_option maxRecDepth 20000 in
theorem gX0_billLines_X0_heldIfClosed : GoodIn wsX0_billLines (wsV RX0 129 RX0 yX0_heldIfClosed wsX0_heldIfClosed) := goodIn_app (goodIn_of _ (by decide +kernel)) ggX0_billLines_X0_heldIfClosed
theorem dX0_billLines_0 : decode cX0_billLines 0 = .ok (.aload_n 0, 1) := by decide +kernel
theorem dX0_billLines_1 : decode cX0_billLines 1 = .ok (.invokevirtual 126, 3) := by decide +kernel
theorem dX0_billLines_4 : decode cX0_billLines 4 = .ok (.istore_n 1, 1) := by decide +kernel
theorem dX0_billLines_5 : decode cX0_billLines 5 = .ok (.iconst 0, 1) := by decide +kernel
theorem dX0_billLines_6 : decode cX0_billLines 6 = .ok (.istore_n 2, 1) := by decide +kernel
theorem dX0_billLines_7 : decode cX0_billLines 7 = .ok (.iload_n 2, 1) := by decide +kernel
theorem dX0_billLines_8 : decode cX0_billLines 8 = .ok (.aload_n 0, 1) := by decide +kernel
theorem dX0_billLines_9 : decode cX0_billLines 9 = .ok (.getfield 55, 3) := by decide +kernel
theorem dX0_billLines_12 : decode cX0_billLines 12 = .ok (.if_icmp .ge 33, 3) := by decide +kernel
theorem dX0_billLines_15 : decode cX0_billLines 15 = .ok (.aload_n 0, 1) := by decide +kernel
theorem dX0_billLines_16 : decode cX0_billLines 16 = .ok (.getfield 22, 3) := by decide +kernel
theorem dX0_billLines_19 : decode cX0_billLines 19 = .ok (.iload_n 2, 1) := by decide +kernel
theorem dX0_billLines_20 : decode cX0_billLines 20 = .ok (.aload_n 0, 1) := by decide +kernel
theorem dX0_billLines_21 : decode cX0_billLines 21 = .ok (.iload_n 2, 1) := by decide +kernel
theorem dX0_billLines_22 : decode cX0_billLines 22 = .ok (.iload_n 1, 1) := by decide +kernel
theorem dX0_billLines_23 : decode cX0_billLines 23 = .ok (.invokevirtual 129, 3) := by decide +kernel
theorem dX0_billLines_26 : decode cX0_billLines 26 = .ok (.iastore, 1) := by decide +kernel
theorem dX0_billLines_27 : decode cX0_billLines 27 = .ok (.aload_n 0, 1) := by decide +kernel
theorem dX0_billLines_28 : decode cX0_billLines 28 = .ok (.getfield 19, 3) := by decide +kernel
theorem dX0_billLines_31 : decode cX0_billLines 31 = .ok (.iload_n 2, 1) := by decide +kernel
theorem dX0_billLines_32 : decode cX0_billLines 32 = .ok (.aload_n 0, 1) := by decide +kernel
theorem dX0_billLines_33 : decode cX0_billLines 33 = .ok (.getfield 13, 3) := by decide +kernel
theorem dX0_billLines_36 : decode cX0_billLines 36 = .ok (.iload_n 2, 1) := by decide +kernel
theorem dX0_billLines_37 : decode cX0_billLines 37 = .ok (.iaload, 1) := by decide +kernel
theorem dX0_billLines_38 : decode cX0_billLines 38 = .ok (.iastore, 1) := by decide +kernel
theorem dX0_billLines_39 : decode cX0_billLines 39 = .ok (.iinc 2 1, 3) := by decide +kernel
theorem dX0_billLines_42 : decode cX0_billLines 42 = .ok (.goto (-35), 3) := by decide +kernel
theorem dX0_billLines_45 : decode cX0_billLines 45 = .ok (.return_, 1) := by decide +kernel
theorem dX0_waiversGiven_0 : decode cX0_waiversGiven 0 = .ok (.iconst 0, 1) := by decide +kernel
theorem dX0_waiversGiven_1 : decode cX0_waiversGiven 1 = .ok (.istore_n 1, 1) := by decide +kernel
theorem dX0_waiversGiven_2 : decode cX0_waiversGiven 2 = .ok (.iconst 0, 1) := by decide +kernel
theorem dX0_waiversGiven_3 : decode cX0_waiversGiven 3 = .ok (.istore_n 2, 1) := by decide +kernel
theorem dX0_waiversGiven_4 : decode cX0_waiversGiven 4 = .ok (.iload_n 2, 1) := by decide +kernel
theorem dX0_waiversGiven_5 : decode cX0_waiversGiven 5 = .ok (.aload_n 0, 1) := by decide +kernel
theorem dX0_waiversGiven_6 : decode cX0_waiversGiven 6 = .ok (.getfield 115, 3) := by decide +kernel
theorem dX0_waiversGiven_9 : decode cX0_waiversGiven 9 = .ok (.if_icmp .ge 22, 3) := by decide +kernel
theorem dX0_waiversGiven_12 : decode cX0_waiversGiven 12 = .ok (.aload_n 0, 1) := by decide +kernel
theorem dX0_waiversGiven_13 : decode cX0_waiversGiven 13 = .ok (.getfield 31, 3) := by decide +kernel
theorem dX0_waiversGiven_16 : decode cX0_waiversGiven 16 = .ok (.iload_n 2, 1) := by decide +kernel
theorem dX0_waiversGiven_17 : decode cX0_waiversGiven 17 = .ok (.iaload, 1) := by decide +kernel
theorem dX0_waiversGiven_18 : decode cX0_waiversGiven 18 = .ok (.iconst 2, 1) := by decide +kernel
theorem dX0_waiversGiven_19 : decode cX0_waiversGiven 19 = .ok (.if_icmp .ne 6, 3) := by decide +kernel
theorem dX0_waiversGiven_22 : decode cX0_waiversGiven 22 = .ok (.iinc 1 1, 3) := by decide +kernel
theorem dX0_waiversGiven_25 : decode cX0_waiversGiven 25 = .ok (.iinc 2 1, 3) := by decide +kernel
theorem dX0_waiversGiven_28 : decode cX0_waiversGiven 28 = .ok (.goto (-24), 3) := by decide +kernel
theorem dX0_waiversGiven_31 : decode cX0_waiversGiven 31 = .ok (.iload_n 1, 1) := by decide +kernel
theorem dX0_waiversGiven_32 : decode cX0_waiversGiven 32 = .ok (.ireturn, 1) := by decide +kernel
set_option maxRecDepth 20000 in
theorem ggX0_placeByShare_X0_isAhead : GoodIn wsX0_placeByShare wsX0_isAhead := goodIn_r _ [6, 7, 8, 9, 10, 5, 11, 12, 13, 14, 15, 16, 17, 18, 19, 20, 21, 22, 23, 24, 25, 26, 27, 28, 29, 30, 31] (by decide +kernel) (by decide +kernel)
set_option maxRecDepth 20000 in
theorem gX0_placeByShare_X0_isAhead : GoodIn wsX0_placeByShare (wsV RX0 168 RX0 yX0_isAhead wsX0_isAhead) := goodIn_app (goodIn_of _ (by decide +kernel)) ggX0_placeByShare_X0_isAhead
theorem dX0_placeByShare_0 : decode cX0_placeByShare 0 = .ok (.iconst 0, 1) := by decide +kernel
theorem dX0_placeByShare_1 : decode cX0_placeByShare 1 = .ok (.istore_n 2, 1) := by decide +kernel
theorem dX0_placeByShare_2 : decode cX0_placeByShare 2 = .ok (.iconst 0, 1) := by decide +kernel
theorem dX0_placeByShare_3 : decode cX0_placeByShare 3 = .ok (.istore_n 3, 1) := by decide +kernel
theorem dX0_placeByShare_4 : decode cX0_placeByShare 4 = .ok (.iload_n 3, 1) := by decide +kernel
theorem dX0_placeByShare_5 : decode cX0_placeByShare 5 = .ok (.aload_n 0, 1) := by decide +kernel
theorem dX0_placeByShare_6 : decode cX0_placeByShare 6 = .ok (.getfield 55, 3) := by decide +kernel
theorem dX0_placeByShare_9 : decode cX0_placeByShare 9 = .ok (.if_icmp .ge 21, 3) := by decide +kernel
theorem dX0_placeByShare_12 : decode cX0_placeByShare 12 = .ok (.aload_n 0, 1) := by decide +kernel
theorem dX0_placeByShare_13 : decode cX0_placeByShare 13 = .ok (.iload_n 3, 1) := by decide +kernel
theorem dX0_placeByShare_14 : decode cX0_placeByShare 14 = .ok (.iload_n 1, 1) := by decide +kernel
theorem dX0_placeByShare_15 : decode cX0_placeByShare 15 = .ok (.invokevirtual 168, 3) := by decide +kernel
theorem dX0_placeByShare_18 : decode cX0_placeByShare 18 = .ok (.ifCond .eq 6, 3) := by decide +kernel
theorem dX0_placeByShare_21 : decode cX0_placeByShare 21 = .ok (.iinc 2 1, 3) := by decide +kernel
theorem dX0_placeByShare_24 : decode cX0_placeByShare 24 = .ok (.iinc 3 1, 3) := by decide +kernel
theorem dX0_placeByShare_27 : decode cX0_placeByShare 27 = .ok (.goto (-23), 3) := by decide +kernel
theorem dX0_placeByShare_30 : decode cX0_placeByShare 30 = .ok (.iload_n 2, 1) := by decide +kernel
theorem dX0_placeByShare_31 : decode cX0_placeByShare 31 = .ok (.ireturn, 1) := by decide +kernel
set_option maxRecDepth 20000 in
theorem ggX0_isAhead_X0_shareDivisor : GoodIn wsX0_isAhead wsX0_shareDivisor := goodIn_r _ [6, 7, 8, 9, 10, 11, 12, 13, 14, 15, 16, 17, 18, 19, 20, 21, 22, 23, 24, 25, 26] (by decide +kernel) (by decide +kernel)
set_option maxRecDepth 20000 in
theorem gX0_isAhead_X0_shareDivisor : GoodIn wsX0_isAhead (wsV RX0 172 RX0 yX0_shareDivisor wsX0_shareDivisor) := goodIn_app (goodIn_of _ (by decide +kernel)) ggX0_isAhead_X0_shareDivisor
theorem dX0_isAhead_0 : decode cX0_isAhead 0 = .ok (.aload_n 0, 1) := by decide +kernel
theorem dX0_isAhead_1 : decode cX0_isAhead 1 = .ok (.getfield 16, 3) := by decide +kernel
theorem dX0_isAhead_4 : decode cX0_isAhead 4 = .ok (.iload_n 1, 1) := by decide +kernel
theorem dX0_isAhead_5 : decode cX0_isAhead 5 = .ok (.iaload, 1) := by decide +kernel
theorem dX0_isAhead_6 : decode cX0_isAhead 6 = .ok (.i2l, 1) := by decide +kernel
theorem dX0_isAhead_7 : decode cX0_isAhead 7 = .ok (.aload_n 0, 1) := by decide +kernel
theorem dX0_isAhead_8 : decode cX0_isAhead 8 = .ok (.iload_n 2, 1) := by decide +kernel
theorem dX0_isAhead_9 : decode cX0_isAhead 9 = .ok (.invokevirtual 172, 3) := by decide +kernel
theorem dX0_isAhead_12 : decode cX0_isAhead 12 = .ok (.i2l, 1) := by decide +kernel
theorem dX0_isAhead_13 : decode cX0_isAhead 13 = .ok (.lmul, 1) := by decide +kernel
theorem dX0_isAhead_14 : decode cX0_isAhead 14 = .ok (.lstore_n 3, 1) := by decide +kernel
theorem dX0_isAhead_15 : decode cX0_isAhead 15 = .ok (.aload_n 0, 1) := by decide +kernel
theorem dX0_isAhead_16 : decode cX0_isAhead 16 = .ok (.getfield 16, 3) := by decide +kernel
theorem dX0_isAhead_19 : decode cX0_isAhead 19 = .ok (.iload_n 2, 1) := by decide +kernel
theorem dX0_isAhead_20 : decode cX0_isAhead 20 = .ok (.iaload, 1) := by decide +kernel
theorem dX0_isAhead_21 : decode cX0_isAhead 21 = .ok (.i2l, 1) := by decide +kernel
theorem dX0_isAhead_22 : decode cX0_isAhead 22 = .ok (.aload_n 0, 1) := by decide +kernel
theorem dX0_isAhead_23 : decode cX0_isAhead 23 = .ok (.iload_n 1, 1) := by decide +kernel
theorem dX0_isAhead_24 : decode cX0_isAhead 24 = .ok (.invokevirtual 172, 3) := by decide +kernel
theorem dX0_isAhead_27 : decode cX0_isAhead 27 = .ok (.i2l, 1) := by decide +kernel
theorem dX0_isAhead_28 : decode cX0_isAhead 28 = .ok (.lmul, 1) := by decide +kernel
theorem dX0_isAhead_29 : decode cX0_isAhead 29 = .ok (.lstore 5, 2) := by decide +kernel
theorem dX0_isAhead_31 : decode cX0_isAhead 31 = .ok (.lload_n 3, 1) := by decide +kernel
theorem dX0_isAhead_32 : decode cX0_isAhead 32 = .ok (.lload 5, 2) := by decide +kernel
theorem dX0_isAhead_34 : decode cX0_isAhead 34 = .ok (.lcmp, 1) := by decide +kernel
theorem dX0_isAhead_35 : decode cX0_isAhead 35 = .ok (.ifCond .gt 15, 3) := by decide +kernel
theorem dX0_isAhead_38 : decode cX0_isAhead 38 = .ok (.lload_n 3, 1) := by decide +kernel
theorem dX0_isAhead_39 : decode cX0_isAhead 39 = .ok (.lload 5, 2) := by decide +kernel
theorem dX0_isAhead_41 : decode cX0_isAhead 41 = .ok (.lcmp, 1) := by decide +kernel
theorem dX0_isAhead_42 : decode cX0_isAhead 42 = .ok (.ifCond .ne 12, 3) := by decide +kernel
theorem dX0_isAhead_45 : decode cX0_isAhead 45 = .ok (.iload_n 1, 1) := by decide +kernel
theorem dX0_isAhead_46 : decode cX0_isAhead 46 = .ok (.iload_n 2, 1) := by decide +kernel
theorem dX0_isAhead_47 : decode cX0_isAhead 47 = .ok (.if_icmp .ge 7, 3) := by decide +kernel
theorem dX0_isAhead_50 : decode cX0_isAhead 50 = .ok (.iconst 1, 1) := by decide +kernel
theorem dX0_isAhead_51 : decode cX0_isAhead 51 = .ok (.goto 4, 3) := by decide +kernel
theorem dX0_isAhead_54 : decode cX0_isAhead 54 = .ok (.iconst 0, 1) := by decide +kernel
theorem dX0_isAhead_55 : decode cX0_isAhead 55 = .ok (.ireturn, 1) := by decide +kernel
theorem dX0_shareDivisor_0 : decode cX0_shareDivisor 0 = .ok (.aload_n 0, 1) := by decide +kernel
theorem dX0_shareDivisor_1 : decode cX0_shareDivisor 1 = .ok (.getfield 9, 3) := by decide +kernel
theorem dX0_shareDivisor_4 : decode cX0_shareDivisor 4 = .ok (.iload_n 1, 1) := by decide +kernel
theorem dX0_shareDivisor_5 : decode cX0_shareDivisor 5 = .ok (.iaload, 1) := by decide +kernel
theorem dX0_shareDivisor_6 : decode cX0_shareDivisor 6 = .ok (.iconst 1, 1) := by decide +kernel
theorem dX0_shareDivisor_7 : decode cX0_shareDivisor 7 = .ok (.invokestatic 175, 3) := by decide +kernel
theorem dX0_shareDivisor_10 : decode cX0_shareDivisor 10 = .ok (.ireturn, 1) := by decide +kernel
theorem dX0_sum_0 : decode cX0_sum 0 = .ok (.iconst 0, 1) := by decide +kernel
theorem dX0_sum_1 : decode cX0_sum 1 = .ok (.istore_n 2, 1) := by decide +kernel
theorem dX0_sum_2 : decode cX0_sum 2 = .ok (.iconst 0, 1) := by decide +kernel
theorem dX0_sum_3 : decode cX0_sum 3 = .ok (.istore_n 3, 1) := by decide +kernel
theorem dX0_sum_4 : decode cX0_sum 4 = .ok (.iload_n 3, 1) := by decide +kernel
theorem dX0_sum_5 : decode cX0_sum 5 = .ok (.iload_n 1, 1) := by decide +kernel
theorem dX0_sum_6 : decode cX0_sum 6 = .ok (.if_icmp .ge 15, 3) := by decide +kernel
theorem dX0_sum_9 : decode cX0_sum 9 = .ok (.iload_n 2, 1) := by decide +kernel
theorem dX0_sum_10 : decode cX0_sum 10 = .ok (.aload_n 0, 1) := by decide +kernel
theorem dX0_sum_11 : decode cX0_sum 11 = .ok (.iload_n 3, 1) := by decide +kernel
theorem dX0_sum_12 : decode cX0_sum 12 = .ok (.iaload, 1) := by decide +kernel
theorem dX0_sum_13 : decode cX0_sum 13 = .ok (.iadd, 1) := by decide +kernel
theorem dX0_sum_14 : decode cX0_sum 14 = .ok (.istore_n 2, 1) := by decide +kernel
theorem dX0_sum_15 : decode cX0_sum 15 = .ok (.iinc 3 1, 3) := by decide +kernel
theorem dX0_sum_18 : decode cX0_sum 18 = .ok (.goto (-14), 3) := by decide +kernel
theorem dX0_sum_21 : decode cX0_sum 21 = .ok (.iload_n 2, 1) := by decide +kernel
theorem dX0_sum_22 : decode cX0_sum 22 = .ok (.ireturn, 1) := by decide +kernel
set_option maxRecDepth 20000 in
theorem ggX0_thousandths_J9_floorDiv_f86c9 : GoodIn wsX0_thousandths wsJ9_floorDiv_f86c9 := goodIn_r _ [6] (by decide +kernel) (by decide +kernel)
set_option maxRecDepth 20000 in
theorem gX0_thousandths_J9_floorDiv_f86c9 : GoodIn wsX0_thousandths (va_wsS RX0 184 yJ9_floorDiv_f86c9 wsJ9_floorDiv_f86c9) := goodIn_app (goodIn_of _ (by decide +kernel)) ggX0_thousandths_J9_floorDiv_f86c9
theorem dX0_thousandths_0 : decode cX0_thousandths 0 = .ok (.iload_n 0, 1) := by decide +kernel
theorem dX0_thousandths_1 : decode cX0_thousandths 1 = .ok (.i2l, 1) := by decide +kernel
theorem dX0_thousandths_2 : decode cX0_thousandths 2 = .ok (.iload_n 1, 1) := by decide +kernel
theorem dX0_thousandths_3 : decode cX0_thousandths 3 = .ok (.i2l, 1) := by decide +kernel
theorem dX0_thousandths_4 : decode cX0_thousandths 4 = .ok (.lmul, 1) := by decide +kernel
theorem dX0_thousandths_5 : decode cX0_thousandths 5 = .ok (.ldc2_w 180, 3) := by decide +kernel
theorem dX0_thousandths_8 : decode cX0_thousandths 8 = .ok (.ladd, 1) := by decide +kernel
theorem dX0_thousandths_9 : decode cX0_thousandths 9 = .ok (.ldc2_w 182, 3) := by decide +kernel
theorem dX0_thousandths_12 : decode cX0_thousandths 12 = .ok (.invokestatic 184, 3) := by decide +kernel
theorem dX0_thousandths_15 : decode cX0_thousandths 15 = .ok (.l2i, 1) := by decide +kernel
theorem dX0_thousandths_16 : decode cX0_thousandths 16 = .ok (.ireturn, 1) := by decide +kernel
set_option maxRecDepth 20000 in
theorem ggX0_scaledDown_J9_floorDiv_f86c9 : GoodIn wsX0_scaledDown wsJ9_floorDiv_f86c9 := goodIn_r _ [4] (by decide +kernel) (by decide +kernel)
set_option maxRecDepth 20000 in
theorem gX0_scaledDown_J9_floorDiv_f86c9 : GoodIn wsX0_scaledDown (va_wsS RX0 184 yJ9_floorDiv_f86c9 wsJ9_floorDiv_f86c9) := goodIn_app (goodIn_of _ (by decide +kernel)) ggX0_scaledDown_J9_floorDiv_f86c9
theorem dX0_scaledDown_0 : decode cX0_scaledDown 0 = .ok (.iload_n 2, 1) := by decide +kernel
theorem dX0_scaledDown_1 : decode cX0_scaledDown 1 = .ok (.ifCond .ne 5, 3) := by decide +kernel
theorem dX0_scaledDown_4 : decode cX0_scaledDown 4 = .ok (.iconst 0, 1) := by decide +kernel
theorem dX0_scaledDown_5 : decode cX0_scaledDown 5 = .ok (.ireturn, 1) := by decide +kernel
theorem dX0_scaledDown_6 : decode cX0_scaledDown 6 = .ok (.iload_n 0, 1) := by decide +kernel
theorem dX0_scaledDown_7 : decode cX0_scaledDown 7 = .ok (.i2l, 1) := by decide +kernel
theorem dX0_scaledDown_8 : decode cX0_scaledDown 8 = .ok (.iload_n 1, 1) := by decide +kernel
theorem dX0_scaledDown_9 : decode cX0_scaledDown 9 = .ok (.i2l, 1) := by decide +kernel
theorem dX0_scaledDown_10 : decode cX0_scaledDown 10 = .ok (.lmul, 1) := by decide +kernel
theorem dX0_scaledDown_11 : decode cX0_scaledDown 11 = .ok (.iload_n 2, 1) := by decide +kernel
theorem dX0_scaledDown_12 : decode cX0_scaledDown 12 = .ok (.i2l, 1) := by decide +kernel
theorem dX0_scaledDown_13 : decode cX0_scaledDown 13 = .ok (.invokestatic 184, 3) := by decide +kernel
theorem dX0_scaledDown_16 : decode cX0_scaledDown 16 = .ok (.l2i, 1) := by decide +kernel
theorem dX0_scaledDown_17 : decode cX0_scaledDown 17 = .ok (.ireturn, 1) := by decide +kernel
theorem dJ9_floorDiv_f86c9_0 : decode cJ9_floorDiv_f86c9 0 = .ok (.lload_n 0, 1) := by decide +kernel
theorem dJ9_floorDiv_f86c9_1 : decode cJ9_floorDiv_f86c9 1 = .ok (.lload_n 2, 1) := by decide +kernel
theorem dJ9_floorDiv_f86c9_2 : decode cJ9_floorDiv_f86c9 2 = .ok (.ldiv, 1) := by decide +kernel
theorem dJ9_floorDiv_f86c9_3 : decode cJ9_floorDiv_f86c9 3 = .ok (.lstore 4, 2) := by decide +kernel
theorem dJ9_floorDiv_f86c9_5 : decode cJ9_floorDiv_f86c9 5 = .ok (.lload_n 0, 1) := by decide +kernel
theorem dJ9_floorDiv_f86c9_6 : decode cJ9_floorDiv_f86c9 6 = .ok (.lload_n 2, 1) := by decide +kernel
theorem dJ9_floorDiv_f86c9_7 : decode cJ9_floorDiv_f86c9 7 = .ok (.lxor, 1) := by decide +kernel
theorem dJ9_floorDiv_f86c9_8 : decode cJ9_floorDiv_f86c9 8 = .ok (.lconst 0, 1) := by decide +kernel
theorem dJ9_floorDiv_f86c9_9 : decode cJ9_floorDiv_f86c9 9 = .ok (.lcmp, 1) := by decide +kernel
theorem dJ9_floorDiv_f86c9_10 : decode cJ9_floorDiv_f86c9 10 = .ok (.ifCond .ge 17, 3) := by decide +kernel
theorem dJ9_floorDiv_f86c9_13 : decode cJ9_floorDiv_f86c9 13 = .ok (.lload 4, 2) := by decide +kernel
theorem dJ9_floorDiv_f86c9_15 : decode cJ9_floorDiv_f86c9 15 = .ok (.lload_n 2, 1) := by decide +kernel
theorem dJ9_floorDiv_f86c9_16 : decode cJ9_floorDiv_f86c9 16 = .ok (.lmul, 1) := by decide +kernel
theorem dJ9_floorDiv_f86c9_17 : decode cJ9_floorDiv_f86c9 17 = .ok (.lload_n 0, 1) := by decide +kernel
theorem dJ9_floorDiv_f86c9_18 : decode cJ9_floorDiv_f86c9 18 = .ok (.lcmp, 1) := by decide +kernel
theorem dJ9_floorDiv_f86c9_19 : decode cJ9_floorDiv_f86c9 19 = .ok (.ifCond .eq 8, 3) := by decide +kernel
theorem dJ9_floorDiv_f86c9_22 : decode cJ9_floorDiv_f86c9 22 = .ok (.lload 4, 2) := by decide +kernel
theorem dJ9_floorDiv_f86c9_24 : decode cJ9_floorDiv_f86c9 24 = .ok (.lconst 1, 1) := by decide +kernel
theorem dJ9_floorDiv_f86c9_25 : decode cJ9_floorDiv_f86c9 25 = .ok (.lsub, 1) := by decide +kernel
theorem dJ9_floorDiv_f86c9_26 : decode cJ9_floorDiv_f86c9 26 = .ok (.lreturn, 1) := by decide +kernel
theorem dJ9_floorDiv_f86c9_27 : decode cJ9_floorDiv_f86c9 27 = .ok (.lload 4, 2) := by decide +kernel
theorem dJ9_floorDiv_f86c9_29 : decode cJ9_floorDiv_f86c9 29 = .ok (.lreturn, 1) := by decide +kernel
theorem dJ9_max_7cf53_0 : decode cJ9_max_7cf53 0 = .ok (.iload_n 0, 1) := by decide +kernel
theorem dJ9_max_7cf53_1 : decode cJ9_max_7cf53 1 = .ok (.iload_n 1, 1) := by decide +kernel
theorem dJ9_max_7cf53_2 : decode cJ9_max_7cf53 2 = .ok (.if_icmp .lt 7, 3) := by decide +kernel
theorem dJ9_max_7cf53_5 : decode cJ9_max_7cf53 5 = .ok (.iload_n 0, 1) := by decide +kernel
theorem dJ9_max_7cf53_6 : decode cJ9_max_7cf53 6 = .ok (.goto 4, 3) := by decide +kernel
theorem dJ9_max_7cf53_9 : decode cJ9_max_7cf53 9 = .ok (.iload_n 1, 1) := by decide +kernel
theorem dJ9_max_7cf53_10 : decode cJ9_max_7cf53 10 = .ok (.ireturn, 1) := by decide +kernel
