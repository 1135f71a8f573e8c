theorem dX1_init_0 : decode cX1_init 0 = .ok (.aload_n 0, 1) := by decide +kernel
theorem dX1_init_1 : decode cX1_init 1 = .ok (.invokespecial 1, 3) := by decide +kernel
theorem dX1_init_4 : decode cX1_init 4 = .ok (.aload_n 0, 1) := by decide +kernel
theorem dX1_init_5 : decode cX1_init 5 = .ok (.bipush 16, 2) := by decide +kernel
theorem dX1_init_7 : decode cX1_init 7 = .ok (.newarray .int, 2) := by decide +kernel
theorem dX1_init_9 : decode cX1_init 9 = .ok (.putfield 7, 3) := by decide +kernel
theorem dX1_init_12 : decode cX1_init 12 = .ok (.aload_n 0, 1) := by decide +kernel
theorem dX1_init_13 : decode cX1_init 13 = .ok (.bipush 16, 2) := by decide +kernel
theorem dX1_init_15 : decode cX1_init 15 = .ok (.newarray .int, 2) := by decide +kernel
theorem dX1_init_17 : decode cX1_init 17 = .ok (.putfield 13, 3) := by decide +kernel
theorem dX1_init_20 : decode cX1_init 20 = .ok (.aload_n 0, 1) := by decide +kernel
theorem dX1_init_21 : decode cX1_init 21 = .ok (.bipush 16, 2) := by decide +kernel
theorem dX1_init_23 : decode cX1_init 23 = .ok (.newarray .int, 2) := by decide +kernel
theorem dX1_init_25 : decode cX1_init 25 = .ok (.putfield 16, 3) := by decide +kernel
theorem dX1_init_28 : decode cX1_init 28 = .ok (.aload_n 0, 1) := by decide +kernel
theorem dX1_init_29 : decode cX1_init 29 = .ok (.bipush 16, 2) := by decide +kernel
theorem dX1_init_31 : decode cX1_init 31 = .ok (.newarray .int, 2) := by decide +kernel
theorem dX1_init_33 : decode cX1_init 33 = .ok (.putfield 19, 3) := by decide +kernel
theorem dX1_init_36 : decode cX1_init 36 = .ok (.aload_n 0, 1) := by decide +kernel
theorem dX1_init_37 : decode cX1_init 37 = .ok (.bipush 16, 2) := by decide +kernel
theorem dX1_init_39 : decode cX1_init 39 = .ok (.newarray .int, 2) := by decide +kernel
theorem dX1_init_41 : decode cX1_init 41 = .ok (.putfield 22, 3) := by decide +kernel
theorem dX1_init_44 : decode cX1_init 44 = .ok (.aload_n 0, 1) := by decide +kernel
theorem dX1_init_45 : decode cX1_init 45 = .ok (.sipush 1001, 3) := by decide +kernel
theorem dX1_init_48 : decode cX1_init 48 = .ok (.newarray .int, 2) := by decide +kernel
theorem dX1_init_50 : decode cX1_init 50 = .ok (.putfield 25, 3) := by decide +kernel
theorem dX1_init_53 : decode cX1_init 53 = .ok (.aload_n 0, 1) := by decide +kernel
theorem dX1_init_54 : decode cX1_init 54 = .ok (.bipush 60, 2) := by decide +kernel
theorem dX1_init_56 : decode cX1_init 56 = .ok (.newarray .int, 2) := by decide +kernel
theorem dX1_init_58 : decode cX1_init 58 = .ok (.putfield 28, 3) := by decide +kernel
theorem dX1_init_61 : decode cX1_init 61 = .ok (.aload_n 0, 1) := by decide +kernel
theorem dX1_init_62 : decode cX1_init 62 = .ok (.bipush 60, 2) := by decide +kernel
theorem dX1_init_64 : decode cX1_init 64 = .ok (.newarray .int, 2) := by decide +kernel
theorem dX1_init_66 : decode cX1_init 66 = .ok (.putfield 31, 3) := by decide +kernel
theorem dX1_init_69 : decode cX1_init 69 = .ok (.aload_n 0, 1) := by decide +kernel
theorem dX1_init_70 : decode cX1_init 70 = .ok (.bipush 60, 2) := by decide +kernel
theorem dX1_init_72 : decode cX1_init 72 = .ok (.newarray .int, 2) := by decide +kernel
theorem dX1_init_74 : decode cX1_init 74 = .ok (.putfield 34, 3) := by decide +kernel
theorem dX1_init_77 : decode cX1_init 77 = .ok (.aload_n 0, 1) := by decide +kernel
theorem dX1_init_78 : decode cX1_init 78 = .ok (.bipush 60, 2) := by decide +kernel
theorem dX1_init_80 : decode cX1_init 80 = .ok (.newarray .int, 2) := by decide +kernel
theorem dX1_init_82 : decode cX1_init 82 = .ok (.putfield 37, 3) := by decide +kernel
theorem dX1_init_85 : decode cX1_init 85 = .ok (.iconst 0, 1) := by decide +kernel
theorem dX1_init_86 : decode cX1_init 86 = .ok (.istore_n 1, 1) := by decide +kernel
theorem dX1_init_87 : decode cX1_init 87 = .ok (.iload_n 1, 1) := by decide +kernel
theorem dX1_init_88 : decode cX1_init 88 = .ok (.sipush 1000, 3) := by decide +kernel
theorem dX1_init_91 : decode cX1_init 91 = .ok (.if_icmp .gt 25, 3) := by decide +kernel
theorem dX1_init_94 : decode cX1_init 94 = .ok (.aload_n 0, 1) := by decide +kernel
theorem dX1_init_95 : decode cX1_init 95 = .ok (.getfield 25, 3) := by decide +kernel
theorem dX1_init_98 : decode cX1_init 98 = .ok (.iload_n 1, 1) := by decide +kernel
theorem dX1_init_99 : decode cX1_init 99 = .ok (.iload_n 1, 1) := by decide +kernel
theorem dX1_init_100 : decode cX1_init 100 = .ok (.ifCond .ne 8, 3) := by decide +kernel
theorem dX1_init_103 : decode cX1_init 103 = .ok (.bipush 100, 2) := by decide +kernel
theorem dX1_init_105 : decode cX1_init 105 = .ok (.goto 4, 3) := by decide +kernel
theorem dX1_init_108 : decode cX1_init 108 = .ok (.iconst (-1), 1) := by decide +kernel
theorem dX1_init_109 : decode cX1_init 109 = .ok (.iastore, 1) := by decide +kernel
theorem dX1_init_110 : decode cX1_init 110 = .ok (.iinc 1 1, 3) := by decide +kernel
theorem dX1_init_113 : decode cX1_init 113 = .ok (.goto (-26), 3) := by decide +kernel
theorem dX1_init_116 : decode cX1_init 116 = .ok (.return_, 1) := by decide +kernel
theorem dX1_thrown_0 : decode cX1_thrown 0 = .ok (.aload_n 0, 1) := by decide +kernel
theorem dX1_thrown_1 : decode cX1_thrown 1 = .ok (.getfield 40, 3) := by decide +kernel
theorem dX1_thrown_4 : decode cX1_thrown 4 = .ok (.ireturn, 1) := by decide +kernel
theorem dX1_refused_0 : decode cX1_refused 0 = .ok (.aload_n 0, 1) := by decide +kernel
theorem dX1_refused_1 : decode cX1_refused 1 = .ok (.iload_n 1, 1) := by decide +kernel
theorem dX1_refused_2 : decode cX1_refused 2 = .ok (.putfield 40, 3) := by decide +kernel
theorem dX1_refused_5 : decode cX1_refused 5 = .ok (.iload_n 1, 1) := by decide +kernel
theorem dX1_refused_6 : decode cX1_refused 6 = .ok (.ifCond .eq 7, 3) := by decide +kernel
theorem dX1_refused_9 : decode cX1_refused 9 = .ok (.iconst 1, 1) := by decide +kernel
theorem dX1_refused_10 : decode cX1_refused 10 = .ok (.goto 4, 3) := by decide +kernel
theorem dX1_refused_13 : decode cX1_refused 13 = .ok (.iconst 0, 1) := by decide +kernel
theorem dX1_refused_14 : decode cX1_refused 14 = .ok (.ireturn, 1) := by decide +kernel
theorem dX1_fine_0 : decode cX1_fine 0 = .ok (.aload_n 0, 1) := by decide +kernel
theorem dX1_fine_1 : decode cX1_fine 1 = .ok (.iconst 0, 1) := by decide +kernel
theorem dX1_fine_2 : decode cX1_fine 2 = .ok (.putfield 40, 3) := by decide +kernel
theorem dX1_fine_5 : decode cX1_fine 5 = .ok (.iload_n 1, 1) := by decide +kernel
theorem dX1_fine_6 : decode cX1_fine 6 = .ok (.ireturn, 1) := by decide +kernel
theorem dX1_in_0 : decode cX1_in 0 = .ok (.iload_n 0, 1) := by decide +kernel
theorem dX1_in_1 : decode cX1_in 1 = .ok (.iload_n 1, 1) := by decide +kernel
theorem dX1_in_2 : decode cX1_in 2 = .ok (.if_icmp .lt 12, 3) := by decide +kernel
theorem dX1_in_5 : decode cX1_in 5 = .ok (.iload_n 0, 1) := by decide +kernel
theorem dX1_in_6 : decode cX1_in 6 = .ok (.iload_n 2, 1) := by decide +kernel
theorem dX1_in_7 : decode cX1_in 7 = .ok (.if_icmp .gt 7, 3) := by decide +kernel
theorem dX1_in_10 : decode cX1_in 10 = .ok (.iconst 1, 1) := by decide +kernel
theorem dX1_in_11 : decode cX1_in 11 = .ok (.goto 4, 3) := by decide +kernel
theorem dX1_in_14 : decode cX1_in 14 = .ok (.iconst 0, 1) := by decide +kernel
theorem dX1_in_15 : decode cX1_in 15 = .ok (.ireturn, 1) := by decide +kernel
set_option maxRecDepth 20000 in
theorem ggX1_isLine_X1_in : GoodIn wsX1_isLine wsX1_in := goodIn_r _ [5] (by decide +kernel) (by decide +kernel)
set_option maxRecDepth 20000 in
theorem gX1_isLine_X1_in : GoodIn wsX1_isLine (va_wsS RX1 47 yX1_in wsX1_in) := goodIn_app (goodIn_of _ (by decide +kernel)) ggX1_isLine_X1_in
theorem dX1_isLine_0 : decode cX1_isLine 0 = .ok (.iload_n 1, 1) := by decide +kernel
theorem dX1_isLine_1 : decode cX1_isLine 1 = .ok (.iconst 0, 1) := by decide +kernel
theorem dX1_isLine_2 : decode cX1_isLine 2 = .ok (.aload_n 0, 1) := by decide +kernel
theorem dX1_isLine_3 : decode cX1_isLine 3 = .ok (.getfield 44, 3) := by decide +kernel
theorem dX1_isLine_6 : decode cX1_isLine 6 = .ok (.iconst 1, 1) := by decide +kernel
theorem dX1_isLine_7 : decode cX1_isLine 7 = .ok (.isub, 1) := by decide +kernel
theorem dX1_isLine_8 : decode cX1_isLine 8 = .ok (.invokestatic 47, 3) := by decide +kernel
theorem dX1_isLine_11 : decode cX1_isLine 11 = .ok (.ireturn, 1) := by decide +kernel
theorem dX1_thousandths_0 : decode cX1_thousandths 0 = .ok (.iload_n 0, 1) := by decide +kernel
theorem dX1_thousandths_1 : decode cX1_thousandths 1 = .ok (.i2l, 1) := by decide +kernel
theorem dX1_thousandths_2 : decode cX1_thousandths 2 = .ok (.iload_n 1, 1) := by decide +kernel
theorem dX1_thousandths_3 : decode cX1_thousandths 3 = .ok (.i2l, 1) := by decide +kernel
theorem dX1_thousandths_4 : decode cX1_thousandths 4 = .ok (.lmul, 1) := by decide +kernel
theorem dX1_thousandths_5 : decode cX1_thousandths 5 = .ok (.ldc2_w 51, 3) := by decide +kernel
theorem dX1_thousandths_8 : decode cX1_thousandths 8 = .ok (.ladd, 1) := by decide +kernel
theorem dX1_thousandths_9 : decode cX1_thousandths 9 = .ok (.ldc2_w 53, 3) := by decide +kernel
theorem dX1_thousandths_12 : decode cX1_thousandths 12 = .ok (.ldiv, 1) := by decide +kernel
theorem dX1_thousandths_13 : decode cX1_thousandths 13 = .ok (.l2i, 1) := by decide +kernel
theorem dX1_thousandths_14 : decode cX1_thousandths 14 = .ok (.ireturn, 1) := by decide +kernel
set_option maxRecDepth 20000 in
theorem ggX1_addLine_X1_in : GoodIn wsX1_addLine wsX1_in := goodIn_r _ [6] (by decide +kernel) (by decide +kernel)
set_option maxRecDepth 20000 in
theorem gX1_addLine_X1_in : GoodIn wsX1_addLine (va_wsS RX1 47 yX1_in wsX1_in) := goodIn_app (goodIn_of _ (by decide +kernel)) ggX1_addLine_X1_in
set_option maxRecDepth 20000 in
theorem ggX1_addLine_X1_refused : GoodIn wsX1_addLine wsX1_refused := goodIn_r _ [10, 11, 21, 22, 23, 24, 25, 26, 27, 28, 29, 30, 31, 32, 33, 34] (by decide +kernel) (by decide +kernel)
set_option maxRecDepth 20000 in
theorem gX1_addLine_X1_refused : GoodIn wsX1_addLine (wsV RX1 56 RX1 yX1_refused wsX1_refused) := goodIn_app (goodIn_of _ (by decide +kernel)) ggX1_addLine_X1_refused
set_option maxRecDepth 20000 in
theorem ggX1_addLine_X1_put : GoodIn wsX1_addLine wsX1_put := goodIn_r _ [15, 16, 17, 18, 19, 20, 21, 22, 23, 24, 25, 26, 27, 28, 29, 30, 31, 32, 33, 34] (by decide +kernel) (by decide +kernel)
set_option maxRecDepth 20000 in
theorem gX1_addLine_X1_put : GoodIn wsX1_addLine (wsV RX1 60 RX1 yX1_put wsX1_put) := goodIn_app (goodIn_of _ (by decide +kernel)) ggX1_addLine_X1_put
theorem dX1_addLine_0 : decode cX1_addLine 0 = .ok (.aload_n 0, 1) := by decide +kernel
theorem dX1_addLine_1 : decode cX1_addLine 1 = .ok (.iload_n 1, 1) := by decide +kernel
theorem dX1_addLine_2 : decode cX1_addLine 2 = .ok (.iconst 0, 1) := by decide +kernel
theorem dX1_addLine_3 : decode cX1_addLine 3 = .ok (.ldc 55, 2) := by decide +kernel
theorem dX1_addLine_5 : decode cX1_addLine 5 = .ok (.invokestatic 47, 3) := by decide +kernel
theorem dX1_addLine_8 : decode cX1_addLine 8 = .ok (.ifCond .ne 7, 3) := by decide +kernel
theorem dX1_addLine_11 : decode cX1_addLine 11 = .ok (.iconst 1, 1) := by decide +kernel
theorem dX1_addLine_12 : decode cX1_addLine 12 = .ok (.goto 17, 3) := by decide +kernel
theorem dX1_addLine_15 : decode cX1_addLine 15 = .ok (.aload_n 0, 1) := by decide +kernel
theorem dX1_addLine_16 : decode cX1_addLine 16 = .ok (.getfield 44, 3) := by decide +kernel
theorem dX1_addLine_19 : decode cX1_addLine 19 = .ok (.bipush 16, 2) := by decide +kernel
theorem dX1_addLine_21 : decode cX1_addLine 21 = .ok (.if_icmp .ne 7, 3) := by decide +kernel
theorem dX1_addLine_24 : decode cX1_addLine 24 = .ok (.iconst 2, 1) := by decide +kernel
theorem dX1_addLine_25 : decode cX1_addLine 25 = .ok (.goto 4, 3) := by decide +kernel
theorem dX1_addLine_28 : decode cX1_addLine 28 = .ok (.iconst 0, 1) := by decide +kernel
theorem dX1_addLine_29 : decode cX1_addLine 29 = .ok (.invokevirtual 56, 3) := by decide +kernel
theorem dX1_addLine_32 : decode cX1_addLine 32 = .ok (.ifCond .eq 5, 3) := by decide +kernel
theorem dX1_addLine_35 : decode cX1_addLine 35 = .ok (.iconst 0, 1) := by decide +kernel
theorem dX1_addLine_36 : decode cX1_addLine 36 = .ok (.ireturn, 1) := by decide +kernel
theorem dX1_addLine_37 : decode cX1_addLine 37 = .ok (.aload_n 0, 1) := by decide +kernel
theorem dX1_addLine_38 : decode cX1_addLine 38 = .ok (.aload_n 0, 1) := by decide +kernel
theorem dX1_addLine_39 : decode cX1_addLine 39 = .ok (.getfield 44, 3) := by decide +kernel
theorem dX1_addLine_42 : decode cX1_addLine 42 = .ok (.iload_n 1, 1) := by decide +kernel
theorem dX1_addLine_43 : decode cX1_addLine 43 = .ok (.iconst 0, 1) := by decide +kernel
theorem dX1_addLine_44 : decode cX1_addLine 44 = .ok (.iconst 0, 1) := by decide +kernel
theorem dX1_addLine_45 : decode cX1_addLine 45 = .ok (.iconst 0, 1) := by decide +kernel
theorem dX1_addLine_46 : decode cX1_addLine 46 = .ok (.iconst 0, 1) := by decide +kernel
theorem dX1_addLine_47 : decode cX1_addLine 47 = .ok (.invokevirtual 60, 3) := by decide +kernel
theorem dX1_addLine_50 : decode cX1_addLine 50 = .ok (.aload_n 0, 1) := by decide +kernel
theorem dX1_addLine_51 : decode cX1_addLine 51 = .ok (.dup, 1) := by decide +kernel
theorem dX1_addLine_52 : decode cX1_addLine 52 = .ok (.getfield 44, 3) := by decide +kernel
theorem dX1_addLine_55 : decode cX1_addLine 55 = .ok (.iconst 1, 1) := by decide +kernel
theorem dX1_addLine_56 : decode cX1_addLine 56 = .ok (.iadd, 1) := by decide +kernel
theorem dX1_addLine_57 : decode cX1_addLine 57 = .ok (.putfield 44, 3) := by decide +kernel
theorem dX1_addLine_60 : decode cX1_addLine 60 = .ok (.aload_n 0, 1) := by decide +kernel
theorem dX1_addLine_61 : decode cX1_addLine 61 = .ok (.getfield 44, 3) := by decide +kernel
theorem dX1_addLine_64 : decode cX1_addLine 64 = .ok (.iconst 1, 1) := by decide +kernel
theorem dX1_addLine_65 : decode cX1_addLine 65 = .ok (.isub, 1) := by decide +kernel
theorem dX1_addLine_66 : decode cX1_addLine 66 = .ok (.ireturn, 1) := by decide +kernel
theorem dX1_put_0 : decode cX1_put 0 = .ok (.aload_n 0, 1) := by decide +kernel
theorem dX1_put_1 : decode cX1_put 1 = .ok (.getfield 7, 3) := by decide +kernel
theorem dX1_put_4 : decode cX1_put 4 = .ok (.iload_n 1, 1) := by decide +kernel
theorem dX1_put_5 : decode cX1_put 5 = .ok (.iload_n 2, 1) := by decide +kernel
theorem dX1_put_6 : decode cX1_put 6 = .ok (.iastore, 1) := by decide +kernel
theorem dX1_put_7 : decode cX1_put 7 = .ok (.aload_n 0, 1) := by decide +kernel
theorem dX1_put_8 : decode cX1_put 8 = .ok (.getfield 13, 3) := by decide +kernel
theorem dX1_put_11 : decode cX1_put 11 = .ok (.iload_n 1, 1) := by decide +kernel
theorem dX1_put_12 : decode cX1_put 12 = .ok (.iload_n 3, 1) := by decide +kernel
theorem dX1_put_13 : decode cX1_put 13 = .ok (.iastore, 1) := by decide +kernel
theorem dX1_put_14 : decode cX1_put 14 = .ok (.aload_n 0, 1) := by decide +kernel
theorem dX1_put_15 : decode cX1_put 15 = .ok (.getfield 16, 3) := by decide +kernel
theorem dX1_put_18 : decode cX1_put 18 = .ok (.iload_n 1, 1) := by decide +kernel
theorem dX1_put_19 : decode cX1_put 19 = .ok (.iload 4, 2) := by decide +kernel
theorem dX1_put_21 : decode cX1_put 21 = .ok (.iastore, 1) := by decide +kernel
theorem dX1_put_22 : decode cX1_put 22 = .ok (.aload_n 0, 1) := by decide +kernel
theorem dX1_put_23 : decode cX1_put 23 = .ok (.getfield 19, 3) := by decide +kernel
theorem dX1_put_26 : decode cX1_put 26 = .ok (.iload_n 1, 1) := by decide +kernel
theorem dX1_put_27 : decode cX1_put 27 = .ok (.iload 5, 2) := by decide +kernel
theorem dX1_put_29 : decode cX1_put 29 = .ok (.iastore, 1) := by decide +kernel
theorem dX1_put_30 : decode cX1_put 30 = .ok (.aload_n 0, 1) := by decide +kernel
theorem dX1_put_31 : decode cX1_put 31 = .ok (.getfield 22, 3) := by decide +kernel
theorem dX1_put_34 : decode cX1_put 34 = .ok (.iload_n 1, 1) := by decide +kernel
theorem dX1_put_35 : decode cX1_put 35 = .ok (.iload 6, 2) := by decide +kernel
theorem dX1_put_37 : decode cX1_put 37 = .ok (.iastore, 1) := by decide +kernel
theorem dX1_put_38 : decode cX1_put 38 = .ok (.return_, 1) := by decide +kernel
set_option maxRecDepth 20000 in
theorem ggX1_changeValue_X1_isLine : GoodIn wsX1_changeValue wsX1_isLine := goodIn_r _ [8, 9, 10, 11, 7, 12, 18, 19, 20, 21, 22, 23, 24, 25, 26, 27, 28, 29, 30, 31] (by decide +kernel) (by decide +kernel)
set_option maxRecDepth 20000 in
theorem gX1_changeValue_X1_isLine : GoodIn wsX1_changeValue (wsV RX1 64 RX1 yX1_isLine wsX1_isLine) := goodIn_app (goodIn_of _ (by decide +kernel)) ggX1_changeValue_X1_isLine
set_option maxRecDepth 20000 in
theorem ggX1_changeValue_X1_in : GoodIn wsX1_changeValue wsX1_in := goodIn_r _ [12] (by decide +kernel) (by decide +kernel)
set_option maxRecDepth 20000 in
theorem gX1_changeValue_X1_in : GoodIn wsX1_changeValue (va_wsS RX1 47 yX1_in wsX1_in) := goodIn_app (goodIn_of _ (by decide +kernel)) ggX1_changeValue_X1_in
set_option maxRecDepth 20000 in
theorem ggX1_changeValue_X1_refused : GoodIn wsX1_changeValue wsX1_refused := goodIn_r _ [16, 17, 18, 19, 20, 21, 22, 23, 24, 25, 26, 27, 28, 29, 30, 31] (by decide +kernel) (by decide +kernel)
set_option maxRecDepth 20000 in
theorem gX1_changeValue_X1_refused : GoodIn wsX1_changeValue (wsV RX1 56 RX1 yX1_refused wsX1_refused) := goodIn_app (goodIn_of _ (by decide +kernel)) ggX1_changeValue_X1_refused
theorem dX1_changeValue_0 : decode cX1_changeValue 0 = .ok (.aload_n 0, 1) := by decide +kernel
theorem dX1_changeValue_1 : decode cX1_changeValue 1 = .ok (.aload_n 0, 1) := by decide +kernel
theorem dX1_changeValue_2 : decode cX1_changeValue 2 = .ok (.iload_n 1, 1) := by decide +kernel
theorem dX1_changeValue_3 : decode cX1_changeValue 3 = .ok (.invokevirtual 64, 3) := by decide +kernel
theorem dX1_changeValue_6 : decode cX1_changeValue 6 = .ok (.ifCond .ne 7, 3) := by decide +kernel
theorem dX1_changeValue_9 : decode cX1_changeValue 9 = .ok (.iconst 1, 1) := by decide +kernel
theorem dX1_changeValue_10 : decode cX1_changeValue 10 = .ok (.goto 32, 3) := by decide +kernel
theorem dX1_changeValue_13 : decode cX1_changeValue 13 = .ok (.iload_n 2, 1) := by decide +kernel
theorem dX1_changeValue_14 : decode cX1_changeValue 14 = .ok (.iconst 0, 1) := by decide +kernel
theorem dX1_changeValue_15 : decode cX1_changeValue 15 = .ok (.ldc 55, 2) := by decide +kernel
theorem dX1_changeValue_17 : decode cX1_changeValue 17 = .ok (.invokestatic 47, 3) := by decide +kernel
theorem dX1_changeValue_20 : decode cX1_changeValue 20 = .ok (.ifCond .ne 7, 3) := by decide +kernel
theorem dX1_changeValue_23 : decode cX1_changeValue 23 = .ok (.iconst 2, 1) := by decide +kernel
theorem dX1_changeValue_24 : decode cX1_changeValue 24 = .ok (.goto 18, 3) := by decide +kernel
theorem dX1_changeValue_27 : decode cX1_changeValue 27 = .ok (.iload_n 2, 1) := by decide +kernel
theorem dX1_changeValue_28 : decode cX1_changeValue 28 = .ok (.aload_n 0, 1) := by decide +kernel
theorem dX1_changeValue_29 : decode cX1_changeValue 29 = .ok (.getfield 13, 3) := by decide +kernel
theorem dX1_changeValue_32 : decode cX1_changeValue 32 = .ok (.iload_n 1, 1) := by decide +kernel
theorem dX1_changeValue_33 : decode cX1_changeValue 33 = .ok (.iaload, 1) := by decide +kernel
theorem dX1_changeValue_34 : decode cX1_changeValue 34 = .ok (.if_icmp .ge 7, 3) := by decide +kernel
theorem dX1_changeValue_37 : decode cX1_changeValue 37 = .ok (.iconst 3, 1) := by decide +kernel
theorem dX1_changeValue_38 : decode cX1_changeValue 38 = .ok (.goto 4, 3) := by decide +kernel
theorem dX1_changeValue_41 : decode cX1_changeValue 41 = .ok (.iconst 0, 1) := by decide +kernel
theorem dX1_changeValue_42 : decode cX1_changeValue 42 = .ok (.invokevirtual 56, 3) := by decide +kernel
theorem dX1_changeValue_45 : decode cX1_changeValue 45 = .ok (.ifCond .eq 5, 3) := by decide +kernel
theorem dX1_changeValue_48 : decode cX1_changeValue 48 = .ok (.iconst 0, 1) := by decide +kernel
theorem dX1_changeValue_49 : decode cX1_changeValue 49 = .ok (.ireturn, 1) := by decide +kernel
theorem dX1_changeValue_50 : decode cX1_changeValue 50 = .ok (.aload_n 0, 1) := by decide +kernel
theorem dX1_changeValue_51 : decode cX1_changeValue 51 = .ok (.getfield 7, 3) := by decide +kernel
theorem dX1_changeValue_54 : decode cX1_changeValue 54 = .ok (.iload_n 1, 1) := by decide +kernel
theorem dX1_changeValue_55 : decode cX1_changeValue 55 = .ok (.iaload, 1) := by decide +kernel
theorem dX1_changeValue_56 : decode cX1_changeValue 56 = .ok (.istore_n 3, 1) := by decide +kernel
theorem dX1_changeValue_57 : decode cX1_changeValue 57 = .ok (.aload_n 0, 1) := by decide +kernel
theorem dX1_changeValue_58 : decode cX1_changeValue 58 = .ok (.getfield 7, 3) := by decide +kernel
theorem dX1_changeValue_61 : decode cX1_changeValue 61 = .ok (.iload_n 1, 1) := by decide +kernel
theorem dX1_changeValue_62 : decode cX1_changeValue 62 = .ok (.iload_n 2, 1) := by decide +kernel
theorem dX1_changeValue_63 : decode cX1_changeValue 63 = .ok (.iastore, 1) := by decide +kernel
theorem dX1_changeValue_64 : decode cX1_changeValue 64 = .ok (.iload_n 2, 1) := by decide +kernel
theorem dX1_changeValue_65 : decode cX1_changeValue 65 = .ok (.iload_n 3, 1) := by decide +kernel
theorem dX1_changeValue_66 : decode cX1_changeValue 66 = .ok (.isub, 1) := by decide +kernel
theorem dX1_changeValue_67 : decode cX1_changeValue 67 = .ok (.ireturn, 1) := by decide +kernel
theorem dX1_share_0 : decode cX1_share 0 = .ok (.iload_n 0, 1) := by decide +kernel
theorem dX1_share_1 : decode cX1_share 1 = .ok (.i2l, 1) := by decide +kernel
theorem dX1_share_2 : decode cX1_share 2 = .ok (.iload_n 1, 1) := by decide +kernel
theorem dX1_share_3 : decode cX1_share 3 = .ok (.i2l, 1) := by decide +kernel
theorem dX1_share_4 : decode cX1_share 4 = .ok (.lmul, 1) := by decide +kernel
theorem dX1_share_5 : decode cX1_share 5 = .ok (.iload_n 2, 1) := by decide +kernel
theorem dX1_share_6 : decode cX1_share 6 = .ok (.i2l, 1) := by decide +kernel
theorem dX1_share_7 : decode cX1_share 7 = .ok (.ldiv, 1) := by decide +kernel
theorem dX1_share_8 : decode cX1_share 8 = .ok (.l2i, 1) := by decide +kernel
theorem dX1_share_9 : decode cX1_share 9 = .ok (.ireturn, 1) := by decide +kernel
set_option maxRecDepth 20000 in
theorem ggX1_split_X1_isLine : GoodIn wsX1_split wsX1_isLine := goodIn_r _ [11, 2, 12, 13, 10, 14, 27, 28, 29, 30, 31, 32, 33, 34, 35, 36, 37, 38, 39, 40] (by decide +kernel) (by decide +kernel)
set_option maxRecDepth 20000 in
theorem gX1_split_X1_isLine : GoodIn wsX1_split (wsV RX1 64 RX1 yX1_isLine wsX1_isLine) := goodIn_app (goodIn_of _ (by decide +kernel)) ggX1_split_X1_isLine
set_option maxRecDepth 20000 in
theorem ggX1_split_X1_in : GoodIn wsX1_split wsX1_in := goodIn_r _ [14] (by decide +kernel) (by decide +kernel)
set_option maxRecDepth 20000 in
theorem gX1_split_X1_in : GoodIn wsX1_split (va_wsS RX1 47 yX1_in wsX1_in) := goodIn_app (goodIn_of _ (by decide +kernel)) ggX1_split_X1_in
set_option maxRecDepth 20000 in
theorem ggX1_split_X1_refused : GoodIn wsX1_split wsX1_refused := goodIn_r _ [18, 19, 27, 28, 29, 30, 31, 32, 33, 34, 35, 36, 37, 38, 39, 40] (by decide +kernel) (by decide +kernel)
set_option maxRecDepth 20000 in
theorem gX1_split_X1_refused : GoodIn wsX1_split (wsV RX1 56 RX1 yX1_refused wsX1_refused) := goodIn_app (goodIn_of _ (by decide +kernel)) ggX1_split_X1_refused
set_option maxRecDepth 20000 in
theorem ggX1_split_X1_share : GoodIn wsX1_split wsX1_share := goodIn_r _ [22] (by decide +kernel) (by decide +kernel)
set_option maxRecDepth 20000 in
theorem gX1_split_X1_share : GoodIn wsX1_split (va_wsS RX1 67 yX1_share wsX1_share) := goodIn_app (goodIn_of _ (by decide +kernel)) ggX1_split_X1_share
set_option maxRecDepth 20000 in
theorem ggX1_split_X1_put : GoodIn wsX1_split wsX1_put := goodIn_r _ [26, 1, 3, 4, 5, 6, 27, 28, 29, 30, 31, 32, 33, 34, 35, 36, 37, 38, 39, 40] (by decide +kernel) (by decide +kernel)
set_option maxRecDepth 20000 in
theorem gX1_split_X1_put : GoodIn wsX1_split (wsV RX1 60 RX1 yX1_put wsX1_put) := goodIn_app (goodIn_of _ (by decide +kernel)) ggX1_split_X1_put
theorem dX1_split_0 : decode cX1_split 0 = .ok (.aload_n 0, 1) := by decide +kernel
theorem dX1_split_1 : decode cX1_split 1 = .ok (.aload_n 0, 1) := by decide +kernel
theorem dX1_split_2 : decode cX1_split 2 = .ok (.iload_n 1, 1) := by decide +kernel
theorem dX1_split_3 : decode cX1_split 3 = .ok (.invokevirtual 64, 3) := by decide +kernel
theorem dX1_split_6 : decode cX1_split 6 = .ok (.ifCond .ne 7, 3) := by decide +kernel
theorem dX1_split_9 : decode cX1_split 9 = .ok (.iconst 1, 1) := by decide +kernel
theorem dX1_split_10 : decode cX1_split 10 = .ok (.goto 37, 3) := by decide +kernel
theorem dX1_split_13 : decode cX1_split 13 = .ok (.iload_n 2, 1) := by decide +kernel
theorem dX1_split_14 : decode cX1_split 14 = .ok (.iconst 1, 1) := by decide +kernel
theorem dX1_split_15 : decode cX1_split 15 = .ok (.aload_n 0, 1) := by decide +kernel
theorem dX1_split_16 : decode cX1_split 16 = .ok (.getfield 7, 3) := by decide +kernel
theorem dX1_split_19 : decode cX1_split 19 = .ok (.iload_n 1, 1) := by decide +kernel
theorem dX1_split_20 : decode cX1_split 20 = .ok (.iaload, 1) := by decide +kernel
theorem dX1_split_21 : decode cX1_split 21 = .ok (.iconst 1, 1) := by decide +kernel
theorem dX1_split_22 : decode cX1_split 22 = .ok (.isub, 1) := by decide +kernel
theorem dX1_split_23 : decode cX1_split 23 = .ok (.invokestatic 47, 3) := by decide +kernel
theorem dX1_split_26 : decode cX1_split 26 = .ok (.ifCond .ne 7, 3) := by decide +kernel
theorem dX1_split_29 : decode cX1_split 29 = .ok (.iconst 2, 1) := by decide +kernel
theorem dX1_split_30 : decode cX1_split 30 = .ok (.goto 17, 3) := by decide +kernel
theorem dX1_split_33 : decode cX1_split 33 = .ok (.aload_n 0, 1) := by decide +kernel
theorem dX1_split_34 : decode cX1_split 34 = .ok (.getfield 44, 3) := by decide +kernel
theorem dX1_split_37 : decode cX1_split 37 = .ok (.bipush 16, 2) := by decide +kernel
theorem dX1_split_39 : decode cX1_split 39 = .ok (.if_icmp .ne 7, 3) := by decide +kernel
theorem dX1_split_42 : decode cX1_split 42 = .ok (.iconst 3, 1) := by decide +kernel
theorem dX1_split_43 : decode cX1_split 43 = .ok (.goto 4, 3) := by decide +kernel
theorem dX1_split_46 : decode cX1_split 46 = .ok (.iconst 0, 1) := by decide +kernel
theorem dX1_split_47 : decode cX1_split 47 = .ok (.invokevirtual 56, 3) := by decide +kernel
theorem dX1_split_50 : decode cX1_split 50 = .ok (.ifCond .eq 5, 3) := by decide +kernel
theorem dX1_split_53 : decode cX1_split 53 = .ok (.iconst 0, 1) := by decide +kernel
theorem dX1_split_54 : decode cX1_split 54 = .ok (.ireturn, 1) := by decide +kernel
theorem dX1_split_55 : decode cX1_split 55 = .ok (.aload_n 0, 1) := by decide +kernel
theorem dX1_split_56 : decode cX1_split 56 = .ok (.getfield 7, 3) := by decide +kernel
theorem dX1_split_59 : decode cX1_split 59 = .ok (.iload_n 1, 1) := by decide +kernel
theorem dX1_split_60 : decode cX1_split 60 = .ok (.iaload, 1) := by decide +kernel
theorem dX1_split_61 : decode cX1_split 61 = .ok (.istore_n 3, 1) := by decide +kernel
theorem dX1_split_62 : decode cX1_split 62 = .ok (.aload_n 0, 1) := by decide +kernel
theorem dX1_split_63 : decode cX1_split 63 = .ok (.aload_n 0, 1) := by decide +kernel
theorem dX1_split_64 : decode cX1_split 64 = .ok (.getfield 44, 3) := by decide +kernel
theorem dX1_split_67 : decode cX1_split 67 = .ok (.iload_n 2, 1) := by decide +kernel
theorem dX1_split_68 : decode cX1_split 68 = .ok (.aload_n 0, 1) := by decide +kernel
theorem dX1_split_69 : decode cX1_split 69 = .ok (.getfield 13, 3) := by decide +kernel
theorem dX1_split_72 : decode cX1_split 72 = .ok (.iload_n 1, 1) := by decide +kernel
theorem dX1_split_73 : decode cX1_split 73 = .ok (.iaload, 1) := by decide +kernel
theorem dX1_split_74 : decode cX1_split 74 = .ok (.iload_n 2, 1) := by decide +kernel
theorem dX1_split_75 : decode cX1_split 75 = .ok (.iload_n 3, 1) := by decide +kernel
theorem dX1_split_76 : decode cX1_split 76 = .ok (.invokestatic 67, 3) := by decide +kernel
theorem dX1_split_79 : decode cX1_split 79 = .ok (.aload_n 0, 1) := by decide +kernel
theorem dX1_split_80 : decode cX1_split 80 = .ok (.getfield 16, 3) := by decide +kernel
theorem dX1_split_83 : decode cX1_split 83 = .ok (.iload_n 1, 1) := by decide +kernel
theorem dX1_split_84 : decode cX1_split 84 = .ok (.iaload, 1) := by decide +kernel
theorem dX1_split_85 : decode cX1_split 85 = .ok (.iload_n 2, 1) := by decide +kernel
theorem dX1_split_86 : decode cX1_split 86 = .ok (.iload_n 3, 1) := by decide +kernel
theorem dX1_split_87 : decode cX1_split 87 = .ok (.invokestatic 67, 3) := by decide +kernel
theorem dX1_split_90 : decode cX1_split 90 = .ok (.aload_n 0, 1) := by decide +kernel
theorem dX1_split_91 : decode cX1_split 91 = .ok (.getfield 19, 3) := by decide +kernel
theorem dX1_split_94 : decode cX1_split 94 = .ok (.iload_n 1, 1) := by decide +kernel
theorem dX1_split_95 : decode cX1_split 95 = .ok (.iaload, 1) := by decide +kernel
theorem dX1_split_96 : decode cX1_split 96 = .ok (.iload_n 2, 1) := by decide +kernel
theorem dX1_split_97 : decode cX1_split 97 = .ok (.iload_n 3, 1) := by decide +kernel
theorem dX1_split_98 : decode cX1_split 98 = .ok (.invokestatic 67, 3) := by decide +kernel
theorem dX1_split_101 : decode cX1_split 101 = .ok (.aload_n 0, 1) := by decide +kernel
theorem dX1_split_102 : decode cX1_split 102 = .ok (.getfield 22, 3) := by decide +kernel
theorem dX1_split_105 : decode cX1_split 105 = .ok (.iload_n 1, 1) := by decide +kernel
theorem dX1_split_106 : decode cX1_split 106 = .ok (.iaload, 1) := by decide +kernel
theorem dX1_split_107 : decode cX1_split 107 = .ok (.iload_n 2, 1) := by decide +kernel
theorem dX1_split_108 : decode cX1_split 108 = .ok (.iload_n 3, 1) := by decide +kernel
theorem dX1_split_109 : decode cX1_split 109 = .ok (.invokestatic 67, 3) := by decide +kernel
theorem dX1_split_112 : decode cX1_split 112 = .ok (.invokevirtual 60, 3) := by decide +kernel
theorem dX1_split_115 : decode cX1_split 115 = .ok (.aload_n 0, 1) := by decide +kernel
theorem dX1_split_116 : decode cX1_split 116 = .ok (.iload_n 1, 1) := by decide +kernel
theorem dX1_split_117 : decode cX1_split 117 = .ok (.iload_n 3, 1) := by decide +kernel
theorem dX1_split_118 : decode cX1_split 118 = .ok (.iload_n 2, 1) := by decide +kernel
theorem dX1_split_119 : decode cX1_split 119 = .ok (.isub, 1) := by decide +kernel
theorem dX1_split_120 : decode cX1_split 120 = .ok (.aload_n 0, 1) := by decide +kernel
theorem dX1_split_121 : decode cX1_split 121 = .ok (.getfield 13, 3) := by decide +kernel
theorem dX1_split_124 : decode cX1_split 124 = .ok (.iload_n 1, 1) := by decide +kernel
theorem dX1_split_125 : decode cX1_split 125 = .ok (.iaload, 1) := by decide +kernel
theorem dX1_split_126 : decode cX1_split 126 = .ok (.aload_n 0, 1) := by decide +kernel
theorem dX1_split_127 : decode cX1_split 127 = .ok (.getfield 13, 3) := by decide +kernel
theorem dX1_split_130 : decode cX1_split 130 = .ok (.aload_n 0, 1) := by decide +kernel
theorem dX1_split_131 : decode cX1_split 131 = .ok (.getfield 44, 3) := by decide +kernel
theorem dX1_split_134 : decode cX1_split 134 = .ok (.iaload, 1) := by decide +kernel
theorem dX1_split_135 : decode cX1_split 135 = .ok (.isub, 1) := by decide +kernel
theorem dX1_split_136 : decode cX1_split 136 = .ok (.aload_n 0, 1) := by decide +kernel
theorem dX1_split_137 : decode cX1_split 137 = .ok (.getfield 16, 3) := by decide +kernel
theorem dX1_split_140 : decode cX1_split 140 = .ok (.iload_n 1, 1) := by decide +kernel
theorem dX1_split_141 : decode cX1_split 141 = .ok (.iaload, 1) := by decide +kernel
theorem dX1_split_142 : decode cX1_split 142 = .ok (.aload_n 0, 1) := by decide +kernel
theorem dX1_split_143 : decode cX1_split 143 = .ok (.getfield 16, 3) := by decide +kernel
theorem dX1_split_146 : decode cX1_split 146 = .ok (.aload_n 0, 1) := by decide +kernel
theorem dX1_split_147 : decode cX1_split 147 = .ok (.getfield 44, 3) := by decide +kernel
theorem dX1_split_150 : decode cX1_split 150 = .ok (.iaload, 1) := by decide +kernel
theorem dX1_split_151 : decode cX1_split 151 = .ok (.isub, 1) := by decide +kernel
theorem dX1_split_152 : decode cX1_split 152 = .ok (.aload_n 0, 1) := by decide +kernel
theorem dX1_split_153 : decode cX1_split 153 = .ok (.getfield 19, 3) := by decide +kernel
theorem dX1_split_156 : decode cX1_split 156 = .ok (.iload_n 1, 1) := by decide +kernel
theorem dX1_split_157 : decode cX1_split 157 = .ok (.iaload, 1) := by decide +kernel
theorem dX1_split_158 : decode cX1_split 158 = .ok (.aload_n 0, 1) := by decide +kernel
theorem dX1_split_159 : decode cX1_split 159 = .ok (.getfield 19, 3) := by decide +kernel
theorem dX1_split_162 : decode cX1_split 162 = .ok (.aload_n 0, 1) := by decide +kernel
theorem dX1_split_163 : decode cX1_split 163 = .ok (.getfield 44, 3) := by decide +kernel
theorem dX1_split_166 : decode cX1_split 166 = .ok (.iaload, 1) := by decide +kernel
theorem dX1_split_167 : decode cX1_split 167 = .ok (.isub, 1) := by decide +kernel
theorem dX1_split_168 : decode cX1_split 168 = .ok (.aload_n 0, 1) := by decide +kernel
theorem dX1_split_169 : decode cX1_split 169 = .ok (.getfield 22, 3) := by decide +kernel
theorem dX1_split_172 : decode cX1_split 172 = .ok (.iload_n 1, 1) := by decide +kernel
theorem dX1_split_173 : decode cX1_split 173 = .ok (.iaload, 1) := by decide +kernel
theorem dX1_split_174 : decode cX1_split 174 = .ok (.aload_n 0, 1) := by decide +kernel
theorem dX1_split_175 : decode cX1_split 175 = .ok (.getfield 22, 3) := by decide +kernel
theorem dX1_split_178 : decode cX1_split 178 = .ok (.aload_n 0, 1) := by decide +kernel
theorem dX1_split_179 : decode cX1_split 179 = .ok (.getfield 44, 3) := by decide +kernel
theorem dX1_split_182 : decode cX1_split 182 = .ok (.iaload, 1) := by decide +kernel
theorem dX1_split_183 : decode cX1_split 183 = .ok (.isub, 1) := by decide +kernel
theorem dX1_split_184 : decode cX1_split 184 = .ok (.invokevirtual 60, 3) := by decide +kernel
theorem dX1_split_187 : decode cX1_split 187 = .ok (.aload_n 0, 1) := by decide +kernel
theorem dX1_split_188 : decode cX1_split 188 = .ok (.dup, 1) := by decide +kernel
theorem dX1_split_189 : decode cX1_split 189 = .ok (.getfield 44, 3) := by decide +kernel
theorem dX1_split_192 : decode cX1_split 192 = .ok (.iconst 1, 1) := by decide +kernel
theorem dX1_split_193 : decode cX1_split 193 = .ok (.iadd, 1) := by decide +kernel
theorem dX1_split_194 : decode cX1_split 194 = .ok (.putfield 44, 3) := by decide +kernel
theorem dX1_split_197 : decode cX1_split 197 = .ok (.aload_n 0, 1) := by decide +kernel
theorem dX1_split_198 : decode cX1_split 198 = .ok (.getfield 44, 3) := by decide +kernel
theorem dX1_split_201 : decode cX1_split 201 = .ok (.iconst 1, 1) := by decide +kernel
theorem dX1_split_202 : decode cX1_split 202 = .ok (.isub, 1) := by decide +kernel
theorem dX1_split_203 : decode cX1_split 203 = .ok (.ireturn, 1) := by decide +kernel
set_option maxRecDepth 20000 in
theorem ggX1_setWork_X1_isLine : GoodIn wsX1_setWork wsX1_isLine := goodIn_r _ [8, 9, 10, 11, 7, 12, 23, 24, 25, 26, 27, 28, 29, 30, 31, 32, 33, 34, 35, 36] (by decide +kernel) (by decide +kernel)
set_option maxRecDepth 20000 in
theorem gX1_setWork_X1_isLine : GoodIn wsX1_setWork (wsV RX1 64 RX1 yX1_isLine wsX1_isLine) := goodIn_app (goodIn_of _ (by decide +kernel)) ggX1_setWork_X1_isLine
set_option maxRecDepth 20000 in
theorem ggX1_setWork_X1_in : GoodIn wsX1_setWork wsX1_in := goodIn_r _ [12] (by decide +kernel) (by decide +kernel)
set_option maxRecDepth 20000 in
theorem gX1_setWork_X1_in : GoodIn wsX1_setWork (va_wsS RX1 47 yX1_in wsX1_in) := goodIn_app (goodIn_of _ (by decide +kernel)) ggX1_setWork_X1_in
set_option maxRecDepth 20000 in
theorem ggX1_setWork_X1_thousandths : GoodIn wsX1_setWork wsX1_thousandths := goodIn_r _ [15, 16, 17] (by decide +kernel) (by decide +kernel)
set_option maxRecDepth 20000 in
theorem gX1_setWork_X1_thousandths : GoodIn wsX1_setWork (va_wsS RX1 71 yX1_thousandths wsX1_thousandths) := goodIn_app (goodIn_of _ (by decide +kernel)) ggX1_setWork_X1_thousandths
set_option maxRecDepth 20000 in
theorem ggX1_setWork_X1_refused : GoodIn wsX1_setWork wsX1_refused := goodIn_r _ [21, 22, 23, 24, 25, 26, 27, 28, 29, 30, 31, 32, 33, 34, 35, 36] (by decide +kernel) (by decide +kernel)
set_option maxRecDepth 20000 in
theorem gX1_setWork_X1_refused : GoodIn wsX1_setWork (wsV RX1 56 RX1 yX1_refused wsX1_refused) := goodIn_app (goodIn_of _ (by decide +kernel)) ggX1_setWork_X1_refused
theorem dX1_setWork_0 : decode cX1_setWork 0 = .ok (.aload_n 0, 1) := by decide +kernel
theorem dX1_setWork_1 : decode cX1_setWork 1 = .ok (.iload_n 1, 1) := by decide +kernel
theorem dX1_setWork_2 : decode cX1_setWork 2 = .ok (.invokevirtual 64, 3) := by decide +kernel
theorem dX1_setWork_5 : decode cX1_setWork 5 = .ok (.istore_n 3, 1) := by decide +kernel
theorem dX1_setWork_6 : decode cX1_setWork 6 = .ok (.iload_n 3, 1) := by decide +kernel
theorem dX1_setWork_7 : decode cX1_setWork 7 = .ok (.ifCond .eq 27, 3) := by decide +kernel
theorem dX1_setWork_10 : decode cX1_setWork 10 = .ok (.iload_n 2, 1) := by decide +kernel
theorem dX1_setWork_11 : decode cX1_setWork 11 = .ok (.iconst 0, 1) := by decide +kernel
theorem dX1_setWork_12 : decode cX1_setWork 12 = .ok (.sipush 1000, 3) := by decide +kernel
theorem dX1_setWork_15 : decode cX1_setWork 15 = .ok (.invokestatic 47, 3) := by decide +kernel
theorem dX1_setWork_18 : decode cX1_setWork 18 = .ok (.ifCond .eq 16, 3) := by decide +kernel
theorem dX1_setWork_21 : decode cX1_setWork 21 = .ok (.aload_n 0, 1) := by decide +kernel
theorem dX1_setWork_22 : decode cX1_setWork 22 = .ok (.getfield 7, 3) := by decide +kernel
theorem dX1_setWork_25 : decode cX1_setWork 25 = .ok (.iload_n 1, 1) := by decide +kernel
theorem dX1_setWork_26 : decode cX1_setWork 26 = .ok (.iaload, 1) := by decide +kernel
theorem dX1_setWork_27 : decode cX1_setWork 27 = .ok (.iload_n 2, 1) := by decide +kernel
theorem dX1_setWork_28 : decode cX1_setWork 28 = .ok (.invokestatic 71, 3) := by decide +kernel
theorem dX1_setWork_31 : decode cX1_setWork 31 = .ok (.goto 4, 3) := by decide +kernel
theorem dX1_setWork_34 : decode cX1_setWork 34 = .ok (.iconst 0, 1) := by decide +kernel
theorem dX1_setWork_35 : decode cX1_setWork 35 = .ok (.istore 4, 2) := by decide +kernel
theorem dX1_setWork_37 : decode cX1_setWork 37 = .ok (.iload_n 3, 1) := by decide +kernel
theorem dX1_setWork_38 : decode cX1_setWork 38 = .ok (.ifCond .eq 43, 3) := by decide +kernel
theorem dX1_setWork_41 : decode cX1_setWork 41 = .ok (.iload 4, 2) := by decide +kernel
theorem dX1_setWork_43 : decode cX1_setWork 43 = .ok (.aload_n 0, 1) := by decide +kernel
theorem dX1_setWork_44 : decode cX1_setWork 44 = .ok (.getfield 16, 3) := by decide +kernel
theorem dX1_setWork_47 : decode cX1_setWork 47 = .ok (.iload_n 1, 1) := by decide +kernel
theorem dX1_setWork_48 : decode cX1_setWork 48 = .ok (.iaload, 1) := by decide +kernel
theorem dX1_setWork_49 : decode cX1_setWork 49 = .ok (.if_icmp .lt 32, 3) := by decide +kernel
theorem dX1_setWork_52 : decode cX1_setWork 52 = .ok (.iload 4, 2) := by decide +kernel
theorem dX1_setWork_54 : decode cX1_setWork 54 = .ok (.aload_n 0, 1) := by decide +kernel
theorem dX1_setWork_55 : decode cX1_setWork 55 = .ok (.getfield 16, 3) := by decide +kernel
theorem dX1_setWork_58 : decode cX1_setWork 58 = .ok (.iload_n 1, 1) := by decide +kernel
theorem dX1_setWork_59 : decode cX1_setWork 59 = .ok (.iaload, 1) := by decide +kernel
theorem dX1_setWork_60 : decode cX1_setWork 60 = .ok (.isub, 1) := by decide +kernel
theorem dX1_setWork_61 : decode cX1_setWork 61 = .ok (.aload_n 0, 1) := by decide +kernel
theorem dX1_setWork_62 : decode cX1_setWork 62 = .ok (.getfield 7, 3) := by decide +kernel
theorem dX1_setWork_65 : decode cX1_setWork 65 = .ok (.iload_n 1, 1) := by decide +kernel
theorem dX1_setWork_66 : decode cX1_setWork 66 = .ok (.iaload, 1) := by decide +kernel
theorem dX1_setWork_67 : decode cX1_setWork 67 = .ok (.aload_n 0, 1) := by decide +kernel
theorem dX1_setWork_68 : decode cX1_setWork 68 = .ok (.getfield 13, 3) := by decide +kernel
theorem dX1_setWork_71 : decode cX1_setWork 71 = .ok (.iload_n 1, 1) := by decide +kernel
theorem dX1_setWork_72 : decode cX1_setWork 72 = .ok (.iaload, 1) := by decide +kernel
theorem dX1_setWork_73 : decode cX1_setWork 73 = .ok (.isub, 1) := by decide +kernel
theorem dX1_setWork_74 : decode cX1_setWork 74 = .ok (.if_icmp .gt 7, 3) := by decide +kernel
theorem dX1_setWork_77 : decode cX1_setWork 77 = .ok (.iconst 1, 1) := by decide +kernel
theorem dX1_setWork_78 : decode cX1_setWork 78 = .ok (.goto 4, 3) := by decide +kernel
theorem dX1_setWork_81 : decode cX1_setWork 81 = .ok (.iconst 0, 1) := by decide +kernel
theorem dX1_setWork_82 : decode cX1_setWork 82 = .ok (.istore 5, 2) := by decide +kernel
theorem dX1_setWork_84 : decode cX1_setWork 84 = .ok (.aload_n 0, 1) := by decide +kernel
theorem dX1_setWork_85 : decode cX1_setWork 85 = .ok (.iload_n 3, 1) := by decide +kernel
theorem dX1_setWork_86 : decode cX1_setWork 86 = .ok (.ifCond .ne 7, 3) := by decide +kernel
theorem dX1_setWork_89 : decode cX1_setWork 89 = .ok (.iconst 1, 1) := by decide +kernel
theorem dX1_setWork_90 : decode cX1_setWork 90 = .ok (.goto 28, 3) := by decide +kernel
theorem dX1_setWork_93 : decode cX1_setWork 93 = .ok (.iload_n 2, 1) := by decide +kernel
theorem dX1_setWork_94 : decode cX1_setWork 94 = .ok (.iconst 0, 1) := by decide +kernel
theorem dX1_setWork_95 : decode cX1_setWork 95 = .ok (.sipush 1000, 3) := by decide +kernel
theorem dX1_setWork_98 : decode cX1_setWork 98 = .ok (.invokestatic 47, 3) := by decide +kernel
theorem dX1_setWork_101 : decode cX1_setWork 101 = .ok (.ifCond .ne 7, 3) := by decide +kernel
theorem dX1_setWork_104 : decode cX1_setWork 104 = .ok (.iconst 2, 1) := by decide +kernel
theorem dX1_setWork_105 : decode cX1_setWork 105 = .ok (.goto 13, 3) := by decide +kernel
theorem dX1_setWork_108 : decode cX1_setWork 108 = .ok (.iload 5, 2) := by decide +kernel
theorem dX1_setWork_110 : decode cX1_setWork 110 = .ok (.ifCond .eq 7, 3) := by decide +kernel
theorem dX1_setWork_113 : decode cX1_setWork 113 = .ok (.iconst 0, 1) := by decide +kernel
theorem dX1_setWork_114 : decode cX1_setWork 114 = .ok (.goto 4, 3) := by decide +kernel
theorem dX1_setWork_117 : decode cX1_setWork 117 = .ok (.iconst 3, 1) := by decide +kernel
theorem dX1_setWork_118 : decode cX1_setWork 118 = .ok (.invokevirtual 56, 3) := by decide +kernel
theorem dX1_setWork_121 : decode cX1_setWork 121 = .ok (.ifCond .eq 5, 3) := by decide +kernel
theorem dX1_setWork_124 : decode cX1_setWork 124 = .ok (.iconst 0, 1) := by decide +kernel
theorem dX1_setWork_125 : decode cX1_setWork 125 = .ok (.ireturn, 1) := by decide +kernel
theorem dX1_setWork_126 : decode cX1_setWork 126 = .ok (.iload 4, 2) := by decide +kernel
theorem dX1_setWork_128 : decode cX1_setWork 128 = .ok (.aload_n 0, 1) := by decide +kernel
theorem dX1_setWork_129 : decode cX1_setWork 129 = .ok (.getfield 16, 3) := by decide +kernel
theorem dX1_setWork_132 : decode cX1_setWork 132 = .ok (.iload_n 1, 1) := by decide +kernel
theorem dX1_setWork_133 : decode cX1_setWork 133 = .ok (.iaload, 1) := by decide +kernel
theorem dX1_setWork_134 : decode cX1_setWork 134 = .ok (.isub, 1) := by decide +kernel
theorem dX1_setWork_135 : decode cX1_setWork 135 = .ok (.istore 6, 2) := by decide +kernel
theorem dX1_setWork_137 : decode cX1_setWork 137 = .ok (.aload_n 0, 1) := by decide +kernel
theorem dX1_setWork_138 : decode cX1_setWork 138 = .ok (.getfield 16, 3) := by decide +kernel
theorem dX1_setWork_141 : decode cX1_setWork 141 = .ok (.iload_n 1, 1) := by decide +kernel
theorem dX1_setWork_142 : decode cX1_setWork 142 = .ok (.iload 4, 2) := by decide +kernel
theorem dX1_setWork_144 : decode cX1_setWork 144 = .ok (.iastore, 1) := by decide +kernel
theorem dX1_setWork_145 : decode cX1_setWork 145 = .ok (.aload_n 0, 1) := by decide +kernel
theorem dX1_setWork_146 : decode cX1_setWork 146 = .ok (.getfield 13, 3) := by decide +kernel
theorem dX1_setWork_149 : decode cX1_setWork 149 = .ok (.iload_n 1, 1) := by decide +kernel
theorem dX1_setWork_150 : decode cX1_setWork 150 = .ok (.dup2, 1) := by decide +kernel
theorem dX1_setWork_151 : decode cX1_setWork 151 = .ok (.iaload, 1) := by decide +kernel
theorem dX1_setWork_152 : decode cX1_setWork 152 = .ok (.iload 6, 2) := by decide +kernel
theorem dX1_setWork_154 : decode cX1_setWork 154 = .ok (.iadd, 1) := by decide +kernel
theorem dX1_setWork_155 : decode cX1_setWork 155 = .ok (.iastore, 1) := by decide +kernel
theorem dX1_setWork_156 : decode cX1_setWork 156 = .ok (.iload 6, 2) := by decide +kernel
theorem dX1_setWork_158 : decode cX1_setWork 158 = .ok (.ireturn, 1) := by decide +kernel
set_option maxRecDepth 20000 in
theorem ggX1_store_X1_isLine : GoodIn wsX1_store wsX1_isLine := goodIn_r _ [9, 10, 11, 12, 8, 13, 19, 20, 21, 22, 23, 24, 25, 26, 27, 28, 29, 30, 31, 32] (by decide +kernel) (by decide +kernel)
set_option maxRecDepth 20000 in
theorem gX1_store_X1_isLine : GoodIn wsX1_store (wsV RX1 64 RX1 yX1_isLine wsX1_isLine) := goodIn_app (goodIn_of _ (by decide +kernel)) ggX1_store_X1_isLine
set_option maxRecDepth 20000 in
theorem ggX1_store_X1_in : GoodIn wsX1_store wsX1_in := goodIn_r _ [13] (by decide +kernel) (by decide +kernel)
set_option maxRecDepth 20000 in
theorem gX1_store_X1_in : GoodIn wsX1_store (va_wsS RX1 47 yX1_in wsX1_in) := goodIn_app (goodIn_of _ (by decide +kernel)) ggX1_store_X1_in
set_option maxRecDepth 20000 in
theorem ggX1_store_X1_refused : GoodIn wsX1_store wsX1_refused := goodIn_r _ [17, 18, 19, 20, 21, 22, 23, 24, 25, 26, 27, 28, 29, 30, 31, 32] (by decide +kernel) (by decide +kernel)
set_option maxRecDepth 20000 in
theorem gX1_store_X1_refused : GoodIn wsX1_store (wsV RX1 56 RX1 yX1_refused wsX1_refused) := goodIn_app (goodIn_of _ (by decide +kernel)) ggX1_store_X1_refused
theorem dX1_store_0 : decode cX1_store 0 = .ok (.aload_n 0, 1) := by decide +kernel
theorem dX1_store_1 : decode cX1_store 1 = .ok (.aload_n 0, 1) := by decide +kernel
theorem dX1_store_2 : decode cX1_store 2 = .ok (.iload_n 1, 1) := by decide +kernel
theorem dX1_store_3 : decode cX1_store 3 = .ok (.invokevirtual 64, 3) := by decide +kernel
theorem dX1_store_6 : decode cX1_store 6 = .ok (.ifCond .ne 7, 3) := by decide +kernel
theorem dX1_store_9 : decode cX1_store 9 = .ok (.iconst 1, 1) := by decide +kernel
theorem dX1_store_10 : decode cX1_store 10 = .ok (.goto 39, 3) := by decide +kernel
theorem dX1_store_13 : decode cX1_store 13 = .ok (.iload_n 2, 1) := by decide +kernel
theorem dX1_store_14 : decode cX1_store 14 = .ok (.iconst 1, 1) := by decide +kernel
theorem dX1_store_15 : decode cX1_store 15 = .ok (.ldc 55, 2) := by decide +kernel
theorem dX1_store_17 : decode cX1_store 17 = .ok (.invokestatic 47, 3) := by decide +kernel
theorem dX1_store_20 : decode cX1_store 20 = .ok (.ifCond .ne 7, 3) := by decide +kernel
theorem dX1_store_23 : decode cX1_store 23 = .ok (.iconst 2, 1) := by decide +kernel
theorem dX1_store_24 : decode cX1_store 24 = .ok (.goto 25, 3) := by decide +kernel
theorem dX1_store_27 : decode cX1_store 27 = .ok (.iload_n 2, 1) := by decide +kernel
theorem dX1_store_28 : decode cX1_store 28 = .ok (.aload_n 0, 1) := by decide +kernel
theorem dX1_store_29 : decode cX1_store 29 = .ok (.getfield 7, 3) := by decide +kernel
theorem dX1_store_32 : decode cX1_store 32 = .ok (.iload_n 1, 1) := by decide +kernel
theorem dX1_store_33 : decode cX1_store 33 = .ok (.iaload, 1) := by decide +kernel
theorem dX1_store_34 : decode cX1_store 34 = .ok (.aload_n 0, 1) := by decide +kernel
theorem dX1_store_35 : decode cX1_store 35 = .ok (.getfield 13, 3) := by decide +kernel
theorem dX1_store_38 : decode cX1_store 38 = .ok (.iload_n 1, 1) := by decide +kernel
theorem dX1_store_39 : decode cX1_store 39 = .ok (.iaload, 1) := by decide +kernel
theorem dX1_store_40 : decode cX1_store 40 = .ok (.isub, 1) := by decide +kernel
theorem dX1_store_41 : decode cX1_store 41 = .ok (.if_icmp .le 7, 3) := by decide +kernel
theorem dX1_store_44 : decode cX1_store 44 = .ok (.iconst 3, 1) := by decide +kernel
theorem dX1_store_45 : decode cX1_store 45 = .ok (.goto 4, 3) := by decide +kernel
theorem dX1_store_48 : decode cX1_store 48 = .ok (.iconst 0, 1) := by decide +kernel
theorem dX1_store_49 : decode cX1_store 49 = .ok (.invokevirtual 56, 3) := by decide +kernel
theorem dX1_store_52 : decode cX1_store 52 = .ok (.ifCond .eq 5, 3) := by decide +kernel
theorem dX1_store_55 : decode cX1_store 55 = .ok (.iconst 0, 1) := by decide +kernel
theorem dX1_store_56 : decode cX1_store 56 = .ok (.ireturn, 1) := by decide +kernel
theorem dX1_store_57 : decode cX1_store 57 = .ok (.aload_n 0, 1) := by decide +kernel
theorem dX1_store_58 : decode cX1_store 58 = .ok (.getfield 13, 3) := by decide +kernel
theorem dX1_store_61 : decode cX1_store 61 = .ok (.iload_n 1, 1) := by decide +kernel
theorem dX1_store_62 : decode cX1_store 62 = .ok (.dup2, 1) := by decide +kernel
theorem dX1_store_63 : decode cX1_store 63 = .ok (.iaload, 1) := by decide +kernel
theorem dX1_store_64 : decode cX1_store 64 = .ok (.iload_n 2, 1) := by decide +kernel
theorem dX1_store_65 : decode cX1_store 65 = .ok (.iadd, 1) := by decide +kernel
theorem dX1_store_66 : decode cX1_store 66 = .ok (.iastore, 1) := by decide +kernel
theorem dX1_store_67 : decode cX1_store 67 = .ok (.aload_n 0, 1) := by decide +kernel
theorem dX1_store_68 : decode cX1_store 68 = .ok (.getfield 13, 3) := by decide +kernel
theorem dX1_store_71 : decode cX1_store 71 = .ok (.iload_n 1, 1) := by decide +kernel
theorem dX1_store_72 : decode cX1_store 72 = .ok (.iaload, 1) := by decide +kernel
theorem dX1_store_73 : decode cX1_store 73 = .ok (.aload_n 0, 1) := by decide +kernel
theorem dX1_store_74 : decode cX1_store 74 = .ok (.getfield 16, 3) := by decide +kernel
theorem dX1_store_77 : decode cX1_store 77 = .ok (.iload_n 1, 1) := by decide +kernel
theorem dX1_store_78 : decode cX1_store 78 = .ok (.iaload, 1) := by decide +kernel
theorem dX1_store_79 : decode cX1_store 79 = .ok (.isub, 1) := by decide +kernel
theorem dX1_store_80 : decode cX1_store 80 = .ok (.ireturn, 1) := by decide +kernel
set_option maxRecDepth 20000 in
theorem ggX1_place_X1_isLine : GoodIn wsX1_place wsX1_isLine := goodIn_r _ [8, 9, 10, 11, 7, 12, 18, 19, 20, 21, 22, 23, 24, 25, 26, 27, 28, 29, 30, 31] (by decide +kernel) (by decide +kernel)
set_option maxRecDepth 20000 in
theorem gX1_place_X1_isLine : GoodIn wsX1_place (wsV RX1 64 RX1 yX1_isLine wsX1_isLine) := goodIn_app (goodIn_of _ (by decide +kernel)) ggX1_place_X1_isLine
set_option maxRecDepth 20000 in
theorem ggX1_place_X1_in : GoodIn wsX1_place wsX1_in := goodIn_r _ [12] (by decide +kernel) (by decide +kernel)
set_option maxRecDepth 20000 in
theorem gX1_place_X1_in : GoodIn wsX1_place (va_wsS RX1 47 yX1_in wsX1_in) := goodIn_app (goodIn_of _ (by decide +kernel)) ggX1_place_X1_in
set_option maxRecDepth 20000 in
theorem ggX1_place_X1_refused : GoodIn wsX1_place wsX1_refused := goodIn_r _ [16, 17, 18, 19, 20, 21, 22, 23, 24, 25, 26, 27, 28, 29, 30, 31] (by decide +kernel) (by decide +kernel)
set_option maxRecDepth 20000 in
theorem gX1_place_X1_refused : GoodIn wsX1_place (wsV RX1 56 RX1 yX1_refused wsX1_refused) := goodIn_app (goodIn_of _ (by decide +kernel)) ggX1_place_X1_refused
theorem dX1_place_0 : decode cX1_place 0 = .ok (.aload_n 0, 1) := by decide +kernel
theorem dX1_place_1 : decode cX1_place 1 = .ok (.aload_n 0, 1) := by decide +kernel
theorem dX1_place_2 : decode cX1_place 2 = .ok (.iload_n 1, 1) := by decide +kernel
theorem dX1_place_3 : decode cX1_place 3 = .ok (.invokevirtual 64, 3) := by decide +kernel
theorem dX1_place_6 : decode cX1_place 6 = .ok (.ifCond .ne 7, 3) := by decide +kernel
theorem dX1_place_9 : decode cX1_place 9 = .ok (.iconst 1, 1) := by decide +kernel
theorem dX1_place_10 : decode cX1_place 10 = .ok (.goto 39, 3) := by decide +kernel
theorem dX1_place_13 : decode cX1_place 13 = .ok (.iload_n 2, 1) := by decide +kernel
theorem dX1_place_14 : decode cX1_place 14 = .ok (.iconst 1, 1) := by decide +kernel
theorem dX1_place_15 : decode cX1_place 15 = .ok (.ldc 55, 2) := by decide +kernel
theorem dX1_place_17 : decode cX1_place 17 = .ok (.invokestatic 47, 3) := by decide +kernel
theorem dX1_place_20 : decode cX1_place 20 = .ok (.ifCond .ne 7, 3) := by decide +kernel
theorem dX1_place_23 : decode cX1_place 23 = .ok (.iconst 2, 1) := by decide +kernel
theorem dX1_place_24 : decode cX1_place 24 = .ok (.goto 25, 3) := by decide +kernel
theorem dX1_place_27 : decode cX1_place 27 = .ok (.iload_n 2, 1) := by decide +kernel
theorem dX1_place_28 : decode cX1_place 28 = .ok (.aload_n 0, 1) := by decide +kernel
theorem dX1_place_29 : decode cX1_place 29 = .ok (.getfield 13, 3) := by decide +kernel
theorem dX1_place_32 : decode cX1_place 32 = .ok (.iload_n 1, 1) := by decide +kernel
theorem dX1_place_33 : decode cX1_place 33 = .ok (.iaload, 1) := by decide +kernel
theorem dX1_place_34 : decode cX1_place 34 = .ok (.aload_n 0, 1) := by decide +kernel
theorem dX1_place_35 : decode cX1_place 35 = .ok (.getfield 16, 3) := by decide +kernel
theorem dX1_place_38 : decode cX1_place 38 = .ok (.iload_n 1, 1) := by decide +kernel
theorem dX1_place_39 : decode cX1_place 39 = .ok (.iaload, 1) := by decide +kernel
theorem dX1_place_40 : decode cX1_place 40 = .ok (.isub, 1) := by decide +kernel
theorem dX1_place_41 : decode cX1_place 41 = .ok (.if_icmp .le 7, 3) := by decide +kernel
theorem dX1_place_44 : decode cX1_place 44 = .ok (.iconst 3, 1) := by decide +kernel
theorem dX1_place_45 : decode cX1_place 45 = .ok (.goto 4, 3) := by decide +kernel
theorem dX1_place_48 : decode cX1_place 48 = .ok (.iconst 0, 1) := by decide +kernel
theorem dX1_place_49 : decode cX1_place 49 = .ok (.invokevirtual 56, 3) := by decide +kernel
theorem dX1_place_52 : decode cX1_place 52 = .ok (.ifCond .eq 5, 3) := by decide +kernel
theorem dX1_place_55 : decode cX1_place 55 = .ok (.iconst 0, 1) := by decide +kernel
theorem dX1_place_56 : decode cX1_place 56 = .ok (.ireturn, 1) := by decide +kernel
theorem dX1_place_57 : decode cX1_place 57 = .ok (.aload_n 0, 1) := by decide +kernel
theorem dX1_place_58 : decode cX1_place 58 = .ok (.getfield 16, 3) := by decide +kernel
theorem dX1_place_61 : decode cX1_place 61 = .ok (.iload_n 1, 1) := by decide +kernel
theorem dX1_place_62 : decode cX1_place 62 = .ok (.dup2, 1) := by decide +kernel
theorem dX1_place_63 : decode cX1_place 63 = .ok (.iaload, 1) := by decide +kernel
theorem dX1_place_64 : decode cX1_place 64 = .ok (.iload_n 2, 1) := by decide +kernel
theorem dX1_place_65 : decode cX1_place 65 = .ok (.iadd, 1) := by decide +kernel
theorem dX1_place_66 : decode cX1_place 66 = .ok (.iastore, 1) := by decide +kernel
theorem dX1_place_67 : decode cX1_place 67 = .ok (.aload_n 0, 1) := by decide +kernel
theorem dX1_place_68 : decode cX1_place 68 = .ok (.getfield 16, 3) := by decide +kernel
theorem dX1_place_71 : decode cX1_place 71 = .ok (.iload_n 1, 1) := by decide +kernel
theorem dX1_place_72 : decode cX1_place 72 = .ok (.iaload, 1) := by decide +kernel
theorem dX1_place_73 : decode cX1_place 73 = .ok (.ireturn, 1) := by decide +kernel
theorem dX1_countSteps_0 : decode cX1_countSteps 0 = .ok (.iconst 0, 1) := by decide +kernel
theorem dX1_countSteps_1 : decode cX1_countSteps 1 = .ok (.istore_n 1, 1) := by decide +kernel
theorem dX1_countSteps_2 : decode cX1_countSteps 2 = .ok (.iconst 0, 1) := by decide +kernel
theorem dX1_countSteps_3 : decode cX1_countSteps 3 = .ok (.istore_n 2, 1) := by decide +kernel
theorem dX1_countSteps_4 : decode cX1_countSteps 4 = .ok (.iload_n 2, 1) := by decide +kernel
theorem dX1_countSteps_5 : decode cX1_countSteps 5 = .ok (.sipush 1000, 3) := by decide +kernel
theorem dX1_countSteps_8 : decode cX1_countSteps 8 = .ok (.if_icmp .gt 27, 3) := by decide +kernel
theorem dX1_countSteps_11 : decode cX1_countSteps 11 = .ok (.iload_n 1, 1) := by decide +kernel
theorem dX1_countSteps_12 : decode cX1_countSteps 12 = .ok (.aload_n 0, 1) := by decide +kernel
theorem dX1_countSteps_13 : decode cX1_countSteps 13 = .ok (.getfield 25, 3) := by decide +kernel
theorem dX1_countSteps_16 : decode cX1_countSteps 16 = .ok (.iload_n 2, 1) := by decide +kernel
theorem dX1_countSteps_17 : decode cX1_countSteps 17 = .ok (.iaload, 1) := by decide +kernel
theorem dX1_countSteps_18 : decode cX1_countSteps 18 = .ok (.iconst (-1), 1) := by decide +kernel
theorem dX1_countSteps_19 : decode cX1_countSteps 19 = .ok (.if_icmp .ne 7, 3) := by decide +kernel
theorem dX1_countSteps_22 : decode cX1_countSteps 22 = .ok (.iconst 0, 1) := by decide +kernel
theorem dX1_countSteps_23 : decode cX1_countSteps 23 = .ok (.goto 4, 3) := by decide +kernel
theorem dX1_countSteps_26 : decode cX1_countSteps 26 = .ok (.iconst 1, 1) := by decide +kernel
theorem dX1_countSteps_27 : decode cX1_countSteps 27 = .ok (.iadd, 1) := by decide +kernel
theorem dX1_countSteps_28 : decode cX1_countSteps 28 = .ok (.istore_n 1, 1) := by decide +kernel
theorem dX1_countSteps_29 : decode cX1_countSteps 29 = .ok (.iinc 2 1, 3) := by decide +kernel
theorem dX1_countSteps_32 : decode cX1_countSteps 32 = .ok (.goto (-28), 3) := by decide +kernel
theorem dX1_countSteps_35 : decode cX1_countSteps 35 = .ok (.iload_n 1, 1) := by decide +kernel
theorem dX1_countSteps_36 : decode cX1_countSteps 36 = .ok (.ireturn, 1) := by decide +kernel
set_option maxRecDepth 20000 in
theorem ggX1_setStep_X1_in : GoodIn wsX1_setStep wsX1_in := goodIn_r _ [5] (by decide +kernel) (by decide +kernel)
set_option maxRecDepth 20000 in
theorem gX1_setStep_X1_in : GoodIn wsX1_setStep (va_wsS RX1 47 yX1_in wsX1_in) := goodIn_app (goodIn_of _ (by decide +kernel)) ggX1_setStep_X1_in
set_option maxRecDepth 20000 in
theorem ggX1_setStep_X1_countSteps : GoodIn wsX1_setStep wsX1_countSteps := goodIn_r _ [9, 1, 15, 16, 17, 18, 19, 20, 21, 22, 23, 24, 25, 26, 27, 28] (by decide +kernel) (by decide +kernel)
set_option maxRecDepth 20000 in
theorem gX1_setStep_X1_countSteps : GoodIn wsX1_setStep (wsV RX1 75 RX1 yX1_countSteps wsX1_countSteps) := goodIn_app (goodIn_of _ (by decide +kernel)) ggX1_setStep_X1_countSteps
set_option maxRecDepth 20000 in
theorem ggX1_setStep_X1_refused : GoodIn wsX1_setStep wsX1_refused := goodIn_r _ [13, 14, 15, 16, 17, 18, 19, 20, 21, 22, 23, 24, 25, 26, 27, 28] (by decide +kernel) (by decide +kernel)
set_option maxRecDepth 20000 in
theorem gX1_setStep_X1_refused : GoodIn wsX1_setStep (wsV RX1 56 RX1 yX1_refused wsX1_refused) := goodIn_app (goodIn_of _ (by decide +kernel)) ggX1_setStep_X1_refused
theorem dX1_setStep_0 : decode cX1_setStep 0 = .ok (.iload_n 1, 1) := by decide +kernel
theorem dX1_setStep_1 : decode cX1_setStep 1 = .ok (.iconst 0, 1) := by decide +kernel
theorem dX1_setStep_2 : decode cX1_setStep 2 = .ok (.sipush 1000, 3) := by decide +kernel
theorem dX1_setStep_5 : decode cX1_setStep 5 = .ok (.invokestatic 47, 3) := by decide +kernel
theorem dX1_setStep_8 : decode cX1_setStep 8 = .ok (.ifCond .eq 18, 3) := by decide +kernel
theorem dX1_setStep_11 : decode cX1_setStep 11 = .ok (.iload_n 2, 1) := by decide +kernel
theorem dX1_setStep_12 : decode cX1_setStep 12 = .ok (.iconst 0, 1) := by decide +kernel
theorem dX1_setStep_13 : decode cX1_setStep 13 = .ok (.sipush 1000, 3) := by decide +kernel
theorem dX1_setStep_16 : decode cX1_setStep 16 = .ok (.invokestatic 47, 3) := by decide +kernel
theorem dX1_setStep_19 : decode cX1_setStep 19 = .ok (.ifCond .eq 7, 3) := by decide +kernel
theorem dX1_setStep_22 : decode cX1_setStep 22 = .ok (.iconst 1, 1) := by decide +kernel
theorem dX1_setStep_23 : decode cX1_setStep 23 = .ok (.goto 4, 3) := by decide +kernel
theorem dX1_setStep_26 : decode cX1_setStep 26 = .ok (.iconst 0, 1) := by decide +kernel
theorem dX1_setStep_27 : decode cX1_setStep 27 = .ok (.istore_n 3, 1) := by decide +kernel
theorem dX1_setStep_28 : decode cX1_setStep 28 = .ok (.aload_n 0, 1) := by decide +kernel
theorem dX1_setStep_29 : decode cX1_setStep 29 = .ok (.iload_n 3, 1) := by decide +kernel
theorem dX1_setStep_30 : decode cX1_setStep 30 = .ok (.ifCond .ne 7, 3) := by decide +kernel
theorem dX1_setStep_33 : decode cX1_setStep 33 = .ok (.iconst 1, 1) := by decide +kernel
theorem dX1_setStep_34 : decode cX1_setStep 34 = .ok (.goto 27, 3) := by decide +kernel
theorem dX1_setStep_37 : decode cX1_setStep 37 = .ok (.aload_n 0, 1) := by decide +kernel
theorem dX1_setStep_38 : decode cX1_setStep 38 = .ok (.getfield 25, 3) := by decide +kernel
theorem dX1_setStep_41 : decode cX1_setStep 41 = .ok (.iload_n 1, 1) := by decide +kernel
theorem dX1_setStep_42 : decode cX1_setStep 42 = .ok (.iaload, 1) := by decide +kernel
theorem dX1_setStep_43 : decode cX1_setStep 43 = .ok (.iconst (-1), 1) := by decide +kernel
theorem dX1_setStep_44 : decode cX1_setStep 44 = .ok (.if_icmp .ne 16, 3) := by decide +kernel
theorem dX1_setStep_47 : decode cX1_setStep 47 = .ok (.aload_n 0, 1) := by decide +kernel
theorem dX1_setStep_48 : decode cX1_setStep 48 = .ok (.invokevirtual 75, 3) := by decide +kernel
theorem dX1_setStep_51 : decode cX1_setStep 51 = .ok (.bipush 6, 2) := by decide +kernel
theorem dX1_setStep_53 : decode cX1_setStep 53 = .ok (.if_icmp .ne 7, 3) := by decide +kernel
theorem dX1_setStep_56 : decode cX1_setStep 56 = .ok (.iconst 2, 1) := by decide +kernel
theorem dX1_setStep_57 : decode cX1_setStep 57 = .ok (.goto 4, 3) := by decide +kernel
theorem dX1_setStep_60 : decode cX1_setStep 60 = .ok (.iconst 0, 1) := by decide +kernel
theorem dX1_setStep_61 : decode cX1_setStep 61 = .ok (.invokevirtual 56, 3) := by decide +kernel
theorem dX1_setStep_64 : decode cX1_setStep 64 = .ok (.ifCond .eq 5, 3) := by decide +kernel
theorem dX1_setStep_67 : decode cX1_setStep 67 = .ok (.iconst 0, 1) := by decide +kernel
theorem dX1_setStep_68 : decode cX1_setStep 68 = .ok (.ireturn, 1) := by decide +kernel
theorem dX1_setStep_69 : decode cX1_setStep 69 = .ok (.aload_n 0, 1) := by decide +kernel
theorem dX1_setStep_70 : decode cX1_setStep 70 = .ok (.getfield 25, 3) := by decide +kernel
theorem dX1_setStep_73 : decode cX1_setStep 73 = .ok (.iload_n 1, 1) := by decide +kernel
theorem dX1_setStep_74 : decode cX1_setStep 74 = .ok (.iaload, 1) := by decide +kernel
theorem dX1_setStep_75 : decode cX1_setStep 75 = .ok (.istore 4, 2) := by decide +kernel
theorem dX1_setStep_77 : decode cX1_setStep 77 = .ok (.aload_n 0, 1) := by decide +kernel
theorem dX1_setStep_78 : decode cX1_setStep 78 = .ok (.getfield 25, 3) := by decide +kernel
theorem dX1_setStep_81 : decode cX1_setStep 81 = .ok (.iload_n 1, 1) := by decide +kernel
theorem dX1_setStep_82 : decode cX1_setStep 82 = .ok (.iload_n 2, 1) := by decide +kernel
theorem dX1_setStep_83 : decode cX1_setStep 83 = .ok (.iastore, 1) := by decide +kernel
theorem dX1_setStep_84 : decode cX1_setStep 84 = .ok (.iload 4, 2) := by decide +kernel
theorem dX1_setStep_86 : decode cX1_setStep 86 = .ok (.ireturn, 1) := by decide +kernel
set_option maxRecDepth 20000 in
theorem ggX1_dropStep_X1_in : GoodIn wsX1_dropStep wsX1_in := goodIn_r _ [5] (by decide +kernel) (by decide +kernel)
set_option maxRecDepth 20000 in
theorem gX1_dropStep_X1_in : GoodIn wsX1_dropStep (va_wsS RX1 47 yX1_in wsX1_in) := goodIn_app (goodIn_of _ (by decide +kernel)) ggX1_dropStep_X1_in
set_option maxRecDepth 20000 in
theorem ggX1_dropStep_X1_refused : GoodIn wsX1_dropStep wsX1_refused := goodIn_r _ [9, 10, 11, 12, 13, 14, 15, 16, 17, 18, 19, 20, 21, 22, 23, 24] (by decide +kernel) (by decide +kernel)
set_option maxRecDepth 20000 in
theorem gX1_dropStep_X1_refused : GoodIn wsX1_dropStep (wsV RX1 56 RX1 yX1_refused wsX1_refused) := goodIn_app (goodIn_of _ (by decide +kernel)) ggX1_dropStep_X1_refused
theorem dX1_dropStep_0 : decode cX1_dropStep 0 = .ok (.iload_n 1, 1) := by decide +kernel
theorem dX1_dropStep_1 : decode cX1_dropStep 1 = .ok (.iconst 1, 1) := by decide +kernel
theorem dX1_dropStep_2 : decode cX1_dropStep 2 = .ok (.sipush 1000, 3) := by decide +kernel
theorem dX1_dropStep_5 : decode cX1_dropStep 5 = .ok (.invokestatic 47, 3) := by decide +kernel
theorem dX1_dropStep_8 : decode cX1_dropStep 8 = .ok (.istore_n 2, 1) := by decide +kernel
theorem dX1_dropStep_9 : decode cX1_dropStep 9 = .ok (.aload_n 0, 1) := by decide +kernel
theorem dX1_dropStep_10 : decode cX1_dropStep 10 = .ok (.iload_n 2, 1) := by decide +kernel
theorem dX1_dropStep_11 : decode cX1_dropStep 11 = .ok (.ifCond .ne 7, 3) := by decide +kernel
theorem dX1_dropStep_14 : decode cX1_dropStep 14 = .ok (.iconst 1, 1) := by decide +kernel
theorem dX1_dropStep_15 : decode cX1_dropStep 15 = .ok (.goto 18, 3) := by decide +kernel
theorem dX1_dropStep_18 : decode cX1_dropStep 18 = .ok (.aload_n 0, 1) := by decide +kernel
theorem dX1_dropStep_19 : decode cX1_dropStep 19 = .ok (.getfield 25, 3) := by decide +kernel
theorem dX1_dropStep_22 : decode cX1_dropStep 22 = .ok (.iload_n 1, 1) := by decide +kernel
theorem dX1_dropStep_23 : decode cX1_dropStep 23 = .ok (.iaload, 1) := by decide +kernel
theorem dX1_dropStep_24 : decode cX1_dropStep 24 = .ok (.iconst (-1), 1) := by decide +kernel
theorem dX1_dropStep_25 : decode cX1_dropStep 25 = .ok (.if_icmp .ne 7, 3) := by decide +kernel
theorem dX1_dropStep_28 : decode cX1_dropStep 28 = .ok (.iconst 2, 1) := by decide +kernel
theorem dX1_dropStep_29 : decode cX1_dropStep 29 = .ok (.goto 4, 3) := by decide +kernel
theorem dX1_dropStep_32 : decode cX1_dropStep 32 = .ok (.iconst 0, 1) := by decide +kernel
theorem dX1_dropStep_33 : decode cX1_dropStep 33 = .ok (.invokevirtual 56, 3) := by decide +kernel
theorem dX1_dropStep_36 : decode cX1_dropStep 36 = .ok (.ifCond .eq 5, 3) := by decide +kernel
theorem dX1_dropStep_39 : decode cX1_dropStep 39 = .ok (.iconst 0, 1) := by decide +kernel
theorem dX1_dropStep_40 : decode cX1_dropStep 40 = .ok (.ireturn, 1) := by decide +kernel
theorem dX1_dropStep_41 : decode cX1_dropStep 41 = .ok (.aload_n 0, 1) := by decide +kernel
theorem dX1_dropStep_42 : decode cX1_dropStep 42 = .ok (.getfield 25, 3) := by decide +kernel
theorem dX1_dropStep_45 : decode cX1_dropStep 45 = .ok (.iload_n 1, 1) := by decide +kernel
theorem dX1_dropStep_46 : decode cX1_dropStep 46 = .ok (.iaload, 1) := by decide +kernel
theorem dX1_dropStep_47 : decode cX1_dropStep 47 = .ok (.istore_n 3, 1) := by decide +kernel
theorem dX1_dropStep_48 : decode cX1_dropStep 48 = .ok (.aload_n 0, 1) := by decide +kernel
theorem dX1_dropStep_49 : decode cX1_dropStep 49 = .ok (.getfield 25, 3) := by decide +kernel
theorem dX1_dropStep_52 : decode cX1_dropStep 52 = .ok (.iload_n 1, 1) := by decide +kernel
theorem dX1_dropStep_53 : decode cX1_dropStep 53 = .ok (.iconst (-1), 1) := by decide +kernel
theorem dX1_dropStep_54 : decode cX1_dropStep 54 = .ok (.iastore, 1) := by decide +kernel
theorem dX1_dropStep_55 : decode cX1_dropStep 55 = .ok (.iload_n 3, 1) := by decide +kernel
theorem dX1_dropStep_56 : decode cX1_dropStep 56 = .ok (.ireturn, 1) := by decide +kernel
theorem dX1_hold_0 : decode cX1_hold 0 = .ok (.aload_n 0, 1) := by decide +kernel
theorem dX1_hold_1 : decode cX1_hold 1 = .ok (.iconst 0, 1) := by decide +kernel
theorem dX1_hold_2 : decode cX1_hold 2 = .ok (.putfield 40, 3) := by decide +kernel
theorem dX1_hold_5 : decode cX1_hold 5 = .ok (.aload_n 0, 1) := by decide +kernel
theorem dX1_hold_6 : decode cX1_hold 6 = .ok (.getfield 79, 3) := by decide +kernel
theorem dX1_hold_9 : decode cX1_hold 9 = .ok (.istore_n 2, 1) := by decide +kernel
theorem dX1_hold_10 : decode cX1_hold 10 = .ok (.aload_n 0, 1) := by decide +kernel
theorem dX1_hold_11 : decode cX1_hold 11 = .ok (.iload_n 1, 1) := by decide +kernel
theorem dX1_hold_12 : decode cX1_hold 12 = .ok (.putfield 79, 3) := by decide +kernel
theorem dX1_hold_15 : decode cX1_hold 15 = .ok (.iload_n 2, 1) := by decide +kernel
theorem dX1_hold_16 : decode cX1_hold 16 = .ok (.ireturn, 1) := by decide +kernel
set_option maxRecDepth 20000 in
theorem ggX1_steps_X1_countSteps : GoodIn wsX1_steps wsX1_countSteps := goodIn_r _ [5, 6, 12, 13, 14, 15, 16, 17, 18, 19, 20, 21, 22, 23, 24, 25] (by decide +kernel) (by decide +kernel)
set_option maxRecDepth 20000 in
theorem gX1_steps_X1_countSteps : GoodIn wsX1_steps (wsV RX1 75 RX1 yX1_countSteps wsX1_countSteps) := goodIn_app (goodIn_of _ (by decide +kernel)) ggX1_steps_X1_countSteps
set_option maxRecDepth 20000 in
theorem ggX1_steps_X1_fine : GoodIn wsX1_steps wsX1_fine := goodIn_r _ [10, 11, 12, 13, 14, 15, 16, 17, 18, 19, 20, 21, 22, 23, 24, 25] (by decide +kernel) (by decide +kernel)
set_option maxRecDepth 20000 in
theorem gX1_steps_X1_fine : GoodIn wsX1_steps (wsV RX1 83 RX1 yX1_fine wsX1_fine) := goodIn_app (goodIn_of _ (by decide +kernel)) ggX1_steps_X1_fine
theorem dX1_steps_0 : decode cX1_steps 0 = .ok (.aload_n 0, 1) := by decide +kernel
theorem dX1_steps_1 : decode cX1_steps 1 = .ok (.aload_n 0, 1) := by decide +kernel
theorem dX1_steps_2 : decode cX1_steps 2 = .ok (.invokevirtual 75, 3) := by decide +kernel
theorem dX1_steps_5 : decode cX1_steps 5 = .ok (.invokevirtual 83, 3) := by decide +kernel
theorem dX1_steps_8 : decode cX1_steps 8 = .ok (.ireturn, 1) := by decide +kernel
theorem dX1_sum_0 : decode cX1_sum 0 = .ok (.iconst 0, 1) := by decide +kernel
theorem dX1_sum_1 : decode cX1_sum 1 = .ok (.istore_n 2, 1) := by decide +kernel
theorem dX1_sum_2 : decode cX1_sum 2 = .ok (.iconst 0, 1) := by decide +kernel
theorem dX1_sum_3 : decode cX1_sum 3 = .ok (.istore_n 3, 1) := by decide +kernel
theorem dX1_sum_4 : decode cX1_sum 4 = .ok (.iload_n 3, 1) := by decide +kernel
theorem dX1_sum_5 : decode cX1_sum 5 = .ok (.aload_n 0, 1) := by decide +kernel
theorem dX1_sum_6 : decode cX1_sum 6 = .ok (.getfield 44, 3) := by decide +kernel
theorem dX1_sum_9 : decode cX1_sum 9 = .ok (.if_icmp .ge 15, 3) := by decide +kernel
theorem dX1_sum_12 : decode cX1_sum 12 = .ok (.iload_n 2, 1) := by decide +kernel
theorem dX1_sum_13 : decode cX1_sum 13 = .ok (.aload_n 1, 1) := by decide +kernel
theorem dX1_sum_14 : decode cX1_sum 14 = .ok (.iload_n 3, 1) := by decide +kernel
theorem dX1_sum_15 : decode cX1_sum 15 = .ok (.iaload, 1) := by decide +kernel
theorem dX1_sum_16 : decode cX1_sum 16 = .ok (.iadd, 1) := by decide +kernel
theorem dX1_sum_17 : decode cX1_sum 17 = .ok (.istore_n 2, 1) := by decide +kernel
theorem dX1_sum_18 : decode cX1_sum 18 = .ok (.iinc 3 1, 3) := by decide +kernel
theorem dX1_sum_21 : decode cX1_sum 21 = .ok (.goto (-17), 3) := by decide +kernel
theorem dX1_sum_24 : decode cX1_sum 24 = .ok (.iload_n 2, 1) := by decide +kernel
theorem dX1_sum_25 : decode cX1_sum 25 = .ok (.ireturn, 1) := by decide +kernel
set_option maxRecDepth 20000 in
theorem ggX1_reached_X1_sum : GoodIn wsX1_reached wsX1_sum := goodIn_r _ [8, 9, 10, 11, 12, 13, 14, 15, 16, 17, 18, 19, 20, 21, 22, 23] (by decide +kernel) (by decide +kernel)
set_option maxRecDepth 20000 in
theorem gX1_reached_X1_sum : GoodIn wsX1_reached (wsV RX1 87 RX1 yX1_sum wsX1_sum) := goodIn_app (goodIn_of _ (by decide +kernel)) ggX1_reached_X1_sum
theorem dX1_reached_0 : decode cX1_reached 0 = .ok (.aload_n 0, 1) := by decide +kernel
theorem dX1_reached_1 : decode cX1_reached 1 = .ok (.aload_n 0, 1) := by decide +kernel
theorem dX1_reached_2 : decode cX1_reached 2 = .ok (.getfield 7, 3) := by decide +kernel
theorem dX1_reached_5 : decode cX1_reached 5 = .ok (.invokevirtual 87, 3) := by decide +kernel
theorem dX1_reached_8 : decode cX1_reached 8 = .ok (.ifCond .ne 7, 3) := by decide +kernel
theorem dX1_reached_11 : decode cX1_reached 11 = .ok (.iconst 0, 1) := by decide +kernel
theorem dX1_reached_12 : decode cX1_reached 12 = .ok (.goto 27, 3) := by decide +kernel
theorem dX1_reached_15 : decode cX1_reached 15 = .ok (.aload_n 0, 1) := by decide +kernel
theorem dX1_reached_16 : decode cX1_reached 16 = .ok (.aload_n 0, 1) := by decide +kernel
theorem dX1_reached_17 : decode cX1_reached 17 = .ok (.getfield 16, 3) := by decide +kernel
theorem dX1_reached_20 : decode cX1_reached 20 = .ok (.invokevirtual 87, 3) := by decide +kernel
theorem dX1_reached_23 : decode cX1_reached 23 = .ok (.i2l, 1) := by decide +kernel
theorem dX1_reached_24 : decode cX1_reached 24 = .ok (.ldc2_w 53, 3) := by decide +kernel
theorem dX1_reached_27 : decode cX1_reached 27 = .ok (.lmul, 1) := by decide +kernel
theorem dX1_reached_28 : decode cX1_reached 28 = .ok (.aload_n 0, 1) := by decide +kernel
theorem dX1_reached_29 : decode cX1_reached 29 = .ok (.aload_n 0, 1) := by decide +kernel
theorem dX1_reached_30 : decode cX1_reached 30 = .ok (.getfield 7, 3) := by decide +kernel
theorem dX1_reached_33 : decode cX1_reached 33 = .ok (.invokevirtual 87, 3) := by decide +kernel
theorem dX1_reached_36 : decode cX1_reached 36 = .ok (.i2l, 1) := by decide +kernel
theorem dX1_reached_37 : decode cX1_reached 37 = .ok (.ldiv, 1) := by decide +kernel
theorem dX1_reached_38 : decode cX1_reached 38 = .ok (.l2i, 1) := by decide +kernel
theorem dX1_reached_39 : decode cX1_reached 39 = .ok (.ireturn, 1) := by decide +kernel
set_option maxRecDepth 20000 in
theorem ggX1_progress_X1_reached : GoodIn wsX1_progress wsX1_reached := goodIn_r _ [5, 6, 7, 8, 9, 10, 11, 4, 12, 13, 19, 20, 21, 22, 23, 24, 25, 26, 27, 28, 29, 30, 31, 32] (by decide +kernel) (by decide +kernel)
set_option maxRecDepth 20000 in
theorem gX1_progress_X1_reached : GoodIn wsX1_progress (wsV RX1 91 RX1 yX1_reached wsX1_reached) := goodIn_app (goodIn_of _ (by decide +kernel)) ggX1_progress_X1_reached
set_option maxRecDepth 20000 in
theorem ggX1_progress_X1_fine : GoodIn wsX1_progress wsX1_fine := goodIn_r _ [17, 18, 19, 20, 21, 22, 23, 24, 25, 26, 27, 28, 29, 30, 31, 32] (by decide +kernel) (by decide +kernel)
set_option maxRecDepth 20000 in
theorem gX1_progress_X1_fine : GoodIn wsX1_progress (wsV RX1 83 RX1 yX1_fine wsX1_fine) := goodIn_app (goodIn_of _ (by decide +kernel)) ggX1_progress_X1_fine
theorem dX1_progress_0 : decode cX1_progress 0 = .ok (.aload_n 0, 1) := by decide +kernel
theorem dX1_progress_1 : decode cX1_progress 1 = .ok (.aload_n 0, 1) := by decide +kernel
theorem dX1_progress_2 : decode cX1_progress 2 = .ok (.invokevirtual 91, 3) := by decide +kernel
theorem dX1_progress_5 : decode cX1_progress 5 = .ok (.invokevirtual 83, 3) := by decide +kernel
theorem dX1_progress_8 : decode cX1_progress 8 = .ok (.ireturn, 1) := by decide +kernel
set_option maxRecDepth 20000 in
theorem ggX1_rateNow_X1_reached : GoodIn wsX1_rateNow wsX1_reached := goodIn_r _ [6, 7, 8, 9, 10, 11, 12, 5, 13, 14, 15, 16, 17, 18, 19, 20, 21, 22, 23, 24, 25, 26, 27, 28] (by decide +kernel) (by decide +kernel)
set_option maxRecDepth 20000 in
theorem gX1_rateNow_X1_reached : GoodIn wsX1_rateNow (wsV RX1 91 RX1 yX1_reached wsX1_reached) := goodIn_app (goodIn_of _ (by decide +kernel)) ggX1_rateNow_X1_reached
theorem dX1_rateNow_0 : decode cX1_rateNow 0 = .ok (.aload_n 0, 1) := by decide +kernel
theorem dX1_rateNow_1 : decode cX1_rateNow 1 = .ok (.invokevirtual 91, 3) := by decide +kernel
theorem dX1_rateNow_4 : decode cX1_rateNow 4 = .ok (.istore_n 1, 1) := by decide +kernel
theorem dX1_rateNow_5 : decode cX1_rateNow 5 = .ok (.aload_n 0, 1) := by decide +kernel
theorem dX1_rateNow_6 : decode cX1_rateNow 6 = .ok (.getfield 25, 3) := by decide +kernel
theorem dX1_rateNow_9 : decode cX1_rateNow 9 = .ok (.iload_n 1, 1) := by decide +kernel
theorem dX1_rateNow_10 : decode cX1_rateNow 10 = .ok (.iaload, 1) := by decide +kernel
theorem dX1_rateNow_11 : decode cX1_rateNow 11 = .ok (.iconst (-1), 1) := by decide +kernel
theorem dX1_rateNow_12 : decode cX1_rateNow 12 = .ok (.if_icmp .ne 9, 3) := by decide +kernel
theorem dX1_rateNow_15 : decode cX1_rateNow 15 = .ok (.iinc 1 (-1), 3) := by decide +kernel
theorem dX1_rateNow_18 : decode cX1_rateNow 18 = .ok (.goto (-13), 3) := by decide +kernel
theorem dX1_rateNow_21 : decode cX1_rateNow 21 = .ok (.aload_n 0, 1) := by decide +kernel
theorem dX1_rateNow_22 : decode cX1_rateNow 22 = .ok (.getfield 25, 3) := by decide +kernel
theorem dX1_rateNow_25 : decode cX1_rateNow 25 = .ok (.iload_n 1, 1) := by decide +kernel
theorem dX1_rateNow_26 : decode cX1_rateNow 26 = .ok (.iaload, 1) := by decide +kernel
theorem dX1_rateNow_27 : decode cX1_rateNow 27 = .ok (.ireturn, 1) := by decide +kernel
set_option maxRecDepth 20000 in
theorem ggX1_rate_X1_rateNow : GoodIn wsX1_rate wsX1_rateNow := goodIn_r _ [5, 6, 7, 8, 9, 4, 10, 11, 12, 13, 14, 15, 16, 17, 18, 24, 25, 26, 27, 28, 29, 30, 31, 32, 33, 34, 35, 36, 37] (by decide +kernel) (by decide +kernel)
set_option maxRecDepth 20000 in
theorem gX1_rate_X1_rateNow : GoodIn wsX1_rate (wsV RX1 94 RX1 yX1_rateNow wsX1_rateNow) := goodIn_app (goodIn_of _ (by decide +kernel)) ggX1_rate_X1_rateNow
set_option maxRecDepth 20000 in
theorem ggX1_rate_X1_fine : GoodIn wsX1_rate wsX1_fine := goodIn_r _ [22, 23, 24, 25, 26, 27, 28, 29, 30, 31, 32, 33, 34, 35, 36, 37] (by decide +kernel) (by decide +kernel)
set_option maxRecDepth 20000 in
theorem gX1_rate_X1_fine : GoodIn wsX1_rate (wsV RX1 83 RX1 yX1_fine wsX1_fine) := goodIn_app (goodIn_of _ (by decide +kernel)) ggX1_rate_X1_fine
theorem dX1_rate_0 : decode cX1_rate 0 = .ok (.aload_n 0, 1) := by decide +kernel
theorem dX1_rate_1 : decode cX1_rate 1 = .ok (.aload_n 0, 1) := by decide +kernel
theorem dX1_rate_2 : decode cX1_rate 2 = .ok (.invokevirtual 94, 3) := by decide +kernel
theorem dX1_rate_5 : decode cX1_rate 5 = .ok (.invokevirtual 83, 3) := by decide +kernel
theorem dX1_rate_8 : decode cX1_rate 8 = .ok (.ireturn, 1) := by decide +kernel
set_option maxRecDepth 20000 in
theorem ggX1_holdsThen_X1_rateNow : GoodIn wsX1_holdsThen wsX1_rateNow := goodIn_r _ [9, 10, 11, 12, 13, 8, 14, 15, 16, 17, 18, 19, 20, 21, 22, 27, 28, 29, 30, 31, 32, 33, 34, 35, 36, 37, 38, 39, 40] (by decide +kernel) (by decide +kernel)
set_option maxRecDepth 20000 in
theorem gX1_holdsThen_X1_rateNow : GoodIn wsX1_holdsThen (wsV RX1 94 RX1 yX1_rateNow wsX1_rateNow) := goodIn_app (goodIn_of _ (by decide +kernel)) ggX1_holdsThen_X1_rateNow
set_option maxRecDepth 20000 in
theorem ggX1_holdsThen_X1_thousandths : GoodIn wsX1_holdsThen wsX1_thousandths := goodIn_r _ [25, 26, 17] (by decide +kernel) (by decide +kernel)
set_option maxRecDepth 20000 in
theorem gX1_holdsThen_X1_thousandths : GoodIn wsX1_holdsThen (va_wsS RX1 71 yX1_thousandths wsX1_thousandths) := goodIn_app (goodIn_of _ (by decide +kernel)) ggX1_holdsThen_X1_thousandths
theorem dX1_holdsThen_0 : decode cX1_holdsThen 0 = .ok (.aload_n 0, 1) := by decide +kernel
theorem dX1_holdsThen_1 : decode cX1_holdsThen 1 = .ok (.invokevirtual 94, 3) := by decide +kernel
theorem dX1_holdsThen_4 : decode cX1_holdsThen 4 = .ok (.istore_n 2, 1) := by decide +kernel
theorem dX1_holdsThen_5 : decode cX1_holdsThen 5 = .ok (.aload_n 0, 1) := by decide +kernel
theorem dX1_holdsThen_6 : decode cX1_holdsThen 6 = .ok (.getfield 79, 3) := by decide +kernel
theorem dX1_holdsThen_9 : decode cX1_holdsThen 9 = .ok (.ifCond .eq 30, 3) := by decide +kernel
theorem dX1_holdsThen_12 : decode cX1_holdsThen 12 = .ok (.aload_n 0, 1) := by decide +kernel
theorem dX1_holdsThen_13 : decode cX1_holdsThen 13 = .ok (.getfield 22, 3) := by decide +kernel
theorem dX1_holdsThen_16 : decode cX1_holdsThen 16 = .ok (.iload_n 1, 1) := by decide +kernel
theorem dX1_holdsThen_17 : decode cX1_holdsThen 17 = .ok (.iaload, 1) := by decide +kernel
theorem dX1_holdsThen_18 : decode cX1_holdsThen 18 = .ok (.aload_n 0, 1) := by decide +kernel
theorem dX1_holdsThen_19 : decode cX1_holdsThen 19 = .ok (.getfield 13, 3) := by decide +kernel
theorem dX1_holdsThen_22 : decode cX1_holdsThen 22 = .ok (.iload_n 1, 1) := by decide +kernel
theorem dX1_holdsThen_23 : decode cX1_holdsThen 23 = .ok (.iaload, 1) := by decide +kernel
theorem dX1_holdsThen_24 : decode cX1_holdsThen 24 = .ok (.aload_n 0, 1) := by decide +kernel
theorem dX1_holdsThen_25 : decode cX1_holdsThen 25 = .ok (.getfield 19, 3) := by decide +kernel
theorem dX1_holdsThen_28 : decode cX1_holdsThen 28 = .ok (.iload_n 1, 1) := by decide +kernel
theorem dX1_holdsThen_29 : decode cX1_holdsThen 29 = .ok (.iaload, 1) := by decide +kernel
theorem dX1_holdsThen_30 : decode cX1_holdsThen 30 = .ok (.isub, 1) := by decide +kernel
theorem dX1_holdsThen_31 : decode cX1_holdsThen 31 = .ok (.iload_n 2, 1) := by decide +kernel
theorem dX1_holdsThen_32 : decode cX1_holdsThen 32 = .ok (.invokestatic 71, 3) := by decide +kernel
theorem dX1_holdsThen_35 : decode cX1_holdsThen 35 = .ok (.iadd, 1) := by decide +kernel
theorem dX1_holdsThen_36 : decode cX1_holdsThen 36 = .ok (.goto 13, 3) := by decide +kernel
theorem dX1_holdsThen_39 : decode cX1_holdsThen 39 = .ok (.aload_n 0, 1) := by decide +kernel
theorem dX1_holdsThen_40 : decode cX1_holdsThen 40 = .ok (.getfield 13, 3) := by decide +kernel
theorem dX1_holdsThen_43 : decode cX1_holdsThen 43 = .ok (.iload_n 1, 1) := by decide +kernel
theorem dX1_holdsThen_44 : decode cX1_holdsThen 44 = .ok (.iaload, 1) := by decide +kernel
theorem dX1_holdsThen_45 : decode cX1_holdsThen 45 = .ok (.iload_n 2, 1) := by decide +kernel
theorem dX1_holdsThen_46 : decode cX1_holdsThen 46 = .ok (.invokestatic 71, 3) := by decide +kernel
theorem dX1_holdsThen_49 : decode cX1_holdsThen 49 = .ok (.ireturn, 1) := by decide +kernel
set_option maxRecDepth 20000 in
theorem ggX1_amountNow_X1_sum : GoodIn wsX1_amountNow wsX1_sum := goodIn_r _ [9, 2, 33, 34, 35, 36, 37, 38, 39, 40, 41, 42, 43, 44, 45, 46] (by decide +kernel) (by decide +kernel)
set_option maxRecDepth 20000 in
theorem gX1_amountNow_X1_sum : GoodIn wsX1_amountNow (wsV RX1 87 RX1 yX1_sum wsX1_sum) := goodIn_app (goodIn_of _ (by decide +kernel)) ggX1_amountNow_X1_sum
set_option maxRecDepth 20000 in
theorem ggX1_amountNow_X1_holdsThen : GoodIn wsX1_amountNow wsX1_holdsThen := goodIn_r _ [13, 14, 15, 1, 16, 17, 18, 19, 8, 20, 21, 22, 23, 24, 25, 26, 27, 28, 5, 6, 7, 9, 2, 29, 30, 31, 32, 33, 34, 35, 36, 37, 38, 39, 40, 41, 42, 43, 44, 45, 46] (by decide +kernel) (by decide +kernel)
set_option maxRecDepth 20000 in
theorem gX1_amountNow_X1_holdsThen : GoodIn wsX1_amountNow (wsV RX1 97 RX1 yX1_holdsThen wsX1_holdsThen) := goodIn_app (goodIn_of _ (by decide +kernel)) ggX1_amountNow_X1_holdsThen
theorem dX1_amountNow_0 : decode cX1_amountNow 0 = .ok (.aload_n 0, 1) := by decide +kernel
theorem dX1_amountNow_1 : decode cX1_amountNow 1 = .ok (.aload_n 0, 1) := by decide +kernel
theorem dX1_amountNow_2 : decode cX1_amountNow 2 = .ok (.getfield 13, 3) := by decide +kernel
theorem dX1_amountNow_5 : decode cX1_amountNow 5 = .ok (.invokevirtual 87, 3) := by decide +kernel
theorem dX1_amountNow_8 : decode cX1_amountNow 8 = .ok (.istore_n 1, 1) := by decide +kernel
theorem dX1_amountNow_9 : decode cX1_amountNow 9 = .ok (.iconst 0, 1) := by decide +kernel
theorem dX1_amountNow_10 : decode cX1_amountNow 10 = .ok (.istore_n 2, 1) := by decide +kernel
theorem dX1_amountNow_11 : decode cX1_amountNow 11 = .ok (.iload_n 2, 1) := by decide +kernel
theorem dX1_amountNow_12 : decode cX1_amountNow 12 = .ok (.aload_n 0, 1) := by decide +kernel
theorem dX1_amountNow_13 : decode cX1_amountNow 13 = .ok (.getfield 44, 3) := by decide +kernel
theorem dX1_amountNow_16 : decode cX1_amountNow 16 = .ok (.if_icmp .ge 17, 3) := by decide +kernel
theorem dX1_amountNow_19 : decode cX1_amountNow 19 = .ok (.iload_n 1, 1) := by decide +kernel
theorem dX1_amountNow_20 : decode cX1_amountNow 20 = .ok (.aload_n 0, 1) := by decide +kernel
theorem dX1_amountNow_21 : decode cX1_amountNow 21 = .ok (.iload_n 2, 1) := by decide +kernel
theorem dX1_amountNow_22 : decode cX1_amountNow 22 = .ok (.invokevirtual 97, 3) := by decide +kernel
theorem dX1_amountNow_25 : decode cX1_amountNow 25 = .ok (.isub, 1) := by decide +kernel
theorem dX1_amountNow_26 : decode cX1_amountNow 26 = .ok (.istore_n 1, 1) := by decide +kernel
theorem dX1_amountNow_27 : decode cX1_amountNow 27 = .ok (.iinc 2 1, 3) := by decide +kernel
theorem dX1_amountNow_30 : decode cX1_amountNow 30 = .ok (.goto (-19), 3) := by decide +kernel
theorem dX1_amountNow_33 : decode cX1_amountNow 33 = .ok (.iconst 0, 1) := by decide +kernel
theorem dX1_amountNow_34 : decode cX1_amountNow 34 = .ok (.istore_n 2, 1) := by decide +kernel
theorem dX1_amountNow_35 : decode cX1_amountNow 35 = .ok (.iload_n 2, 1) := by decide +kernel
theorem dX1_amountNow_36 : decode cX1_amountNow 36 = .ok (.aload_n 0, 1) := by decide +kernel
theorem dX1_amountNow_37 : decode cX1_amountNow 37 = .ok (.getfield 100, 3) := by decide +kernel
theorem dX1_amountNow_40 : decode cX1_amountNow 40 = .ok (.if_icmp .ge 18, 3) := by decide +kernel
theorem dX1_amountNow_43 : decode cX1_amountNow 43 = .ok (.iload_n 1, 1) := by decide +kernel
theorem dX1_amountNow_44 : decode cX1_amountNow 44 = .ok (.aload_n 0, 1) := by decide +kernel
theorem dX1_amountNow_45 : decode cX1_amountNow 45 = .ok (.getfield 31, 3) := by decide +kernel
theorem dX1_amountNow_48 : decode cX1_amountNow 48 = .ok (.iload_n 2, 1) := by decide +kernel
theorem dX1_amountNow_49 : decode cX1_amountNow 49 = .ok (.iaload, 1) := by decide +kernel
theorem dX1_amountNow_50 : decode cX1_amountNow 50 = .ok (.isub, 1) := by decide +kernel
theorem dX1_amountNow_51 : decode cX1_amountNow 51 = .ok (.istore_n 1, 1) := by decide +kernel
theorem dX1_amountNow_52 : decode cX1_amountNow 52 = .ok (.iinc 2 1, 3) := by decide +kernel
theorem dX1_amountNow_55 : decode cX1_amountNow 55 = .ok (.goto (-20), 3) := by decide +kernel
theorem dX1_amountNow_58 : decode cX1_amountNow 58 = .ok (.iload_n 1, 1) := by decide +kernel
theorem dX1_amountNow_59 : decode cX1_amountNow 59 = .ok (.ireturn, 1) := by decide +kernel
set_option maxRecDepth 20000 in
theorem ggX1_close_X1_refused : GoodIn wsX1_close wsX1_refused := goodIn_r _ [14, 15, 45, 46, 47, 48, 49, 50, 51, 52, 53, 54, 55, 56, 57, 58] (by decide +kernel) (by decide +kernel)
set_option maxRecDepth 20000 in
theorem gX1_close_X1_refused : GoodIn wsX1_close (wsV RX1 56 RX1 yX1_refused wsX1_refused) := goodIn_app (goodIn_of _ (by decide +kernel)) ggX1_close_X1_refused
set_option maxRecDepth 20000 in
theorem ggX1_close_X1_amountNow : GoodIn wsX1_close wsX1_amountNow := goodIn_r _ [19, 6, 1, 2, 3, 20, 21, 22, 13, 23, 24, 25, 26, 27, 28, 4, 5, 29, 30, 31, 32, 33, 34, 35, 36, 37, 38, 39, 40, 41, 42, 43, 44, 45, 46, 47, 48, 49, 50, 51, 52, 53, 54, 55, 56, 57, 58] (by decide +kernel) (by decide +kernel)
set_option maxRecDepth 20000 in
theorem gX1_close_X1_amountNow : GoodIn wsX1_close (wsV RX1 103 RX1 yX1_amountNow wsX1_amountNow) := goodIn_app (goodIn_of _ (by decide +kernel)) ggX1_close_X1_amountNow
set_option maxRecDepth 20000 in
theorem ggX1_close_X1_holdsThen : GoodIn wsX1_close wsX1_holdsThen := goodIn_r _ [27, 28, 4, 6, 5, 29, 30, 31, 13, 32, 33, 34, 35, 36, 37, 38, 39, 40, 20, 21, 22, 23, 1, 41, 42, 43, 44, 45, 46, 47, 48, 49, 50, 51, 52, 53, 54, 55, 56, 57, 58] (by decide +kernel) (by decide +kernel)
set_option maxRecDepth 20000 in
theorem gX1_close_X1_holdsThen : GoodIn wsX1_close (wsV RX1 97 RX1 yX1_holdsThen wsX1_holdsThen) := goodIn_app (goodIn_of _ (by decide +kernel)) ggX1_close_X1_holdsThen
set_option maxRecDepth 20000 in
theorem ggX1_close_X1_sum : GoodIn wsX1_close wsX1_sum := goodIn_r _ [23, 1, 45, 46, 47, 48, 49, 50, 51, 52, 53, 54, 55, 56, 57, 58] (by decide +kernel) (by decide +kernel)
set_option maxRecDepth 20000 in
theorem gX1_close_X1_sum : GoodIn wsX1_close (wsV RX1 87 RX1 yX1_sum wsX1_sum) := goodIn_app (goodIn_of _ (by decide +kernel)) ggX1_close_X1_sum
theorem dX1_close_0 : decode cX1_close 0 = .ok (.aload_n 0, 1) := by decide +kernel
theorem dX1_close_1 : decode cX1_close 1 = .ok (.aload_n 0, 1) := by decide +kernel
theorem dX1_close_2 : decode cX1_close 2 = .ok (.getfield 44, 3) := by decide +kernel
theorem dX1_close_5 : decode cX1_close 5 = .ok (.ifCond .eq 12, 3) := by decide +kernel
theorem dX1_close_8 : decode cX1_close 8 = .ok (.aload_n 0, 1) := by decide +kernel
theorem dX1_close_9 : decode cX1_close 9 = .ok (.getfield 100, 3) := by decide +kernel
theorem dX1_close_12 : decode cX1_close 12 = .ok (.bipush 60, 2) := by decide +kernel
theorem dX1_close_14 : decode cX1_close 14 = .ok (.if_icmp .ne 7, 3) := by decide +kernel
theorem dX1_close_17 : decode cX1_close 17 = .ok (.iconst 1, 1) := by decide +kernel
theorem dX1_close_18 : decode cX1_close 18 = .ok (.goto 4, 3) := by decide +kernel
theorem dX1_close_21 : decode cX1_close 21 = .ok (.iconst 0, 1) := by decide +kernel
theorem dX1_close_22 : decode cX1_close 22 = .ok (.invokevirtual 56, 3) := by decide +kernel
theorem dX1_close_25 : decode cX1_close 25 = .ok (.ifCond .eq 5, 3) := by decide +kernel
theorem dX1_close_28 : decode cX1_close 28 = .ok (.iconst 0, 1) := by decide +kernel
theorem dX1_close_29 : decode cX1_close 29 = .ok (.ireturn, 1) := by decide +kernel
theorem dX1_close_30 : decode cX1_close 30 = .ok (.aload_n 0, 1) := by decide +kernel
theorem dX1_close_31 : decode cX1_close 31 = .ok (.getfield 31, 3) := by decide +kernel
theorem dX1_close_34 : decode cX1_close 34 = .ok (.aload_n 0, 1) := by decide +kernel
theorem dX1_close_35 : decode cX1_close 35 = .ok (.getfield 100, 3) := by decide +kernel
theorem dX1_close_38 : decode cX1_close 38 = .ok (.aload_n 0, 1) := by decide +kernel
theorem dX1_close_39 : decode cX1_close 39 = .ok (.invokevirtual 103, 3) := by decide +kernel
theorem dX1_close_42 : decode cX1_close 42 = .ok (.iastore, 1) := by decide +kernel
theorem dX1_close_43 : decode cX1_close 43 = .ok (.iconst 0, 1) := by decide +kernel
theorem dX1_close_44 : decode cX1_close 44 = .ok (.istore_n 1, 1) := by decide +kernel
theorem dX1_close_45 : decode cX1_close 45 = .ok (.iload_n 1, 1) := by decide +kernel
theorem dX1_close_46 : decode cX1_close 46 = .ok (.aload_n 0, 1) := by decide +kernel
theorem dX1_close_47 : decode cX1_close 47 = .ok (.getfield 44, 3) := by decide +kernel
theorem dX1_close_50 : decode cX1_close 50 = .ok (.if_icmp .ge 32, 3) := by decide +kernel
theorem dX1_close_53 : decode cX1_close 53 = .ok (.aload_n 0, 1) := by decide +kernel
theorem dX1_close_54 : decode cX1_close 54 = .ok (.getfield 22, 3) := by decide +kernel
theorem dX1_close_57 : decode cX1_close 57 = .ok (.iload_n 1, 1) := by decide +kernel
theorem dX1_close_58 : decode cX1_close 58 = .ok (.aload_n 0, 1) := by decide +kernel
theorem dX1_close_59 : decode cX1_close 59 = .ok (.iload_n 1, 1) := by decide +kernel
theorem dX1_close_60 : decode cX1_close 60 = .ok (.invokevirtual 97, 3) := by decide +kernel
theorem dX1_close_63 : decode cX1_close 63 = .ok (.iastore, 1) := by decide +kernel
theorem dX1_close_64 : decode cX1_close 64 = .ok (.aload_n 0, 1) := by decide +kernel
theorem dX1_close_65 : decode cX1_close 65 = .ok (.getfield 19, 3) := by decide +kernel
theorem dX1_close_68 : decode cX1_close 68 = .ok (.iload_n 1, 1) := by decide +kernel
theorem dX1_close_69 : decode cX1_close 69 = .ok (.aload_n 0, 1) := by decide +kernel
theorem dX1_close_70 : decode cX1_close 70 = .ok (.getfield 13, 3) := by decide +kernel
theorem dX1_close_73 : decode cX1_close 73 = .ok (.iload_n 1, 1) := by decide +kernel
theorem dX1_close_74 : decode cX1_close 74 = .ok (.iaload, 1) := by decide +kernel
theorem dX1_close_75 : decode cX1_close 75 = .ok (.iastore, 1) := by decide +kernel
theorem dX1_close_76 : decode cX1_close 76 = .ok (.iinc 1 1, 3) := by decide +kernel
theorem dX1_close_79 : decode cX1_close 79 = .ok (.goto (-34), 3) := by decide +kernel
theorem dX1_close_82 : decode cX1_close 82 = .ok (.aload_n 0, 1) := by decide +kernel
theorem dX1_close_83 : decode cX1_close 83 = .ok (.getfield 28, 3) := by decide +kernel
theorem dX1_close_86 : decode cX1_close 86 = .ok (.aload_n 0, 1) := by decide +kernel
theorem dX1_close_87 : decode cX1_close 87 = .ok (.getfield 100, 3) := by decide +kernel
theorem dX1_close_90 : decode cX1_close 90 = .ok (.iconst 0, 1) := by decide +kernel
theorem dX1_close_91 : decode cX1_close 91 = .ok (.iastore, 1) := by decide +kernel
theorem dX1_close_92 : decode cX1_close 92 = .ok (.aload_n 0, 1) := by decide +kernel
theorem dX1_close_93 : decode cX1_close 93 = .ok (.getfield 34, 3) := by decide +kernel
theorem dX1_close_96 : decode cX1_close 96 = .ok (.aload_n 0, 1) := by decide +kernel
theorem dX1_close_97 : decode cX1_close 97 = .ok (.getfield 100, 3) := by decide +kernel
theorem dX1_close_100 : decode cX1_close 100 = .ok (.aload_n 0, 1) := by decide +kernel
theorem dX1_close_101 : decode cX1_close 101 = .ok (.aload_n 0, 1) := by decide +kernel
theorem dX1_close_102 : decode cX1_close 102 = .ok (.getfield 19, 3) := by decide +kernel
theorem dX1_close_105 : decode cX1_close 105 = .ok (.invokevirtual 87, 3) := by decide +kernel
theorem dX1_close_108 : decode cX1_close 108 = .ok (.iastore, 1) := by decide +kernel
theorem dX1_close_109 : decode cX1_close 109 = .ok (.aload_n 0, 1) := by decide +kernel
theorem dX1_close_110 : decode cX1_close 110 = .ok (.getfield 37, 3) := by decide +kernel
theorem dX1_close_113 : decode cX1_close 113 = .ok (.aload_n 0, 1) := by decide +kernel
theorem dX1_close_114 : decode cX1_close 114 = .ok (.getfield 100, 3) := by decide +kernel
theorem dX1_close_117 : decode cX1_close 117 = .ok (.aload_n 0, 1) := by decide +kernel
theorem dX1_close_118 : decode cX1_close 118 = .ok (.aload_n 0, 1) := by decide +kernel
theorem dX1_close_119 : decode cX1_close 119 = .ok (.getfield 22, 3) := by decide +kernel
theorem dX1_close_122 : decode cX1_close 122 = .ok (.invokevirtual 87, 3) := by decide +kernel
theorem dX1_close_125 : decode cX1_close 125 = .ok (.iastore, 1) := by decide +kernel
theorem dX1_close_126 : decode cX1_close 126 = .ok (.aload_n 0, 1) := by decide +kernel
theorem dX1_close_127 : decode cX1_close 127 = .ok (.dup, 1) := by decide +kernel
theorem dX1_close_128 : decode cX1_close 128 = .ok (.getfield 100, 3) := by decide +kernel
theorem dX1_close_131 : decode cX1_close 131 = .ok (.iconst 1, 1) := by decide +kernel
theorem dX1_close_132 : decode cX1_close 132 = .ok (.iadd, 1) := by decide +kernel
theorem dX1_close_133 : decode cX1_close 133 = .ok (.putfield 100, 3) := by decide +kernel
theorem dX1_close_136 : decode cX1_close 136 = .ok (.aload_n 0, 1) := by decide +kernel
theorem dX1_close_137 : decode cX1_close 137 = .ok (.getfield 100, 3) := by decide +kernel
theorem dX1_close_140 : decode cX1_close 140 = .ok (.iconst 1, 1) := by decide +kernel
theorem dX1_close_141 : decode cX1_close 141 = .ok (.isub, 1) := by decide +kernel
theorem dX1_close_142 : decode cX1_close 142 = .ok (.ireturn, 1) := by decide +kernel
set_option maxRecDepth 20000 in
theorem ggX1_nextAmount_X1_amountNow : GoodIn wsX1_nextAmount wsX1_amountNow := goodIn_r _ [5, 6, 7, 8, 9, 10, 11, 12, 4, 13, 14, 15, 16, 17, 18, 19, 20, 21, 22, 23, 24, 25, 26, 27, 28, 29, 30, 31, 32, 33, 34, 35, 36, 42, 43, 44, 45, 46, 47, 48, 49, 50, 51, 52, 53, 54, 55] (by decide +kernel) (by decide +kernel)
set_option maxRecDepth 20000 in
theorem gX1_nextAmount_X1_amountNow : GoodIn wsX1_nextAmount (wsV RX1 103 RX1 yX1_amountNow wsX1_amountNow) := goodIn_app (goodIn_of _ (by decide +kernel)) ggX1_nextAmount_X1_amountNow
set_option maxRecDepth 20000 in
theorem ggX1_nextAmount_X1_fine : GoodIn wsX1_nextAmount wsX1_fine := goodIn_r _ [40, 41, 42, 43, 44, 45, 46, 47, 48, 49, 50, 51, 52, 53, 54, 55] (by decide +kernel) (by decide +kernel)
set_option maxRecDepth 20000 in
theorem gX1_nextAmount_X1_fine : GoodIn wsX1_nextAmount (wsV RX1 83 RX1 yX1_fine wsX1_fine) := goodIn_app (goodIn_of _ (by decide +kernel)) ggX1_nextAmount_X1_fine
theorem dX1_nextAmount_0 : decode cX1_nextAmount 0 = .ok (.aload_n 0, 1) := by decide +kernel
theorem dX1_nextAmount_1 : decode cX1_nextAmount 1 = .ok (.aload_n 0, 1) := by decide +kernel
theorem dX1_nextAmount_2 : decode cX1_nextAmount 2 = .ok (.invokevirtual 103, 3) := by decide +kernel
theorem dX1_nextAmount_5 : decode cX1_nextAmount 5 = .ok (.invokevirtual 83, 3) := by decide +kernel
theorem dX1_nextAmount_8 : decode cX1_nextAmount 8 = .ok (.ireturn, 1) := by decide +kernel
set_option maxRecDepth 20000 in
theorem ggX1_isApplication_X1_in : GoodIn wsX1_isApplication wsX1_in := goodIn_r _ [5] (by decide +kernel) (by decide +kernel)
set_option maxRecDepth 20000 in
theorem gX1_isApplication_X1_in : GoodIn wsX1_isApplication (va_wsS RX1 47 yX1_in wsX1_in) := goodIn_app (goodIn_of _ (by decide +kernel)) ggX1_isApplication_X1_in
theorem dX1_isApplication_0 : decode cX1_isApplication 0 = .ok (.iload_n 1, 1) := by decide +kernel
theorem dX1_isApplication_1 : decode cX1_isApplication 1 = .ok (.iconst 0, 1) := by decide +kernel
theorem dX1_isApplication_2 : decode cX1_isApplication 2 = .ok (.aload_n 0, 1) := by decide +kernel
theorem dX1_isApplication_3 : decode cX1_isApplication 3 = .ok (.getfield 100, 3) := by decide +kernel
theorem dX1_isApplication_6 : decode cX1_isApplication 6 = .ok (.iconst 1, 1) := by decide +kernel
theorem dX1_isApplication_7 : decode cX1_isApplication 7 = .ok (.isub, 1) := by decide +kernel
theorem dX1_isApplication_8 : decode cX1_isApplication 8 = .ok (.invokestatic 47, 3) := by decide +kernel
theorem dX1_isApplication_11 : decode cX1_isApplication 11 = .ok (.ireturn, 1) := by decide +kernel
theorem dX1_waived_0 : decode cX1_waived 0 = .ok (.iconst 0, 1) := by decide +kernel
theorem dX1_waived_1 : decode cX1_waived 1 = .ok (.istore_n 1, 1) := by decide +kernel
theorem dX1_waived_2 : decode cX1_waived 2 = .ok (.iload_n 1, 1) := by decide +kernel
theorem dX1_waived_3 : decode cX1_waived 3 = .ok (.aload_n 0, 1) := by decide +kernel
theorem dX1_waived_4 : decode cX1_waived 4 = .ok (.getfield 100, 3) := by decide +kernel
theorem dX1_waived_7 : decode cX1_waived 7 = .ok (.if_icmp .ge 19, 3) := by decide +kernel
theorem dX1_waived_10 : decode cX1_waived 10 = .ok (.aload_n 0, 1) := by decide +kernel
theorem dX1_waived_11 : decode cX1_waived 11 = .ok (.getfield 28, 3) := by decide +kernel
theorem dX1_waived_14 : decode cX1_waived 14 = .ok (.iload_n 1, 1) := by decide +kernel
theorem dX1_waived_15 : decode cX1_waived 15 = .ok (.iaload, 1) := by decide +kernel
theorem dX1_waived_16 : decode cX1_waived 16 = .ok (.iconst 2, 1) := by decide +kernel
theorem dX1_waived_17 : decode cX1_waived 17 = .ok (.if_icmp .ne 9, 3) := by decide +kernel
theorem dX1_waived_20 : decode cX1_waived 20 = .ok (.iinc 1 1, 3) := by decide +kernel
theorem dX1_waived_23 : decode cX1_waived 23 = .ok (.goto (-21), 3) := by decide +kernel
theorem dX1_waived_26 : decode cX1_waived 26 = .ok (.iload_n 1, 1) := by decide +kernel
theorem dX1_waived_27 : decode cX1_waived 27 = .ok (.ireturn, 1) := by decide +kernel
set_option maxRecDepth 20000 in
theorem ggX1_pay_X1_isApplication : GoodIn wsX1_pay wsX1_isApplication := goodIn_r _ [7, 8, 9, 10, 6, 11, 21, 22, 23, 24, 25, 26, 27, 28, 29, 30, 31, 32, 33, 34] (by decide +kernel) (by decide +kernel)
set_option maxRecDepth 20000 in
theorem gX1_pay_X1_isApplication : GoodIn wsX1_pay (wsV RX1 106 RX1 yX1_isApplication wsX1_isApplication) := goodIn_app (goodIn_of _ (by decide +kernel)) ggX1_pay_X1_isApplication
set_option maxRecDepth 20000 in
theorem ggX1_pay_X1_waived : GoodIn wsX1_pay wsX1_waived := goodIn_r _ [15, 8, 1, 21, 22, 23, 24, 25, 26, 27, 28, 29, 30, 31, 32, 33, 34] (by decide +kernel) (by decide +kernel)
set_option maxRecDepth 20000 in
theorem gX1_pay_X1_waived : GoodIn wsX1_pay (wsV RX1 109 RX1 yX1_waived wsX1_waived) := goodIn_app (goodIn_of _ (by decide +kernel)) ggX1_pay_X1_waived
set_option maxRecDepth 20000 in
theorem ggX1_pay_X1_refused : GoodIn wsX1_pay wsX1_refused := goodIn_r _ [19, 20, 21, 22, 23, 24, 25, 26, 27, 28, 29, 30, 31, 32, 33, 34] (by decide +kernel) (by decide +kernel)
set_option maxRecDepth 20000 in
theorem gX1_pay_X1_refused : GoodIn wsX1_pay (wsV RX1 56 RX1 yX1_refused wsX1_refused) := goodIn_app (goodIn_of _ (by decide +kernel)) ggX1_pay_X1_refused
theorem dX1_pay_0 : decode cX1_pay 0 = .ok (.aload_n 0, 1) := by decide +kernel
theorem dX1_pay_1 : decode cX1_pay 1 = .ok (.aload_n 0, 1) := by decide +kernel
theorem dX1_pay_2 : decode cX1_pay 2 = .ok (.iload_n 1, 1) := by decide +kernel
theorem dX1_pay_3 : decode cX1_pay 3 = .ok (.invokevirtual 106, 3) := by decide +kernel
theorem dX1_pay_6 : decode cX1_pay 6 = .ok (.ifCond .ne 7, 3) := by decide +kernel
theorem dX1_pay_9 : decode cX1_pay 9 = .ok (.iconst 1, 1) := by decide +kernel
theorem dX1_pay_10 : decode cX1_pay 10 = .ok (.goto 25, 3) := by decide +kernel
theorem dX1_pay_13 : decode cX1_pay 13 = .ok (.aload_n 0, 1) := by decide +kernel
theorem dX1_pay_14 : decode cX1_pay 14 = .ok (.getfield 28, 3) := by decide +kernel
theorem dX1_pay_17 : decode cX1_pay 17 = .ok (.iload_n 1, 1) := by decide +kernel
theorem dX1_pay_18 : decode cX1_pay 18 = .ok (.iaload, 1) := by decide +kernel
theorem dX1_pay_19 : decode cX1_pay 19 = .ok (.ifCond .ne 11, 3) := by decide +kernel
theorem dX1_pay_22 : decode cX1_pay 22 = .ok (.aload_n 0, 1) := by decide +kernel
theorem dX1_pay_23 : decode cX1_pay 23 = .ok (.invokevirtual 109, 3) := by decide +kernel
theorem dX1_pay_26 : decode cX1_pay 26 = .ok (.iload_n 1, 1) := by decide +kernel
theorem dX1_pay_27 : decode cX1_pay 27 = .ok (.if_icmp .ge 7, 3) := by decide +kernel
theorem dX1_pay_30 : decode cX1_pay 30 = .ok (.iconst 2, 1) := by decide +kernel
theorem dX1_pay_31 : decode cX1_pay 31 = .ok (.goto 4, 3) := by decide +kernel
theorem dX1_pay_34 : decode cX1_pay 34 = .ok (.iconst 0, 1) := by decide +kernel
theorem dX1_pay_35 : decode cX1_pay 35 = .ok (.invokevirtual 56, 3) := by decide +kernel
theorem dX1_pay_38 : decode cX1_pay 38 = .ok (.ifCond .eq 5, 3) := by decide +kernel
theorem dX1_pay_41 : decode cX1_pay 41 = .ok (.iconst 0, 1) := by decide +kernel
theorem dX1_pay_42 : decode cX1_pay 42 = .ok (.ireturn, 1) := by decide +kernel
theorem dX1_pay_43 : decode cX1_pay 43 = .ok (.aload_n 0, 1) := by decide +kernel
theorem dX1_pay_44 : decode cX1_pay 44 = .ok (.getfield 28, 3) := by decide +kernel
theorem dX1_pay_47 : decode cX1_pay 47 = .ok (.iload_n 1, 1) := by decide +kernel
theorem dX1_pay_48 : decode cX1_pay 48 = .ok (.iconst 1, 1) := by decide +kernel
theorem dX1_pay_49 : decode cX1_pay 49 = .ok (.iastore, 1) := by decide +kernel
theorem dX1_pay_50 : decode cX1_pay 50 = .ok (.aload_n 0, 1) := by decide +kernel
theorem dX1_pay_51 : decode cX1_pay 51 = .ok (.getfield 31, 3) := by decide +kernel
theorem dX1_pay_54 : decode cX1_pay 54 = .ok (.iload_n 1, 1) := by decide +kernel
theorem dX1_pay_55 : decode cX1_pay 55 = .ok (.iaload, 1) := by decide +kernel
theorem dX1_pay_56 : decode cX1_pay 56 = .ok (.ireturn, 1) := by decide +kernel
set_option maxRecDepth 20000 in
theorem ggX1_waive_X1_isApplication : GoodIn wsX1_waive wsX1_isApplication := goodIn_r _ [6, 7, 8, 9, 5, 10, 20, 21, 22, 23, 24, 25, 26, 27, 28, 29, 30, 31, 32, 33] (by decide +kernel) (by decide +kernel)
set_option maxRecDepth 20000 in
theorem gX1_waive_X1_isApplication : GoodIn wsX1_waive (wsV RX1 106 RX1 yX1_isApplication wsX1_isApplication) := goodIn_app (goodIn_of _ (by decide +kernel)) ggX1_waive_X1_isApplication
set_option maxRecDepth 20000 in
theorem ggX1_waive_X1_refused : GoodIn wsX1_waive wsX1_refused := goodIn_r _ [14, 15, 20, 21, 22, 23, 24, 25, 26, 27, 28, 29, 30, 31, 32, 33] (by decide +kernel) (by decide +kernel)
set_option maxRecDepth 20000 in
theorem gX1_waive_X1_refused : GoodIn wsX1_waive (wsV RX1 56 RX1 yX1_refused wsX1_refused) := goodIn_app (goodIn_of _ (by decide +kernel)) ggX1_waive_X1_refused
set_option maxRecDepth 20000 in
theorem ggX1_waive_X1_waived : GoodIn wsX1_waive wsX1_waived := goodIn_r _ [19, 7, 1, 20, 21, 22, 23, 24, 25, 26, 27, 28, 29, 30, 31, 32, 33] (by decide +kernel) (by decide +kernel)
set_option maxRecDepth 20000 in
theorem gX1_waive_X1_waived : GoodIn wsX1_waive (wsV RX1 109 RX1 yX1_waived wsX1_waived) := goodIn_app (goodIn_of _ (by decide +kernel)) ggX1_waive_X1_waived
theorem dX1_waive_0 : decode cX1_waive 0 = .ok (.aload_n 0, 1) := by decide +kernel
theorem dX1_waive_1 : decode cX1_waive 1 = .ok (.aload_n 0, 1) := by decide +kernel
theorem dX1_waive_2 : decode cX1_waive 2 = .ok (.iload_n 1, 1) := by decide +kernel
theorem dX1_waive_3 : decode cX1_waive 3 = .ok (.invokevirtual 106, 3) := by decide +kernel
theorem dX1_waive_6 : decode cX1_waive 6 = .ok (.ifCond .ne 7, 3) := by decide +kernel
theorem dX1_waive_9 : decode cX1_waive 9 = .ok (.iconst 1, 1) := by decide +kernel
theorem dX1_waive_10 : decode cX1_waive 10 = .ok (.goto 18, 3) := by decide +kernel
theorem dX1_waive_13 : decode cX1_waive 13 = .ok (.aload_n 0, 1) := by decide +kernel
theorem dX1_waive_14 : decode cX1_waive 14 = .ok (.getfield 28, 3) := by decide +kernel
theorem dX1_waive_17 : decode cX1_waive 17 = .ok (.iload_n 1, 1) := by decide +kernel
theorem dX1_waive_18 : decode cX1_waive 18 = .ok (.iaload, 1) := by decide +kernel
theorem dX1_waive_19 : decode cX1_waive 19 = .ok (.iconst 1, 1) := by decide +kernel
theorem dX1_waive_20 : decode cX1_waive 20 = .ok (.if_icmp .ne 7, 3) := by decide +kernel
theorem dX1_waive_23 : decode cX1_waive 23 = .ok (.iconst 0, 1) := by decide +kernel
theorem dX1_waive_24 : decode cX1_waive 24 = .ok (.goto 4, 3) := by decide +kernel
theorem dX1_waive_27 : decode cX1_waive 27 = .ok (.iconst 2, 1) := by decide +kernel
theorem dX1_waive_28 : decode cX1_waive 28 = .ok (.invokevirtual 56, 3) := by decide +kernel
theorem dX1_waive_31 : decode cX1_waive 31 = .ok (.ifCond .eq 5, 3) := by decide +kernel
theorem dX1_waive_34 : decode cX1_waive 34 = .ok (.iconst 0, 1) := by decide +kernel
theorem dX1_waive_35 : decode cX1_waive 35 = .ok (.ireturn, 1) := by decide +kernel
theorem dX1_waive_36 : decode cX1_waive 36 = .ok (.aload_n 0, 1) := by decide +kernel
theorem dX1_waive_37 : decode cX1_waive 37 = .ok (.getfield 28, 3) := by decide +kernel
theorem dX1_waive_40 : decode cX1_waive 40 = .ok (.iload_n 1, 1) := by decide +kernel
theorem dX1_waive_41 : decode cX1_waive 41 = .ok (.iconst 2, 1) := by decide +kernel
theorem dX1_waive_42 : decode cX1_waive 42 = .ok (.iastore, 1) := by decide +kernel
theorem dX1_waive_43 : decode cX1_waive 43 = .ok (.aload_n 0, 1) := by decide +kernel
theorem dX1_waive_44 : decode cX1_waive 44 = .ok (.invokevirtual 109, 3) := by decide +kernel
theorem dX1_waive_47 : decode cX1_waive 47 = .ok (.ireturn, 1) := by decide +kernel
set_option maxRecDepth 20000 in
theorem ggX1_applications_X1_fine : GoodIn wsX1_applications wsX1_fine := goodIn_r _ [6, 7, 8, 9, 10, 11, 12, 13, 14, 15, 16, 17, 18, 19, 20, 21] (by decide +kernel) (by decide +kernel)
set_option maxRecDepth 20000 in
theorem gX1_applications_X1_fine : GoodIn wsX1_applications (wsV RX1 83 RX1 yX1_fine wsX1_fine) := goodIn_app (goodIn_of _ (by decide +kernel)) ggX1_applications_X1_fine
theorem dX1_applications_0 : decode cX1_applications 0 = .ok (.aload_n 0, 1) := by decide +kernel
theorem dX1_applications_1 : decode cX1_applications 1 = .ok (.aload_n 0, 1) := by decide +kernel
theorem dX1_applications_2 : decode cX1_applications 2 = .ok (.getfield 100, 3) := by decide +kernel
theorem dX1_applications_5 : decode cX1_applications 5 = .ok (.invokevirtual 83, 3) := by decide +kernel
theorem dX1_applications_8 : decode cX1_applications 8 = .ok (.ireturn, 1) := by decide +kernel
set_option maxRecDepth 20000 in
theorem ggX1_told_X1_isApplication : GoodIn wsX1_told wsX1_isApplication := goodIn_r _ [5, 6, 7, 8, 4, 9, 15, 16, 17, 18, 19, 20, 21, 22, 23, 24, 25, 26, 27, 28] (by decide +kernel) (by decide +kernel)
set_option maxRecDepth 20000 in
theorem gX1_told_X1_isApplication : GoodIn wsX1_told (wsV RX1 106 RX1 yX1_isApplication wsX1_isApplication) := goodIn_app (goodIn_of _ (by decide +kernel)) ggX1_told_X1_isApplication
set_option maxRecDepth 20000 in
theorem ggX1_told_X1_refused : GoodIn wsX1_told wsX1_refused := goodIn_r _ [13, 14, 15, 16, 17, 18, 19, 20, 21, 22, 23, 24, 25, 26, 27, 28] (by decide +kernel) (by decide +kernel)
set_option maxRecDepth 20000 in
theorem gX1_told_X1_refused : GoodIn wsX1_told (wsV RX1 56 RX1 yX1_refused wsX1_refused) := goodIn_app (goodIn_of _ (by decide +kernel)) ggX1_told_X1_refused
theorem dX1_told_0 : decode cX1_told 0 = .ok (.aload_n 0, 1) := by decide +kernel
theorem dX1_told_1 : decode cX1_told 1 = .ok (.aload_n 0, 1) := by decide +kernel
theorem dX1_told_2 : decode cX1_told 2 = .ok (.iload_n 1, 1) := by decide +kernel
theorem dX1_told_3 : decode cX1_told 3 = .ok (.invokevirtual 106, 3) := by decide +kernel
theorem dX1_told_6 : decode cX1_told 6 = .ok (.ifCond .eq 7, 3) := by decide +kernel
theorem dX1_told_9 : decode cX1_told 9 = .ok (.iconst 0, 1) := by decide +kernel
theorem dX1_told_10 : decode cX1_told 10 = .ok (.goto 4, 3) := by decide +kernel
theorem dX1_told_13 : decode cX1_told 13 = .ok (.iconst 1, 1) := by decide +kernel
theorem dX1_told_14 : decode cX1_told 14 = .ok (.invokevirtual 56, 3) := by decide +kernel
theorem dX1_told_17 : decode cX1_told 17 = .ok (.ifCond .eq 7, 3) := by decide +kernel
theorem dX1_told_20 : decode cX1_told 20 = .ok (.iconst 0, 1) := by decide +kernel
theorem dX1_told_21 : decode cX1_told 21 = .ok (.goto 6, 3) := by decide +kernel
theorem dX1_told_24 : decode cX1_told 24 = .ok (.aload_n 2, 1) := by decide +kernel
theorem dX1_told_25 : decode cX1_told 25 = .ok (.iload_n 1, 1) := by decide +kernel
theorem dX1_told_26 : decode cX1_told 26 = .ok (.iaload, 1) := by decide +kernel
theorem dX1_told_27 : decode cX1_told 27 = .ok (.ireturn, 1) := by decide +kernel
set_option maxRecDepth 20000 in
theorem ggX1_state_X1_told : GoodIn wsX1_state wsX1_told := goodIn_r _ [6, 7, 8, 9, 5, 10, 11, 12, 13, 14, 15, 16, 17, 18, 19, 20, 21, 22, 23, 24, 25, 26, 27, 28, 29, 30, 31, 32, 33] (by decide +kernel) (by decide +kernel)
set_option maxRecDepth 20000 in
theorem gX1_state_X1_told : GoodIn wsX1_state (wsV RX1 112 RX1 yX1_told wsX1_told) := goodIn_app (goodIn_of _ (by decide +kernel)) ggX1_state_X1_told
theorem dX1_state_0 : decode cX1_state 0 = .ok (.aload_n 0, 1) := by decide +kernel
theorem dX1_state_1 : decode cX1_state 1 = .ok (.iload_n 1, 1) := by decide +kernel
theorem dX1_state_2 : decode cX1_state 2 = .ok (.aload_n 0, 1) := by decide +kernel
theorem dX1_state_3 : decode cX1_state 3 = .ok (.getfield 28, 3) := by decide +kernel
theorem dX1_state_6 : decode cX1_state 6 = .ok (.invokevirtual 112, 3) := by decide +kernel
theorem dX1_state_9 : decode cX1_state 9 = .ok (.ireturn, 1) := by decide +kernel
set_option maxRecDepth 20000 in
theorem ggX1_amount_X1_told : GoodIn wsX1_amount wsX1_told := goodIn_r _ [6, 7, 8, 9, 5, 10, 11, 12, 13, 14, 15, 16, 17, 18, 19, 20, 21, 22, 23, 24, 25, 26, 27, 28, 29, 30, 31, 32, 33] (by decide +kernel) (by decide +kernel)
set_option maxRecDepth 20000 in
theorem gX1_amount_X1_told : GoodIn wsX1_amount (wsV RX1 112 RX1 yX1_told wsX1_told) := goodIn_app (goodIn_of _ (by decide +kernel)) ggX1_amount_X1_told
theorem dX1_amount_0 : decode cX1_amount 0 = .ok (.aload_n 0, 1) := by decide +kernel
theorem dX1_amount_1 : decode cX1_amount 1 = .ok (.iload_n 1, 1) := by decide +kernel
theorem dX1_amount_2 : decode cX1_amount 2 = .ok (.aload_n 0, 1) := by decide +kernel
theorem dX1_amount_3 : decode cX1_amount 3 = .ok (.getfield 31, 3) := by decide +kernel
theorem dX1_amount_6 : decode cX1_amount 6 = .ok (.invokevirtual 112, 3) := by decide +kernel
theorem dX1_amount_9 : decode cX1_amount 9 = .ok (.ireturn, 1) := by decide +kernel
set_option maxRecDepth 20000 in
theorem ggX1_billedBehind_X1_told : GoodIn wsX1_billedBehind wsX1_told := goodIn_r _ [6, 7, 8, 9, 5, 10, 11, 12, 13, 14, 15, 16, 17, 18, 19, 20, 21, 22, 23, 24, 25, 26, 27, 28, 29, 30, 31, 32, 33] (by decide +kernel) (by decide +kernel)
set_option maxRecDepth 20000 in
theorem gX1_billedBehind_X1_told : GoodIn wsX1_billedBehind (wsV RX1 112 RX1 yX1_told wsX1_told) := goodIn_app (goodIn_of _ (by decide +kernel)) ggX1_billedBehind_X1_told
theorem dX1_billedBehind_0 : decode cX1_billedBehind 0 = .ok (.aload_n 0, 1) := by decide +kernel
theorem dX1_billedBehind_1 : decode cX1_billedBehind 1 = .ok (.iload_n 1, 1) := by decide +kernel
theorem dX1_billedBehind_2 : decode cX1_billedBehind 2 = .ok (.aload_n 0, 1) := by decide +kernel
theorem dX1_billedBehind_3 : decode cX1_billedBehind 3 = .ok (.getfield 34, 3) := by decide +kernel
theorem dX1_billedBehind_6 : decode cX1_billedBehind 6 = .ok (.invokevirtual 112, 3) := by decide +kernel
theorem dX1_billedBehind_9 : decode cX1_billedBehind 9 = .ok (.ireturn, 1) := by decide +kernel
set_option maxRecDepth 20000 in
theorem ggX1_heldBehind_X1_told : GoodIn wsX1_heldBehind wsX1_told := goodIn_r _ [6, 7, 8, 9, 5, 10, 11, 12, 13, 14, 15, 16, 17, 18, 19, 20, 21, 22, 23, 24, 25, 26, 27, 28, 29, 30, 31, 32, 33] (by decide +kernel) (by decide +kernel)
set_option maxRecDepth 20000 in
theorem gX1_heldBehind_X1_told : GoodIn wsX1_heldBehind (wsV RX1 112 RX1 yX1_told wsX1_told) := goodIn_app (goodIn_of _ (by decide +kernel)) ggX1_heldBehind_X1_told
theorem dX1_heldBehind_0 : decode cX1_heldBehind 0 = .ok (.aload_n 0, 1) := by decide +kernel
theorem dX1_heldBehind_1 : decode cX1_heldBehind 1 = .ok (.iload_n 1, 1) := by decide +kernel
theorem dX1_heldBehind_2 : decode cX1_heldBehind 2 = .ok (.aload_n 0, 1) := by decide +kernel
theorem dX1_heldBehind_3 : decode cX1_heldBehind 3 = .ok (.getfield 37, 3) := by decide +kernel
theorem dX1_heldBehind_6 : decode cX1_heldBehind 6 = .ok (.invokevirtual 112, 3) := by decide +kernel
theorem dX1_heldBehind_9 : decode cX1_heldBehind 9 = .ok (.ireturn, 1) := by decide +kernel
set_option maxRecDepth 20000 in
theorem ggX1_lines_X1_fine : GoodIn wsX1_lines wsX1_fine := goodIn_r _ [6, 7, 8, 9, 10, 11, 12, 13, 14, 15, 16, 17, 18, 19, 20, 21] (by decide +kernel) (by decide +kernel)
set_option maxRecDepth 20000 in
theorem gX1_lines_X1_fine : GoodIn wsX1_lines (wsV RX1 83 RX1 yX1_fine wsX1_fine) := goodIn_app (goodIn_of _ (by decide +kernel)) ggX1_lines_X1_fine
theorem dX1_lines_0 : decode cX1_lines 0 = .ok (.aload_n 0, 1) := by decide +kernel
theorem dX1_lines_1 : decode cX1_lines 1 = .ok (.aload_n 0, 1) := by decide +kernel
theorem dX1_lines_2 : decode cX1_lines 2 = .ok (.getfield 44, 3) := by decide +kernel
theorem dX1_lines_5 : decode cX1_lines 5 = .ok (.invokevirtual 83, 3) := by decide +kernel
theorem dX1_lines_8 : decode cX1_lines 8 = .ok (.ireturn, 1) := by decide +kernel
set_option maxRecDepth 20000 in
theorem ggX1_noLine_X1_isLine : GoodIn wsX1_noLine wsX1_isLine := goodIn_r _ [5, 6, 7, 8, 4, 9, 15, 16, 17, 18, 19, 20, 21, 22, 23, 24, 25, 26, 27, 28] (by decide +kernel) (by decide +kernel)
set_option maxRecDepth 20000 in
theorem gX1_noLine_X1_isLine : GoodIn wsX1_noLine (wsV RX1 64 RX1 yX1_isLine wsX1_isLine) := goodIn_app (goodIn_of _ (by decide +kernel)) ggX1_noLine_X1_isLine
set_option maxRecDepth 20000 in
theorem ggX1_noLine_X1_refused : GoodIn wsX1_noLine wsX1_refused := goodIn_r _ [13, 14, 15, 16, 17, 18, 19, 20, 21, 22, 23, 24, 25, 26, 27, 28] (by decide +kernel) (by decide +kernel)
set_option maxRecDepth 20000 in
theorem gX1_noLine_X1_refused : GoodIn wsX1_noLine (wsV RX1 56 RX1 yX1_refused wsX1_refused) := goodIn_app (goodIn_of _ (by decide +kernel)) ggX1_noLine_X1_refused
theorem dX1_noLine_0 : decode cX1_noLine 0 = .ok (.aload_n 0, 1) := by decide +kernel
theorem dX1_noLine_1 : decode cX1_noLine 1 = .ok (.aload_n 0, 1) := by decide +kernel
theorem dX1_noLine_2 : decode cX1_noLine 2 = .ok (.iload_n 1, 1) := by decide +kernel
theorem dX1_noLine_3 : decode cX1_noLine 3 = .ok (.invokevirtual 64, 3) := by decide +kernel
theorem dX1_noLine_6 : decode cX1_noLine 6 = .ok (.ifCond .eq 7, 3) := by decide +kernel
theorem dX1_noLine_9 : decode cX1_noLine 9 = .ok (.iconst 0, 1) := by decide +kernel
theorem dX1_noLine_10 : decode cX1_noLine 10 = .ok (.goto 4, 3) := by decide +kernel
theorem dX1_noLine_13 : decode cX1_noLine 13 = .ok (.iconst 1, 1) := by decide +kernel
theorem dX1_noLine_14 : decode cX1_noLine 14 = .ok (.invokevirtual 56, 3) := by decide +kernel
theorem dX1_noLine_17 : decode cX1_noLine 17 = .ok (.ireturn, 1) := by decide +kernel
set_option maxRecDepth 20000 in
theorem ggX1_value_X1_noLine : GoodIn wsX1_value wsX1_noLine := goodIn_r _ [6, 7, 8, 9, 5, 10, 11, 12, 13, 14, 15, 16, 17, 18, 19, 20, 21, 22, 23, 24, 25, 26, 27, 28, 29, 30, 31, 32, 33] (by decide +kernel) (by decide +kernel)
set_option maxRecDepth 20000 in
theorem gX1_value_X1_noLine : GoodIn wsX1_value (wsV RX1 116 RX1 yX1_noLine wsX1_noLine) := goodIn_app (goodIn_of _ (by decide +kernel)) ggX1_value_X1_noLine
theorem dX1_value_0 : decode cX1_value 0 = .ok (.aload_n 0, 1) := by decide +kernel
theorem dX1_value_1 : decode cX1_value 1 = .ok (.iload_n 1, 1) := by decide +kernel
theorem dX1_value_2 : decode cX1_value 2 = .ok (.invokevirtual 116, 3) := by decide +kernel
theorem dX1_value_5 : decode cX1_value 5 = .ok (.ifCond .eq 7, 3) := by decide +kernel
theorem dX1_value_8 : decode cX1_value 8 = .ok (.iconst 0, 1) := by decide +kernel
theorem dX1_value_9 : decode cX1_value 9 = .ok (.goto 9, 3) := by decide +kernel
theorem dX1_value_12 : decode cX1_value 12 = .ok (.aload_n 0, 1) := by decide +kernel
theorem dX1_value_13 : decode cX1_value 13 = .ok (.getfield 7, 3) := by decide +kernel
theorem dX1_value_16 : decode cX1_value 16 = .ok (.iload_n 1, 1) := by decide +kernel
theorem dX1_value_17 : decode cX1_value 17 = .ok (.iaload, 1) := by decide +kernel
theorem dX1_value_18 : decode cX1_value 18 = .ok (.ireturn, 1) := by decide +kernel
set_option maxRecDepth 20000 in
theorem ggX1_work_X1_noLine : GoodIn wsX1_work wsX1_noLine := goodIn_r _ [6, 7, 8, 9, 5, 10, 11, 12, 13, 14, 15, 16, 17, 18, 19, 20, 21, 22, 23, 24, 25, 26, 27, 28, 29, 30, 31, 32, 33] (by decide +kernel) (by decide +kernel)
set_option maxRecDepth 20000 in
theorem gX1_work_X1_noLine : GoodIn wsX1_work (wsV RX1 116 RX1 yX1_noLine wsX1_noLine) := goodIn_app (goodIn_of _ (by decide +kernel)) ggX1_work_X1_noLine
theorem dX1_work_0 : decode cX1_work 0 = .ok (.aload_n 0, 1) := by decide +kernel
theorem dX1_work_1 : decode cX1_work 1 = .ok (.iload_n 1, 1) := by decide +kernel
theorem dX1_work_2 : decode cX1_work 2 = .ok (.invokevirtual 116, 3) := by decide +kernel
theorem dX1_work_5 : decode cX1_work 5 = .ok (.ifCond .eq 7, 3) := by decide +kernel
theorem dX1_work_8 : decode cX1_work 8 = .ok (.iconst 0, 1) := by decide +kernel
theorem dX1_work_9 : decode cX1_work 9 = .ok (.goto 9, 3) := by decide +kernel
theorem dX1_work_12 : decode cX1_work 12 = .ok (.aload_n 0, 1) := by decide +kernel
theorem dX1_work_13 : decode cX1_work 13 = .ok (.getfield 16, 3) := by decide +kernel
theorem dX1_work_16 : decode cX1_work 16 = .ok (.iload_n 1, 1) := by decide +kernel
theorem dX1_work_17 : decode cX1_work 17 = .ok (.iaload, 1) := by decide +kernel
theorem dX1_work_18 : decode cX1_work 18 = .ok (.ireturn, 1) := by decide +kernel
set_option maxRecDepth 20000 in
theorem ggX1_goods_X1_noLine : GoodIn wsX1_goods wsX1_noLine := goodIn_r _ [7, 8, 9, 10, 6, 11, 12, 13, 14, 15, 16, 17, 18, 19, 20, 21, 22, 23, 24, 25, 26, 27, 28, 29, 30, 31, 32, 33, 34] (by decide +kernel) (by decide +kernel)
set_option maxRecDepth 20000 in
theorem gX1_goods_X1_noLine : GoodIn wsX1_goods (wsV RX1 116 RX1 yX1_noLine wsX1_noLine) := goodIn_app (goodIn_of _ (by decide +kernel)) ggX1_goods_X1_noLine
theorem dX1_goods_0 : decode cX1_goods 0 = .ok (.aload_n 0, 1) := by decide +kernel
theorem dX1_goods_1 : decode cX1_goods 1 = .ok (.iload_n 1, 1) := by decide +kernel
theorem dX1_goods_2 : decode cX1_goods 2 = .ok (.invokevirtual 116, 3) := by decide +kernel
theorem dX1_goods_5 : decode cX1_goods 5 = .ok (.ifCond .eq 7, 3) := by decide +kernel
theorem dX1_goods_8 : decode cX1_goods 8 = .ok (.iconst 0, 1) := by decide +kernel
theorem dX1_goods_9 : decode cX1_goods 9 = .ok (.goto 16, 3) := by decide +kernel
theorem dX1_goods_12 : decode cX1_goods 12 = .ok (.aload_n 0, 1) := by decide +kernel
theorem dX1_goods_13 : decode cX1_goods 13 = .ok (.getfield 13, 3) := by decide +kernel
theorem dX1_goods_16 : decode cX1_goods 16 = .ok (.iload_n 1, 1) := by decide +kernel
theorem dX1_goods_17 : decode cX1_goods 17 = .ok (.iaload, 1) := by decide +kernel
theorem dX1_goods_18 : decode cX1_goods 18 = .ok (.aload_n 0, 1) := by decide +kernel
theorem dX1_goods_19 : decode cX1_goods 19 = .ok (.getfield 16, 3) := by decide +kernel
theorem dX1_goods_22 : decode cX1_goods 22 = .ok (.iload_n 1, 1) := by decide +kernel
theorem dX1_goods_23 : decode cX1_goods 23 = .ok (.iaload, 1) := by decide +kernel
theorem dX1_goods_24 : decode cX1_goods 24 = .ok (.isub, 1) := by decide +kernel
theorem dX1_goods_25 : decode cX1_goods 25 = .ok (.ireturn, 1) := by decide +kernel
set_option maxRecDepth 20000 in
theorem ggX1_billed_X1_noLine : GoodIn wsX1_billed wsX1_noLine := goodIn_r _ [6, 7, 8, 9, 5, 10, 11, 12, 13, 14, 15, 16, 17, 18, 19, 20, 21, 22, 23, 24, 25, 26, 27, 28, 29, 30, 31, 32, 33] (by decide +kernel) (by decide +kernel)
set_option maxRecDepth 20000 in
theorem gX1_billed_X1_noLine : GoodIn wsX1_billed (wsV RX1 116 RX1 yX1_noLine wsX1_noLine) := goodIn_app (goodIn_of _ (by decide +kernel)) ggX1_billed_X1_noLine
theorem dX1_billed_0 : decode cX1_billed 0 = .ok (.aload_n 0, 1) := by decide +kernel
theorem dX1_billed_1 : decode cX1_billed 1 = .ok (.iload_n 1, 1) := by decide +kernel
theorem dX1_billed_2 : decode cX1_billed 2 = .ok (.invokevirtual 116, 3) := by decide +kernel
theorem dX1_billed_5 : decode cX1_billed 5 = .ok (.ifCond .eq 7, 3) := by decide +kernel
theorem dX1_billed_8 : decode cX1_billed 8 = .ok (.iconst 0, 1) := by decide +kernel
theorem dX1_billed_9 : decode cX1_billed 9 = .ok (.goto 9, 3) := by decide +kernel
theorem dX1_billed_12 : decode cX1_billed 12 = .ok (.aload_n 0, 1) := by decide +kernel
theorem dX1_billed_13 : decode cX1_billed 13 = .ok (.getfield 19, 3) := by decide +kernel
theorem dX1_billed_16 : decode cX1_billed 16 = .ok (.iload_n 1, 1) := by decide +kernel
theorem dX1_billed_17 : decode cX1_billed 17 = .ok (.iaload, 1) := by decide +kernel
theorem dX1_billed_18 : decode cX1_billed 18 = .ok (.ireturn, 1) := by decide +kernel
set_option maxRecDepth 20000 in
theorem ggX1_held_X1_noLine : GoodIn wsX1_held wsX1_noLine := goodIn_r _ [6, 7, 8, 9, 5, 10, 11, 12, 13, 14, 15, 16, 17, 18, 19, 20, 21, 22, 23, 24, 25, 26, 27, 28, 29, 30, 31, 32, 33] (by decide +kernel) (by decide +kernel)
set_option maxRecDepth 20000 in
theorem gX1_held_X1_noLine : GoodIn wsX1_held (wsV RX1 116 RX1 yX1_noLine wsX1_noLine) := goodIn_app (goodIn_of _ (by decide +kernel)) ggX1_held_X1_noLine
theorem dX1_held_0 : decode cX1_held 0 = .ok (.aload_n 0, 1) := by decide +kernel
theorem dX1_held_1 : decode cX1_held 1 = .ok (.iload_n 1, 1) := by decide +kernel
theorem dX1_held_2 : decode cX1_held 2 = .ok (.invokevirtual 116, 3) := by decide +kernel
theorem dX1_held_5 : decode cX1_held 5 = .ok (.ifCond .eq 7, 3) := by decide +kernel
theorem dX1_held_8 : decode cX1_held 8 = .ok (.iconst 0, 1) := by decide +kernel
theorem dX1_held_9 : decode cX1_held 9 = .ok (.goto 9, 3) := by decide +kernel
theorem dX1_held_12 : decode cX1_held 12 = .ok (.aload_n 0, 1) := by decide +kernel
theorem dX1_held_13 : decode cX1_held 13 = .ok (.getfield 22, 3) := by decide +kernel
theorem dX1_held_16 : decode cX1_held 16 = .ok (.iload_n 1, 1) := by decide +kernel
theorem dX1_held_17 : decode cX1_held 17 = .ok (.iaload, 1) := by decide +kernel
theorem dX1_held_18 : decode cX1_held 18 = .ok (.ireturn, 1) := by decide +kernel
theorem dX1_isAhead_0 : decode cX1_isAhead 0 = .ok (.aload_n 0, 1) := by decide +kernel
theorem dX1_isAhead_1 : decode cX1_isAhead 1 = .ok (.getfield 16, 3) := by decide +kernel
theorem dX1_isAhead_4 : decode cX1_isAhead 4 = .ok (.iload_n 1, 1) := by decide +kernel
theorem dX1_isAhead_5 : decode cX1_isAhead 5 = .ok (.iaload, 1) := by decide +kernel
theorem dX1_isAhead_6 : decode cX1_isAhead 6 = .ok (.i2l, 1) := by decide +kernel
theorem dX1_isAhead_7 : decode cX1_isAhead 7 = .ok (.aload_n 0, 1) := by decide +kernel
theorem dX1_isAhead_8 : decode cX1_isAhead 8 = .ok (.getfield 7, 3) := by decide +kernel
theorem dX1_isAhead_11 : decode cX1_isAhead 11 = .ok (.iload_n 2, 1) := by decide +kernel
theorem dX1_isAhead_12 : decode cX1_isAhead 12 = .ok (.iaload, 1) := by decide +kernel
theorem dX1_isAhead_13 : decode cX1_isAhead 13 = .ok (.ifCond .ne 7, 3) := by decide +kernel
theorem dX1_isAhead_16 : decode cX1_isAhead 16 = .ok (.iconst 1, 1) := by decide +kernel
theorem dX1_isAhead_17 : decode cX1_isAhead 17 = .ok (.goto 9, 3) := by decide +kernel
theorem dX1_isAhead_20 : decode cX1_isAhead 20 = .ok (.aload_n 0, 1) := by decide +kernel
theorem dX1_isAhead_21 : decode cX1_isAhead 21 = .ok (.getfield 7, 3) := by decide +kernel
theorem dX1_isAhead_24 : decode cX1_isAhead 24 = .ok (.iload_n 2, 1) := by decide +kernel
theorem dX1_isAhead_25 : decode cX1_isAhead 25 = .ok (.iaload, 1) := by decide +kernel
theorem dX1_isAhead_26 : decode cX1_isAhead 26 = .ok (.i2l, 1) := by decide +kernel
theorem dX1_isAhead_27 : decode cX1_isAhead 27 = .ok (.lmul, 1) := by decide +kernel
theorem dX1_isAhead_28 : decode cX1_isAhead 28 = .ok (.lstore_n 3, 1) := by decide +kernel
theorem dX1_isAhead_29 : decode cX1_isAhead 29 = .ok (.aload_n 0, 1) := by decide +kernel
theorem dX1_isAhead_30 : decode cX1_isAhead 30 = .ok (.getfield 16, 3) := by decide +kernel
theorem dX1_isAhead_33 : decode cX1_isAhead 33 = .ok (.iload_n 2, 1) := by decide +kernel
theorem dX1_isAhead_34 : decode cX1_isAhead 34 = .ok (.iaload, 1) := by decide +kernel
theorem dX1_isAhead_35 : decode cX1_isAhead 35 = .ok (.i2l, 1) := by decide +kernel
theorem dX1_isAhead_36 : decode cX1_isAhead 36 = .ok (.aload_n 0, 1) := by decide +kernel
theorem dX1_isAhead_37 : decode cX1_isAhead 37 = .ok (.getfield 7, 3) := by decide +kernel
theorem dX1_isAhead_40 : decode cX1_isAhead 40 = .ok (.iload_n 1, 1) := by decide +kernel
theorem dX1_isAhead_41 : decode cX1_isAhead 41 = .ok (.iaload, 1) := by decide +kernel
theorem dX1_isAhead_42 : decode cX1_isAhead 42 = .ok (.ifCond .ne 7, 3) := by decide +kernel
theorem dX1_isAhead_45 : decode cX1_isAhead 45 = .ok (.iconst 1, 1) := by decide +kernel
theorem dX1_isAhead_46 : decode cX1_isAhead 46 = .ok (.goto 9, 3) := by decide +kernel
theorem dX1_isAhead_49 : decode cX1_isAhead 49 = .ok (.aload_n 0, 1) := by decide +kernel
theorem dX1_isAhead_50 : decode cX1_isAhead 50 = .ok (.getfield 7, 3) := by decide +kernel
theorem dX1_isAhead_53 : decode cX1_isAhead 53 = .ok (.iload_n 1, 1) := by decide +kernel
theorem dX1_isAhead_54 : decode cX1_isAhead 54 = .ok (.iaload, 1) := by decide +kernel
theorem dX1_isAhead_55 : decode cX1_isAhead 55 = .ok (.i2l, 1) := by decide +kernel
theorem dX1_isAhead_56 : decode cX1_isAhead 56 = .ok (.lmul, 1) := by decide +kernel
theorem dX1_isAhead_57 : decode cX1_isAhead 57 = .ok (.lstore 5, 2) := by decide +kernel
theorem dX1_isAhead_59 : decode cX1_isAhead 59 = .ok (.lload_n 3, 1) := by decide +kernel
theorem dX1_isAhead_60 : decode cX1_isAhead 60 = .ok (.lload 5, 2) := by decide +kernel
theorem dX1_isAhead_62 : decode cX1_isAhead 62 = .ok (.lcmp, 1) := by decide +kernel
theorem dX1_isAhead_63 : decode cX1_isAhead 63 = .ok (.ifCond .gt 15, 3) := by decide +kernel
theorem dX1_isAhead_66 : decode cX1_isAhead 66 = .ok (.lload_n 3, 1) := by decide +kernel
theorem dX1_isAhead_67 : decode cX1_isAhead 67 = .ok (.lload 5, 2) := by decide +kernel
theorem dX1_isAhead_69 : decode cX1_isAhead 69 = .ok (.lcmp, 1) := by decide +kernel
theorem dX1_isAhead_70 : decode cX1_isAhead 70 = .ok (.ifCond .ne 12, 3) := by decide +kernel
theorem dX1_isAhead_73 : decode cX1_isAhead 73 = .ok (.iload_n 1, 1) := by decide +kernel
theorem dX1_isAhead_74 : decode cX1_isAhead 74 = .ok (.iload_n 2, 1) := by decide +kernel
theorem dX1_isAhead_75 : decode cX1_isAhead 75 = .ok (.if_icmp .ge 7, 3) := by decide +kernel
theorem dX1_isAhead_78 : decode cX1_isAhead 78 = .ok (.iconst 1, 1) := by decide +kernel
theorem dX1_isAhead_79 : decode cX1_isAhead 79 = .ok (.goto 4, 3) := by decide +kernel
theorem dX1_isAhead_82 : decode cX1_isAhead 82 = .ok (.iconst 0, 1) := by decide +kernel
theorem dX1_isAhead_83 : decode cX1_isAhead 83 = .ok (.ireturn, 1) := by decide +kernel
set_option maxRecDepth 20000 in
theorem ggX1_lineByShare_X1_isAhead : GoodIn wsX1_lineByShare wsX1_isAhead := goodIn_r _ [6, 7, 8, 14, 15, 16, 17, 18, 19, 20, 21, 22, 23, 24, 25, 26, 27] (by decide +kernel) (by decide +kernel)
set_option maxRecDepth 20000 in
theorem gX1_lineByShare_X1_isAhead : GoodIn wsX1_lineByShare (wsV RX1 119 RX1 yX1_isAhead wsX1_isAhead) := goodIn_app (goodIn_of _ (by decide +kernel)) ggX1_lineByShare_X1_isAhead
set_option maxRecDepth 20000 in
theorem ggX1_lineByShare_X1_refused : GoodIn wsX1_lineByShare wsX1_refused := goodIn_r _ [12, 13, 14, 15, 16, 17, 18, 19, 20, 21, 22, 23, 24, 25, 26, 27] (by decide +kernel) (by decide +kernel)
set_option maxRecDepth 20000 in
theorem gX1_lineByShare_X1_refused : GoodIn wsX1_lineByShare (wsV RX1 56 RX1 yX1_refused wsX1_refused) := goodIn_app (goodIn_of _ (by decide +kernel)) ggX1_lineByShare_X1_refused
theorem dX1_lineByShare_0 : decode cX1_lineByShare 0 = .ok (.iconst (-1), 1) := by decide +kernel
theorem dX1_lineByShare_1 : decode cX1_lineByShare 1 = .ok (.istore_n 2, 1) := by decide +kernel
theorem dX1_lineByShare_2 : decode cX1_lineByShare 2 = .ok (.iconst 0, 1) := by decide +kernel
theorem dX1_lineByShare_3 : decode cX1_lineByShare 3 = .ok (.istore_n 3, 1) := by decide +kernel
theorem dX1_lineByShare_4 : decode cX1_lineByShare 4 = .ok (.iload_n 3, 1) := by decide +kernel
theorem dX1_lineByShare_5 : decode cX1_lineByShare 5 = .ok (.aload_n 0, 1) := by decide +kernel
theorem dX1_lineByShare_6 : decode cX1_lineByShare 6 = .ok (.getfield 44, 3) := by decide +kernel
theorem dX1_lineByShare_9 : decode cX1_lineByShare 9 = .ok (.if_icmp .ge 62, 3) := by decide +kernel
theorem dX1_lineByShare_12 : decode cX1_lineByShare 12 = .ok (.iconst 0, 1) := by decide +kernel
theorem dX1_lineByShare_13 : decode cX1_lineByShare 13 = .ok (.istore 4, 2) := by decide +kernel
theorem dX1_lineByShare_15 : decode cX1_lineByShare 15 = .ok (.iconst 0, 1) := by decide +kernel
theorem dX1_lineByShare_16 : decode cX1_lineByShare 16 = .ok (.istore 5, 2) := by decide +kernel
theorem dX1_lineByShare_18 : decode cX1_lineByShare 18 = .ok (.iload 5, 2) := by decide +kernel
theorem dX1_lineByShare_20 : decode cX1_lineByShare 20 = .ok (.aload_n 0, 1) := by decide +kernel
theorem dX1_lineByShare_21 : decode cX1_lineByShare 21 = .ok (.getfield 44, 3) := by decide +kernel
theorem dX1_lineByShare_24 : decode cX1_lineByShare 24 = .ok (.if_icmp .ge 29, 3) := by decide +kernel
theorem dX1_lineByShare_27 : decode cX1_lineByShare 27 = .ok (.iload 4, 2) := by decide +kernel
theorem dX1_lineByShare_29 : decode cX1_lineByShare 29 = .ok (.aload_n 0, 1) := by decide +kernel
theorem dX1_lineByShare_30 : decode cX1_lineByShare 30 = .ok (.iload 5, 2) := by decide +kernel
theorem dX1_lineByShare_32 : decode cX1_lineByShare 32 = .ok (.iload_n 3, 1) := by decide +kernel
theorem dX1_lineByShare_33 : decode cX1_lineByShare 33 = .ok (.invokevirtual 119, 3) := by decide +kernel
theorem dX1_lineByShare_36 : decode cX1_lineByShare 36 = .ok (.ifCond .eq 7, 3) := by decide +kernel
theorem dX1_lineByShare_39 : decode cX1_lineByShare 39 = .ok (.iconst 1, 1) := by decide +kernel
theorem dX1_lineByShare_40 : decode cX1_lineByShare 40 = .ok (.goto 4, 3) := by decide +kernel
theorem dX1_lineByShare_43 : decode cX1_lineByShare 43 = .ok (.iconst 0, 1) := by decide +kernel
theorem dX1_lineByShare_44 : decode cX1_lineByShare 44 = .ok (.iadd, 1) := by decide +kernel
theorem dX1_lineByShare_45 : decode cX1_lineByShare 45 = .ok (.istore 4, 2) := by decide +kernel
theorem dX1_lineByShare_47 : decode cX1_lineByShare 47 = .ok (.iinc 5 1, 3) := by decide +kernel
theorem dX1_lineByShare_50 : decode cX1_lineByShare 50 = .ok (.goto (-32), 3) := by decide +kernel
theorem dX1_lineByShare_53 : decode cX1_lineByShare 53 = .ok (.iload 4, 2) := by decide +kernel
theorem dX1_lineByShare_55 : decode cX1_lineByShare 55 = .ok (.iload_n 1, 1) := by decide +kernel
theorem dX1_lineByShare_56 : decode cX1_lineByShare 56 = .ok (.if_icmp .ne 7, 3) := by decide +kernel
theorem dX1_lineByShare_59 : decode cX1_lineByShare 59 = .ok (.iload_n 3, 1) := by decide +kernel
theorem dX1_lineByShare_60 : decode cX1_lineByShare 60 = .ok (.goto 4, 3) := by decide +kernel
theorem dX1_lineByShare_63 : decode cX1_lineByShare 63 = .ok (.iload_n 2, 1) := by decide +kernel
theorem dX1_lineByShare_64 : decode cX1_lineByShare 64 = .ok (.istore_n 2, 1) := by decide +kernel
theorem dX1_lineByShare_65 : decode cX1_lineByShare 65 = .ok (.iinc 3 1, 3) := by decide +kernel
theorem dX1_lineByShare_68 : decode cX1_lineByShare 68 = .ok (.goto (-64), 3) := by decide +kernel
theorem dX1_lineByShare_71 : decode cX1_lineByShare 71 = .ok (.aload_n 0, 1) := by decide +kernel
theorem dX1_lineByShare_72 : decode cX1_lineByShare 72 = .ok (.iload_n 2, 1) := by decide +kernel
theorem dX1_lineByShare_73 : decode cX1_lineByShare 73 = .ok (.iconst (-1), 1) := by decide +kernel
theorem dX1_lineByShare_74 : decode cX1_lineByShare 74 = .ok (.if_icmp .ne 7, 3) := by decide +kernel
theorem dX1_lineByShare_77 : decode cX1_lineByShare 77 = .ok (.iconst 1, 1) := by decide +kernel
theorem dX1_lineByShare_78 : decode cX1_lineByShare 78 = .ok (.goto 4, 3) := by decide +kernel
theorem dX1_lineByShare_81 : decode cX1_lineByShare 81 = .ok (.iconst 0, 1) := by decide +kernel
theorem dX1_lineByShare_82 : decode cX1_lineByShare 82 = .ok (.invokevirtual 56, 3) := by decide +kernel
theorem dX1_lineByShare_85 : decode cX1_lineByShare 85 = .ok (.ifCond .eq 7, 3) := by decide +kernel
theorem dX1_lineByShare_88 : decode cX1_lineByShare 88 = .ok (.iconst 0, 1) := by decide +kernel
theorem dX1_lineByShare_89 : decode cX1_lineByShare 89 = .ok (.goto 4, 3) := by decide +kernel
theorem dX1_lineByShare_92 : decode cX1_lineByShare 92 = .ok (.iload_n 2, 1) := by decide +kernel
theorem dX1_lineByShare_93 : decode cX1_lineByShare 93 = .ok (.ireturn, 1) := by decide +kernel
set_option maxRecDepth 20000 in
theorem ggX1_contractSum_X1_sum : GoodIn wsX1_contractSum wsX1_sum := goodIn_r _ [6, 7, 13, 14, 15, 16, 17, 18, 19, 20, 21, 22, 23, 24, 25, 26] (by decide +kernel) (by decide +kernel)
set_option maxRecDepth 20000 in
theorem gX1_contractSum_X1_sum : GoodIn wsX1_contractSum (wsV RX1 87 RX1 yX1_sum wsX1_sum) := goodIn_app (goodIn_of _ (by decide +kernel)) ggX1_contractSum_X1_sum
set_option maxRecDepth 20000 in
theorem ggX1_contractSum_X1_fine : GoodIn wsX1_contractSum wsX1_fine := goodIn_r _ [11, 12, 13, 14, 15, 16, 17, 18, 19, 20, 21, 22, 23, 24, 25, 26] (by decide +kernel) (by decide +kernel)
set_option maxRecDepth 20000 in
theorem gX1_contractSum_X1_fine : GoodIn wsX1_contractSum (wsV RX1 83 RX1 yX1_fine wsX1_fine) := goodIn_app (goodIn_of _ (by decide +kernel)) ggX1_contractSum_X1_fine
theorem dX1_contractSum_0 : decode cX1_contractSum 0 = .ok (.aload_n 0, 1) := by decide +kernel
theorem dX1_contractSum_1 : decode cX1_contractSum 1 = .ok (.aload_n 0, 1) := by decide +kernel
theorem dX1_contractSum_2 : decode cX1_contractSum 2 = .ok (.aload_n 0, 1) := by decide +kernel
theorem dX1_contractSum_3 : decode cX1_contractSum 3 = .ok (.getfield 7, 3) := by decide +kernel
theorem dX1_contractSum_6 : decode cX1_contractSum 6 = .ok (.invokevirtual 87, 3) := by decide +kernel
theorem dX1_contractSum_9 : decode cX1_contractSum 9 = .ok (.invokevirtual 83, 3) := by decide +kernel
theorem dX1_contractSum_12 : decode cX1_contractSum 12 = .ok (.ireturn, 1) := by decide +kernel
theorem dX1_sumPaid_0 : decode cX1_sumPaid 0 = .ok (.iconst 0, 1) := by decide +kernel
theorem dX1_sumPaid_1 : decode cX1_sumPaid 1 = .ok (.istore_n 1, 1) := by decide +kernel
theorem dX1_sumPaid_2 : decode cX1_sumPaid 2 = .ok (.iconst 0, 1) := by decide +kernel
theorem dX1_sumPaid_3 : decode cX1_sumPaid 3 = .ok (.istore_n 2, 1) := by decide +kernel
theorem dX1_sumPaid_4 : decode cX1_sumPaid 4 = .ok (.iload_n 2, 1) := by decide +kernel
theorem dX1_sumPaid_5 : decode cX1_sumPaid 5 = .ok (.aload_n 0, 1) := by decide +kernel
theorem dX1_sumPaid_6 : decode cX1_sumPaid 6 = .ok (.getfield 100, 3) := by decide +kernel
theorem dX1_sumPaid_9 : decode cX1_sumPaid 9 = .ok (.if_icmp .ge 31, 3) := by decide +kernel
theorem dX1_sumPaid_12 : decode cX1_sumPaid 12 = .ok (.iload_n 1, 1) := by decide +kernel
theorem dX1_sumPaid_13 : decode cX1_sumPaid 13 = .ok (.aload_n 0, 1) := by decide +kernel
theorem dX1_sumPaid_14 : decode cX1_sumPaid 14 = .ok (.getfield 28, 3) := by decide +kernel
theorem dX1_sumPaid_17 : decode cX1_sumPaid 17 = .ok (.iload_n 2, 1) := by decide +kernel
theorem dX1_sumPaid_18 : decode cX1_sumPaid 18 = .ok (.iaload, 1) := by decide +kernel
theorem dX1_sumPaid_19 : decode cX1_sumPaid 19 = .ok (.ifCond .ne 7, 3) := by decide +kernel
theorem dX1_sumPaid_22 : decode cX1_sumPaid 22 = .ok (.iconst 0, 1) := by decide +kernel
theorem dX1_sumPaid_23 : decode cX1_sumPaid 23 = .ok (.goto 9, 3) := by decide +kernel
theorem dX1_sumPaid_26 : decode cX1_sumPaid 26 = .ok (.aload_n 0, 1) := by decide +kernel
theorem dX1_sumPaid_27 : decode cX1_sumPaid 27 = .ok (.getfield 31, 3) := by decide +kernel
theorem dX1_sumPaid_30 : decode cX1_sumPaid 30 = .ok (.iload_n 2, 1) := by decide +kernel
theorem dX1_sumPaid_31 : decode cX1_sumPaid 31 = .ok (.iaload, 1) := by decide +kernel
theorem dX1_sumPaid_32 : decode cX1_sumPaid 32 = .ok (.iadd, 1) := by decide +kernel
theorem dX1_sumPaid_33 : decode cX1_sumPaid 33 = .ok (.istore_n 1, 1) := by decide +kernel
theorem dX1_sumPaid_34 : decode cX1_sumPaid 34 = .ok (.iinc 2 1, 3) := by decide +kernel
theorem dX1_sumPaid_37 : decode cX1_sumPaid 37 = .ok (.goto (-33), 3) := by decide +kernel
theorem dX1_sumPaid_40 : decode cX1_sumPaid 40 = .ok (.iload_n 1, 1) := by decide +kernel
theorem dX1_sumPaid_41 : decode cX1_sumPaid 41 = .ok (.ireturn, 1) := by decide +kernel
set_option maxRecDepth 20000 in
theorem ggX1_paid_X1_sumPaid : GoodIn wsX1_paid wsX1_sumPaid := goodIn_r _ [5, 6, 7, 8, 14, 15, 16, 17, 18, 19, 20, 21, 22, 23, 24, 25, 26, 27] (by decide +kernel) (by decide +kernel)
set_option maxRecDepth 20000 in
theorem gX1_paid_X1_sumPaid : GoodIn wsX1_paid (wsV RX1 123 RX1 yX1_sumPaid wsX1_sumPaid) := goodIn_app (goodIn_of _ (by decide +kernel)) ggX1_paid_X1_sumPaid
set_option maxRecDepth 20000 in
theorem ggX1_paid_X1_fine : GoodIn wsX1_paid wsX1_fine := goodIn_r _ [12, 13, 14, 15, 16, 17, 18, 19, 20, 21, 22, 23, 24, 25, 26, 27] (by decide +kernel) (by decide +kernel)
set_option maxRecDepth 20000 in
theorem gX1_paid_X1_fine : GoodIn wsX1_paid (wsV RX1 83 RX1 yX1_fine wsX1_fine) := goodIn_app (goodIn_of _ (by decide +kernel)) ggX1_paid_X1_fine
theorem dX1_paid_0 : decode cX1_paid 0 = .ok (.aload_n 0, 1) := by decide +kernel
theorem dX1_paid_1 : decode cX1_paid 1 = .ok (.aload_n 0, 1) := by decide +kernel
theorem dX1_paid_2 : decode cX1_paid 2 = .ok (.invokevirtual 123, 3) := by decide +kernel
theorem dX1_paid_5 : decode cX1_paid 5 = .ok (.invokevirtual 83, 3) := by decide +kernel
theorem dX1_paid_8 : decode cX1_paid 8 = .ok (.ireturn, 1) := by decide +kernel
set_option maxRecDepth 20000 in
theorem ggX1_toCome_X1_sum : GoodIn wsX1_toCome wsX1_sum := goodIn_r _ [6, 7, 20, 21, 22, 23, 24, 25, 26, 27, 28, 29, 30, 31, 32, 33] (by decide +kernel) (by decide +kernel)
set_option maxRecDepth 20000 in
theorem gX1_toCome_X1_sum : GoodIn wsX1_toCome (wsV RX1 87 RX1 yX1_sum wsX1_sum) := goodIn_app (goodIn_of _ (by decide +kernel)) ggX1_toCome_X1_sum
set_option maxRecDepth 20000 in
theorem ggX1_toCome_X1_sumPaid : GoodIn wsX1_toCome wsX1_sumPaid := goodIn_r _ [11, 12, 13, 14, 20, 21, 22, 23, 24, 25, 26, 27, 28, 29, 30, 31, 32, 33] (by decide +kernel) (by decide +kernel)
set_option maxRecDepth 20000 in
theorem gX1_toCome_X1_sumPaid : GoodIn wsX1_toCome (wsV RX1 123 RX1 yX1_sumPaid wsX1_sumPaid) := goodIn_app (goodIn_of _ (by decide +kernel)) ggX1_toCome_X1_sumPaid
set_option maxRecDepth 20000 in
theorem ggX1_toCome_X1_fine : GoodIn wsX1_toCome wsX1_fine := goodIn_r _ [18, 19, 20, 21, 22, 23, 24, 25, 26, 27, 28, 29, 30, 31, 32, 33] (by decide +kernel) (by decide +kernel)
set_option maxRecDepth 20000 in
theorem gX1_toCome_X1_fine : GoodIn wsX1_toCome (wsV RX1 83 RX1 yX1_fine wsX1_fine) := goodIn_app (goodIn_of _ (by decide +kernel)) ggX1_toCome_X1_fine
theorem dX1_toCome_0 : decode cX1_toCome 0 = .ok (.aload_n 0, 1) := by decide +kernel
theorem dX1_toCome_1 : decode cX1_toCome 1 = .ok (.aload_n 0, 1) := by decide +kernel
theorem dX1_toCome_2 : decode cX1_toCome 2 = .ok (.aload_n 0, 1) := by decide +kernel
theorem dX1_toCome_3 : decode cX1_toCome 3 = .ok (.getfield 7, 3) := by decide +kernel
theorem dX1_toCome_6 : decode cX1_toCome 6 = .ok (.invokevirtual 87, 3) := by decide +kernel
theorem dX1_toCome_9 : decode cX1_toCome 9 = .ok (.aload_n 0, 1) := by decide +kernel
theorem dX1_toCome_10 : decode cX1_toCome 10 = .ok (.invokevirtual 123, 3) := by decide +kernel
theorem dX1_toCome_13 : decode cX1_toCome 13 = .ok (.isub, 1) := by decide +kernel
theorem dX1_toCome_14 : decode cX1_toCome 14 = .ok (.invokevirtual 83, 3) := by decide +kernel
theorem dX1_toCome_17 : decode cX1_toCome 17 = .ok (.ireturn, 1) := by decide +kernel
theorem dJ9_floorDiv_f86c9_0 : decode cJ9_floorDiv_f86c9 0 = .ok (.lload_n 0, 1) := by decide +kernel
theorem dJ9_floorDiv_f86c9_1 : decode cJ9_floorDiv_f86c9 1 = .ok (.lload_n 2, 1) := by decide +kernel
theorem dJ9_floorDiv_f86c9_2 : decode cJ9_floorDiv_f86c9 2 = .ok (.ldiv, 1) := by decide +kernel
theorem dJ9_floorDiv_f86c9_3 : decode cJ9_floorDiv_f86c9 3 = .ok (.lstore 4, 2) := by decide +kernel
theorem dJ9_floorDiv_f86c9_5 : decode cJ9_floorDiv_f86c9 5 = .ok (.lload_n 0, 1) := by decide +kernel
theorem dJ9_floorDiv_f86c9_6 : decode cJ9_floorDiv_f86c9 6 = .ok (.lload_n 2, 1) := by decide +kernel
theorem dJ9_floorDiv_f86c9_7 : decode cJ9_floorDiv_f86c9 7 = .ok (.lxor, 1) := by decide +kernel
theorem dJ9_floorDiv_f86c9_8 : decode cJ9_floorDiv_f86c9 8 = .ok (.lconst 0, 1) := by decide +kernel
theorem dJ9_floorDiv_f86c9_9 : decode cJ9_floorDiv_f86c9 9 = .ok (.lcmp, 1) := by decide +kernel
theorem dJ9_floorDiv_f86c9_10 : decode cJ9_floorDiv_f86c9 10 = .ok (.ifCond .ge 17, 3) := by decide +kernel
theorem dJ9_floorDiv_f86c9_13 : decode cJ9_floorDiv_f86c9 13 = .ok (.lload 4, 2) := by decide +kernel
theorem dJ9_floorDiv_f86c9_15 : decode cJ9_floorDiv_f86c9 15 = .ok (.lload_n 2, 1) := by decide +kernel
theorem dJ9_floorDiv_f86c9_16 : decode cJ9_floorDiv_f86c9 16 = .ok (.lmul, 1) := by decide +kernel
theorem dJ9_floorDiv_f86c9_17 : decode cJ9_floorDiv_f86c9 17 = .ok (.lload_n 0, 1) := by decide +kernel
theorem dJ9_floorDiv_f86c9_18 : decode cJ9_floorDiv_f86c9 18 = .ok (.lcmp, 1) := by decide +kernel
theorem dJ9_floorDiv_f86c9_19 : decode cJ9_floorDiv_f86c9 19 = .ok (.ifCond .eq 8, 3) := by decide +kernel
theorem dJ9_floorDiv_f86c9_22 : decode cJ9_floorDiv_f86c9 22 = .ok (.lload 4, 2) := by decide +kernel
theorem dJ9_floorDiv_f86c9_24 : decode cJ9_floorDiv_f86c9 24 = .ok (.lconst 1, 1) := by decide +kernel
theorem dJ9_floorDiv_f86c9_25 : decode cJ9_floorDiv_f86c9 25 = .ok (.lsub, 1) := by decide +kernel
theorem dJ9_floorDiv_f86c9_26 : decode cJ9_floorDiv_f86c9 26 = .ok (.lreturn, 1) := by decide +kernel
theorem dJ9_floorDiv_f86c9_27 : decode cJ9_floorDiv_f86c9 27 = .ok (.lload 4, 2) := by decide +kernel
theorem dJ9_floorDiv_f86c9_29 : decode cJ9_floorDiv_f86c9 29 = .ok (.lreturn, 1) := by decide +kernel
theorem dJ9_max_7cf53_0 : decode cJ9_max_7cf53 0 = .ok (.iload_n 0, 1) := by decide +kernel
theorem dJ9_max_7cf53_1 : decode cJ9_max_7cf53 1 = .ok (.iload_n 1, 1) := by decide +kernel
theorem dJ9_max_7cf53_2 : decode cJ9_max_7cf53 2 = .ok (.if_icmp .lt 7, 3) := by decide +kernel
theorem dJ9_max_7cf53_5 : decode cJ9_max_7cf53 5 = .ok (.iload_n 0, 1) := by decide +kernel
theorem dJ9_max_7cf53_6 : decode cJ9_max_7cf53 6 = .ok (.goto 4, 3) := by decide +kernel
theorem dJ9_max_7cf53_9 : decode cJ9_max_7cf53 9 = .ok (.iload_n 1, 1) := by decide +kernel
theorem dJ9_max_7cf53_10 : decode cJ9_max_7cf53 10 = .ok (.ireturn, 1) := by decide +kernel
set_option maxRecDepth 20000 in
theorem ggL_addLine_X0_addLine : GoodIn wsL_addLine wsX0_addLine := goodIn_ca (goodIn_ca (goodIn_r _ [7, 8, 9, 10, 11, 12, 6, 13, 14, 15, 16, 17, 18, 19, 20, 21, 22, 23, 24, 25, 26, 27, 28, 29, 30, 31, 32, 33, 34, 35, 36] (by decide +kernel) (by decide +kernel)) (goodIn_sub (fun _ h => List.mem_cons_of_mem _ (List.mem_append_left _ (List.mem_append_right _ h))) (by decide +kernel))) (goodIn_sub (fun _ h => List.mem_cons_of_mem _ (List.mem_append_right _ h)) (by decide +kernel))
set_option maxRecDepth 20000 in
theorem gL_addLine_X0_addLine : GoodIn wsL_addLine (wsV RL 7 RX0 yX0_addLine wsX0_addLine) := goodIn_app (goodIn_of _ (by decide +kernel)) ggL_addLine_X0_addLine
