set_option maxRecDepth 20000 in
theorem ggL_refuses_L_sets : GoodIn wsL_refuses wsL_sets := goodIn_ca (goodIn_ca (goodIn_r _ [107, 21, 22, 1, 4, 108, 109, 110, 9, 111, 112, 29, 30, 31, 32, 33, 113, 114, 115, 116, 117, 118, 119, 120, 121, 122, 38, 39, 277, 278, 279, 280, 281, 282, 283, 284, 285, 286, 287, 288, 289, 290, 291] (by decide +kernel) (by decide +kernel)) (goodIn_sub (fun _ h => List.mem_cons_of_mem _ (List.mem_append_left _ (List.mem_append_left _ (List.mem_append_right _ h)))) (by decide +kernel))) (goodIn_sub (fun _ h => List.mem_cons_of_mem _ (List.mem_append_left _ (List.mem_append_right _ h))) (by decide +kernel))
set_option maxRecDepth 20000 in
theorem gL_refuses_L_sets : GoodIn wsL_refuses (va_wsS RL 115 yL_sets wsL_sets) := goodIn_app (goodIn_of _ (by decide +kernel)) ggL_refuses_L_sets
set_option maxRecDepth 20000 in
theorem ggL_refuses_L_drops : GoodIn wsL_refuses wsL_drops := goodIn_ca (goodIn_ca (goodIn_r _ [125, 21, 22, 1, 4, 126, 127, 128, 9, 129, 38, 39, 112, 117, 118, 29, 30, 31, 32, 33, 113, 114, 115, 116, 277, 278, 279, 280, 281, 282, 283, 284, 285, 286, 287, 288, 289, 290, 291] (by decide +kernel) (by decide +kernel)) (goodIn_sub (fun _ h => List.mem_cons_of_mem _ (List.mem_append_left _ (List.mem_append_right _ h))) (by decide +kernel))) (goodIn_sub (fun _ h => List.mem_cons_of_mem _ (List.mem_append_left _ (List.mem_append_left _ (List.mem_append_right _ h)))) (by decide +kernel))
set_option maxRecDepth 20000 in
theorem gL_refuses_L_drops : GoodIn wsL_refuses (va_wsS RL 118 yL_drops wsL_drops) := goodIn_app (goodIn_of _ (by decide +kernel)) ggL_refuses_L_drops
set_option maxRecDepth 20000 in
theorem ggL_refuses_L_pays : GoodIn wsL_refuses wsL_pays := goodIn_ca (goodIn_ca (goodIn_r _ [132, 43, 22, 3, 4, 133, 134, 135, 9, 136, 38, 39, 137, 138, 139, 140, 141, 142, 53, 54, 16, 143, 144, 145, 146, 277, 278, 279, 280, 281, 282, 283, 284, 285, 286, 287, 288, 289, 290, 291] (by decide +kernel) (by decide +kernel)) (goodIn_sub (fun _ h => List.mem_cons_of_mem _ (List.mem_append_left _ (List.mem_append_right _ h))) (by decide +kernel))) (goodIn_sub (fun _ h => List.mem_cons_of_mem _ (List.mem_append_right _ h)) (by decide +kernel))
set_option maxRecDepth 20000 in
theorem gL_refuses_L_pays : GoodIn wsL_refuses (va_wsS RL 121 yL_pays wsL_pays) := goodIn_app (goodIn_of _ (by decide +kernel)) ggL_refuses_L_pays
set_option maxRecDepth 20000 in
theorem ggL_refuses_L_waives : GoodIn wsL_refuses wsL_waives := goodIn_ca (goodIn_ca (goodIn_r _ [149, 43, 22, 3, 4, 150, 151, 152, 9, 153, 38, 39, 137, 139, 140, 141, 142, 53, 54, 16, 143, 144, 145, 146, 277, 278, 279, 280, 281, 282, 283, 284, 285, 286, 287, 288, 289, 290, 291] (by decide +kernel) (by decide +kernel)) (goodIn_sub (fun _ h => List.mem_cons_of_mem _ (List.mem_append_left _ (List.mem_append_right _ h))) (by decide +kernel))) (goodIn_sub (fun _ h => List.mem_cons_of_mem _ (List.mem_append_right _ h)) (by decide +kernel))
set_option maxRecDepth 20000 in
theorem gL_refuses_L_waives : GoodIn wsL_refuses (va_wsS RL 124 yL_waives wsL_waives) := goodIn_app (goodIn_of _ (by decide +kernel)) ggL_refuses_L_waives
set_option maxRecDepth 20000 in
theorem ggL_refuses_L_state : GoodIn wsL_refuses wsL_state := goodIn_ca (goodIn_r _ [156, 43, 3, 157, 158, 159, 9, 160, 137, 139, 140, 141, 142, 53, 54, 16, 277, 278, 279, 280, 281, 282, 283, 284, 285, 286, 287, 288, 289, 290, 291] (by decide +kernel) (by decide +kernel)) (goodIn_sub (fun _ h => List.mem_cons_of_mem _ (List.mem_append_right _ h)) (by decide +kernel))
set_option maxRecDepth 20000 in
theorem gL_refuses_L_state : GoodIn wsL_refuses (va_wsS RL 127 yL_state wsL_state) := goodIn_app (goodIn_of _ (by decide +kernel)) ggL_refuses_L_state
set_option maxRecDepth 20000 in
theorem ggL_refuses_L_amount : GoodIn wsL_refuses wsL_amount := goodIn_ca (goodIn_r _ [163, 43, 3, 164, 165, 166, 9, 167, 138, 139, 140, 141, 142, 53, 54, 16, 277, 278, 279, 280, 281, 282, 283, 284, 285, 286, 287, 288, 289, 290, 291] (by decide +kernel) (by decide +kernel)) (goodIn_sub (fun _ h => List.mem_cons_of_mem _ (List.mem_append_right _ h)) (by decide +kernel))
set_option maxRecDepth 20000 in
theorem gL_refuses_L_amount : GoodIn wsL_refuses (va_wsS RL 129 yL_amount wsL_amount) := goodIn_app (goodIn_of _ (by decide +kernel)) ggL_refuses_L_amount
set_option maxRecDepth 20000 in
theorem ggL_refuses_L_billedBehind : GoodIn wsL_refuses wsL_billedBehind := goodIn_ca (goodIn_r _ [170, 43, 3, 171, 172, 173, 9, 174, 175, 139, 140, 141, 142, 53, 54, 16, 277, 278, 279, 280, 281, 282, 283, 284, 285, 286, 287, 288, 289, 290, 291] (by decide +kernel) (by decide +kernel)) (goodIn_sub (fun _ h => List.mem_cons_of_mem _ (List.mem_append_right _ h)) (by decide +kernel))
set_option maxRecDepth 20000 in
theorem gL_refuses_L_billedBehind : GoodIn wsL_refuses (va_wsS RL 131 yL_billedBehind wsL_billedBehind) := goodIn_app (goodIn_of _ (by decide +kernel)) ggL_refuses_L_billedBehind
set_option maxRecDepth 20000 in
theorem ggL_refuses_L_heldBehind : GoodIn wsL_refuses wsL_heldBehind := goodIn_ca (goodIn_r _ [178, 43, 3, 179, 180, 181, 9, 182, 183, 139, 140, 141, 142, 53, 54, 16, 277, 278, 279, 280, 281, 282, 283, 284, 285, 286, 287, 288, 289, 290, 291] (by decide +kernel) (by decide +kernel)) (goodIn_sub (fun _ h => List.mem_cons_of_mem _ (List.mem_append_right _ h)) (by decide +kernel))
set_option maxRecDepth 20000 in
theorem gL_refuses_L_heldBehind : GoodIn wsL_refuses (va_wsS RL 133 yL_heldBehind wsL_heldBehind) := goodIn_app (goodIn_of _ (by decide +kernel)) ggL_refuses_L_heldBehind
set_option maxRecDepth 20000 in
theorem ggL_refuses_L_value : GoodIn wsL_refuses wsL_value := goodIn_ca (goodIn_r _ [186, 43, 3, 187, 188, 189, 9, 190, 28, 49, 50, 51, 52, 53, 54, 11, 277, 278, 279, 280, 281, 282, 283, 284, 285, 286, 287, 288, 289, 290, 291] (by decide +kernel) (by decide +kernel)) (goodIn_sub (fun _ h => List.mem_cons_of_mem _ (List.mem_append_right _ h)) (by decide +kernel))
set_option maxRecDepth 20000 in
theorem gL_refuses_L_value : GoodIn wsL_refuses (va_wsS RL 135 yL_value wsL_value) := goodIn_app (goodIn_of _ (by decide +kernel)) ggL_refuses_L_value
set_option maxRecDepth 20000 in
theorem ggL_refuses_L_work : GoodIn wsL_refuses wsL_work := goodIn_ca (goodIn_r _ [193, 43, 3, 194, 195, 196, 9, 197, 62, 49, 50, 51, 52, 53, 54, 11, 277, 278, 279, 280, 281, 282, 283, 284, 285, 286, 287, 288, 289, 290, 291] (by decide +kernel) (by decide +kernel)) (goodIn_sub (fun _ h => List.mem_cons_of_mem _ (List.mem_append_right _ h)) (by decide +kernel))
set_option maxRecDepth 20000 in
theorem gL_refuses_L_work : GoodIn wsL_refuses (va_wsS RL 137 yL_work wsL_work) := goodIn_app (goodIn_of _ (by decide +kernel)) ggL_refuses_L_work
set_option maxRecDepth 20000 in
theorem ggL_refuses_L_goods : GoodIn wsL_refuses wsL_goods := goodIn_ca (goodIn_r _ [200, 43, 3, 201, 202, 203, 9, 204, 48, 62, 49, 50, 51, 52, 53, 54, 11, 277, 278, 279, 280, 281, 282, 283, 284, 285, 286, 287, 288, 289, 290, 291] (by decide +kernel) (by decide +kernel)) (goodIn_sub (fun _ h => List.mem_cons_of_mem _ (List.mem_append_right _ h)) (by decide +kernel))
set_option maxRecDepth 20000 in
theorem gL_refuses_L_goods : GoodIn wsL_refuses (va_wsS RL 139 yL_goods wsL_goods) := goodIn_app (goodIn_of _ (by decide +kernel)) ggL_refuses_L_goods
set_option maxRecDepth 20000 in
theorem ggL_refuses_L_billed : GoodIn wsL_refuses wsL_billed := goodIn_ca (goodIn_r _ [207, 43, 3, 208, 209, 210, 9, 211, 63, 49, 50, 51, 52, 53, 54, 11, 277, 278, 279, 280, 281, 282, 283, 284, 285, 286, 287, 288, 289, 290, 291] (by decide +kernel) (by decide +kernel)) (goodIn_sub (fun _ h => List.mem_cons_of_mem _ (List.mem_append_right _ h)) (by decide +kernel))
set_option maxRecDepth 20000 in
theorem gL_refuses_L_billed : GoodIn wsL_refuses (va_wsS RL 141 yL_billed wsL_billed) := goodIn_app (goodIn_of _ (by decide +kernel)) ggL_refuses_L_billed
set_option maxRecDepth 20000 in
theorem ggL_refuses_L_held : GoodIn wsL_refuses wsL_held := goodIn_ca (goodIn_r _ [214, 43, 3, 215, 216, 217, 9, 218, 64, 49, 50, 51, 52, 53, 54, 11, 277, 278, 279, 280, 281, 282, 283, 284, 285, 286, 287, 288, 289, 290, 291] (by decide +kernel) (by decide +kernel)) (goodIn_sub (fun _ h => List.mem_cons_of_mem _ (List.mem_append_right _ h)) (by decide +kernel))
set_option maxRecDepth 20000 in
theorem gL_refuses_L_held : GoodIn wsL_refuses (va_wsS RL 143 yL_held wsL_held) := goodIn_app (goodIn_of _ (by decide +kernel)) ggL_refuses_L_held
set_option maxRecDepth 20000 in
theorem ggL_refuses_L_byShare : GoodIn wsL_refuses wsL_byShare := goodIn_ca (goodIn_r _ [221, 43, 3, 222, 223, 224, 9, 225, 11, 49, 50, 51, 52, 53, 54, 226, 227, 228, 229, 230, 231, 232, 233, 62, 234, 235, 236, 237, 28, 238, 239, 240, 241, 277, 278, 279, 280, 281, 282, 283, 284, 285, 286, 287, 288, 289, 290, 291] (by decide +kernel) (by decide +kernel)) (goodIn_sub (fun _ h => List.mem_cons_of_mem _ (List.mem_append_right _ h)) (by decide +kernel))
set_option maxRecDepth 20000 in
theorem gL_refuses_L_byShare : GoodIn wsL_refuses (va_wsS RL 145 yL_byShare wsL_byShare) := goodIn_app (goodIn_of _ (by decide +kernel)) ggL_refuses_L_byShare
set_option maxRecDepth 20000 in
theorem ggL_refuses_L_closes : GoodIn wsL_refuses wsL_closes := goodIn_ca (goodIn_r _ [244, 22, 4, 245, 246, 247, 9, 248, 38, 39, 11, 16, 138, 137, 175, 63, 183, 64, 249, 250, 251, 252, 48, 253, 254, 255, 256, 117, 118, 112, 257, 258, 259, 260, 62, 261, 262, 263, 264, 265, 266, 267, 28, 68, 69, 70, 71, 72, 73, 74, 268, 269, 270, 271, 272, 82, 83, 84, 85, 86, 273, 274, 275, 276, 277, 278, 279, 280, 281, 282, 283, 284, 285, 286, 287, 288, 289, 290, 291] (by decide +kernel) (by decide +kernel)) (goodIn_sub (fun _ h => List.mem_cons_of_mem _ (List.mem_append_left _ (List.mem_append_right _ h))) (by decide +kernel))
set_option maxRecDepth 20000 in
theorem gL_refuses_L_closes : GoodIn wsL_refuses (va_wsS RL 148 yL_closes wsL_closes) := goodIn_app (goodIn_of _ (by decide +kernel)) ggL_refuses_L_closes
theorem dL_refuses_0 : decode cL_refuses 0 = .ok (.iload_n 1, 1) := by decide +kernel
theorem dL_refuses_1 : decode cL_refuses 1 = .ok (.iconst 2, 1) := by decide +kernel
theorem dL_refuses_2 : decode cL_refuses 2 = .ok (.irem, 1) := by decide +kernel
theorem dL_refuses_3 : decode cL_refuses 3 = .ok (.ifCond .ne 12, 3) := by decide +kernel
theorem dL_refuses_6 : decode cL_refuses 6 = .ok (.iconst (-1), 1) := by decide +kernel
theorem dL_refuses_7 : decode cL_refuses 7 = .ok (.iload_n 1, 1) := by decide +kernel
theorem dL_refuses_8 : decode cL_refuses 8 = .ok (.bipush 50, 2) := by decide +kernel
theorem dL_refuses_10 : decode cL_refuses 10 = .ok (.irem, 1) := by decide +kernel
theorem dL_refuses_11 : decode cL_refuses 11 = .ok (.isub, 1) := by decide +kernel
theorem dL_refuses_12 : decode cL_refuses 12 = .ok (.goto 12, 3) := by decide +kernel
theorem dL_refuses_15 : decode cL_refuses 15 = .ok (.aload_n 0, 1) := by decide +kernel
theorem dL_refuses_16 : decode cL_refuses 16 = .ok (.invokevirtual 86, 3) := by decide +kernel
theorem dL_refuses_19 : decode cL_refuses 19 = .ok (.iload_n 1, 1) := by decide +kernel
theorem dL_refuses_20 : decode cL_refuses 20 = .ok (.bipush 50, 2) := by decide +kernel
theorem dL_refuses_22 : decode cL_refuses 22 = .ok (.irem, 1) := by decide +kernel
theorem dL_refuses_23 : decode cL_refuses 23 = .ok (.iadd, 1) := by decide +kernel
theorem dL_refuses_24 : decode cL_refuses 24 = .ok (.istore_n 2, 1) := by decide +kernel
theorem dL_refuses_25 : decode cL_refuses 25 = .ok (.iload_n 1, 1) := by decide +kernel
theorem dL_refuses_26 : decode cL_refuses 26 = .ok (.iconst 2, 1) := by decide +kernel
theorem dL_refuses_27 : decode cL_refuses 27 = .ok (.irem, 1) := by decide +kernel
theorem dL_refuses_28 : decode cL_refuses 28 = .ok (.ifCond .ne 12, 3) := by decide +kernel
theorem dL_refuses_31 : decode cL_refuses 31 = .ok (.iconst (-1), 1) := by decide +kernel
theorem dL_refuses_32 : decode cL_refuses 32 = .ok (.iload_n 1, 1) := by decide +kernel
theorem dL_refuses_33 : decode cL_refuses 33 = .ok (.bipush 50, 2) := by decide +kernel
theorem dL_refuses_35 : decode cL_refuses 35 = .ok (.irem, 1) := by decide +kernel
theorem dL_refuses_36 : decode cL_refuses 36 = .ok (.isub, 1) := by decide +kernel
theorem dL_refuses_37 : decode cL_refuses 37 = .ok (.goto 12, 3) := by decide +kernel
theorem dL_refuses_40 : decode cL_refuses 40 = .ok (.aload_n 0, 1) := by decide +kernel
theorem dL_refuses_41 : decode cL_refuses 41 = .ok (.invokevirtual 89, 3) := by decide +kernel
theorem dL_refuses_44 : decode cL_refuses 44 = .ok (.iload_n 1, 1) := by decide +kernel
theorem dL_refuses_45 : decode cL_refuses 45 = .ok (.bipush 50, 2) := by decide +kernel
theorem dL_refuses_47 : decode cL_refuses 47 = .ok (.irem, 1) := by decide +kernel
theorem dL_refuses_48 : decode cL_refuses 48 = .ok (.iadd, 1) := by decide +kernel
theorem dL_refuses_49 : decode cL_refuses 49 = .ok (.istore_n 3, 1) := by decide +kernel
theorem dL_refuses_50 : decode cL_refuses 50 = .ok (.aload_n 0, 1) := by decide +kernel
theorem dL_refuses_51 : decode cL_refuses 51 = .ok (.iconst (-1), 1) := by decide +kernel
theorem dL_refuses_52 : decode cL_refuses 52 = .ok (.iload_n 1, 1) := by decide +kernel
theorem dL_refuses_53 : decode cL_refuses 53 = .ok (.isub, 1) := by decide +kernel
theorem dL_refuses_54 : decode cL_refuses 54 = .ok (.invokestatic 92, 3) := by decide +kernel
theorem dL_refuses_57 : decode cL_refuses 57 = .ok (.ldc 15, 2) := by decide +kernel
theorem dL_refuses_59 : decode cL_refuses 59 = .ok (.if_icmp .ne 323, 3) := by decide +kernel
theorem dL_refuses_62 : decode cL_refuses 62 = .ok (.aload_n 0, 1) := by decide +kernel
theorem dL_refuses_63 : decode cL_refuses 63 = .ok (.ldc 98, 2) := by decide +kernel
theorem dL_refuses_65 : decode cL_refuses 65 = .ok (.iload_n 1, 1) := by decide +kernel
theorem dL_refuses_66 : decode cL_refuses 66 = .ok (.iadd, 1) := by decide +kernel
theorem dL_refuses_67 : decode cL_refuses 67 = .ok (.invokestatic 92, 3) := by decide +kernel
theorem dL_refuses_70 : decode cL_refuses 70 = .ok (.ldc 15, 2) := by decide +kernel
theorem dL_refuses_72 : decode cL_refuses 72 = .ok (.if_icmp .ne 310, 3) := by decide +kernel
theorem dL_refuses_75 : decode cL_refuses 75 = .ok (.aload_n 0, 1) := by decide +kernel
theorem dL_refuses_76 : decode cL_refuses 76 = .ok (.iload_n 2, 1) := by decide +kernel
theorem dL_refuses_77 : decode cL_refuses 77 = .ok (.iconst (-1), 1) := by decide +kernel
theorem dL_refuses_78 : decode cL_refuses 78 = .ok (.invokestatic 99, 3) := by decide +kernel
theorem dL_refuses_81 : decode cL_refuses 81 = .ok (.ldc 25, 2) := by decide +kernel
theorem dL_refuses_83 : decode cL_refuses 83 = .ok (.if_icmp .ne 299, 3) := by decide +kernel
theorem dL_refuses_86 : decode cL_refuses 86 = .ok (.aload_n 0, 1) := by decide +kernel
theorem dL_refuses_87 : decode cL_refuses 87 = .ok (.iload_n 2, 1) := by decide +kernel
theorem dL_refuses_88 : decode cL_refuses 88 = .ok (.iconst 0, 1) := by decide +kernel
theorem dL_refuses_89 : decode cL_refuses 89 = .ok (.invokestatic 103, 3) := by decide +kernel
theorem dL_refuses_92 : decode cL_refuses 92 = .ok (.ldc 25, 2) := by decide +kernel
theorem dL_refuses_94 : decode cL_refuses 94 = .ok (.if_icmp .ne 288, 3) := by decide +kernel
theorem dL_refuses_97 : decode cL_refuses 97 = .ok (.aload_n 0, 1) := by decide +kernel
theorem dL_refuses_98 : decode cL_refuses 98 = .ok (.iload_n 2, 1) := by decide +kernel
theorem dL_refuses_99 : decode cL_refuses 99 = .ok (.bipush (-5), 2) := by decide +kernel
theorem dL_refuses_101 : decode cL_refuses 101 = .ok (.invokestatic 106, 3) := by decide +kernel
theorem dL_refuses_104 : decode cL_refuses 104 = .ok (.ldc 25, 2) := by decide +kernel
theorem dL_refuses_106 : decode cL_refuses 106 = .ok (.if_icmp .ne 276, 3) := by decide +kernel
theorem dL_refuses_109 : decode cL_refuses 109 = .ok (.aload_n 0, 1) := by decide +kernel
theorem dL_refuses_110 : decode cL_refuses 110 = .ok (.iload_n 2, 1) := by decide +kernel
theorem dL_refuses_111 : decode cL_refuses 111 = .ok (.iconst 0, 1) := by decide +kernel
theorem dL_refuses_112 : decode cL_refuses 112 = .ok (.invokestatic 109, 3) := by decide +kernel
theorem dL_refuses_115 : decode cL_refuses 115 = .ok (.ldc 25, 2) := by decide +kernel
theorem dL_refuses_117 : decode cL_refuses 117 = .ok (.if_icmp .ne 265, 3) := by decide +kernel
theorem dL_refuses_120 : decode cL_refuses 120 = .ok (.aload_n 0, 1) := by decide +kernel
theorem dL_refuses_121 : decode cL_refuses 121 = .ok (.iload_n 2, 1) := by decide +kernel
theorem dL_refuses_122 : decode cL_refuses 122 = .ok (.iconst 0, 1) := by decide +kernel
theorem dL_refuses_123 : decode cL_refuses 123 = .ok (.invokestatic 112, 3) := by decide +kernel
theorem dL_refuses_126 : decode cL_refuses 126 = .ok (.ldc 25, 2) := by decide +kernel
theorem dL_refuses_128 : decode cL_refuses 128 = .ok (.if_icmp .ne 254, 3) := by decide +kernel
theorem dL_refuses_131 : decode cL_refuses 131 = .ok (.aload_n 0, 1) := by decide +kernel
theorem dL_refuses_132 : decode cL_refuses 132 = .ok (.iconst (-1), 1) := by decide +kernel
theorem dL_refuses_133 : decode cL_refuses 133 = .ok (.iconst 5, 1) := by decide +kernel
theorem dL_refuses_134 : decode cL_refuses 134 = .ok (.invokestatic 115, 3) := by decide +kernel
theorem dL_refuses_137 : decode cL_refuses 137 = .ok (.ldc 15, 2) := by decide +kernel
theorem dL_refuses_139 : decode cL_refuses 139 = .ok (.if_icmp .ne 243, 3) := by decide +kernel
theorem dL_refuses_142 : decode cL_refuses 142 = .ok (.aload_n 0, 1) := by decide +kernel
theorem dL_refuses_143 : decode cL_refuses 143 = .ok (.sipush 1001, 3) := by decide +kernel
theorem dL_refuses_146 : decode cL_refuses 146 = .ok (.iload_n 1, 1) := by decide +kernel
theorem dL_refuses_147 : decode cL_refuses 147 = .ok (.iadd, 1) := by decide +kernel
theorem dL_refuses_148 : decode cL_refuses 148 = .ok (.iconst 5, 1) := by decide +kernel
theorem dL_refuses_149 : decode cL_refuses 149 = .ok (.invokestatic 115, 3) := by decide +kernel
theorem dL_refuses_152 : decode cL_refuses 152 = .ok (.ldc 15, 2) := by decide +kernel
theorem dL_refuses_154 : decode cL_refuses 154 = .ok (.if_icmp .ne 228, 3) := by decide +kernel
theorem dL_refuses_157 : decode cL_refuses 157 = .ok (.aload_n 0, 1) := by decide +kernel
theorem dL_refuses_158 : decode cL_refuses 158 = .ok (.iconst 5, 1) := by decide +kernel
theorem dL_refuses_159 : decode cL_refuses 159 = .ok (.sipush 1001, 3) := by decide +kernel
theorem dL_refuses_162 : decode cL_refuses 162 = .ok (.iload_n 1, 1) := by decide +kernel
theorem dL_refuses_163 : decode cL_refuses 163 = .ok (.iadd, 1) := by decide +kernel
theorem dL_refuses_164 : decode cL_refuses 164 = .ok (.invokestatic 115, 3) := by decide +kernel
theorem dL_refuses_167 : decode cL_refuses 167 = .ok (.ldc 15, 2) := by decide +kernel
theorem dL_refuses_169 : decode cL_refuses 169 = .ok (.if_icmp .ne 213, 3) := by decide +kernel
theorem dL_refuses_172 : decode cL_refuses 172 = .ok (.aload_n 0, 1) := by decide +kernel
theorem dL_refuses_173 : decode cL_refuses 173 = .ok (.iconst 0, 1) := by decide +kernel
theorem dL_refuses_174 : decode cL_refuses 174 = .ok (.invokestatic 118, 3) := by decide +kernel
theorem dL_refuses_177 : decode cL_refuses 177 = .ok (.ldc 15, 2) := by decide +kernel
theorem dL_refuses_179 : decode cL_refuses 179 = .ok (.if_icmp .ne 203, 3) := by decide +kernel
theorem dL_refuses_182 : decode cL_refuses 182 = .ok (.aload_n 0, 1) := by decide +kernel
theorem dL_refuses_183 : decode cL_refuses 183 = .ok (.iload_n 1, 1) := by decide +kernel
theorem dL_refuses_184 : decode cL_refuses 184 = .ok (.ineg, 1) := by decide +kernel
theorem dL_refuses_185 : decode cL_refuses 185 = .ok (.invokestatic 118, 3) := by decide +kernel
theorem dL_refuses_188 : decode cL_refuses 188 = .ok (.ldc 15, 2) := by decide +kernel
theorem dL_refuses_190 : decode cL_refuses 190 = .ok (.if_icmp .ne 192, 3) := by decide +kernel
theorem dL_refuses_193 : decode cL_refuses 193 = .ok (.aload_n 0, 1) := by decide +kernel
theorem dL_refuses_194 : decode cL_refuses 194 = .ok (.sipush 1001, 3) := by decide +kernel
theorem dL_refuses_197 : decode cL_refuses 197 = .ok (.invokestatic 118, 3) := by decide +kernel
theorem dL_refuses_200 : decode cL_refuses 200 = .ok (.ldc 15, 2) := by decide +kernel
theorem dL_refuses_202 : decode cL_refuses 202 = .ok (.if_icmp .ne 180, 3) := by decide +kernel
theorem dL_refuses_205 : decode cL_refuses 205 = .ok (.aload_n 0, 1) := by decide +kernel
theorem dL_refuses_206 : decode cL_refuses 206 = .ok (.iload_n 3, 1) := by decide +kernel
theorem dL_refuses_207 : decode cL_refuses 207 = .ok (.invokestatic 121, 3) := by decide +kernel
theorem dL_refuses_210 : decode cL_refuses 210 = .ok (.ldc 25, 2) := by decide +kernel
theorem dL_refuses_212 : decode cL_refuses 212 = .ok (.if_icmp .ne 170, 3) := by decide +kernel
theorem dL_refuses_215 : decode cL_refuses 215 = .ok (.aload_n 0, 1) := by decide +kernel
theorem dL_refuses_216 : decode cL_refuses 216 = .ok (.iload_n 3, 1) := by decide +kernel
theorem dL_refuses_217 : decode cL_refuses 217 = .ok (.invokestatic 124, 3) := by decide +kernel
theorem dL_refuses_220 : decode cL_refuses 220 = .ok (.ldc 25, 2) := by decide +kernel
theorem dL_refuses_222 : decode cL_refuses 222 = .ok (.if_icmp .ne 160, 3) := by decide +kernel
theorem dL_refuses_225 : decode cL_refuses 225 = .ok (.aload_n 0, 1) := by decide +kernel
theorem dL_refuses_226 : decode cL_refuses 226 = .ok (.iload_n 3, 1) := by decide +kernel
theorem dL_refuses_227 : decode cL_refuses 227 = .ok (.invokestatic 127, 3) := by decide +kernel
theorem dL_refuses_230 : decode cL_refuses 230 = .ok (.ldc 25, 2) := by decide +kernel
theorem dL_refuses_232 : decode cL_refuses 232 = .ok (.if_icmp .ne 150, 3) := by decide +kernel
theorem dL_refuses_235 : decode cL_refuses 235 = .ok (.aload_n 0, 1) := by decide +kernel
theorem dL_refuses_236 : decode cL_refuses 236 = .ok (.iload_n 3, 1) := by decide +kernel
theorem dL_refuses_237 : decode cL_refuses 237 = .ok (.invokestatic 129, 3) := by decide +kernel
theorem dL_refuses_240 : decode cL_refuses 240 = .ok (.ldc 25, 2) := by decide +kernel
theorem dL_refuses_242 : decode cL_refuses 242 = .ok (.if_icmp .ne 140, 3) := by decide +kernel
theorem dL_refuses_245 : decode cL_refuses 245 = .ok (.aload_n 0, 1) := by decide +kernel
theorem dL_refuses_246 : decode cL_refuses 246 = .ok (.iload_n 3, 1) := by decide +kernel
theorem dL_refuses_247 : decode cL_refuses 247 = .ok (.invokestatic 131, 3) := by decide +kernel
theorem dL_refuses_250 : decode cL_refuses 250 = .ok (.ldc 25, 2) := by decide +kernel
theorem dL_refuses_252 : decode cL_refuses 252 = .ok (.if_icmp .ne 130, 3) := by decide +kernel
theorem dL_refuses_255 : decode cL_refuses 255 = .ok (.aload_n 0, 1) := by decide +kernel
theorem dL_refuses_256 : decode cL_refuses 256 = .ok (.iload_n 3, 1) := by decide +kernel
theorem dL_refuses_257 : decode cL_refuses 257 = .ok (.invokestatic 133, 3) := by decide +kernel
theorem dL_refuses_260 : decode cL_refuses 260 = .ok (.ldc 25, 2) := by decide +kernel
theorem dL_refuses_262 : decode cL_refuses 262 = .ok (.if_icmp .ne 120, 3) := by decide +kernel
theorem dL_refuses_265 : decode cL_refuses 265 = .ok (.aload_n 0, 1) := by decide +kernel
theorem dL_refuses_266 : decode cL_refuses 266 = .ok (.iload_n 2, 1) := by decide +kernel
theorem dL_refuses_267 : decode cL_refuses 267 = .ok (.invokestatic 135, 3) := by decide +kernel
theorem dL_refuses_270 : decode cL_refuses 270 = .ok (.ldc 25, 2) := by decide +kernel
theorem dL_refuses_272 : decode cL_refuses 272 = .ok (.if_icmp .ne 110, 3) := by decide +kernel
theorem dL_refuses_275 : decode cL_refuses 275 = .ok (.aload_n 0, 1) := by decide +kernel
theorem dL_refuses_276 : decode cL_refuses 276 = .ok (.iload_n 2, 1) := by decide +kernel
theorem dL_refuses_277 : decode cL_refuses 277 = .ok (.invokestatic 137, 3) := by decide +kernel
theorem dL_refuses_280 : decode cL_refuses 280 = .ok (.ldc 25, 2) := by decide +kernel
theorem dL_refuses_282 : decode cL_refuses 282 = .ok (.if_icmp .ne 100, 3) := by decide +kernel
theorem dL_refuses_285 : decode cL_refuses 285 = .ok (.aload_n 0, 1) := by decide +kernel
theorem dL_refuses_286 : decode cL_refuses 286 = .ok (.iload_n 2, 1) := by decide +kernel
theorem dL_refuses_287 : decode cL_refuses 287 = .ok (.invokestatic 139, 3) := by decide +kernel
theorem dL_refuses_290 : decode cL_refuses 290 = .ok (.ldc 25, 2) := by decide +kernel
theorem dL_refuses_292 : decode cL_refuses 292 = .ok (.if_icmp .ne 90, 3) := by decide +kernel
theorem dL_refuses_295 : decode cL_refuses 295 = .ok (.aload_n 0, 1) := by decide +kernel
theorem dL_refuses_296 : decode cL_refuses 296 = .ok (.iload_n 2, 1) := by decide +kernel
theorem dL_refuses_297 : decode cL_refuses 297 = .ok (.invokestatic 141, 3) := by decide +kernel
theorem dL_refuses_300 : decode cL_refuses 300 = .ok (.ldc 25, 2) := by decide +kernel
theorem dL_refuses_302 : decode cL_refuses 302 = .ok (.if_icmp .ne 80, 3) := by decide +kernel
theorem dL_refuses_305 : decode cL_refuses 305 = .ok (.aload_n 0, 1) := by decide +kernel
theorem dL_refuses_306 : decode cL_refuses 306 = .ok (.iload_n 2, 1) := by decide +kernel
theorem dL_refuses_307 : decode cL_refuses 307 = .ok (.invokestatic 143, 3) := by decide +kernel
theorem dL_refuses_310 : decode cL_refuses 310 = .ok (.ldc 25, 2) := by decide +kernel
theorem dL_refuses_312 : decode cL_refuses 312 = .ok (.if_icmp .ne 70, 3) := by decide +kernel
theorem dL_refuses_315 : decode cL_refuses 315 = .ok (.aload_n 0, 1) := by decide +kernel
theorem dL_refuses_316 : decode cL_refuses 316 = .ok (.iload_n 2, 1) := by decide +kernel
theorem dL_refuses_317 : decode cL_refuses 317 = .ok (.invokestatic 145, 3) := by decide +kernel
theorem dL_refuses_320 : decode cL_refuses 320 = .ok (.ldc 25, 2) := by decide +kernel
theorem dL_refuses_322 : decode cL_refuses 322 = .ok (.if_icmp .ne 60, 3) := by decide +kernel
theorem dL_refuses_325 : decode cL_refuses 325 = .ok (.aload_n 0, 1) := by decide +kernel
theorem dL_refuses_326 : decode cL_refuses 326 = .ok (.invokevirtual 86, 3) := by decide +kernel
theorem dL_refuses_329 : decode cL_refuses 329 = .ok (.ifCond .gt 12, 3) := by decide +kernel
theorem dL_refuses_332 : decode cL_refuses 332 = .ok (.aload_n 0, 1) := by decide +kernel
theorem dL_refuses_333 : decode cL_refuses 333 = .ok (.invokestatic 148, 3) := by decide +kernel
theorem dL_refuses_336 : decode cL_refuses 336 = .ok (.ldc 18, 2) := by decide +kernel
theorem dL_refuses_338 : decode cL_refuses 338 = .ok (.if_icmp .ne 44, 3) := by decide +kernel
theorem dL_refuses_341 : decode cL_refuses 341 = .ok (.aload_n 0, 1) := by decide +kernel
theorem dL_refuses_342 : decode cL_refuses 342 = .ok (.invokevirtual 86, 3) := by decide +kernel
theorem dL_refuses_345 : decode cL_refuses 345 = .ok (.bipush 16, 2) := by decide +kernel
theorem dL_refuses_347 : decode cL_refuses 347 = .ok (.if_icmp .lt 13, 3) := by decide +kernel
theorem dL_refuses_350 : decode cL_refuses 350 = .ok (.aload_n 0, 1) := by decide +kernel
theorem dL_refuses_351 : decode cL_refuses 351 = .ok (.iconst 5, 1) := by decide +kernel
theorem dL_refuses_352 : decode cL_refuses 352 = .ok (.invokestatic 92, 3) := by decide +kernel
theorem dL_refuses_355 : decode cL_refuses 355 = .ok (.ldc 18, 2) := by decide +kernel
theorem dL_refuses_357 : decode cL_refuses 357 = .ok (.if_icmp .ne 25, 3) := by decide +kernel
theorem dL_refuses_360 : decode cL_refuses 360 = .ok (.aload_n 0, 1) := by decide +kernel
theorem dL_refuses_361 : decode cL_refuses 361 = .ok (.invokevirtual 89, 3) := by decide +kernel
theorem dL_refuses_364 : decode cL_refuses 364 = .ok (.bipush 60, 2) := by decide +kernel
theorem dL_refuses_366 : decode cL_refuses 366 = .ok (.if_icmp .lt 12, 3) := by decide +kernel
theorem dL_refuses_369 : decode cL_refuses 369 = .ok (.aload_n 0, 1) := by decide +kernel
theorem dL_refuses_370 : decode cL_refuses 370 = .ok (.invokestatic 148, 3) := by decide +kernel
theorem dL_refuses_373 : decode cL_refuses 373 = .ok (.ldc 18, 2) := by decide +kernel
theorem dL_refuses_375 : decode cL_refuses 375 = .ok (.if_icmp .ne 7, 3) := by decide +kernel
theorem dL_refuses_378 : decode cL_refuses 378 = .ok (.iconst 1, 1) := by decide +kernel
theorem dL_refuses_379 : decode cL_refuses 379 = .ok (.goto 4, 3) := by decide +kernel
theorem dL_refuses_382 : decode cL_refuses 382 = .ok (.iconst 0, 1) := by decide +kernel
theorem dL_refuses_383 : decode cL_refuses 383 = .ok (.istore 4, 2) := by decide +kernel
theorem dL_refuses_385 : decode cL_refuses 385 = .ok (.iload 4, 2) := by decide +kernel
theorem dL_refuses_387 : decode cL_refuses 387 = .ok (.ifCond .eq 220, 3) := by decide +kernel
theorem dL_refuses_390 : decode cL_refuses 390 = .ok (.aload_n 0, 1) := by decide +kernel
theorem dL_refuses_391 : decode cL_refuses 391 = .ok (.invokevirtual 86, 3) := by decide +kernel
theorem dL_refuses_394 : decode cL_refuses 394 = .ok (.ifCond .le 213, 3) := by decide +kernel
theorem dL_refuses_397 : decode cL_refuses 397 = .ok (.iload_n 1, 1) := by decide +kernel
theorem dL_refuses_398 : decode cL_refuses 398 = .ok (.aload_n 0, 1) := by decide +kernel
theorem dL_refuses_399 : decode cL_refuses 399 = .ok (.invokevirtual 86, 3) := by decide +kernel
theorem dL_refuses_402 : decode cL_refuses 402 = .ok (.irem, 1) := by decide +kernel
theorem dL_refuses_403 : decode cL_refuses 403 = .ok (.istore 5, 2) := by decide +kernel
theorem dL_refuses_405 : decode cL_refuses 405 = .ok (.aload_n 0, 1) := by decide +kernel
theorem dL_refuses_406 : decode cL_refuses 406 = .ok (.iload 5, 2) := by decide +kernel
theorem dL_refuses_408 : decode cL_refuses 408 = .ok (.invokestatic 137, 3) := by decide +kernel
theorem dL_refuses_411 : decode cL_refuses 411 = .ok (.aload_n 0, 1) := by decide +kernel
theorem dL_refuses_412 : decode cL_refuses 412 = .ok (.iload 5, 2) := by decide +kernel
theorem dL_refuses_414 : decode cL_refuses 414 = .ok (.invokestatic 139, 3) := by decide +kernel
theorem dL_refuses_417 : decode cL_refuses 417 = .ok (.iadd, 1) := by decide +kernel
theorem dL_refuses_418 : decode cL_refuses 418 = .ok (.istore 6, 2) := by decide +kernel
theorem dL_refuses_420 : decode cL_refuses 420 = .ok (.aload_n 0, 1) := by decide +kernel
theorem dL_refuses_421 : decode cL_refuses 421 = .ok (.iload 5, 2) := by decide +kernel
theorem dL_refuses_423 : decode cL_refuses 423 = .ok (.ldc 98, 2) := by decide +kernel
theorem dL_refuses_425 : decode cL_refuses 425 = .ok (.invokestatic 99, 3) := by decide +kernel
theorem dL_refuses_428 : decode cL_refuses 428 = .ok (.ldc 15, 2) := by decide +kernel
theorem dL_refuses_430 : decode cL_refuses 430 = .ok (.if_icmp .ne 174, 3) := by decide +kernel
theorem dL_refuses_433 : decode cL_refuses 433 = .ok (.iload 6, 2) := by decide +kernel
theorem dL_refuses_435 : decode cL_refuses 435 = .ok (.ifCond .eq 18, 3) := by decide +kernel
theorem dL_refuses_438 : decode cL_refuses 438 = .ok (.aload_n 0, 1) := by decide +kernel
theorem dL_refuses_439 : decode cL_refuses 439 = .ok (.iload 5, 2) := by decide +kernel
theorem dL_refuses_441 : decode cL_refuses 441 = .ok (.iload 6, 2) := by decide +kernel
theorem dL_refuses_443 : decode cL_refuses 443 = .ok (.iconst 1, 1) := by decide +kernel
theorem dL_refuses_444 : decode cL_refuses 444 = .ok (.isub, 1) := by decide +kernel
theorem dL_refuses_445 : decode cL_refuses 445 = .ok (.invokestatic 99, 3) := by decide +kernel
theorem dL_refuses_448 : decode cL_refuses 448 = .ok (.ldc 18, 2) := by decide +kernel
theorem dL_refuses_450 : decode cL_refuses 450 = .ok (.if_icmp .ne 154, 3) := by decide +kernel
theorem dL_refuses_453 : decode cL_refuses 453 = .ok (.aload_n 0, 1) := by decide +kernel
theorem dL_refuses_454 : decode cL_refuses 454 = .ok (.iload 5, 2) := by decide +kernel
theorem dL_refuses_456 : decode cL_refuses 456 = .ok (.aload_n 0, 1) := by decide +kernel
theorem dL_refuses_457 : decode cL_refuses 457 = .ok (.iload 5, 2) := by decide +kernel
theorem dL_refuses_459 : decode cL_refuses 459 = .ok (.invokestatic 135, 3) := by decide +kernel
theorem dL_refuses_462 : decode cL_refuses 462 = .ok (.invokestatic 103, 3) := by decide +kernel
theorem dL_refuses_465 : decode cL_refuses 465 = .ok (.ldc 15, 2) := by decide +kernel
theorem dL_refuses_467 : decode cL_refuses 467 = .ok (.if_icmp .ne 137, 3) := by decide +kernel
theorem dL_refuses_470 : decode cL_refuses 470 = .ok (.aload_n 0, 1) := by decide +kernel
theorem dL_refuses_471 : decode cL_refuses 471 = .ok (.iload 5, 2) := by decide +kernel
theorem dL_refuses_473 : decode cL_refuses 473 = .ok (.iload_n 1, 1) := by decide +kernel
theorem dL_refuses_474 : decode cL_refuses 474 = .ok (.ineg, 1) := by decide +kernel
theorem dL_refuses_475 : decode cL_refuses 475 = .ok (.invokestatic 103, 3) := by decide +kernel
theorem dL_refuses_478 : decode cL_refuses 478 = .ok (.ldc 15, 2) := by decide +kernel
theorem dL_refuses_480 : decode cL_refuses 480 = .ok (.if_icmp .ne 124, 3) := by decide +kernel
theorem dL_refuses_483 : decode cL_refuses 483 = .ok (.aload_n 0, 1) := by decide +kernel
theorem dL_refuses_484 : decode cL_refuses 484 = .ok (.iload 5, 2) := by decide +kernel
theorem dL_refuses_486 : decode cL_refuses 486 = .ok (.sipush 1001, 3) := by decide +kernel
theorem dL_refuses_489 : decode cL_refuses 489 = .ok (.iload_n 1, 1) := by decide +kernel
theorem dL_refuses_490 : decode cL_refuses 490 = .ok (.iadd, 1) := by decide +kernel
theorem dL_refuses_491 : decode cL_refuses 491 = .ok (.invokestatic 106, 3) := by decide +kernel
theorem dL_refuses_494 : decode cL_refuses 494 = .ok (.ldc 15, 2) := by decide +kernel
theorem dL_refuses_496 : decode cL_refuses 496 = .ok (.if_icmp .ne 108, 3) := by decide +kernel
theorem dL_refuses_499 : decode cL_refuses 499 = .ok (.aload_n 0, 1) := by decide +kernel
theorem dL_refuses_500 : decode cL_refuses 500 = .ok (.iload 5, 2) := by decide +kernel
theorem dL_refuses_502 : decode cL_refuses 502 = .ok (.invokestatic 137, 3) := by decide +kernel
theorem dL_refuses_505 : decode cL_refuses 505 = .ok (.ifCond .eq 15, 3) := by decide +kernel
theorem dL_refuses_508 : decode cL_refuses 508 = .ok (.aload_n 0, 1) := by decide +kernel
theorem dL_refuses_509 : decode cL_refuses 509 = .ok (.iload 5, 2) := by decide +kernel
theorem dL_refuses_511 : decode cL_refuses 511 = .ok (.iconst 0, 1) := by decide +kernel
theorem dL_refuses_512 : decode cL_refuses 512 = .ok (.invokestatic 106, 3) := by decide +kernel
theorem dL_refuses_515 : decode cL_refuses 515 = .ok (.ldc 18, 2) := by decide +kernel
