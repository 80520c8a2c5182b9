theorem dL_cell_0 : decode cL_cell 0 = .ok (.iload_n 1, 1) := by decide +kernel
theorem dL_cell_1 : decode cL_cell 1 = .ok (.aload_n 0, 1) := by decide +kernel
theorem dL_cell_2 : decode cL_cell 2 = .ok (.arraylength, 1) := by decide +kernel
theorem dL_cell_3 : decode cL_cell 3 = .ok (.if_icmp .ge 9, 3) := by decide +kernel
theorem dL_cell_6 : decode cL_cell 6 = .ok (.aload_n 0, 1) := by decide +kernel
theorem dL_cell_7 : decode cL_cell 7 = .ok (.iload_n 1, 1) := by decide +kernel
theorem dL_cell_8 : decode cL_cell 8 = .ok (.iaload, 1) := by decide +kernel
theorem dL_cell_9 : decode cL_cell 9 = .ok (.goto 15, 3) := by decide +kernel
theorem dL_cell_12 : decode cL_cell 12 = .ok (.sipush 7919, 3) := by decide +kernel
theorem dL_cell_15 : decode cL_cell 15 = .ok (.iload_n 1, 1) := by decide +kernel
theorem dL_cell_16 : decode cL_cell 16 = .ok (.iconst 3, 1) := by decide +kernel
theorem dL_cell_17 : decode cL_cell 17 = .ok (.iadd, 1) := by decide +kernel
theorem dL_cell_18 : decode cL_cell 18 = .ok (.imul, 1) := by decide +kernel
theorem dL_cell_19 : decode cL_cell 19 = .ok (.iload_n 1, 1) := by decide +kernel
theorem dL_cell_20 : decode cL_cell 20 = .ok (.bipush 11, 2) := by decide +kernel
theorem dL_cell_22 : decode cL_cell 22 = .ok (.iadd, 1) := by decide +kernel
theorem dL_cell_23 : decode cL_cell 23 = .ok (.imul, 1) := by decide +kernel
theorem dL_cell_24 : decode cL_cell 24 = .ok (.ireturn, 1) := by decide +kernel
theorem dL_low_0 : decode cL_low 0 = .ok (.iload_n 0, 1) := by decide +kernel
theorem dL_low_1 : decode cL_low 1 = .ok (.ldc 7, 2) := by decide +kernel
theorem dL_low_3 : decode cL_low 3 = .ok (.iand, 1) := by decide +kernel
theorem dL_low_4 : decode cL_low 4 = .ok (.iload_n 1, 1) := by decide +kernel
theorem dL_low_5 : decode cL_low 5 = .ok (.irem, 1) := by decide +kernel
theorem dL_low_6 : decode cL_low 6 = .ok (.ireturn, 1) := by decide +kernel
set_option maxRecDepth 20000 in
theorem ggL_told_X3_minutes : GoodIn wsL_told wsX3_minutes := goodIn_r _ [6, 7, 8, 66, 67, 68, 69, 70, 71, 72, 73, 74, 75, 76, 77, 78, 79, 80] (by decide +kernel) (by decide +kernel)
set_option maxRecDepth 20000 in
theorem gL_told_X3_minutes : GoodIn wsL_told (wsV RL 10 RX3 yX3_minutes wsX3_minutes) := goodIn_app (goodIn_of _ (by decide +kernel)) ggL_told_X3_minutes
set_option maxRecDepth 20000 in
theorem ggL_told_X3_sinceQuestion : GoodIn wsL_told wsX3_sinceQuestion := goodIn_r _ [12, 7, 13, 66, 67, 68, 69, 70, 71, 72, 73, 74, 75, 76, 77, 78, 79, 80] (by decide +kernel) (by decide +kernel)
set_option maxRecDepth 20000 in
theorem gL_told_X3_sinceQuestion : GoodIn wsL_told (wsV RL 16 RX3 yX3_sinceQuestion wsX3_sinceQuestion) := goodIn_app (goodIn_of _ (by decide +kernel)) ggL_told_X3_sinceQuestion
set_option maxRecDepth 20000 in
theorem ggL_told_X3_chief : GoodIn wsL_told wsX3_chief := goodIn_r _ [17, 7, 18, 19, 20, 21, 22, 23, 24, 66, 67, 68, 69, 70, 71, 72, 73, 74, 75, 76, 77, 78, 79, 80] (by decide +kernel) (by decide +kernel)
set_option maxRecDepth 20000 in
theorem gL_told_X3_chief : GoodIn wsL_told (wsV RL 19 RX3 yX3_chief wsX3_chief) := goodIn_app (goodIn_of _ (by decide +kernel)) ggL_told_X3_chief
set_option maxRecDepth 20000 in
theorem ggL_told_X3_listeners : GoodIn wsL_told wsX3_listeners := goodIn_ca (goodIn_r _ [28, 7, 29, 30, 31, 5, 32, 33, 34, 35, 36, 37, 38, 39, 40, 41, 42, 43, 44, 45, 46, 66, 67, 68, 69, 70, 71, 72, 73, 74, 75, 76, 77, 78, 79, 80] (by decide +kernel) (by decide +kernel)) (goodIn_sub (fun _ h => List.mem_cons_of_mem _ (List.mem_append_right _ h)) (by decide +kernel))
set_option maxRecDepth 20000 in
theorem gL_told_X3_listeners : GoodIn wsL_told (wsV RL 22 RX3 yX3_listeners wsX3_listeners) := goodIn_app (goodIn_of _ (by decide +kernel)) ggL_told_X3_listeners
set_option maxRecDepth 20000 in
theorem ggL_told_X3_rest : GoodIn wsL_told wsX3_rest := goodIn_ca (goodIn_r _ [50, 7, 51, 30, 31, 5, 32, 33, 34, 35, 36, 37, 38, 39, 40, 41, 42, 43, 44, 45, 46, 66, 67, 68, 69, 70, 71, 72, 73, 74, 75, 76, 77, 78, 79, 80] (by decide +kernel) (by decide +kernel)) (goodIn_sub (fun _ h => List.mem_cons_of_mem _ (List.mem_append_right _ h)) (by decide +kernel))
set_option maxRecDepth 20000 in
theorem gL_told_X3_rest : GoodIn wsL_told (wsV RL 26 RX3 yX3_rest wsX3_rest) := goodIn_app (goodIn_of _ (by decide +kernel)) ggL_told_X3_rest
set_option maxRecDepth 20000 in
theorem ggL_told_X3_isOpen : GoodIn wsL_told wsX3_isOpen := goodIn_ca (goodIn_r _ [55, 7, 30, 31, 5, 32, 33, 34, 35, 36, 37, 56, 57, 58, 21, 59, 60, 66, 67, 68, 69, 70, 71, 72, 73, 74, 75, 76, 77, 78, 79, 80] (by decide +kernel) (by decide +kernel)) (goodIn_sub (fun _ h => List.mem_cons_of_mem _ (List.mem_append_right _ h)) (by decide +kernel))
set_option maxRecDepth 20000 in
theorem gL_told_X3_isOpen : GoodIn wsL_told (wsV RL 29 RX3 yX3_isOpen wsX3_isOpen) := goodIn_app (goodIn_of _ (by decide +kernel)) ggL_told_X3_isOpen
set_option maxRecDepth 20000 in
theorem ggL_told_X3_count : GoodIn wsL_told wsX3_count := goodIn_ca (goodIn_r _ [64, 33, 34, 7, 65, 66, 67, 68, 69, 70, 71, 72, 73, 74, 75, 76, 77, 78, 79, 80] (by decide +kernel) (by decide +kernel)) (goodIn_sub (fun _ h => List.mem_cons_of_mem _ (List.mem_append_right _ h)) (by decide +kernel))
set_option maxRecDepth 20000 in
theorem gL_told_X3_count : GoodIn wsL_told (wsV RL 33 RX3 yX3_count wsX3_count) := goodIn_app (goodIn_of _ (by decide +kernel)) ggL_told_X3_count
theorem dL_told_0 : decode cL_told 0 = .ok (.ldc2_w 8, 3) := by decide +kernel
theorem dL_told_3 : decode cL_told 3 = .ok (.ldc2_w 8, 3) := by decide +kernel
theorem dL_told_6 : decode cL_told 6 = .ok (.aload_n 0, 1) := by decide +kernel
theorem dL_told_7 : decode cL_told 7 = .ok (.invokevirtual 10, 3) := by decide +kernel
theorem dL_told_10 : decode cL_told 10 = .ok (.i2l, 1) := by decide +kernel
theorem dL_told_11 : decode cL_told 11 = .ok (.lmul, 1) := by decide +kernel
theorem dL_told_12 : decode cL_told 12 = .ok (.aload_n 0, 1) := by decide +kernel
theorem dL_told_13 : decode cL_told 13 = .ok (.invokevirtual 16, 3) := by decide +kernel
theorem dL_told_16 : decode cL_told 16 = .ok (.i2l, 1) := by decide +kernel
theorem dL_told_17 : decode cL_told 17 = .ok (.ladd, 1) := by decide +kernel
theorem dL_told_18 : decode cL_told 18 = .ok (.lmul, 1) := by decide +kernel
theorem dL_told_19 : decode cL_told 19 = .ok (.aload_n 0, 1) := by decide +kernel
theorem dL_told_20 : decode cL_told 20 = .ok (.invokevirtual 19, 3) := by decide +kernel
theorem dL_told_23 : decode cL_told 23 = .ok (.i2l, 1) := by decide +kernel
theorem dL_told_24 : decode cL_told 24 = .ok (.ladd, 1) := by decide +kernel
theorem dL_told_25 : decode cL_told 25 = .ok (.lstore_n 1, 1) := by decide +kernel
theorem dL_told_26 : decode cL_told 26 = .ok (.iconst 0, 1) := by decide +kernel
theorem dL_told_27 : decode cL_told 27 = .ok (.istore_n 3, 1) := by decide +kernel
theorem dL_told_28 : decode cL_told 28 = .ok (.iload_n 3, 1) := by decide +kernel
theorem dL_told_29 : decode cL_told 29 = .ok (.bipush 48, 2) := by decide +kernel
theorem dL_told_31 : decode cL_told 31 = .ok (.if_icmp .ge 47, 3) := by decide +kernel
theorem dL_told_34 : decode cL_told 34 = .ok (.ldc2_w 8, 3) := by decide +kernel
theorem dL_told_37 : decode cL_told 37 = .ok (.ldc2_w 8, 3) := by decide +kernel
theorem dL_told_40 : decode cL_told 40 = .ok (.lload_n 1, 1) := by decide +kernel
theorem dL_told_41 : decode cL_told 41 = .ok (.lmul, 1) := by decide +kernel
theorem dL_told_42 : decode cL_told 42 = .ok (.aload_n 0, 1) := by decide +kernel
theorem dL_told_43 : decode cL_told 43 = .ok (.iload_n 3, 1) := by decide +kernel
theorem dL_told_44 : decode cL_told 44 = .ok (.bipush 6, 2) := by decide +kernel
theorem dL_told_46 : decode cL_told 46 = .ok (.idiv, 1) := by decide +kernel
theorem dL_told_47 : decode cL_told 47 = .ok (.iload_n 3, 1) := by decide +kernel
theorem dL_told_48 : decode cL_told 48 = .ok (.bipush 6, 2) := by decide +kernel
theorem dL_told_50 : decode cL_told 50 = .ok (.irem, 1) := by decide +kernel
theorem dL_told_51 : decode cL_told 51 = .ok (.invokevirtual 22, 3) := by decide +kernel
theorem dL_told_54 : decode cL_told 54 = .ok (.i2l, 1) := by decide +kernel
theorem dL_told_55 : decode cL_told 55 = .ok (.ladd, 1) := by decide +kernel
theorem dL_told_56 : decode cL_told 56 = .ok (.lmul, 1) := by decide +kernel
theorem dL_told_57 : decode cL_told 57 = .ok (.aload_n 0, 1) := by decide +kernel
theorem dL_told_58 : decode cL_told 58 = .ok (.iload_n 3, 1) := by decide +kernel
theorem dL_told_59 : decode cL_told 59 = .ok (.bipush 6, 2) := by decide +kernel
theorem dL_told_61 : decode cL_told 61 = .ok (.idiv, 1) := by decide +kernel
theorem dL_told_62 : decode cL_told 62 = .ok (.iload_n 3, 1) := by decide +kernel
theorem dL_told_63 : decode cL_told 63 = .ok (.bipush 6, 2) := by decide +kernel
theorem dL_told_65 : decode cL_told 65 = .ok (.irem, 1) := by decide +kernel
theorem dL_told_66 : decode cL_told 66 = .ok (.invokevirtual 26, 3) := by decide +kernel
theorem dL_told_69 : decode cL_told 69 = .ok (.i2l, 1) := by decide +kernel
theorem dL_told_70 : decode cL_told 70 = .ok (.ladd, 1) := by decide +kernel
theorem dL_told_71 : decode cL_told 71 = .ok (.lstore_n 1, 1) := by decide +kernel
theorem dL_told_72 : decode cL_told 72 = .ok (.iinc 3 1, 3) := by decide +kernel
theorem dL_told_75 : decode cL_told 75 = .ok (.goto (-47), 3) := by decide +kernel
theorem dL_told_78 : decode cL_told 78 = .ok (.iconst 0, 1) := by decide +kernel
theorem dL_told_79 : decode cL_told 79 = .ok (.istore_n 3, 1) := by decide +kernel
theorem dL_told_80 : decode cL_told 80 = .ok (.iload_n 3, 1) := by decide +kernel
theorem dL_told_81 : decode cL_told 81 = .ok (.bipush 8, 2) := by decide +kernel
theorem dL_told_83 : decode cL_told 83 = .ok (.if_icmp .ge 51, 3) := by decide +kernel
theorem dL_told_86 : decode cL_told 86 = .ok (.ldc2_w 8, 3) := by decide +kernel
theorem dL_told_89 : decode cL_told 89 = .ok (.ldc2_w 8, 3) := by decide +kernel
theorem dL_told_92 : decode cL_told 92 = .ok (.lload_n 1, 1) := by decide +kernel
theorem dL_told_93 : decode cL_told 93 = .ok (.lmul, 1) := by decide +kernel
theorem dL_told_94 : decode cL_told 94 = .ok (.aload_n 0, 1) := by decide +kernel
theorem dL_told_95 : decode cL_told 95 = .ok (.iload_n 3, 1) := by decide +kernel
theorem dL_told_96 : decode cL_told 96 = .ok (.invokevirtual 29, 3) := by decide +kernel
theorem dL_told_99 : decode cL_told 99 = .ok (.ifCond .eq 7, 3) := by decide +kernel
theorem dL_told_102 : decode cL_told 102 = .ok (.iconst 1, 1) := by decide +kernel
theorem dL_told_103 : decode cL_told 103 = .ok (.goto 4, 3) := by decide +kernel
theorem dL_told_106 : decode cL_told 106 = .ok (.iconst 0, 1) := by decide +kernel
theorem dL_told_107 : decode cL_told 107 = .ok (.i2l, 1) := by decide +kernel
theorem dL_told_108 : decode cL_told 108 = .ok (.ladd, 1) := by decide +kernel
theorem dL_told_109 : decode cL_told 109 = .ok (.lmul, 1) := by decide +kernel
theorem dL_told_110 : decode cL_told 110 = .ok (.iload_n 3, 1) := by decide +kernel
theorem dL_told_111 : decode cL_told 111 = .ok (.bipush 6, 2) := by decide +kernel
theorem dL_told_113 : decode cL_told 113 = .ok (.if_icmp .ge 11, 3) := by decide +kernel
theorem dL_told_116 : decode cL_told 116 = .ok (.aload_n 0, 1) := by decide +kernel
theorem dL_told_117 : decode cL_told 117 = .ok (.iload_n 3, 1) := by decide +kernel
theorem dL_told_118 : decode cL_told 118 = .ok (.invokevirtual 33, 3) := by decide +kernel
theorem dL_told_121 : decode cL_told 121 = .ok (.goto 4, 3) := by decide +kernel
theorem dL_told_124 : decode cL_told 124 = .ok (.iconst 0, 1) := by decide +kernel
theorem dL_told_125 : decode cL_told 125 = .ok (.i2l, 1) := by decide +kernel
theorem dL_told_126 : decode cL_told 126 = .ok (.ladd, 1) := by decide +kernel
theorem dL_told_127 : decode cL_told 127 = .ok (.lstore_n 1, 1) := by decide +kernel
theorem dL_told_128 : decode cL_told 128 = .ok (.iinc 3 1, 3) := by decide +kernel
theorem dL_told_131 : decode cL_told 131 = .ok (.goto (-51), 3) := by decide +kernel
theorem dL_told_134 : decode cL_told 134 = .ok (.lload_n 1, 1) := by decide +kernel
theorem dL_told_135 : decode cL_told 135 = .ok (.lreturn, 1) := by decide +kernel
theorem dL_bits_0 : decode cL_bits 0 = .ok (.iconst 0, 1) := by decide +kernel
theorem dL_bits_1 : decode cL_bits 1 = .ok (.istore_n 1, 1) := by decide +kernel
theorem dL_bits_2 : decode cL_bits 2 = .ok (.iload_n 0, 1) := by decide +kernel
theorem dL_bits_3 : decode cL_bits 3 = .ok (.istore_n 2, 1) := by decide +kernel
theorem dL_bits_4 : decode cL_bits 4 = .ok (.iload_n 2, 1) := by decide +kernel
theorem dL_bits_5 : decode cL_bits 5 = .ok (.ifCond .le 15, 3) := by decide +kernel
theorem dL_bits_8 : decode cL_bits 8 = .ok (.iinc 1 1, 3) := by decide +kernel
theorem dL_bits_11 : decode cL_bits 11 = .ok (.iload_n 2, 1) := by decide +kernel
theorem dL_bits_12 : decode cL_bits 12 = .ok (.iload_n 2, 1) := by decide +kernel
theorem dL_bits_13 : decode cL_bits 13 = .ok (.iconst 1, 1) := by decide +kernel
theorem dL_bits_14 : decode cL_bits 14 = .ok (.isub, 1) := by decide +kernel
theorem dL_bits_15 : decode cL_bits 15 = .ok (.iand, 1) := by decide +kernel
theorem dL_bits_16 : decode cL_bits 16 = .ok (.istore_n 2, 1) := by decide +kernel
theorem dL_bits_17 : decode cL_bits 17 = .ok (.goto (-13), 3) := by decide +kernel
theorem dL_bits_20 : decode cL_bits 20 = .ok (.iload_n 1, 1) := by decide +kernel
theorem dL_bits_21 : decode cL_bits 21 = .ok (.ireturn, 1) := by decide +kernel
set_option maxRecDepth 20000 in
theorem ggL_act_L_low : GoodIn wsL_act wsL_low := goodIn_r _ [4, 5] (by decide +kernel) (by decide +kernel)
set_option maxRecDepth 20000 in
theorem gL_act_L_low : GoodIn wsL_act (va_wsS RL 37 yL_low wsL_low) := goodIn_app (goodIn_of _ (by decide +kernel)) ggL_act_L_low
set_option maxRecDepth 20000 in
theorem ggL_act_X3_listeners : GoodIn wsL_act wsX3_listeners := goodIn_ca (goodIn_r _ [10, 11, 12, 13, 14, 9, 15, 16, 17, 18, 19, 20, 21, 22, 23, 24, 25, 26, 27, 28, 29, 178, 179, 180, 181, 182, 183, 184, 185, 186, 187, 188, 189, 190, 191, 192] (by decide +kernel) (by decide +kernel)) (goodIn_sub (fun _ h => List.mem_cons_of_mem _ (List.mem_append_left _ (List.mem_append_left _ (List.mem_append_right _ h)))) (by decide +kernel))
set_option maxRecDepth 20000 in
theorem gL_act_X3_listeners : GoodIn wsL_act (wsV RL 22 RX3 yX3_listeners wsX3_listeners) := goodIn_app (goodIn_of _ (by decide +kernel)) ggL_act_X3_listeners
set_option maxRecDepth 20000 in
theorem ggL_act_X3_come : GoodIn wsL_act wsX3_come := goodIn_ca (goodIn_ca (goodIn_r _ [33, 34, 35, 11, 36, 12, 13, 14, 9, 15, 16, 17, 18, 19, 20, 21, 22, 23, 24, 25, 26, 27, 28, 29, 37, 38, 39, 40, 41, 42, 43, 44, 45, 46, 47, 48, 49, 50, 51, 52, 53, 54, 55, 56, 57, 58, 59, 60, 61, 62, 63, 64, 65, 66, 67, 68, 69, 70, 71, 72, 73, 74, 75, 76, 77, 178, 179, 180, 181, 182, 183, 184, 185, 186, 187, 188, 189, 190, 191, 192, 193, 194, 195] (by decide +kernel) (by decide +kernel)) (goodIn_sub (fun _ h => List.mem_cons_of_mem _ (List.mem_append_left _ (List.mem_append_right _ h))) (by decide +kernel))) (goodIn_sub (fun _ h => List.mem_cons_of_mem _ (List.mem_append_left _ (List.mem_append_left _ (List.mem_append_right _ h)))) (by decide +kernel))
set_option maxRecDepth 20000 in
theorem gL_act_X3_come : GoodIn wsL_act (wsV RL 42 RX3 yX3_come wsX3_come) := goodIn_app (goodIn_of _ (by decide +kernel)) ggL_act_X3_come
set_option maxRecDepth 20000 in
theorem ggL_act_X3_leave : GoodIn wsL_act wsX3_leave := goodIn_ca (goodIn_ca (goodIn_r _ [81, 34, 35, 11, 36, 12, 13, 14, 9, 15, 16, 17, 18, 19, 20, 21, 22, 23, 24, 25, 26, 27, 28, 29, 82, 83, 84, 40, 85, 42, 43, 44, 45, 46, 47, 48, 49, 50, 51, 52, 53, 54, 55, 56, 57, 58, 59, 60, 61, 62, 63, 64, 65, 66, 67, 68, 69, 86, 87, 88, 89, 90, 91, 92, 93, 94, 74, 75, 76, 77, 178, 179, 180, 181, 182, 183, 184, 185, 186, 187, 188, 189, 190, 191, 192, 193, 194, 195] (by decide +kernel) (by decide +kernel)) (goodIn_sub (fun _ h => List.mem_cons_of_mem _ (List.mem_append_left _ (List.mem_append_right _ h))) (by decide +kernel))) (goodIn_sub (fun _ h => List.mem_cons_of_mem _ (List.mem_append_left _ (List.mem_append_left _ (List.mem_append_right _ h)))) (by decide +kernel))
set_option maxRecDepth 20000 in
theorem gL_act_X3_leave : GoodIn wsL_act (wsV RL 45 RX3 yX3_leave wsX3_leave) := goodIn_app (goodIn_of _ (by decide +kernel)) ggL_act_X3_leave
set_option maxRecDepth 20000 in
theorem ggL_act_X3_setOpen : GoodIn wsL_act wsX3_setOpen := goodIn_ca (goodIn_r _ [98, 36, 11, 13, 14, 9, 15, 16, 17, 18, 19, 20, 43, 44, 45, 46, 47, 48, 49, 50, 51, 52, 53, 40, 54, 42, 55, 56, 57, 58, 59, 60, 61, 62, 63, 64, 65, 66, 67, 68, 69, 99, 100, 101, 102, 103, 104, 105, 106, 178, 179, 180, 193, 194, 195, 181, 182, 183, 184, 185, 186, 187, 188, 189, 190, 191, 192] (by decide +kernel) (by decide +kernel)) (goodIn_sub (fun _ h => List.mem_cons_of_mem _ (List.mem_append_left _ (List.mem_append_left _ (List.mem_append_right _ h)))) (by decide +kernel))
set_option maxRecDepth 20000 in
theorem gL_act_X3_setOpen : GoodIn wsL_act (wsV RL 49 RX3 yX3_setOpen wsX3_setOpen) := goodIn_app (goodIn_of _ (by decide +kernel)) ggL_act_X3_setOpen
set_option maxRecDepth 20000 in
theorem ggL_act_X3_setQuick : GoodIn wsL_act wsX3_setQuick := goodIn_r _ [110, 36, 11, 111, 43, 44, 45, 46, 47, 48, 49, 50, 51, 52, 53, 40, 54, 42, 55, 56, 57, 58, 59, 60, 61, 62, 63, 64, 65, 66, 67, 68, 69, 178, 179, 180, 181, 182, 183, 184, 185, 186, 187, 188, 189, 190, 191, 192, 193, 194, 195] (by decide +kernel) (by decide +kernel)
set_option maxRecDepth 20000 in
theorem gL_act_X3_setQuick : GoodIn wsL_act (wsV RL 53 RX3 yX3_setQuick wsX3_setQuick) := goodIn_app (goodIn_of _ (by decide +kernel)) ggL_act_X3_setQuick
set_option maxRecDepth 20000 in
theorem ggL_act_X3_setTimes : GoodIn wsL_act wsX3_setTimes := goodIn_ca (goodIn_r _ [115, 116, 117, 36, 11, 118, 119, 120, 43, 44, 45, 46, 47, 48, 49, 50, 51, 52, 53, 40, 54, 42, 55, 56, 57, 58, 59, 60, 61, 62, 63, 64, 65, 66, 67, 68, 69, 178, 179, 180, 181, 182, 183, 184, 185, 186, 187, 188, 189, 190, 191, 192, 193, 194, 195] (by decide +kernel) (by decide +kernel)) (goodIn_sub (fun _ h => List.mem_cons_of_mem _ (List.mem_append_right _ h)) (by decide +kernel))
set_option maxRecDepth 20000 in
theorem gL_act_X3_setTimes : GoodIn wsL_act (wsV RL 57 RX3 yX3_setTimes wsX3_setTimes) := goodIn_app (goodIn_of _ (by decide +kernel)) ggL_act_X3_setTimes
set_option maxRecDepth 20000 in
theorem ggL_act_X3_setPresent : GoodIn wsL_act wsX3_setPresent := goodIn_ca (goodIn_r _ [124, 16, 17, 36, 11, 125, 126, 43, 44, 45, 46, 47, 48, 49, 50, 51, 52, 53, 40, 54, 42, 55, 56, 57, 58, 59, 60, 61, 62, 63, 64, 65, 66, 67, 68, 69, 127, 128, 129, 130, 178, 179, 180, 181, 182, 183, 184, 185, 186, 187, 188, 189, 190, 191, 192, 193, 194, 195] (by decide +kernel) (by decide +kernel)) (goodIn_sub (fun _ h => List.mem_cons_of_mem _ (List.mem_append_left _ (List.mem_append_left _ (List.mem_append_right _ h)))) (by decide +kernel))
set_option maxRecDepth 20000 in
theorem gL_act_X3_setPresent : GoodIn wsL_act (wsV RL 61 RX3 yX3_setPresent wsX3_setPresent) := goodIn_app (goodIn_of _ (by decide +kernel)) ggL_act_X3_setPresent
set_option maxRecDepth 20000 in
theorem ggL_act_X3_play : GoodIn wsL_act wsX3_play := goodIn_ca (goodIn_r _ [134, 36, 11, 21, 22, 9, 23, 16, 17, 24, 25, 26, 43, 44, 45, 46, 47, 48, 49, 50, 51, 52, 53, 40, 54, 42, 55, 56, 57, 58, 59, 60, 61, 62, 63, 64, 65, 66, 67, 68, 69, 135, 136, 137, 138, 139, 140, 141, 142, 28, 29, 143, 144, 145, 146, 94, 83, 84, 85, 147, 148, 149, 150, 151, 152, 153, 178, 179, 180, 193, 194, 195, 181, 182, 183, 184, 185, 186, 187, 188, 189, 190, 191, 192] (by decide +kernel) (by decide +kernel)) (goodIn_sub (fun _ h => List.mem_cons_of_mem _ (List.mem_append_left _ (List.mem_append_left _ (List.mem_append_right _ h)))) (by decide +kernel))
set_option maxRecDepth 20000 in
theorem gL_act_X3_play : GoodIn wsL_act (wsV RL 65 RX3 yX3_play wsX3_play) := goodIn_app (goodIn_of _ (by decide +kernel)) ggL_act_X3_play
set_option maxRecDepth 20000 in
theorem ggL_act_X3_pass : GoodIn wsL_act wsX3_pass := goodIn_ca (goodIn_r _ [157, 36, 11, 158, 159, 9, 160, 116, 117, 43, 44, 45, 46, 47, 48, 49, 50, 51, 52, 53, 40, 54, 42, 55, 56, 57, 58, 59, 60, 61, 62, 63, 64, 65, 66, 67, 68, 69, 161, 162, 163, 164, 165, 166, 167, 168, 169, 170, 171, 172, 173, 128, 129, 130, 174, 175, 176, 177, 74, 75, 76, 77, 178, 179, 180, 193, 194, 195, 181, 182, 183, 184, 185, 186, 187, 188, 189, 190, 191, 192] (by decide +kernel) (by decide +kernel)) (goodIn_sub (fun _ h => List.mem_cons_of_mem _ (List.mem_append_right _ h)) (by decide +kernel))
set_option maxRecDepth 20000 in
theorem gL_act_X3_pass : GoodIn wsL_act (wsV RL 68 RX3 yX3_pass wsX3_pass) := goodIn_app (goodIn_of _ (by decide +kernel)) ggL_act_X3_pass
theorem dL_act_0 : decode cL_act 0 = .ok (.iload_n 1, 1) := by decide +kernel
theorem dL_act_1 : decode cL_act 1 = .ok (.iconst 4, 1) := by decide +kernel
theorem dL_act_2 : decode cL_act 2 = .ok (.ishr, 1) := by decide +kernel
theorem dL_act_3 : decode cL_act 3 = .ok (.iload_n 1, 1) := by decide +kernel
theorem dL_act_4 : decode cL_act 4 = .ok (.bipush 19, 2) := by decide +kernel
theorem dL_act_6 : decode cL_act 6 = .ok (.ishr, 1) := by decide +kernel
theorem dL_act_7 : decode cL_act 7 = .ok (.iconst 1, 1) := by decide +kernel
theorem dL_act_8 : decode cL_act 8 = .ok (.iand, 1) := by decide +kernel
theorem dL_act_9 : decode cL_act 9 = .ok (.ifCond .ne 7, 3) := by decide +kernel
theorem dL_act_12 : decode cL_act 12 = .ok (.iconst 3, 1) := by decide +kernel
theorem dL_act_13 : decode cL_act 13 = .ok (.goto 5, 3) := by decide +kernel
theorem dL_act_16 : decode cL_act 16 = .ok (.bipush 8, 2) := by decide +kernel
theorem dL_act_18 : decode cL_act 18 = .ok (.invokestatic 37, 3) := by decide +kernel
theorem dL_act_21 : decode cL_act 21 = .ok (.istore_n 3, 1) := by decide +kernel
theorem dL_act_22 : decode cL_act 22 = .ok (.iload_n 2, 1) := by decide +kernel
theorem dL_act_23 : decode cL_act 23 = .ok (.iload_n 1, 1) := by decide +kernel
theorem dL_act_24 : decode cL_act 24 = .ok (.bipush 20, 2) := by decide +kernel
theorem dL_act_26 : decode cL_act 26 = .ok (.ishr, 1) := by decide +kernel
theorem dL_act_27 : decode cL_act 27 = .ok (.iconst 1, 1) := by decide +kernel
theorem dL_act_28 : decode cL_act 28 = .ok (.iand, 1) := by decide +kernel
theorem dL_act_29 : decode cL_act 29 = .ok (.ifCond .ne 7, 3) := by decide +kernel
theorem dL_act_32 : decode cL_act 32 = .ok (.iconst 2, 1) := by decide +kernel
theorem dL_act_33 : decode cL_act 33 = .ok (.goto 5, 3) := by decide +kernel
theorem dL_act_36 : decode cL_act 36 = .ok (.bipush 6, 2) := by decide +kernel
theorem dL_act_38 : decode cL_act 38 = .ok (.invokestatic 37, 3) := by decide +kernel
theorem dL_act_41 : decode cL_act 41 = .ok (.istore 4, 2) := by decide +kernel
theorem dL_act_43 : decode cL_act 43 = .ok (.aload_n 0, 1) := by decide +kernel
theorem dL_act_44 : decode cL_act 44 = .ok (.iload_n 3, 1) := by decide +kernel
theorem dL_act_45 : decode cL_act 45 = .ok (.iload 4, 2) := by decide +kernel
theorem dL_act_47 : decode cL_act 47 = .ok (.invokevirtual 22, 3) := by decide +kernel
theorem dL_act_50 : decode cL_act 50 = .ok (.istore 5, 2) := by decide +kernel
theorem dL_act_52 : decode cL_act 52 = .ok (.iload_n 1, 1) := by decide +kernel
theorem dL_act_53 : decode cL_act 53 = .ok (.bipush 15, 2) := by decide +kernel
theorem dL_act_55 : decode cL_act 55 = .ok (.iand, 1) := by decide +kernel
theorem dL_act_56 : decode cL_act 56 = .ok (.tableswitch 241 0 13 #[72, 72, 72, 72, 92, 92, 92, 92, 123, 151, 176, 210, 234, 234], 72) := by decide +kernel
theorem dL_act_128 : decode cL_act 128 = .ok (.iload 5, 2) := by decide +kernel
theorem dL_act_130 : decode cL_act 130 = .ok (.bipush 9, 2) := by decide +kernel
theorem dL_act_132 : decode cL_act 132 = .ok (.if_icmp .ne 8, 3) := by decide +kernel
theorem dL_act_135 : decode cL_act 135 = .ok (.bipush (-9), 2) := by decide +kernel
theorem dL_act_137 : decode cL_act 137 = .ok (.goto 10, 3) := by decide +kernel
theorem dL_act_140 : decode cL_act 140 = .ok (.aload_n 0, 1) := by decide +kernel
theorem dL_act_141 : decode cL_act 141 = .ok (.iload_n 3, 1) := by decide +kernel
theorem dL_act_142 : decode cL_act 142 = .ok (.iload 4, 2) := by decide +kernel
theorem dL_act_144 : decode cL_act 144 = .ok (.invokevirtual 42, 3) := by decide +kernel
theorem dL_act_147 : decode cL_act 147 = .ok (.ireturn, 1) := by decide +kernel
theorem dL_act_148 : decode cL_act 148 = .ok (.iload 5, 2) := by decide +kernel
theorem dL_act_150 : decode cL_act 150 = .ok (.ifCond .ne 8, 3) := by decide +kernel
theorem dL_act_153 : decode cL_act 153 = .ok (.bipush (-9), 2) := by decide +kernel
theorem dL_act_155 : decode cL_act 155 = .ok (.goto 23, 3) := by decide +kernel
theorem dL_act_158 : decode cL_act 158 = .ok (.aload_n 0, 1) := by decide +kernel
theorem dL_act_159 : decode cL_act 159 = .ok (.iload_n 3, 1) := by decide +kernel
theorem dL_act_160 : decode cL_act 160 = .ok (.iload 4, 2) := by decide +kernel
theorem dL_act_162 : decode cL_act 162 = .ok (.iload_n 2, 1) := by decide +kernel
theorem dL_act_163 : decode cL_act 163 = .ok (.iconst 4, 1) := by decide +kernel
theorem dL_act_164 : decode cL_act 164 = .ok (.ishr, 1) := by decide +kernel
theorem dL_act_165 : decode cL_act 165 = .ok (.iconst 3, 1) := by decide +kernel
theorem dL_act_166 : decode cL_act 166 = .ok (.iand, 1) := by decide +kernel
theorem dL_act_167 : decode cL_act 167 = .ok (.ifCond .le 7, 3) := by decide +kernel
theorem dL_act_170 : decode cL_act 170 = .ok (.iconst 1, 1) := by decide +kernel
theorem dL_act_171 : decode cL_act 171 = .ok (.goto 4, 3) := by decide +kernel
theorem dL_act_174 : decode cL_act 174 = .ok (.iconst 0, 1) := by decide +kernel
theorem dL_act_175 : decode cL_act 175 = .ok (.invokevirtual 45, 3) := by decide +kernel
theorem dL_act_178 : decode cL_act 178 = .ok (.ireturn, 1) := by decide +kernel
theorem dL_act_179 : decode cL_act 179 = .ok (.aload_n 0, 1) := by decide +kernel
theorem dL_act_180 : decode cL_act 180 = .ok (.iload_n 3, 1) := by decide +kernel
theorem dL_act_181 : decode cL_act 181 = .ok (.iload_n 2, 1) := by decide +kernel
theorem dL_act_182 : decode cL_act 182 = .ok (.iconst 5, 1) := by decide +kernel
theorem dL_act_183 : decode cL_act 183 = .ok (.ishr, 1) := by decide +kernel
theorem dL_act_184 : decode cL_act 184 = .ok (.iconst 1, 1) := by decide +kernel
theorem dL_act_185 : decode cL_act 185 = .ok (.iand, 1) := by decide +kernel
theorem dL_act_186 : decode cL_act 186 = .ok (.iconst 1, 1) := by decide +kernel
theorem dL_act_187 : decode cL_act 187 = .ok (.if_icmp .ne 7, 3) := by decide +kernel
theorem dL_act_190 : decode cL_act 190 = .ok (.iconst 1, 1) := by decide +kernel
theorem dL_act_191 : decode cL_act 191 = .ok (.goto 4, 3) := by decide +kernel
theorem dL_act_194 : decode cL_act 194 = .ok (.iconst 0, 1) := by decide +kernel
theorem dL_act_195 : decode cL_act 195 = .ok (.invokevirtual 49, 3) := by decide +kernel
theorem dL_act_198 : decode cL_act 198 = .ok (.ifCond .eq 7, 3) := by decide +kernel
theorem dL_act_201 : decode cL_act 201 = .ok (.iconst 1, 1) := by decide +kernel
theorem dL_act_202 : decode cL_act 202 = .ok (.goto 4, 3) := by decide +kernel
theorem dL_act_205 : decode cL_act 205 = .ok (.iconst 0, 1) := by decide +kernel
theorem dL_act_206 : decode cL_act 206 = .ok (.ireturn, 1) := by decide +kernel
theorem dL_act_207 : decode cL_act 207 = .ok (.aload_n 0, 1) := by decide +kernel
theorem dL_act_208 : decode cL_act 208 = .ok (.iload_n 2, 1) := by decide +kernel
theorem dL_act_209 : decode cL_act 209 = .ok (.iconst 1, 1) := by decide +kernel
theorem dL_act_210 : decode cL_act 210 = .ok (.iand, 1) := by decide +kernel
theorem dL_act_211 : decode cL_act 211 = .ok (.iconst 1, 1) := by decide +kernel
theorem dL_act_212 : decode cL_act 212 = .ok (.if_icmp .ne 7, 3) := by decide +kernel
theorem dL_act_215 : decode cL_act 215 = .ok (.iconst 1, 1) := by decide +kernel
theorem dL_act_216 : decode cL_act 216 = .ok (.goto 4, 3) := by decide +kernel
theorem dL_act_219 : decode cL_act 219 = .ok (.iconst 0, 1) := by decide +kernel
theorem dL_act_220 : decode cL_act 220 = .ok (.invokevirtual 53, 3) := by decide +kernel
theorem dL_act_223 : decode cL_act 223 = .ok (.ifCond .eq 7, 3) := by decide +kernel
theorem dL_act_226 : decode cL_act 226 = .ok (.iconst 1, 1) := by decide +kernel
theorem dL_act_227 : decode cL_act 227 = .ok (.goto 4, 3) := by decide +kernel
theorem dL_act_230 : decode cL_act 230 = .ok (.iconst 0, 1) := by decide +kernel
theorem dL_act_231 : decode cL_act 231 = .ok (.ireturn, 1) := by decide +kernel
theorem dL_act_232 : decode cL_act 232 = .ok (.aload_n 0, 1) := by decide +kernel
theorem dL_act_233 : decode cL_act 233 = .ok (.iconst 2, 1) := by decide +kernel
theorem dL_act_234 : decode cL_act 234 = .ok (.iload_n 2, 1) := by decide +kernel
theorem dL_act_235 : decode cL_act 235 = .ok (.bipush 59, 2) := by decide +kernel
theorem dL_act_237 : decode cL_act 237 = .ok (.invokestatic 37, 3) := by decide +kernel
theorem dL_act_240 : decode cL_act 240 = .ok (.iadd, 1) := by decide +kernel
theorem dL_act_241 : decode cL_act 241 = .ok (.iconst 1, 1) := by decide +kernel
theorem dL_act_242 : decode cL_act 242 = .ok (.iload_n 2, 1) := by decide +kernel
theorem dL_act_243 : decode cL_act 243 = .ok (.iconst 3, 1) := by decide +kernel
theorem dL_act_244 : decode cL_act 244 = .ok (.ishr, 1) := by decide +kernel
theorem dL_act_245 : decode cL_act 245 = .ok (.bipush 10, 2) := by decide +kernel
theorem dL_act_247 : decode cL_act 247 = .ok (.invokestatic 37, 3) := by decide +kernel
theorem dL_act_250 : decode cL_act 250 = .ok (.iadd, 1) := by decide +kernel
theorem dL_act_251 : decode cL_act 251 = .ok (.iconst 1, 1) := by decide +kernel
theorem dL_act_252 : decode cL_act 252 = .ok (.iload_n 2, 1) := by decide +kernel
theorem dL_act_253 : decode cL_act 253 = .ok (.bipush 6, 2) := by decide +kernel
theorem dL_act_255 : decode cL_act 255 = .ok (.ishr, 1) := by decide +kernel
theorem dL_act_256 : decode cL_act 256 = .ok (.bipush 30, 2) := by decide +kernel
theorem dL_act_258 : decode cL_act 258 = .ok (.invokestatic 37, 3) := by decide +kernel
theorem dL_act_261 : decode cL_act 261 = .ok (.iadd, 1) := by decide +kernel
theorem dL_act_262 : decode cL_act 262 = .ok (.invokevirtual 57, 3) := by decide +kernel
theorem dL_act_265 : decode cL_act 265 = .ok (.ireturn, 1) := by decide +kernel
theorem dL_act_266 : decode cL_act 266 = .ok (.aload_n 0, 1) := by decide +kernel
theorem dL_act_267 : decode cL_act 267 = .ok (.iconst 1, 1) := by decide +kernel
theorem dL_act_268 : decode cL_act 268 = .ok (.iload_n 2, 1) := by decide +kernel
theorem dL_act_269 : decode cL_act 269 = .ok (.iconst 1, 1) := by decide +kernel
theorem dL_act_270 : decode cL_act 270 = .ok (.iand, 1) := by decide +kernel
theorem dL_act_271 : decode cL_act 271 = .ok (.iadd, 1) := by decide +kernel
theorem dL_act_272 : decode cL_act 272 = .ok (.iload_n 2, 1) := by decide +kernel
theorem dL_act_273 : decode cL_act 273 = .ok (.iconst 1, 1) := by decide +kernel
theorem dL_act_274 : decode cL_act 274 = .ok (.ishr, 1) := by decide +kernel
theorem dL_act_275 : decode cL_act 275 = .ok (.iconst 1, 1) := by decide +kernel
theorem dL_act_276 : decode cL_act 276 = .ok (.iand, 1) := by decide +kernel
theorem dL_act_277 : decode cL_act 277 = .ok (.iconst 1, 1) := by decide +kernel
theorem dL_act_278 : decode cL_act 278 = .ok (.if_icmp .ne 7, 3) := by decide +kernel
theorem dL_act_281 : decode cL_act 281 = .ok (.iconst 1, 1) := by decide +kernel
theorem dL_act_282 : decode cL_act 282 = .ok (.goto 4, 3) := by decide +kernel
theorem dL_act_285 : decode cL_act 285 = .ok (.iconst 0, 1) := by decide +kernel
theorem dL_act_286 : decode cL_act 286 = .ok (.invokevirtual 61, 3) := by decide +kernel
theorem dL_act_289 : decode cL_act 289 = .ok (.ireturn, 1) := by decide +kernel
theorem dL_act_290 : decode cL_act 290 = .ok (.aload_n 0, 1) := by decide +kernel
theorem dL_act_291 : decode cL_act 291 = .ok (.iload 4, 2) := by decide +kernel
theorem dL_act_293 : decode cL_act 293 = .ok (.invokevirtual 65, 3) := by decide +kernel
theorem dL_act_296 : decode cL_act 296 = .ok (.ireturn, 1) := by decide +kernel
theorem dL_act_297 : decode cL_act 297 = .ok (.aload_n 0, 1) := by decide +kernel
theorem dL_act_298 : decode cL_act 298 = .ok (.iconst 1, 1) := by decide +kernel
theorem dL_act_299 : decode cL_act 299 = .ok (.iload_n 2, 1) := by decide +kernel
theorem dL_act_300 : decode cL_act 300 = .ok (.iload_n 2, 1) := by decide +kernel
theorem dL_act_301 : decode cL_act 301 = .ok (.bipush 20, 2) := by decide +kernel
theorem dL_act_303 : decode cL_act 303 = .ok (.ishr, 1) := by decide +kernel
theorem dL_act_304 : decode cL_act 304 = .ok (.iconst 1, 1) := by decide +kernel
theorem dL_act_305 : decode cL_act 305 = .ok (.iand, 1) := by decide +kernel
theorem dL_act_306 : decode cL_act 306 = .ok (.ifCond .ne 8, 3) := by decide +kernel
theorem dL_act_309 : decode cL_act 309 = .ok (.bipush 6, 2) := by decide +kernel
theorem dL_act_311 : decode cL_act 311 = .ok (.goto 5, 3) := by decide +kernel
theorem dL_act_314 : decode cL_act 314 = .ok (.bipush 60, 2) := by decide +kernel
theorem dL_act_316 : decode cL_act 316 = .ok (.invokestatic 37, 3) := by decide +kernel
theorem dL_act_319 : decode cL_act 319 = .ok (.iadd, 1) := by decide +kernel
theorem dL_act_320 : decode cL_act 320 = .ok (.invokevirtual 68, 3) := by decide +kernel
theorem dL_act_323 : decode cL_act 323 = .ok (.ireturn, 1) := by decide +kernel
set_option maxRecDepth 20000 in
theorem ggL_isPlayed_X3_rows : GoodIn wsL_isPlayed wsX3_rows := goodIn_ca (goodIn_r _ [5, 6, 7, 8, 4, 9, 10, 11, 12, 13, 14, 15, 16, 17, 18, 19, 20, 21, 22, 23, 147, 148, 149, 150, 151, 152, 153, 154, 155, 156, 157, 158, 159, 160, 161] (by decide +kernel) (by decide +kernel)) (goodIn_sub (fun _ h => List.mem_cons_of_mem _ (List.mem_append_left _ (List.mem_append_right _ h))) (by decide +kernel))
set_option maxRecDepth 20000 in
theorem gL_isPlayed_X3_rows : GoodIn wsL_isPlayed (wsV RL 71 RX3 yX3_rows wsX3_rows) := goodIn_app (goodIn_of _ (by decide +kernel)) ggL_isPlayed_X3_rows
set_option maxRecDepth 20000 in
theorem ggL_isPlayed_X3_wanted : GoodIn wsL_isPlayed wsX3_wanted := goodIn_ca (goodIn_r _ [27, 6, 7, 8, 4, 9, 10, 11, 12, 13, 14, 28, 29, 30, 18, 31, 22, 23, 32, 33, 34, 35, 36, 147, 148, 149, 150, 151, 152, 153, 154, 155, 156, 157, 158, 159, 160, 161] (by decide +kernel) (by decide +kernel)) (goodIn_sub (fun _ h => List.mem_cons_of_mem _ (List.mem_append_left _ (List.mem_append_right _ h))) (by decide +kernel))
set_option maxRecDepth 20000 in
theorem gL_isPlayed_X3_wanted : GoodIn wsL_isPlayed (wsV RL 74 RX3 yX3_wanted wsX3_wanted) := goodIn_app (goodIn_of _ (by decide +kernel)) ggL_isPlayed_X3_wanted
set_option maxRecDepth 20000 in
theorem ggL_isPlayed_X3_count : GoodIn wsL_isPlayed wsX3_count := goodIn_ca (goodIn_r _ [40, 10, 11, 6, 41, 147, 148, 149, 150, 151, 152, 153, 154, 155, 156, 157, 158, 159, 160, 161] (by decide +kernel) (by decide +kernel)) (goodIn_sub (fun _ h => List.mem_cons_of_mem _ (List.mem_append_left _ (List.mem_append_right _ h))) (by decide +kernel))
set_option maxRecDepth 20000 in
theorem gL_isPlayed_X3_count : GoodIn wsL_isPlayed (wsV RL 33 RX3 yX3_count wsX3_count) := goodIn_app (goodIn_of _ (by decide +kernel)) ggL_isPlayed_X3_count
set_option maxRecDepth 20000 in
theorem ggL_isPlayed_L_told : GoodIn wsL_isPlayed wsL_told := goodIn_ca (goodIn_r _ [45, 46, 47, 48, 49, 4, 50, 6, 51, 52, 53, 54, 55, 56, 57, 58, 59, 60, 61, 62, 63, 18, 64, 65, 66, 67, 68, 69, 70, 71, 72, 73, 74, 10, 11, 75, 76, 77, 7, 8, 9, 12, 13, 14, 78, 22, 23, 79, 80, 81, 82, 83, 84, 85, 86, 87, 88, 89, 90, 91, 20, 37, 38, 39, 40, 41, 147, 148, 149, 150, 151, 152, 153, 154, 155, 156, 157, 158, 159, 160, 161] (by decide +kernel) (by decide +kernel)) (goodIn_sub (fun _ h => List.mem_cons_of_mem _ (List.mem_append_left _ (List.mem_append_right _ h))) (by decide +kernel))
set_option maxRecDepth 20000 in
theorem gL_isPlayed_L_told : GoodIn wsL_isPlayed (va_wsS RL 77 yL_told wsL_told) := goodIn_app (goodIn_of _ (by decide +kernel)) ggL_isPlayed_L_told
set_option maxRecDepth 20000 in
theorem ggL_isPlayed_X3_play : GoodIn wsL_isPlayed wsX3_play := goodIn_ca (goodIn_r _ [95, 96, 6, 7, 8, 4, 9, 10, 11, 12, 13, 14, 97, 98, 99, 100, 101, 102, 103, 104, 105, 106, 107, 18, 108, 36, 109, 110, 111, 112, 21, 113, 20, 114, 66, 65, 115, 116, 117, 118, 119, 120, 121, 122, 123, 124, 16, 17, 19, 22, 23, 125, 29, 30, 31, 32, 33, 34, 35, 126, 127, 128, 129, 130, 131, 132, 147, 148, 149, 162, 163, 164, 150, 151, 152, 153, 154, 155, 156, 157, 158, 159, 160, 161] (by decide +kernel) (by decide +kernel)) (goodIn_sub (fun _ h => List.mem_cons_of_mem _ (List.mem_append_left _ (List.mem_append_right _ h))) (by decide +kernel))
set_option maxRecDepth 20000 in
theorem gL_isPlayed_X3_play : GoodIn wsL_isPlayed (wsV RL 65 RX3 yX3_play wsX3_play) := goodIn_app (goodIn_of _ (by decide +kernel)) ggL_isPlayed_X3_play
set_option maxRecDepth 20000 in
theorem ggL_isPlayed_L_bits : GoodIn wsL_isPlayed wsL_bits := goodIn_r _ [135] (by decide +kernel) (by decide +kernel)
set_option maxRecDepth 20000 in
theorem gL_isPlayed_L_bits : GoodIn wsL_isPlayed (va_wsS RL 81 yL_bits wsL_bits) := goodIn_app (goodIn_of _ (by decide +kernel)) ggL_isPlayed_L_bits
set_option maxRecDepth 20000 in
theorem ggL_isPlayed_X3_undo : GoodIn wsL_isPlayed wsX3_undo := goodIn_ca (goodIn_r _ [139, 140, 141, 96, 142, 6, 143, 144, 145, 100, 146, 102, 104, 103, 105, 106, 107, 18, 108, 36, 109, 110, 111, 112, 21, 113, 20, 114, 66, 65, 115, 116, 117, 118, 119, 147, 148, 149, 162, 163, 164, 150, 151, 152, 153, 154, 155, 156, 157, 158, 159, 160, 161] (by decide +kernel) (by decide +kernel)) (goodIn_sub (fun _ h => List.mem_cons_of_mem _ (List.mem_append_right _ h)) (by decide +kernel))
set_option maxRecDepth 20000 in
theorem gL_isPlayed_X3_undo : GoodIn wsL_isPlayed (wsV RL 84 RX3 yX3_undo wsX3_undo) := goodIn_app (goodIn_of _ (by decide +kernel)) ggL_isPlayed_X3_undo
theorem dL_isPlayed_0 : decode cL_isPlayed 0 = .ok (.aload_n 0, 1) := by decide +kernel
theorem dL_isPlayed_1 : decode cL_isPlayed 1 = .ok (.iload_n 1, 1) := by decide +kernel
theorem dL_isPlayed_2 : decode cL_isPlayed 2 = .ok (.invokevirtual 71, 3) := by decide +kernel
theorem dL_isPlayed_5 : decode cL_isPlayed 5 = .ok (.istore_n 2, 1) := by decide +kernel
theorem dL_isPlayed_6 : decode cL_isPlayed 6 = .ok (.aload_n 0, 1) := by decide +kernel
theorem dL_isPlayed_7 : decode cL_isPlayed 7 = .ok (.iload_n 1, 1) := by decide +kernel
theorem dL_isPlayed_8 : decode cL_isPlayed 8 = .ok (.invokevirtual 74, 3) := by decide +kernel
theorem dL_isPlayed_11 : decode cL_isPlayed 11 = .ok (.istore_n 3, 1) := by decide +kernel
theorem dL_isPlayed_12 : decode cL_isPlayed 12 = .ok (.aload_n 0, 1) := by decide +kernel
theorem dL_isPlayed_13 : decode cL_isPlayed 13 = .ok (.iconst 0, 1) := by decide +kernel
theorem dL_isPlayed_14 : decode cL_isPlayed 14 = .ok (.invokevirtual 33, 3) := by decide +kernel
theorem dL_isPlayed_17 : decode cL_isPlayed 17 = .ok (.istore 4, 2) := by decide +kernel
theorem dL_isPlayed_19 : decode cL_isPlayed 19 = .ok (.aload_n 0, 1) := by decide +kernel
theorem dL_isPlayed_20 : decode cL_isPlayed 20 = .ok (.iconst 1, 1) := by decide +kernel
theorem dL_isPlayed_21 : decode cL_isPlayed 21 = .ok (.invokevirtual 33, 3) := by decide +kernel
theorem dL_isPlayed_24 : decode cL_isPlayed 24 = .ok (.istore 5, 2) := by decide +kernel
theorem dL_isPlayed_26 : decode cL_isPlayed 26 = .ok (.aload_n 0, 1) := by decide +kernel
theorem dL_isPlayed_27 : decode cL_isPlayed 27 = .ok (.iconst 2, 1) := by decide +kernel
theorem dL_isPlayed_28 : decode cL_isPlayed 28 = .ok (.invokevirtual 33, 3) := by decide +kernel
theorem dL_isPlayed_31 : decode cL_isPlayed 31 = .ok (.istore 6, 2) := by decide +kernel
theorem dL_isPlayed_33 : decode cL_isPlayed 33 = .ok (.aload_n 0, 1) := by decide +kernel
theorem dL_isPlayed_34 : decode cL_isPlayed 34 = .ok (.invokestatic 77, 3) := by decide +kernel
theorem dL_isPlayed_37 : decode cL_isPlayed 37 = .ok (.lstore 7, 2) := by decide +kernel
theorem dL_isPlayed_39 : decode cL_isPlayed 39 = .ok (.aload_n 0, 1) := by decide +kernel
theorem dL_isPlayed_40 : decode cL_isPlayed 40 = .ok (.iload_n 1, 1) := by decide +kernel
theorem dL_isPlayed_41 : decode cL_isPlayed 41 = .ok (.invokevirtual 65, 3) := by decide +kernel
theorem dL_isPlayed_44 : decode cL_isPlayed 44 = .ok (.iload_n 2, 1) := by decide +kernel
theorem dL_isPlayed_45 : decode cL_isPlayed 45 = .ok (.invokestatic 81, 3) := by decide +kernel
theorem dL_isPlayed_48 : decode cL_isPlayed 48 = .ok (.if_icmp .ne 62, 3) := by decide +kernel
theorem dL_isPlayed_51 : decode cL_isPlayed 51 = .ok (.aload_n 0, 1) := by decide +kernel
theorem dL_isPlayed_52 : decode cL_isPlayed 52 = .ok (.iconst 0, 1) := by decide +kernel
theorem dL_isPlayed_53 : decode cL_isPlayed 53 = .ok (.invokevirtual 33, 3) := by decide +kernel
theorem dL_isPlayed_56 : decode cL_isPlayed 56 = .ok (.iload 4, 2) := by decide +kernel
theorem dL_isPlayed_58 : decode cL_isPlayed 58 = .ok (.iload_n 2, 1) := by decide +kernel
theorem dL_isPlayed_59 : decode cL_isPlayed 59 = .ok (.iload_n 3, 1) := by decide +kernel
theorem dL_isPlayed_60 : decode cL_isPlayed 60 = .ok (.iand, 1) := by decide +kernel
theorem dL_isPlayed_61 : decode cL_isPlayed 61 = .ok (.invokestatic 81, 3) := by decide +kernel
theorem dL_isPlayed_64 : decode cL_isPlayed 64 = .ok (.iadd, 1) := by decide +kernel
theorem dL_isPlayed_65 : decode cL_isPlayed 65 = .ok (.if_icmp .ne 45, 3) := by decide +kernel
theorem dL_isPlayed_68 : decode cL_isPlayed 68 = .ok (.aload_n 0, 1) := by decide +kernel
theorem dL_isPlayed_69 : decode cL_isPlayed 69 = .ok (.iconst 1, 1) := by decide +kernel
theorem dL_isPlayed_70 : decode cL_isPlayed 70 = .ok (.invokevirtual 33, 3) := by decide +kernel
theorem dL_isPlayed_73 : decode cL_isPlayed 73 = .ok (.iload 5, 2) := by decide +kernel
theorem dL_isPlayed_75 : decode cL_isPlayed 75 = .ok (.iload_n 2, 1) := by decide +kernel
theorem dL_isPlayed_76 : decode cL_isPlayed 76 = .ok (.iload_n 3, 1) := by decide +kernel
theorem dL_isPlayed_77 : decode cL_isPlayed 77 = .ok (.iconst (-1), 1) := by decide +kernel
theorem dL_isPlayed_78 : decode cL_isPlayed 78 = .ok (.ixor, 1) := by decide +kernel
theorem dL_isPlayed_79 : decode cL_isPlayed 79 = .ok (.iand, 1) := by decide +kernel
theorem dL_isPlayed_80 : decode cL_isPlayed 80 = .ok (.invokestatic 81, 3) := by decide +kernel
theorem dL_isPlayed_83 : decode cL_isPlayed 83 = .ok (.iadd, 1) := by decide +kernel
theorem dL_isPlayed_84 : decode cL_isPlayed 84 = .ok (.if_icmp .ne 26, 3) := by decide +kernel
theorem dL_isPlayed_87 : decode cL_isPlayed 87 = .ok (.aload_n 0, 1) := by decide +kernel
theorem dL_isPlayed_88 : decode cL_isPlayed 88 = .ok (.iconst 2, 1) := by decide +kernel
theorem dL_isPlayed_89 : decode cL_isPlayed 89 = .ok (.invokevirtual 33, 3) := by decide +kernel
theorem dL_isPlayed_92 : decode cL_isPlayed 92 = .ok (.iload 6, 2) := by decide +kernel
theorem dL_isPlayed_94 : decode cL_isPlayed 94 = .ok (.iload_n 3, 1) := by decide +kernel
theorem dL_isPlayed_95 : decode cL_isPlayed 95 = .ok (.iload_n 2, 1) := by decide +kernel
theorem dL_isPlayed_96 : decode cL_isPlayed 96 = .ok (.iconst (-1), 1) := by decide +kernel
theorem dL_isPlayed_97 : decode cL_isPlayed 97 = .ok (.ixor, 1) := by decide +kernel
theorem dL_isPlayed_98 : decode cL_isPlayed 98 = .ok (.iand, 1) := by decide +kernel
theorem dL_isPlayed_99 : decode cL_isPlayed 99 = .ok (.invokestatic 81, 3) := by decide +kernel
theorem dL_isPlayed_102 : decode cL_isPlayed 102 = .ok (.iadd, 1) := by decide +kernel
theorem dL_isPlayed_103 : decode cL_isPlayed 103 = .ok (.if_icmp .ne 7, 3) := by decide +kernel
theorem dL_isPlayed_106 : decode cL_isPlayed 106 = .ok (.iconst 1, 1) := by decide +kernel
theorem dL_isPlayed_107 : decode cL_isPlayed 107 = .ok (.goto 4, 3) := by decide +kernel
theorem dL_isPlayed_110 : decode cL_isPlayed 110 = .ok (.iconst 0, 1) := by decide +kernel
theorem dL_isPlayed_111 : decode cL_isPlayed 111 = .ok (.istore 9, 2) := by decide +kernel
theorem dL_isPlayed_113 : decode cL_isPlayed 113 = .ok (.aload_n 0, 1) := by decide +kernel
theorem dL_isPlayed_114 : decode cL_isPlayed 114 = .ok (.invokevirtual 84, 3) := by decide +kernel
theorem dL_isPlayed_117 : decode cL_isPlayed 117 = .ok (.pop, 1) := by decide +kernel
theorem dL_isPlayed_118 : decode cL_isPlayed 118 = .ok (.iload 9, 2) := by decide +kernel
theorem dL_isPlayed_120 : decode cL_isPlayed 120 = .ok (.ifCond .eq 17, 3) := by decide +kernel
theorem dL_isPlayed_123 : decode cL_isPlayed 123 = .ok (.aload_n 0, 1) := by decide +kernel
theorem dL_isPlayed_124 : decode cL_isPlayed 124 = .ok (.invokestatic 77, 3) := by decide +kernel
theorem dL_isPlayed_127 : decode cL_isPlayed 127 = .ok (.lload 7, 2) := by decide +kernel
theorem dL_isPlayed_129 : decode cL_isPlayed 129 = .ok (.lcmp, 1) := by decide +kernel
theorem dL_isPlayed_130 : decode cL_isPlayed 130 = .ok (.ifCond .ne 7, 3) := by decide +kernel
theorem dL_isPlayed_133 : decode cL_isPlayed 133 = .ok (.iconst 1, 1) := by decide +kernel
theorem dL_isPlayed_134 : decode cL_isPlayed 134 = .ok (.goto 4, 3) := by decide +kernel
theorem dL_isPlayed_137 : decode cL_isPlayed 137 = .ok (.iconst 0, 1) := by decide +kernel
theorem dL_isPlayed_138 : decode cL_isPlayed 138 = .ok (.ireturn, 1) := by decide +kernel
set_option maxRecDepth 20000 in
theorem ggL_holds_X3_rest : GoodIn wsL_holds wsX3_rest := goodIn_ca (goodIn_r _ [5, 6, 7, 8, 9, 4, 10, 11, 12, 13, 14, 15, 16, 17, 18, 19, 20, 21, 22, 23, 24, 114, 115, 116, 117, 118, 119, 120, 121, 122, 123, 124, 125, 126, 127, 128] (by decide +kernel) (by decide +kernel)) (goodIn_sub (fun _ h => List.mem_cons_of_mem _ (List.mem_append_right _ h)) (by decide +kernel))
set_option maxRecDepth 20000 in
theorem gL_holds_X3_rest : GoodIn wsL_holds (wsV RL 26 RX3 yX3_rest wsX3_rest) := goodIn_app (goodIn_of _ (by decide +kernel)) ggL_holds_X3_rest
set_option maxRecDepth 20000 in
theorem ggL_holds_X3_listeners : GoodIn wsL_holds wsX3_listeners := goodIn_ca (goodIn_r _ [28, 6, 29, 8, 9, 4, 10, 11, 12, 13, 14, 15, 16, 17, 18, 19, 20, 21, 22, 23, 24, 114, 115, 116, 117, 118, 119, 120, 121, 122, 123, 124, 125, 126, 127, 128] (by decide +kernel) (by decide +kernel)) (goodIn_sub (fun _ h => List.mem_cons_of_mem _ (List.mem_append_right _ h)) (by decide +kernel))
set_option maxRecDepth 20000 in
theorem gL_holds_X3_listeners : GoodIn wsL_holds (wsV RL 22 RX3 yX3_listeners wsX3_listeners) := goodIn_app (goodIn_of _ (by decide +kernel)) ggL_holds_X3_listeners
set_option maxRecDepth 20000 in
theorem ggL_holds_X3_rows : GoodIn wsL_holds wsX3_rows := goodIn_ca (goodIn_r _ [33, 6, 16, 17, 4, 18, 11, 12, 19, 20, 21, 34, 35, 36, 37, 38, 39, 40, 23, 24, 114, 115, 116, 117, 118, 119, 120, 121, 122, 123, 124, 125, 126, 127, 128] (by decide +kernel) (by decide +kernel)) (goodIn_sub (fun _ h => List.mem_cons_of_mem _ (List.mem_append_right _ h)) (by decide +kernel))
set_option maxRecDepth 20000 in
theorem gL_holds_X3_rows : GoodIn wsL_holds (wsV RL 71 RX3 yX3_rows wsX3_rows) := goodIn_app (goodIn_of _ (by decide +kernel)) ggL_holds_X3_rows
set_option maxRecDepth 20000 in
theorem ggL_holds_X3_wanted : GoodIn wsL_holds wsX3_wanted := goodIn_ca (goodIn_r _ [44, 6, 16, 17, 4, 18, 11, 12, 19, 20, 21, 45, 46, 47, 37, 48, 23, 24, 49, 50, 51, 52, 53, 114, 115, 116, 117, 118, 119, 120, 121, 122, 123, 124, 125, 126, 127, 128] (by decide +kernel) (by decide +kernel)) (goodIn_sub (fun _ h => List.mem_cons_of_mem _ (List.mem_append_right _ h)) (by decide +kernel))
set_option maxRecDepth 20000 in
theorem gL_holds_X3_wanted : GoodIn wsL_holds (wsV RL 74 RX3 yX3_wanted wsX3_wanted) := goodIn_app (goodIn_of _ (by decide +kernel)) ggL_holds_X3_wanted
set_option maxRecDepth 20000 in
theorem ggL_holds_X3_isOpen : GoodIn wsL_holds wsX3_isOpen := goodIn_ca (goodIn_r _ [57, 6, 8, 9, 4, 10, 11, 12, 13, 14, 15, 58, 59, 60, 37, 61, 39, 114, 115, 116, 117, 118, 119, 120, 121, 122, 123, 124, 125, 126, 127, 128] (by decide +kernel) (by decide +kernel)) (goodIn_sub (fun _ h => List.mem_cons_of_mem _ (List.mem_append_right _ h)) (by decide +kernel))
set_option maxRecDepth 20000 in
theorem gL_holds_X3_isOpen : GoodIn wsL_holds (wsV RL 29 RX3 yX3_isOpen wsX3_isOpen) := goodIn_app (goodIn_of _ (by decide +kernel)) ggL_holds_X3_isOpen
set_option maxRecDepth 20000 in
theorem ggL_holds_X3_minutesToFade : GoodIn wsL_holds wsX3_minutesToFade := goodIn_ca (goodIn_r _ [65, 6, 8, 9, 4, 10, 11, 12, 13, 14, 15, 16, 17, 18, 19, 20, 21, 22, 23, 24, 66, 67, 68, 37, 69, 40, 70, 71, 72, 73, 74, 75, 76, 77, 78, 79, 80, 81, 82, 83, 84, 85, 86, 87, 88, 89, 90, 49, 50, 51, 52, 53, 114, 115, 116, 117, 118, 119, 120, 121, 122, 123, 124, 125, 126, 127, 128] (by decide +kernel) (by decide +kernel)) (goodIn_sub (fun _ h => List.mem_cons_of_mem _ (List.mem_append_right _ h)) (by decide +kernel))
set_option maxRecDepth 20000 in
theorem gL_holds_X3_minutesToFade : GoodIn wsL_holds (wsV RL 87 RX3 yX3_minutesToFade wsX3_minutesToFade) := goodIn_app (goodIn_of _ (by decide +kernel)) ggL_holds_X3_minutesToFade
set_option maxRecDepth 20000 in
theorem ggL_holds_X3_entries : GoodIn wsL_holds wsX3_entries := goodIn_r _ [94, 6, 95, 96, 97, 37, 98, 40, 114, 115, 116, 117, 118, 119, 120, 121, 122, 123, 124, 125, 126, 127, 128] (by decide +kernel) (by decide +kernel)
set_option maxRecDepth 20000 in
theorem gL_holds_X3_entries : GoodIn wsL_holds (wsV RL 90 RX3 yX3_entries wsX3_entries) := goodIn_app (goodIn_of _ (by decide +kernel)) ggL_holds_X3_entries
set_option maxRecDepth 20000 in
theorem ggL_holds_X3_chief : GoodIn wsL_holds wsX3_chief := goodIn_r _ [102, 6, 103, 86, 87, 37, 88, 89, 90, 114, 115, 116, 117, 118, 119, 120, 121, 122, 123, 124, 125, 126, 127, 128] (by decide +kernel) (by decide +kernel)
set_option maxRecDepth 20000 in
theorem gL_holds_X3_chief : GoodIn wsL_holds (wsV RL 19 RX3 yX3_chief wsX3_chief) := goodIn_app (goodIn_of _ (by decide +kernel)) ggL_holds_X3_chief
set_option maxRecDepth 20000 in
theorem ggL_holds_X3_minutesToQuestion : GoodIn wsL_holds wsX3_minutesToQuestion := goodIn_r _ [107, 6, 108, 72, 73, 37, 74, 75, 76, 77, 78, 79, 80, 81, 82, 83, 84, 85, 86, 87, 88, 89, 90, 114, 115, 116, 117, 118, 119, 120, 121, 122, 123, 124, 125, 126, 127, 128] (by decide +kernel) (by decide +kernel)
set_option maxRecDepth 20000 in
theorem gL_holds_X3_minutesToQuestion : GoodIn wsL_holds (wsV RL 93 RX3 yX3_minutesToQuestion wsX3_minutesToQuestion) := goodIn_app (goodIn_of _ (by decide +kernel)) ggL_holds_X3_minutesToQuestion
set_option maxRecDepth 20000 in
theorem ggL_holds_X3_usefulShare : GoodIn wsL_holds wsX3_usefulShare := goodIn_r _ [112, 6, 113, 114, 115, 116, 117, 118, 119, 120, 121, 122, 123, 124, 125, 126, 127, 128] (by decide +kernel) (by decide +kernel)
set_option maxRecDepth 20000 in
theorem gL_holds_X3_usefulShare : GoodIn wsL_holds (wsV RL 96 RX3 yX3_usefulShare wsX3_usefulShare) := goodIn_app (goodIn_of _ (by decide +kernel)) ggL_holds_X3_usefulShare
theorem dL_holds_0 : decode cL_holds 0 = .ok (.iconst 0, 1) := by decide +kernel
theorem dL_holds_1 : decode cL_holds 1 = .ok (.istore_n 1, 1) := by decide +kernel
theorem dL_holds_2 : decode cL_holds 2 = .ok (.iconst 0, 1) := by decide +kernel
theorem dL_holds_3 : decode cL_holds 3 = .ok (.istore_n 2, 1) := by decide +kernel
theorem dL_holds_4 : decode cL_holds 4 = .ok (.iload_n 2, 1) := by decide +kernel
theorem dL_holds_5 : decode cL_holds 5 = .ok (.bipush 8, 2) := by decide +kernel
theorem dL_holds_7 : decode cL_holds 7 = .ok (.if_icmp .ge 183, 3) := by decide +kernel
theorem dL_holds_10 : decode cL_holds 10 = .ok (.iconst 0, 1) := by decide +kernel
theorem dL_holds_11 : decode cL_holds 11 = .ok (.istore_n 3, 1) := by decide +kernel
theorem dL_holds_12 : decode cL_holds 12 = .ok (.iload_n 3, 1) := by decide +kernel
theorem dL_holds_13 : decode cL_holds 13 = .ok (.bipush 6, 2) := by decide +kernel
theorem dL_holds_15 : decode cL_holds 15 = .ok (.if_icmp .ge 169, 3) := by decide +kernel
theorem dL_holds_18 : decode cL_holds 18 = .ok (.aload_n 0, 1) := by decide +kernel
theorem dL_holds_19 : decode cL_holds 19 = .ok (.iload_n 2, 1) := by decide +kernel
theorem dL_holds_20 : decode cL_holds 20 = .ok (.iload_n 3, 1) := by decide +kernel
theorem dL_holds_21 : decode cL_holds 21 = .ok (.invokevirtual 26, 3) := by decide +kernel
theorem dL_holds_24 : decode cL_holds 24 = .ok (.istore 4, 2) := by decide +kernel
theorem dL_holds_26 : decode cL_holds 26 = .ok (.aload_n 0, 1) := by decide +kernel
theorem dL_holds_27 : decode cL_holds 27 = .ok (.iload_n 2, 1) := by decide +kernel
theorem dL_holds_28 : decode cL_holds 28 = .ok (.iload_n 3, 1) := by decide +kernel
theorem dL_holds_29 : decode cL_holds 29 = .ok (.invokevirtual 22, 3) := by decide +kernel
theorem dL_holds_32 : decode cL_holds 32 = .ok (.istore 5, 2) := by decide +kernel
theorem dL_holds_34 : decode cL_holds 34 = .ok (.aload_n 0, 1) := by decide +kernel
theorem dL_holds_35 : decode cL_holds 35 = .ok (.iload_n 3, 1) := by decide +kernel
theorem dL_holds_36 : decode cL_holds 36 = .ok (.invokevirtual 71, 3) := by decide +kernel
theorem dL_holds_39 : decode cL_holds 39 = .ok (.iload_n 2, 1) := by decide +kernel
theorem dL_holds_40 : decode cL_holds 40 = .ok (.ishr, 1) := by decide +kernel
theorem dL_holds_41 : decode cL_holds 41 = .ok (.iconst 1, 1) := by decide +kernel
theorem dL_holds_42 : decode cL_holds 42 = .ok (.iand, 1) := by decide +kernel
theorem dL_holds_43 : decode cL_holds 43 = .ok (.iconst 1, 1) := by decide +kernel
theorem dL_holds_44 : decode cL_holds 44 = .ok (.if_icmp .ne 7, 3) := by decide +kernel
theorem dL_holds_47 : decode cL_holds 47 = .ok (.iconst 1, 1) := by decide +kernel
theorem dL_holds_48 : decode cL_holds 48 = .ok (.goto 4, 3) := by decide +kernel
theorem dL_holds_51 : decode cL_holds 51 = .ok (.iconst 0, 1) := by decide +kernel
theorem dL_holds_52 : decode cL_holds 52 = .ok (.istore 6, 2) := by decide +kernel
theorem dL_holds_54 : decode cL_holds 54 = .ok (.aload_n 0, 1) := by decide +kernel
theorem dL_holds_55 : decode cL_holds 55 = .ok (.iload_n 3, 1) := by decide +kernel
theorem dL_holds_56 : decode cL_holds 56 = .ok (.invokevirtual 74, 3) := by decide +kernel
theorem dL_holds_59 : decode cL_holds 59 = .ok (.iload_n 2, 1) := by decide +kernel
theorem dL_holds_60 : decode cL_holds 60 = .ok (.ishr, 1) := by decide +kernel
theorem dL_holds_61 : decode cL_holds 61 = .ok (.iconst 1, 1) := by decide +kernel
theorem dL_holds_62 : decode cL_holds 62 = .ok (.iand, 1) := by decide +kernel
theorem dL_holds_63 : decode cL_holds 63 = .ok (.iconst 1, 1) := by decide +kernel
theorem dL_holds_64 : decode cL_holds 64 = .ok (.if_icmp .ne 7, 3) := by decide +kernel
theorem dL_holds_67 : decode cL_holds 67 = .ok (.iconst 1, 1) := by decide +kernel
theorem dL_holds_68 : decode cL_holds 68 = .ok (.goto 4, 3) := by decide +kernel
theorem dL_holds_71 : decode cL_holds 71 = .ok (.iconst 0, 1) := by decide +kernel
theorem dL_holds_72 : decode cL_holds 72 = .ok (.istore 7, 2) := by decide +kernel
theorem dL_holds_74 : decode cL_holds 74 = .ok (.iload_n 1, 1) := by decide +kernel
theorem dL_holds_75 : decode cL_holds 75 = .ok (.iload 4, 2) := by decide +kernel
theorem dL_holds_77 : decode cL_holds 77 = .ok (.ifCond .le 7, 3) := by decide +kernel
theorem dL_holds_80 : decode cL_holds 80 = .ok (.iconst 1, 1) := by decide +kernel
theorem dL_holds_81 : decode cL_holds 81 = .ok (.goto 4, 3) := by decide +kernel
theorem dL_holds_84 : decode cL_holds 84 = .ok (.iconst 0, 1) := by decide +kernel
theorem dL_holds_85 : decode cL_holds 85 = .ok (.iadd, 1) := by decide +kernel
theorem dL_holds_86 : decode cL_holds 86 = .ok (.istore_n 1, 1) := by decide +kernel
theorem dL_holds_87 : decode cL_holds 87 = .ok (.iload 4, 2) := by decide +kernel
theorem dL_holds_89 : decode cL_holds 89 = .ok (.ifCond .lt 87, 3) := by decide +kernel
theorem dL_holds_92 : decode cL_holds 92 = .ok (.iload 4, 2) := by decide +kernel
theorem dL_holds_94 : decode cL_holds 94 = .ok (.bipush 60, 2) := by decide +kernel
theorem dL_holds_96 : decode cL_holds 96 = .ok (.if_icmp .gt 80, 3) := by decide +kernel
theorem dL_holds_99 : decode cL_holds 99 = .ok (.iload 5, 2) := by decide +kernel
theorem dL_holds_101 : decode cL_holds 101 = .ok (.ifCond .lt 75, 3) := by decide +kernel
theorem dL_holds_104 : decode cL_holds 104 = .ok (.iload 5, 2) := by decide +kernel
theorem dL_holds_106 : decode cL_holds 106 = .ok (.bipush 9, 2) := by decide +kernel
theorem dL_holds_108 : decode cL_holds 108 = .ok (.if_icmp .gt 68, 3) := by decide +kernel
theorem dL_holds_111 : decode cL_holds 111 = .ok (.iload 7, 2) := by decide +kernel
theorem dL_holds_113 : decode cL_holds 113 = .ok (.iload 5, 2) := by decide +kernel
theorem dL_holds_115 : decode cL_holds 115 = .ok (.ifCond .le 7, 3) := by decide +kernel
theorem dL_holds_118 : decode cL_holds 118 = .ok (.iconst 1, 1) := by decide +kernel
theorem dL_holds_119 : decode cL_holds 119 = .ok (.goto 4, 3) := by decide +kernel
theorem dL_holds_122 : decode cL_holds 122 = .ok (.iconst 0, 1) := by decide +kernel
theorem dL_holds_123 : decode cL_holds 123 = .ok (.if_icmp .ne 53, 3) := by decide +kernel
theorem dL_holds_126 : decode cL_holds 126 = .ok (.iload 6, 2) := by decide +kernel
theorem dL_holds_128 : decode cL_holds 128 = .ok (.iload 4, 2) := by decide +kernel
theorem dL_holds_130 : decode cL_holds 130 = .ok (.ifCond .gt 11, 3) := by decide +kernel
theorem dL_holds_133 : decode cL_holds 133 = .ok (.aload_n 0, 1) := by decide +kernel
theorem dL_holds_134 : decode cL_holds 134 = .ok (.iload_n 2, 1) := by decide +kernel
theorem dL_holds_135 : decode cL_holds 135 = .ok (.invokevirtual 29, 3) := by decide +kernel
theorem dL_holds_138 : decode cL_holds 138 = .ok (.ifCond .eq 7, 3) := by decide +kernel
theorem dL_holds_141 : decode cL_holds 141 = .ok (.iconst 1, 1) := by decide +kernel
theorem dL_holds_142 : decode cL_holds 142 = .ok (.goto 4, 3) := by decide +kernel
theorem dL_holds_145 : decode cL_holds 145 = .ok (.iconst 0, 1) := by decide +kernel
theorem dL_holds_146 : decode cL_holds 146 = .ok (.if_icmp .ne 30, 3) := by decide +kernel
theorem dL_holds_149 : decode cL_holds 149 = .ok (.aload_n 0, 1) := by decide +kernel
theorem dL_holds_150 : decode cL_holds 150 = .ok (.iload_n 2, 1) := by decide +kernel
theorem dL_holds_151 : decode cL_holds 151 = .ok (.iload_n 3, 1) := by decide +kernel
theorem dL_holds_152 : decode cL_holds 152 = .ok (.invokevirtual 87, 3) := by decide +kernel
theorem dL_holds_155 : decode cL_holds 155 = .ok (.ifCond .ne 7, 3) := by decide +kernel
theorem dL_holds_158 : decode cL_holds 158 = .ok (.iconst 1, 1) := by decide +kernel
theorem dL_holds_159 : decode cL_holds 159 = .ok (.goto 4, 3) := by decide +kernel
theorem dL_holds_162 : decode cL_holds 162 = .ok (.iconst 0, 1) := by decide +kernel
theorem dL_holds_163 : decode cL_holds 163 = .ok (.iload 4, 2) := by decide +kernel
theorem dL_holds_165 : decode cL_holds 165 = .ok (.ifCond .ne 7, 3) := by decide +kernel
theorem dL_holds_168 : decode cL_holds 168 = .ok (.iconst 1, 1) := by decide +kernel
theorem dL_holds_169 : decode cL_holds 169 = .ok (.goto 4, 3) := by decide +kernel
theorem dL_holds_172 : decode cL_holds 172 = .ok (.iconst 0, 1) := by decide +kernel
theorem dL_holds_173 : decode cL_holds 173 = .ok (.if_icmp .eq 5, 3) := by decide +kernel
theorem dL_holds_176 : decode cL_holds 176 = .ok (.iconst 0, 1) := by decide +kernel
theorem dL_holds_177 : decode cL_holds 177 = .ok (.ireturn, 1) := by decide +kernel
theorem dL_holds_178 : decode cL_holds 178 = .ok (.iinc 3 1, 3) := by decide +kernel
theorem dL_holds_181 : decode cL_holds 181 = .ok (.goto (-169), 3) := by decide +kernel
theorem dL_holds_184 : decode cL_holds 184 = .ok (.iinc 2 1, 3) := by decide +kernel
theorem dL_holds_187 : decode cL_holds 187 = .ok (.goto (-183), 3) := by decide +kernel
theorem dL_holds_190 : decode cL_holds 190 = .ok (.aload_n 0, 1) := by decide +kernel
theorem dL_holds_191 : decode cL_holds 191 = .ok (.invokevirtual 90, 3) := by decide +kernel
theorem dL_holds_194 : decode cL_holds 194 = .ok (.iload_n 1, 1) := by decide +kernel
theorem dL_holds_195 : decode cL_holds 195 = .ok (.if_icmp .ne 48, 3) := by decide +kernel
theorem dL_holds_198 : decode cL_holds 198 = .ok (.aload_n 0, 1) := by decide +kernel
theorem dL_holds_199 : decode cL_holds 199 = .ok (.invokevirtual 19, 3) := by decide +kernel
theorem dL_holds_202 : decode cL_holds 202 = .ok (.ifCond .lt 41, 3) := by decide +kernel
theorem dL_holds_205 : decode cL_holds 205 = .ok (.aload_n 0, 1) := by decide +kernel
theorem dL_holds_206 : decode cL_holds 206 = .ok (.invokevirtual 19, 3) := by decide +kernel
theorem dL_holds_209 : decode cL_holds 209 = .ok (.iconst 3, 1) := by decide +kernel
theorem dL_holds_210 : decode cL_holds 210 = .ok (.if_icmp .ge 33, 3) := by decide +kernel
theorem dL_holds_213 : decode cL_holds 213 = .ok (.aload_n 0, 1) := by decide +kernel
theorem dL_holds_214 : decode cL_holds 214 = .ok (.invokevirtual 93, 3) := by decide +kernel
theorem dL_holds_217 : decode cL_holds 217 = .ok (.iconst 1, 1) := by decide +kernel
theorem dL_holds_218 : decode cL_holds 218 = .ok (.if_icmp .lt 25, 3) := by decide +kernel
theorem dL_holds_221 : decode cL_holds 221 = .ok (.aload_n 0, 1) := by decide +kernel
theorem dL_holds_222 : decode cL_holds 222 = .ok (.invokevirtual 96, 3) := by decide +kernel
theorem dL_holds_225 : decode cL_holds 225 = .ok (.dconst 0, 1) := by decide +kernel
theorem dL_holds_226 : decode cL_holds 226 = .ok (.dcmp .l, 1) := by decide +kernel
theorem dL_holds_227 : decode cL_holds 227 = .ok (.ifCond .lt 16, 3) := by decide +kernel
theorem dL_holds_230 : decode cL_holds 230 = .ok (.aload_n 0, 1) := by decide +kernel
theorem dL_holds_231 : decode cL_holds 231 = .ok (.invokevirtual 96, 3) := by decide +kernel
theorem dL_holds_234 : decode cL_holds 234 = .ok (.dconst 1, 1) := by decide +kernel
theorem dL_holds_235 : decode cL_holds 235 = .ok (.dcmp .g, 1) := by decide +kernel
theorem dL_holds_236 : decode cL_holds 236 = .ok (.ifCond .gt 7, 3) := by decide +kernel
theorem dL_holds_239 : decode cL_holds 239 = .ok (.iconst 1, 1) := by decide +kernel
theorem dL_holds_240 : decode cL_holds 240 = .ok (.goto 4, 3) := by decide +kernel
theorem dL_holds_243 : decode cL_holds 243 = .ok (.iconst 0, 1) := by decide +kernel
theorem dL_holds_244 : decode cL_holds 244 = .ok (.ireturn, 1) := by decide +kernel
set_option maxRecDepth 20000 in
theorem ggL_isTimed_X3_minutesToQuestion : GoodIn wsL_isTimed wsX3_minutesToQuestion := goodIn_r _ [5, 6, 7, 8, 9, 10, 11, 12, 13, 14, 15, 16, 17, 18, 19, 20, 21, 22, 23, 24, 25, 26, 27, 126, 127, 128, 129, 130, 131, 132, 133, 134, 135, 136, 137, 138, 139, 140] (by decide +kernel) (by decide +kernel)
set_option maxRecDepth 20000 in
theorem gL_isTimed_X3_minutesToQuestion : GoodIn wsL_isTimed (wsV RL 93 RX3 yX3_minutesToQuestion wsX3_minutesToQuestion) := goodIn_app (goodIn_of _ (by decide +kernel)) ggL_isTimed_X3_minutesToQuestion
set_option maxRecDepth 20000 in
theorem ggL_isTimed_X3_count : GoodIn wsL_isTimed wsX3_count := goodIn_ca (goodIn_r _ [31, 32, 33, 6, 34, 126, 127, 128, 129, 130, 131, 132, 133, 134, 135, 136, 137, 138, 139, 140] (by decide +kernel) (by decide +kernel)) (goodIn_sub (fun _ h => List.mem_cons_of_mem _ (List.mem_append_left _ (List.mem_append_left _ (List.mem_append_right _ h)))) (by decide +kernel))
set_option maxRecDepth 20000 in
theorem gL_isTimed_X3_count : GoodIn wsL_isTimed (wsV RL 33 RX3 yX3_count wsX3_count) := goodIn_app (goodIn_of _ (by decide +kernel)) ggL_isTimed_X3_count
set_option maxRecDepth 20000 in
theorem ggL_isTimed_X3_rest : GoodIn wsL_isTimed wsX3_rest := goodIn_ca (goodIn_r _ [38, 6, 39, 40, 41, 4, 42, 32, 33, 43, 44, 45, 46, 47, 48, 49, 50, 51, 52, 53, 54, 126, 127, 128, 129, 130, 131, 132, 133, 134, 135, 136, 137, 138, 139, 140] (by decide +kernel) (by decide +kernel)) (goodIn_sub (fun _ h => List.mem_cons_of_mem _ (List.mem_append_left _ (List.mem_append_left _ (List.mem_append_right _ h)))) (by decide +kernel))
set_option maxRecDepth 20000 in
theorem gL_isTimed_X3_rest : GoodIn wsL_isTimed (wsV RL 26 RX3 yX3_rest wsX3_rest) := goodIn_app (goodIn_of _ (by decide +kernel)) ggL_isTimed_X3_rest
set_option maxRecDepth 20000 in
theorem ggL_isTimed_X3_pass : GoodIn wsL_isTimed wsX3_pass := goodIn_ca (goodIn_r _ [58, 59, 6, 60, 61, 4, 62, 63, 64, 65, 66, 67, 68, 69, 70, 71, 72, 73, 74, 75, 10, 76, 77, 78, 79, 80, 81, 82, 83, 84, 85, 27, 26, 86, 87, 21, 88, 12, 89, 90, 91, 92, 93, 94, 95, 96, 17, 18, 19, 20, 22, 23, 24, 25, 97, 98, 99, 100, 101, 102, 103, 104, 126, 127, 128, 141, 142, 143, 129, 130, 131, 132, 133, 134, 135, 136, 137, 138, 139, 140] (by decide +kernel) (by decide +kernel)) (goodIn_sub (fun _ h => List.mem_cons_of_mem _ (List.mem_append_left _ (List.mem_append_right _ h))) (by decide +kernel))
set_option maxRecDepth 20000 in
theorem gL_isTimed_X3_pass : GoodIn wsL_isTimed (wsV RL 68 RX3 yX3_pass wsX3_pass) := goodIn_app (goodIn_of _ (by decide +kernel)) ggL_isTimed_X3_pass
set_option maxRecDepth 20000 in
theorem ggL_isTimed_X3_sinceQuestion : GoodIn wsL_isTimed wsX3_sinceQuestion := goodIn_r _ [108, 6, 109, 126, 127, 128, 129, 130, 131, 132, 133, 134, 135, 136, 137, 138, 139, 140] (by decide +kernel) (by decide +kernel)
set_option maxRecDepth 20000 in
theorem gL_isTimed_X3_sinceQuestion : GoodIn wsL_isTimed (wsV RL 16 RX3 yX3_sinceQuestion wsX3_sinceQuestion) := goodIn_app (goodIn_of _ (by decide +kernel)) ggL_isTimed_X3_sinceQuestion
set_option maxRecDepth 20000 in
theorem ggL_isTimed_X3_listeners : GoodIn wsL_isTimed wsX3_listeners := goodIn_ca (goodIn_r _ [113, 6, 114, 40, 41, 4, 42, 32, 33, 43, 44, 45, 46, 47, 48, 49, 50, 51, 52, 53, 54, 126, 127, 128, 129, 130, 131, 132, 133, 134, 135, 136, 137, 138, 139, 140] (by decide +kernel) (by decide +kernel)) (goodIn_sub (fun _ h => List.mem_cons_of_mem _ (List.mem_append_left _ (List.mem_append_left _ (List.mem_append_right _ h)))) (by decide +kernel))
set_option maxRecDepth 20000 in
theorem gL_isTimed_X3_listeners : GoodIn wsL_isTimed (wsV RL 22 RX3 yX3_listeners wsX3_listeners) := goodIn_app (goodIn_of _ (by decide +kernel)) ggL_isTimed_X3_listeners
set_option maxRecDepth 20000 in
theorem ggL_isTimed_X3_undo : GoodIn wsL_isTimed wsX3_undo := goodIn_ca (goodIn_r _ [118, 119, 120, 59, 121, 6, 122, 123, 124, 68, 125, 70, 72, 71, 73, 74, 75, 10, 76, 77, 78, 79, 80, 81, 82, 83, 84, 85, 27, 26, 86, 87, 21, 88, 12, 126, 127, 128, 141, 142, 143, 129, 130, 131, 132, 133, 134, 135, 136, 137, 138, 139, 140] (by decide +kernel) (by decide +kernel)) (goodIn_sub (fun _ h => List.mem_cons_of_mem _ (List.mem_append_right _ h)) (by decide +kernel))
set_option maxRecDepth 20000 in
theorem gL_isTimed_X3_undo : GoodIn wsL_isTimed (wsV RL 84 RX3 yX3_undo wsX3_undo) := goodIn_app (goodIn_of _ (by decide +kernel)) ggL_isTimed_X3_undo
theorem dL_isTimed_0 : decode cL_isTimed 0 = .ok (.aload_n 0, 1) := by decide +kernel
theorem dL_isTimed_1 : decode cL_isTimed 1 = .ok (.invokevirtual 93, 3) := by decide +kernel
theorem dL_isTimed_4 : decode cL_isTimed 4 = .ok (.istore_n 3, 1) := by decide +kernel
theorem dL_isTimed_5 : decode cL_isTimed 5 = .ok (.aload_n 0, 1) := by decide +kernel
theorem dL_isTimed_6 : decode cL_isTimed 6 = .ok (.iconst 3, 1) := by decide +kernel
theorem dL_isTimed_7 : decode cL_isTimed 7 = .ok (.invokevirtual 33, 3) := by decide +kernel
theorem dL_isTimed_10 : decode cL_isTimed 10 = .ok (.istore 4, 2) := by decide +kernel
theorem dL_isTimed_12 : decode cL_isTimed 12 = .ok (.aload_n 0, 1) := by decide +kernel
theorem dL_isTimed_13 : decode cL_isTimed 13 = .ok (.iload_n 1, 1) := by decide +kernel
theorem dL_isTimed_14 : decode cL_isTimed 14 = .ok (.iload_n 2, 1) := by decide +kernel
theorem dL_isTimed_15 : decode cL_isTimed 15 = .ok (.invokevirtual 26, 3) := by decide +kernel
theorem dL_isTimed_18 : decode cL_isTimed 18 = .ok (.istore 5, 2) := by decide +kernel
theorem dL_isTimed_20 : decode cL_isTimed 20 = .ok (.aload_n 0, 1) := by decide +kernel
theorem dL_isTimed_21 : decode cL_isTimed 21 = .ok (.iload_n 3, 1) := by decide +kernel
theorem dL_isTimed_22 : decode cL_isTimed 22 = .ok (.invokevirtual 68, 3) := by decide +kernel
theorem dL_isTimed_25 : decode cL_isTimed 25 = .ok (.iconst 1, 1) := by decide +kernel
theorem dL_isTimed_26 : decode cL_isTimed 26 = .ok (.if_icmp .ne 26, 3) := by decide +kernel
theorem dL_isTimed_29 : decode cL_isTimed 29 = .ok (.aload_n 0, 1) := by decide +kernel
theorem dL_isTimed_30 : decode cL_isTimed 30 = .ok (.iconst 3, 1) := by decide +kernel
theorem dL_isTimed_31 : decode cL_isTimed 31 = .ok (.invokevirtual 33, 3) := by decide +kernel
theorem dL_isTimed_34 : decode cL_isTimed 34 = .ok (.iload 4, 2) := by decide +kernel
theorem dL_isTimed_36 : decode cL_isTimed 36 = .ok (.iconst 1, 1) := by decide +kernel
theorem dL_isTimed_37 : decode cL_isTimed 37 = .ok (.iadd, 1) := by decide +kernel
theorem dL_isTimed_38 : decode cL_isTimed 38 = .ok (.if_icmp .ne 14, 3) := by decide +kernel
theorem dL_isTimed_41 : decode cL_isTimed 41 = .ok (.aload_n 0, 1) := by decide +kernel
theorem dL_isTimed_42 : decode cL_isTimed 42 = .ok (.invokevirtual 16, 3) := by decide +kernel
theorem dL_isTimed_45 : decode cL_isTimed 45 = .ok (.ifCond .ne 7, 3) := by decide +kernel
theorem dL_isTimed_48 : decode cL_isTimed 48 = .ok (.iconst 1, 1) := by decide +kernel
theorem dL_isTimed_49 : decode cL_isTimed 49 = .ok (.goto 4, 3) := by decide +kernel
theorem dL_isTimed_52 : decode cL_isTimed 52 = .ok (.iconst 0, 1) := by decide +kernel
theorem dL_isTimed_53 : decode cL_isTimed 53 = .ok (.istore 6, 2) := by decide +kernel
theorem dL_isTimed_55 : decode cL_isTimed 55 = .ok (.iload 6, 2) := by decide +kernel
theorem dL_isTimed_57 : decode cL_isTimed 57 = .ok (.ifCond .eq 52, 3) := by decide +kernel
theorem dL_isTimed_60 : decode cL_isTimed 60 = .ok (.aload_n 0, 1) := by decide +kernel
theorem dL_isTimed_61 : decode cL_isTimed 61 = .ok (.iload_n 1, 1) := by decide +kernel
theorem dL_isTimed_62 : decode cL_isTimed 62 = .ok (.iload_n 2, 1) := by decide +kernel
theorem dL_isTimed_63 : decode cL_isTimed 63 = .ok (.invokevirtual 22, 3) := by decide +kernel
theorem dL_isTimed_66 : decode cL_isTimed 66 = .ok (.ifCond .le 16, 3) := by decide +kernel
theorem dL_isTimed_69 : decode cL_isTimed 69 = .ok (.aload_n 0, 1) := by decide +kernel
theorem dL_isTimed_70 : decode cL_isTimed 70 = .ok (.iload_n 1, 1) := by decide +kernel
theorem dL_isTimed_71 : decode cL_isTimed 71 = .ok (.iload_n 2, 1) := by decide +kernel
theorem dL_isTimed_72 : decode cL_isTimed 72 = .ok (.invokevirtual 26, 3) := by decide +kernel
theorem dL_isTimed_75 : decode cL_isTimed 75 = .ok (.iconst 1, 1) := by decide +kernel
theorem dL_isTimed_76 : decode cL_isTimed 76 = .ok (.if_icmp .le 33, 3) := by decide +kernel
theorem dL_isTimed_79 : decode cL_isTimed 79 = .ok (.goto 26, 3) := by decide +kernel
theorem dL_isTimed_82 : decode cL_isTimed 82 = .ok (.aload_n 0, 1) := by decide +kernel
theorem dL_isTimed_83 : decode cL_isTimed 83 = .ok (.iload_n 1, 1) := by decide +kernel
theorem dL_isTimed_84 : decode cL_isTimed 84 = .ok (.iload_n 2, 1) := by decide +kernel
theorem dL_isTimed_85 : decode cL_isTimed 85 = .ok (.invokevirtual 26, 3) := by decide +kernel
theorem dL_isTimed_88 : decode cL_isTimed 88 = .ok (.iload 5, 2) := by decide +kernel
theorem dL_isTimed_90 : decode cL_isTimed 90 = .ok (.iload_n 3, 1) := by decide +kernel
theorem dL_isTimed_91 : decode cL_isTimed 91 = .ok (.if_icmp .le 10, 3) := by decide +kernel
theorem dL_isTimed_94 : decode cL_isTimed 94 = .ok (.iload 5, 2) := by decide +kernel
theorem dL_isTimed_96 : decode cL_isTimed 96 = .ok (.iload_n 3, 1) := by decide +kernel
theorem dL_isTimed_97 : decode cL_isTimed 97 = .ok (.isub, 1) := by decide +kernel
theorem dL_isTimed_98 : decode cL_isTimed 98 = .ok (.goto 4, 3) := by decide +kernel
theorem dL_isTimed_101 : decode cL_isTimed 101 = .ok (.iconst 0, 1) := by decide +kernel
theorem dL_isTimed_102 : decode cL_isTimed 102 = .ok (.if_icmp .ne 7, 3) := by decide +kernel
theorem dL_isTimed_105 : decode cL_isTimed 105 = .ok (.iconst 1, 1) := by decide +kernel
theorem dL_isTimed_106 : decode cL_isTimed 106 = .ok (.goto 4, 3) := by decide +kernel
theorem dL_isTimed_109 : decode cL_isTimed 109 = .ok (.iconst 0, 1) := by decide +kernel
theorem dL_isTimed_110 : decode cL_isTimed 110 = .ok (.istore 6, 2) := by decide +kernel
theorem dL_isTimed_112 : decode cL_isTimed 112 = .ok (.aload_n 0, 1) := by decide +kernel
theorem dL_isTimed_113 : decode cL_isTimed 113 = .ok (.invokevirtual 84, 3) := by decide +kernel
theorem dL_isTimed_116 : decode cL_isTimed 116 = .ok (.pop, 1) := by decide +kernel
theorem dL_isTimed_117 : decode cL_isTimed 117 = .ok (.iload_n 3, 1) := by decide +kernel
theorem dL_isTimed_118 : decode cL_isTimed 118 = .ok (.iconst 1, 1) := by decide +kernel
theorem dL_isTimed_119 : decode cL_isTimed 119 = .ok (.if_icmp .le 30, 3) := by decide +kernel
theorem dL_isTimed_122 : decode cL_isTimed 122 = .ok (.iload 6, 2) := by decide +kernel
theorem dL_isTimed_124 : decode cL_isTimed 124 = .ok (.ifCond .eq 17, 3) := by decide +kernel
theorem dL_isTimed_127 : decode cL_isTimed 127 = .ok (.aload_n 0, 1) := by decide +kernel
theorem dL_isTimed_128 : decode cL_isTimed 128 = .ok (.iload_n 3, 1) := by decide +kernel
theorem dL_isTimed_129 : decode cL_isTimed 129 = .ok (.iconst 1, 1) := by decide +kernel
theorem dL_isTimed_130 : decode cL_isTimed 130 = .ok (.isub, 1) := by decide +kernel
theorem dL_isTimed_131 : decode cL_isTimed 131 = .ok (.invokevirtual 68, 3) := by decide +kernel
theorem dL_isTimed_134 : decode cL_isTimed 134 = .ok (.ifCond .ne 7, 3) := by decide +kernel
theorem dL_isTimed_137 : decode cL_isTimed 137 = .ok (.iconst 1, 1) := by decide +kernel
theorem dL_isTimed_138 : decode cL_isTimed 138 = .ok (.goto 4, 3) := by decide +kernel
theorem dL_isTimed_141 : decode cL_isTimed 141 = .ok (.iconst 0, 1) := by decide +kernel
theorem dL_isTimed_142 : decode cL_isTimed 142 = .ok (.istore 6, 2) := by decide +kernel
theorem dL_isTimed_144 : decode cL_isTimed 144 = .ok (.aload_n 0, 1) := by decide +kernel
theorem dL_isTimed_145 : decode cL_isTimed 145 = .ok (.invokevirtual 84, 3) := by decide +kernel
theorem dL_isTimed_148 : decode cL_isTimed 148 = .ok (.pop, 1) := by decide +kernel
theorem dL_isTimed_149 : decode cL_isTimed 149 = .ok (.iload 6, 2) := by decide +kernel
theorem dL_isTimed_151 : decode cL_isTimed 151 = .ok (.ireturn, 1) := by decide +kernel
set_option maxRecDepth 20000 in
theorem ggL_law_X3_init : GoodIn wsL_law wsX3_init := goodIn_r _ [5, 6, 7, 8, 9, 10, 11, 12, 13, 14, 15, 16, 17, 18, 19, 20, 21, 22, 23, 24, 25, 26, 27, 28, 29, 30, 31, 32, 33, 34, 35, 36, 37, 38, 39, 40, 41, 42, 43, 44, 45, 46, 47, 48, 49, 50, 317, 318, 319, 320, 321, 322, 323, 324, 325, 326, 327, 328, 314, 315, 316, 329, 330, 331, 332, 333] (by decide +kernel) (by decide +kernel)
set_option maxRecDepth 20000 in
theorem gL_law_X3_init : GoodIn wsL_law (wsX3_init) := ggL_law_X3_init
set_option maxRecDepth 20000 in
theorem ggL_law_L_cell : GoodIn wsL_law wsL_cell := goodIn_r _ [54] (by decide +kernel) (by decide +kernel)
set_option maxRecDepth 20000 in
theorem gL_law_L_cell : GoodIn wsL_law (va_wsS RL 101 yL_cell wsL_cell) := goodIn_app (goodIn_of _ (by decide +kernel)) ggL_law_L_cell
set_option maxRecDepth 20000 in
theorem ggL_law_X3_savedStates : GoodIn wsL_law wsX3_savedStates := goodIn_r _ [58, 16, 59, 314, 315, 316, 329, 330, 331] (by decide +kernel) (by decide +kernel)
set_option maxRecDepth 20000 in
theorem gL_law_X3_savedStates : GoodIn wsL_law (wsV RL 105 RX3 yX3_savedStates wsX3_savedStates) := goodIn_app (goodIn_of _ (by decide +kernel)) ggL_law_X3_savedStates
set_option maxRecDepth 20000 in
theorem ggL_law_X3_undo : GoodIn wsL_law wsX3_undo := goodIn_ca (goodIn_r _ [63, 64, 65, 16, 59, 12, 66, 67, 68, 15, 69, 44, 42, 43, 70, 71, 72, 11, 73, 25, 74, 75, 76, 77, 26, 27, 28, 29, 30, 31, 32, 33, 34, 35, 36, 314, 315, 316, 329, 330, 331, 317, 318, 319, 320, 321, 322, 323, 324, 325, 326, 327, 328] (by decide +kernel) (by decide +kernel)) (goodIn_sub (fun _ h => List.mem_append_left _ (List.mem_append_left _ (List.mem_append_right _ h))) (by decide +kernel))
set_option maxRecDepth 20000 in
theorem gL_law_X3_undo : GoodIn wsL_law (wsV RL 84 RX3 yX3_undo wsX3_undo) := goodIn_app (goodIn_of _ (by decide +kernel)) ggL_law_X3_undo
set_option maxRecDepth 20000 in
theorem ggL_law_L_told : GoodIn wsL_law wsL_told := goodIn_ca (goodIn_r _ [80, 81, 82, 83, 84, 2, 85, 12, 86, 87, 88, 89, 90, 91, 92, 93, 94, 95, 96, 97, 98, 11, 99, 31, 30, 100, 101, 102, 103, 104, 105, 106, 107, 108, 109, 110, 111, 112, 113, 114, 115, 116, 117, 118, 119, 120, 121, 122, 123, 124, 125, 126, 127, 128, 129, 130, 131, 132, 133, 134, 28, 135, 136, 137, 138, 139, 314, 315, 316, 317, 318, 319, 320, 321, 322, 323, 324, 325, 326, 327, 328] (by decide +kernel) (by decide +kernel)) (goodIn_sub (fun _ h => List.mem_append_left _ (List.mem_append_right _ h)) (by decide +kernel))
set_option maxRecDepth 20000 in
theorem gL_law_L_told : GoodIn wsL_law (va_wsS RL 77 yL_told wsL_told) := goodIn_app (goodIn_of _ (by decide +kernel)) ggL_law_L_told
set_option maxRecDepth 20000 in
theorem ggL_law_L_act : GoodIn wsL_law wsL_act := goodIn_ca (goodIn_ca (goodIn_ca (goodIn_r _ [142, 143, 144, 53, 145, 146, 100, 101, 102, 2, 103, 12, 104, 105, 106, 107, 108, 109, 110, 111, 112, 113, 114, 115, 116, 117, 118, 119, 120, 121, 147, 148, 149, 150, 64, 65, 16, 151, 152, 153, 11, 154, 25, 155, 156, 157, 15, 158, 44, 43, 42, 70, 71, 72, 73, 74, 75, 76, 77, 26, 27, 28, 29, 30, 31, 32, 33, 34, 35, 36, 159, 160, 161, 162, 163, 164, 165, 166, 167, 168, 169, 170, 171, 172, 173, 174, 175, 176, 177, 178, 179, 180, 181, 182, 183, 184, 185, 186, 187, 131, 132, 133, 134, 188, 189, 190, 191, 192, 193, 194, 195, 196, 197, 198, 199, 200, 201, 202, 203, 204, 205, 206, 207, 208, 209, 210, 211, 96, 97, 98, 99, 212, 213, 214, 215, 216, 217, 218, 219, 220, 221, 222, 223, 224, 225, 226, 227, 228, 229, 230, 231, 232, 233, 234, 235, 236, 237, 238, 239, 240, 241, 242, 243, 244, 245, 246, 247, 248, 249, 250, 251, 252, 253, 254, 255, 256, 257, 258, 314, 315, 316, 317, 318, 319, 320, 321, 322, 323, 324, 325, 326, 327, 328, 329, 330, 331] (by decide +kernel) (by decide +kernel)) (goodIn_sub (fun _ h => List.mem_append_left _ (List.mem_append_right _ h)) (by decide +kernel))) (goodIn_sub (fun _ h => List.mem_append_left _ (List.mem_append_left _ (List.mem_append_right _ h))) (by decide +kernel))) (goodIn_sub (fun _ h => List.mem_append_right _ h) (by decide +kernel))
set_option maxRecDepth 20000 in
theorem gL_law_L_act : GoodIn wsL_law (va_wsS RL 108 yL_act wsL_act) := goodIn_app (goodIn_of _ (by decide +kernel)) ggL_law_L_act
set_option maxRecDepth 20000 in
theorem ggL_law_L_holds : GoodIn wsL_law wsL_holds := goodIn_ca (goodIn_r _ [261, 122, 123, 124, 2, 125, 12, 126, 105, 106, 107, 108, 109, 110, 111, 112, 113, 114, 115, 116, 117, 118, 119, 120, 121, 100, 101, 102, 103, 104, 262, 263, 264, 265, 266, 221, 222, 11, 223, 28, 26, 267, 268, 269, 270, 271, 225, 226, 227, 183, 172, 173, 174, 25, 127, 128, 129, 130, 131, 132, 133, 134, 272, 273, 274, 275, 276, 277, 278, 279, 32, 280, 281, 282, 283, 36, 284, 285, 286, 287, 250, 251, 252, 253, 34, 254, 97, 98, 99, 31, 30, 288, 289, 290, 291, 292, 293, 294, 295, 92, 93, 94, 95, 96, 296, 297, 298, 299, 300, 301, 302, 303, 304, 139, 314, 315, 316, 317, 318, 319, 320, 321, 322, 323, 324, 325, 326, 327, 328] (by decide +kernel) (by decide +kernel)) (goodIn_sub (fun _ h => List.mem_append_left _ (List.mem_append_right _ h)) (by decide +kernel))
set_option maxRecDepth 20000 in
theorem gL_law_L_holds : GoodIn wsL_law (va_wsS RL 112 yL_holds wsL_holds) := goodIn_app (goodIn_of _ (by decide +kernel)) ggL_law_L_holds
set_option maxRecDepth 20000 in
theorem ggL_law_L_low : GoodIn wsL_law wsL_low := goodIn_r _ [145, 146] (by decide +kernel) (by decide +kernel)
set_option maxRecDepth 20000 in
theorem gL_law_L_low : GoodIn wsL_law (va_wsS RL 37 yL_low wsL_low) := goodIn_app (goodIn_of _ (by decide +kernel)) ggL_law_L_low
set_option maxRecDepth 20000 in
theorem ggL_law_L_isPlayed : GoodIn wsL_law wsL_isPlayed := goodIn_ca (goodIn_ca (goodIn_r _ [307, 262, 263, 264, 2, 265, 12, 113, 114, 115, 108, 109, 116, 117, 118, 266, 221, 222, 11, 223, 28, 26, 120, 121, 267, 268, 269, 270, 271, 225, 226, 227, 183, 172, 173, 174, 25, 135, 136, 137, 138, 139, 78, 79, 53, 80, 81, 82, 83, 84, 85, 86, 87, 88, 89, 90, 91, 92, 93, 94, 95, 96, 97, 98, 99, 31, 30, 100, 101, 102, 103, 104, 105, 106, 107, 110, 111, 112, 119, 122, 123, 124, 125, 126, 127, 128, 129, 130, 131, 132, 133, 134, 212, 213, 214, 215, 16, 155, 156, 157, 15, 158, 44, 43, 42, 70, 71, 72, 73, 74, 75, 76, 77, 27, 29, 32, 33, 34, 35, 36, 216, 217, 218, 219, 220, 224, 228, 229, 230, 231, 232, 233, 234, 308, 309, 310, 60, 61, 62, 63, 64, 65, 59, 66, 67, 68, 69, 314, 315, 316, 317, 318, 319, 320, 321, 322, 323, 324, 325, 326, 327, 328, 329, 330, 331] (by decide +kernel) (by decide +kernel)) (goodIn_sub (fun _ h => List.mem_append_left _ (List.mem_append_right _ h)) (by decide +kernel))) (goodIn_sub (fun _ h => List.mem_append_left _ (List.mem_append_left _ (List.mem_append_right _ h))) (by decide +kernel))
set_option maxRecDepth 20000 in
theorem gL_law_L_isPlayed : GoodIn wsL_law (va_wsS RL 116 yL_isPlayed wsL_isPlayed) := goodIn_app (goodIn_of _ (by decide +kernel)) ggL_law_L_isPlayed
set_option maxRecDepth 20000 in
theorem ggL_law_L_isTimed : GoodIn wsL_law wsL_isTimed := goodIn_ca (goodIn_ca (goodIn_ca (goodIn_r _ [313, 296, 297, 298, 2, 299, 12, 300, 281, 282, 11, 283, 36, 284, 285, 286, 287, 250, 251, 252, 253, 34, 254, 97, 98, 99, 31, 30, 135, 136, 137, 138, 108, 109, 139, 122, 123, 124, 125, 126, 105, 106, 107, 110, 111, 112, 113, 114, 115, 116, 117, 118, 119, 120, 121, 235, 236, 237, 238, 16, 239, 240, 241, 201, 202, 155, 156, 157, 15, 158, 44, 43, 42, 70, 71, 72, 73, 25, 74, 75, 76, 77, 26, 27, 28, 29, 32, 33, 35, 242, 243, 244, 245, 246, 247, 248, 249, 255, 256, 257, 258, 163, 164, 165, 166, 87, 88, 89, 90, 91, 100, 101, 102, 103, 104, 60, 61, 62, 63, 64, 65, 59, 66, 67, 68, 69, 314, 315, 316, 317, 318, 319, 320, 321, 322, 323, 324, 325, 326, 327, 328, 329, 330, 331] (by decide +kernel) (by decide +kernel)) (goodIn_sub (fun _ h => List.mem_append_left _ (List.mem_append_right _ h)) (by decide +kernel))) (goodIn_sub (fun _ h => List.mem_append_right _ h) (by decide +kernel))) (goodIn_sub (fun _ h => List.mem_append_left _ (List.mem_append_left _ (List.mem_append_right _ h))) (by decide +kernel))
set_option maxRecDepth 20000 in
theorem gL_law_L_isTimed : GoodIn wsL_law (va_wsS RL 120 yL_isTimed wsL_isTimed) := goodIn_app (goodIn_of _ (by decide +kernel)) ggL_law_L_isTimed
theorem dL_law_0 : decode cL_law 0 = .ok (.new 11, 3) := by decide +kernel
theorem dL_law_3 : decode cL_law 3 = .ok (.dup, 1) := by decide +kernel
theorem dL_law_4 : decode cL_law 4 = .ok (.invokespecial 100, 3) := by decide +kernel
theorem dL_law_7 : decode cL_law 7 = .ok (.astore_n 1, 1) := by decide +kernel
theorem dL_law_8 : decode cL_law 8 = .ok (.iconst 0, 1) := by decide +kernel
theorem dL_law_9 : decode cL_law 9 = .ok (.istore_n 2, 1) := by decide +kernel
theorem dL_law_10 : decode cL_law 10 = .ok (.iload_n 2, 1) := by decide +kernel
theorem dL_law_11 : decode cL_law 11 = .ok (.bipush 36, 2) := by decide +kernel
theorem dL_law_13 : decode cL_law 13 = .ok (.if_icmp .ge 229, 3) := by decide +kernel
theorem dL_law_16 : decode cL_law 16 = .ok (.aload_n 0, 1) := by decide +kernel
theorem dL_law_17 : decode cL_law 17 = .ok (.iconst 2, 1) := by decide +kernel
theorem dL_law_18 : decode cL_law 18 = .ok (.iload_n 2, 1) := by decide +kernel
theorem dL_law_19 : decode cL_law 19 = .ok (.imul, 1) := by decide +kernel
theorem dL_law_20 : decode cL_law 20 = .ok (.invokestatic 101, 3) := by decide +kernel
theorem dL_law_23 : decode cL_law 23 = .ok (.istore_n 3, 1) := by decide +kernel
theorem dL_law_24 : decode cL_law 24 = .ok (.aload_n 0, 1) := by decide +kernel
theorem dL_law_25 : decode cL_law 25 = .ok (.iconst 2, 1) := by decide +kernel
theorem dL_law_26 : decode cL_law 26 = .ok (.iload_n 2, 1) := by decide +kernel
theorem dL_law_27 : decode cL_law 27 = .ok (.imul, 1) := by decide +kernel
theorem dL_law_28 : decode cL_law 28 = .ok (.iconst 1, 1) := by decide +kernel
theorem dL_law_29 : decode cL_law 29 = .ok (.iadd, 1) := by decide +kernel
theorem dL_law_30 : decode cL_law 30 = .ok (.invokestatic 101, 3) := by decide +kernel
theorem dL_law_33 : decode cL_law 33 = .ok (.istore 4, 2) := by decide +kernel
theorem dL_law_35 : decode cL_law 35 = .ok (.aload_n 1, 1) := by decide +kernel
theorem dL_law_36 : decode cL_law 36 = .ok (.invokevirtual 105, 3) := by decide +kernel
theorem dL_law_39 : decode cL_law 39 = .ok (.iconst 5, 1) := by decide +kernel
theorem dL_law_40 : decode cL_law 40 = .ok (.if_icmp .lt 13, 3) := by decide +kernel
theorem dL_law_43 : decode cL_law 43 = .ok (.aload_n 1, 1) := by decide +kernel
theorem dL_law_44 : decode cL_law 44 = .ok (.invokevirtual 84, 3) := by decide +kernel
theorem dL_law_47 : decode cL_law 47 = .ok (.pop, 1) := by decide +kernel
theorem dL_law_48 : decode cL_law 48 = .ok (.aload_n 1, 1) := by decide +kernel
theorem dL_law_49 : decode cL_law 49 = .ok (.invokevirtual 84, 3) := by decide +kernel
theorem dL_law_52 : decode cL_law 52 = .ok (.pop, 1) := by decide +kernel
theorem dL_law_53 : decode cL_law 53 = .ok (.aload_n 1, 1) := by decide +kernel
theorem dL_law_54 : decode cL_law 54 = .ok (.invokevirtual 105, 3) := by decide +kernel
theorem dL_law_57 : decode cL_law 57 = .ok (.istore 5, 2) := by decide +kernel
theorem dL_law_59 : decode cL_law 59 = .ok (.aload_n 1, 1) := by decide +kernel
theorem dL_law_60 : decode cL_law 60 = .ok (.invokestatic 77, 3) := by decide +kernel
theorem dL_law_63 : decode cL_law 63 = .ok (.lstore 6, 2) := by decide +kernel
theorem dL_law_65 : decode cL_law 65 = .ok (.aload_n 1, 1) := by decide +kernel
theorem dL_law_66 : decode cL_law 66 = .ok (.iload_n 3, 1) := by decide +kernel
theorem dL_law_67 : decode cL_law 67 = .ok (.iload 4, 2) := by decide +kernel
theorem dL_law_69 : decode cL_law 69 = .ok (.invokestatic 108, 3) := by decide +kernel
theorem dL_law_72 : decode cL_law 72 = .ok (.istore 8, 2) := by decide +kernel
theorem dL_law_74 : decode cL_law 74 = .ok (.aload_n 1, 1) := by decide +kernel
theorem dL_law_75 : decode cL_law 75 = .ok (.invokestatic 77, 3) := by decide +kernel
theorem dL_law_78 : decode cL_law 78 = .ok (.lstore 9, 2) := by decide +kernel
theorem dL_law_80 : decode cL_law 80 = .ok (.iload 8, 2) := by decide +kernel
theorem dL_law_82 : decode cL_law 82 = .ok (.bipush (-9), 2) := by decide +kernel
theorem dL_law_84 : decode cL_law 84 = .ok (.if_icmp .ne 23, 3) := by decide +kernel
theorem dL_law_87 : decode cL_law 87 = .ok (.lload 9, 2) := by decide +kernel
theorem dL_law_89 : decode cL_law 89 = .ok (.lload 6, 2) := by decide +kernel
theorem dL_law_91 : decode cL_law 91 = .ok (.lcmp, 1) := by decide +kernel
theorem dL_law_92 : decode cL_law 92 = .ok (.ifCond .ne 26, 3) := by decide +kernel
theorem dL_law_95 : decode cL_law 95 = .ok (.aload_n 1, 1) := by decide +kernel
theorem dL_law_96 : decode cL_law 96 = .ok (.invokevirtual 105, 3) := by decide +kernel
theorem dL_law_99 : decode cL_law 99 = .ok (.iload 5, 2) := by decide +kernel
theorem dL_law_101 : decode cL_law 101 = .ok (.if_icmp .eq 19, 3) := by decide +kernel
theorem dL_law_104 : decode cL_law 104 = .ok (.goto 14, 3) := by decide +kernel
theorem dL_law_107 : decode cL_law 107 = .ok (.aload_n 1, 1) := by decide +kernel
theorem dL_law_108 : decode cL_law 108 = .ok (.invokevirtual 105, 3) := by decide +kernel
theorem dL_law_111 : decode cL_law 111 = .ok (.iload 5, 2) := by decide +kernel
theorem dL_law_113 : decode cL_law 113 = .ok (.iconst 1, 1) := by decide +kernel
theorem dL_law_114 : decode cL_law 114 = .ok (.iadd, 1) := by decide +kernel
theorem dL_law_115 : decode cL_law 115 = .ok (.if_icmp .eq 5, 3) := by decide +kernel
theorem dL_law_118 : decode cL_law 118 = .ok (.iconst 0, 1) := by decide +kernel
theorem dL_law_119 : decode cL_law 119 = .ok (.ireturn, 1) := by decide +kernel
theorem dL_law_120 : decode cL_law 120 = .ok (.iload 8, 2) := by decide +kernel
theorem dL_law_122 : decode cL_law 122 = .ok (.bipush (-9), 2) := by decide +kernel
theorem dL_law_124 : decode cL_law 124 = .ok (.if_icmp .eq 55, 3) := by decide +kernel
theorem dL_law_127 : decode cL_law 127 = .ok (.iload_n 3, 1) := by decide +kernel
theorem dL_law_128 : decode cL_law 128 = .ok (.bipush 10, 2) := by decide +kernel
theorem dL_law_130 : decode cL_law 130 = .ok (.ishr, 1) := by decide +kernel
theorem dL_law_131 : decode cL_law 131 = .ok (.iconst 1, 1) := by decide +kernel
theorem dL_law_132 : decode cL_law 132 = .ok (.iand, 1) := by decide +kernel
theorem dL_law_133 : decode cL_law 133 = .ok (.ifCond .ne 46, 3) := by decide +kernel
theorem dL_law_136 : decode cL_law 136 = .ok (.aload_n 1, 1) := by decide +kernel
theorem dL_law_137 : decode cL_law 137 = .ok (.invokevirtual 84, 3) := by decide +kernel
theorem dL_law_140 : decode cL_law 140 = .ok (.iload 5, 2) := by decide +kernel
theorem dL_law_142 : decode cL_law 142 = .ok (.if_icmp .ne 35, 3) := by decide +kernel
theorem dL_law_145 : decode cL_law 145 = .ok (.aload_n 1, 1) := by decide +kernel
theorem dL_law_146 : decode cL_law 146 = .ok (.invokestatic 77, 3) := by decide +kernel
theorem dL_law_149 : decode cL_law 149 = .ok (.lload 6, 2) := by decide +kernel
theorem dL_law_151 : decode cL_law 151 = .ok (.lcmp, 1) := by decide +kernel
theorem dL_law_152 : decode cL_law 152 = .ok (.ifCond .ne 25, 3) := by decide +kernel
theorem dL_law_155 : decode cL_law 155 = .ok (.aload_n 1, 1) := by decide +kernel
theorem dL_law_156 : decode cL_law 156 = .ok (.iload_n 3, 1) := by decide +kernel
theorem dL_law_157 : decode cL_law 157 = .ok (.iload 4, 2) := by decide +kernel
theorem dL_law_159 : decode cL_law 159 = .ok (.invokestatic 108, 3) := by decide +kernel
theorem dL_law_162 : decode cL_law 162 = .ok (.iload 8, 2) := by decide +kernel
theorem dL_law_164 : decode cL_law 164 = .ok (.if_icmp .ne 13, 3) := by decide +kernel
theorem dL_law_167 : decode cL_law 167 = .ok (.aload_n 1, 1) := by decide +kernel
theorem dL_law_168 : decode cL_law 168 = .ok (.invokestatic 77, 3) := by decide +kernel
theorem dL_law_171 : decode cL_law 171 = .ok (.lload 9, 2) := by decide +kernel
theorem dL_law_173 : decode cL_law 173 = .ok (.lcmp, 1) := by decide +kernel
theorem dL_law_174 : decode cL_law 174 = .ok (.ifCond .eq 5, 3) := by decide +kernel
theorem dL_law_177 : decode cL_law 177 = .ok (.iconst 0, 1) := by decide +kernel
theorem dL_law_178 : decode cL_law 178 = .ok (.ireturn, 1) := by decide +kernel
theorem dL_law_179 : decode cL_law 179 = .ok (.iload_n 2, 1) := by decide +kernel
theorem dL_law_180 : decode cL_law 180 = .ok (.iconst 3, 1) := by decide +kernel
theorem dL_law_181 : decode cL_law 181 = .ok (.irem, 1) := by decide +kernel
theorem dL_law_182 : decode cL_law 182 = .ok (.ifCond .ne 10, 3) := by decide +kernel
theorem dL_law_185 : decode cL_law 185 = .ok (.aload_n 1, 1) := by decide +kernel
theorem dL_law_186 : decode cL_law 186 = .ok (.invokestatic 112, 3) := by decide +kernel
theorem dL_law_189 : decode cL_law 189 = .ok (.ifCond .eq 45, 3) := by decide +kernel
theorem dL_law_192 : decode cL_law 192 = .ok (.aload_n 1, 1) := by decide +kernel
theorem dL_law_193 : decode cL_law 193 = .ok (.iload 4, 2) := by decide +kernel
theorem dL_law_195 : decode cL_law 195 = .ok (.iconst 2, 1) := by decide +kernel
theorem dL_law_196 : decode cL_law 196 = .ok (.ishr, 1) := by decide +kernel
theorem dL_law_197 : decode cL_law 197 = .ok (.bipush 6, 2) := by decide +kernel
theorem dL_law_199 : decode cL_law 199 = .ok (.invokestatic 37, 3) := by decide +kernel
theorem dL_law_202 : decode cL_law 202 = .ok (.invokestatic 116, 3) := by decide +kernel
theorem dL_law_205 : decode cL_law 205 = .ok (.ifCond .eq 29, 3) := by decide +kernel
theorem dL_law_208 : decode cL_law 208 = .ok (.aload_n 1, 1) := by decide +kernel
theorem dL_law_209 : decode cL_law 209 = .ok (.iload 4, 2) := by decide +kernel
theorem dL_law_211 : decode cL_law 211 = .ok (.iconst 5, 1) := by decide +kernel
theorem dL_law_212 : decode cL_law 212 = .ok (.ishr, 1) := by decide +kernel
theorem dL_law_213 : decode cL_law 213 = .ok (.bipush 8, 2) := by decide +kernel
theorem dL_law_215 : decode cL_law 215 = .ok (.invokestatic 37, 3) := by decide +kernel
theorem dL_law_218 : decode cL_law 218 = .ok (.iload 4, 2) := by decide +kernel
theorem dL_law_220 : decode cL_law 220 = .ok (.bipush 8, 2) := by decide +kernel
theorem dL_law_222 : decode cL_law 222 = .ok (.ishr, 1) := by decide +kernel
theorem dL_law_223 : decode cL_law 223 = .ok (.bipush 6, 2) := by decide +kernel
theorem dL_law_225 : decode cL_law 225 = .ok (.invokestatic 37, 3) := by decide +kernel
theorem dL_law_228 : decode cL_law 228 = .ok (.invokestatic 120, 3) := by decide +kernel
theorem dL_law_231 : decode cL_law 231 = .ok (.ifCond .ne 5, 3) := by decide +kernel
theorem dL_law_234 : decode cL_law 234 = .ok (.iconst 0, 1) := by decide +kernel
theorem dL_law_235 : decode cL_law 235 = .ok (.ireturn, 1) := by decide +kernel
theorem dL_law_236 : decode cL_law 236 = .ok (.iinc 2 1, 3) := by decide +kernel
theorem dL_law_239 : decode cL_law 239 = .ok (.goto (-229), 3) := by decide +kernel
theorem dL_law_242 : decode cL_law 242 = .ok (.iconst 1, 1) := by decide +kernel
theorem dL_law_243 : decode cL_law 243 = .ok (.ireturn, 1) := by decide +kernel

