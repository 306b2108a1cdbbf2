theorem dL_cell_0 : decode cL_cell 0 = .ok (.iload_n 1, 1) := by decide +kernel
theorem dL_cell_1 : decode cL_cell 1 = .ok (.aload_n 0, 1) := by decide +kernel
theorem dL_cell_2 : decode cL_cell 2 = .ok (.arraylength, 1) := by decide +kernel
theorem dL_cell_3 : decode cL_cell 3 = .ok (.if_icmp .ge 9, 3) := by decide +kernel
theorem dL_cell_6 : decode cL_cell 6 = .ok (.aload_n 0, 1) := by decide +kernel
theorem dL_cell_7 : decode cL_cell 7 = .ok (.iload_n 1, 1) := by decide +kernel
theorem dL_cell_8 : decode cL_cell 8 = .ok (.iaload, 1) := by decide +kernel
theorem dL_cell_9 : decode cL_cell 9 = .ok (.goto 18, 3) := by decide +kernel
theorem dL_cell_12 : decode cL_cell 12 = .ok (.sipush 7919, 3) := by decide +kernel
theorem dL_cell_15 : decode cL_cell 15 = .ok (.iload_n 1, 1) := by decide +kernel
theorem dL_cell_16 : decode cL_cell 16 = .ok (.sipush 701, 3) := by decide +kernel
theorem dL_cell_19 : decode cL_cell 19 = .ok (.iadd, 1) := by decide +kernel
theorem dL_cell_20 : decode cL_cell 20 = .ok (.imul, 1) := by decide +kernel
theorem dL_cell_21 : decode cL_cell 21 = .ok (.iload_n 1, 1) := by decide +kernel
theorem dL_cell_22 : decode cL_cell 22 = .ok (.sipush 3067, 3) := by decide +kernel
theorem dL_cell_25 : decode cL_cell 25 = .ok (.iadd, 1) := by decide +kernel
theorem dL_cell_26 : decode cL_cell 26 = .ok (.imul, 1) := by decide +kernel
theorem dL_cell_27 : decode cL_cell 27 = .ok (.ireturn, 1) := by decide +kernel
theorem dL_low_0 : decode cL_low 0 = .ok (.iload_n 0, 1) := by decide +kernel
theorem dL_low_1 : decode cL_low 1 = .ok (.ldc 7, 2) := by decide +kernel
theorem dL_low_3 : decode cL_low 3 = .ok (.iand, 1) := by decide +kernel
theorem dL_low_4 : decode cL_low 4 = .ok (.iload_n 1, 1) := by decide +kernel
theorem dL_low_5 : decode cL_low 5 = .ok (.irem, 1) := by decide +kernel
theorem dL_low_6 : decode cL_low 6 = .ok (.ireturn, 1) := by decide +kernel
set_option maxRecDepth 20000 in
theorem ggL_does_X8_addWorker : GoodIn wsL_does wsX8_addWorker := goodIn_ca (goodIn_ca (goodIn_r _ [9, 10, 11, 12, 13, 14, 15, 16, 17, 18, 19, 8, 20, 21, 22, 23, 24, 25, 26, 27, 28, 29, 30, 31, 32, 33, 34, 35, 36, 37, 38, 39, 40, 41, 42, 43, 44, 45, 46, 47, 48, 49, 50, 231, 232, 233, 234, 235, 236, 237, 238, 239, 240, 241, 242, 243, 244, 245, 246, 247, 248, 249, 250] (by decide +kernel) (by decide +kernel)) (goodIn_sub (fun _ h => List.mem_cons_of_mem _ (List.mem_append_left _ (List.mem_append_left _ (List.mem_append_right _ h)))) (by decide +kernel))) (goodIn_sub (fun _ h => List.mem_cons_of_mem _ (List.mem_append_left _ (List.mem_append_right _ h))) (by decide +kernel))
set_option maxRecDepth 20000 in
theorem gL_does_X8_addWorker : GoodIn wsL_does (wsV RL 8 RX8 yX8_addWorker wsX8_addWorker) := goodIn_app (goodIn_of _ (by decide +kernel)) ggL_does_X8_addWorker
set_option maxRecDepth 20000 in
theorem ggL_does_X8_setRank : GoodIn wsL_does wsX8_setRank := goodIn_ca (goodIn_ca (goodIn_r _ [54, 55, 56, 57, 58, 8, 59, 21, 22, 13, 60, 61, 62, 63, 64, 65, 66, 67, 68, 69, 70, 71, 72, 73, 74, 75, 76, 77, 78, 79, 32, 80, 48, 81, 82, 83, 84, 50, 241, 242, 243, 244, 245, 246, 247, 248, 231, 232, 233, 234, 235, 236, 237, 238, 239, 240, 249, 250] (by decide +kernel) (by decide +kernel)) (goodIn_sub (fun _ h => List.mem_cons_of_mem _ (List.mem_append_left _ (List.mem_append_right _ h))) (by decide +kernel))) (goodIn_sub (fun _ h => List.mem_cons_of_mem _ (List.mem_append_right _ h)) (by decide +kernel))
set_option maxRecDepth 20000 in
theorem gL_does_X8_setRank : GoodIn wsL_does (wsV RL 14 RX8 yX8_setRank wsX8_setRank) := goodIn_app (goodIn_of _ (by decide +kernel)) ggL_does_X8_setRank
set_option maxRecDepth 20000 in
theorem ggL_does_X8_setRates : GoodIn wsL_does wsX8_setRates := goodIn_ca (goodIn_ca (goodIn_r _ [88, 89, 90, 60, 61, 62, 8, 63, 21, 22, 64, 65, 66, 67, 68, 69, 70, 71, 72, 73, 74, 75, 76, 77, 78, 79, 32, 80, 48, 81, 82, 83, 84, 50, 251, 252, 231, 232, 233, 234, 235, 236, 237, 238, 239, 240, 249, 250] (by decide +kernel) (by decide +kernel)) (goodIn_sub (fun _ h => List.mem_cons_of_mem _ (List.mem_append_left _ (List.mem_append_right _ h))) (by decide +kernel))) (goodIn_sub (fun _ h => List.mem_cons_of_mem _ (List.mem_append_right _ h)) (by decide +kernel))
set_option maxRecDepth 20000 in
theorem gL_does_X8_setRates : GoodIn wsL_does (wsV RL 18 RX8 yX8_setRates wsX8_setRates) := goodIn_app (goodIn_of _ (by decide +kernel)) ggL_does_X8_setRates
set_option maxRecDepth 20000 in
theorem ggL_does_X8_correct : GoodIn wsL_does wsX8_correct := goodIn_ca (goodIn_ca (goodIn_r _ [94, 21, 22, 95, 96, 56, 57, 58, 8, 59, 13, 97, 98, 99, 16, 100, 39, 101, 102, 103, 72, 73, 74, 75, 76, 253, 254, 255, 231, 232, 233, 234, 235, 236, 237, 238, 239, 240, 241, 242, 243, 244, 245, 246, 247, 248] (by decide +kernel) (by decide +kernel)) (goodIn_sub (fun _ h => List.mem_cons_of_mem _ (List.mem_append_left _ (List.mem_append_right _ h))) (by decide +kernel))) (goodIn_sub (fun _ h => List.mem_cons_of_mem _ (List.mem_append_right _ h)) (by decide +kernel))
set_option maxRecDepth 20000 in
theorem gL_does_X8_correct : GoodIn wsL_does (wsV RL 22 RX8 yX8_correct wsX8_correct) := goodIn_app (goodIn_of _ (by decide +kernel)) ggL_does_X8_correct
set_option maxRecDepth 20000 in
theorem ggL_does_X8_order : GoodIn wsL_does wsX8_order := goodIn_ca (goodIn_ca (goodIn_ca (goodIn_r _ [107, 10, 11, 108, 109, 110, 111, 112, 113, 114, 56, 57, 58, 8, 59, 21, 22, 13, 72, 73, 74, 75, 76, 115, 116, 117, 118, 28, 29, 119, 120, 121, 122, 231, 232, 233, 234, 235, 236, 237, 238, 239, 240, 256, 257, 258, 259] (by decide +kernel) (by decide +kernel)) (goodIn_sub (fun _ h => List.mem_cons_of_mem _ (List.mem_append_left _ (List.mem_append_left _ (List.mem_append_right _ h)))) (by decide +kernel))) (goodIn_sub (fun _ h => List.mem_cons_of_mem _ (List.mem_append_left _ (List.mem_append_right _ h))) (by decide +kernel))) (goodIn_sub (fun _ h => List.mem_cons_of_mem _ (List.mem_append_right _ h)) (by decide +kernel))
set_option maxRecDepth 20000 in
theorem gL_does_X8_order : GoodIn wsL_does (wsV RL 25 RX8 yX8_order wsX8_order) := goodIn_app (goodIn_of _ (by decide +kernel)) ggL_does_X8_order
set_option maxRecDepth 20000 in
theorem ggL_does_X8_setFloor : GoodIn wsL_does wsX8_setFloor := goodIn_ca (goodIn_r _ [126, 108, 127, 72, 73, 8, 74, 75, 76, 231, 232, 233, 234, 235, 236, 237, 238, 239, 240] (by decide +kernel) (by decide +kernel)) (goodIn_sub (fun _ h => List.mem_cons_of_mem _ (List.mem_append_right _ h)) (by decide +kernel))
set_option maxRecDepth 20000 in
theorem gL_does_X8_setFloor : GoodIn wsL_does (wsV RL 28 RX8 yX8_setFloor wsX8_setFloor) := goodIn_app (goodIn_of _ (by decide +kernel)) ggL_does_X8_setFloor
set_option maxRecDepth 20000 in
theorem ggL_does_X8_fill : GoodIn wsL_does wsX8_fill := goodIn_ca (goodIn_ca (goodIn_ca (goodIn_r _ [131, 10, 11, 108, 132, 133, 134, 135, 136, 17, 18, 19, 8, 20, 21, 22, 23, 72, 73, 74, 75, 76, 137, 138, 139, 140, 28, 29, 141, 142, 143, 144, 145, 146, 147, 148, 149, 150, 151, 152, 153, 154, 231, 232, 233, 234, 235, 236, 237, 238, 239, 240, 260, 261, 262, 263, 264] (by decide +kernel) (by decide +kernel)) (goodIn_sub (fun _ h => List.mem_cons_of_mem _ (List.mem_append_left _ (List.mem_append_left _ (List.mem_append_right _ h)))) (by decide +kernel))) (goodIn_sub (fun _ h => List.mem_cons_of_mem _ (List.mem_append_left _ (List.mem_append_right _ h))) (by decide +kernel))) (goodIn_sub (fun _ h => List.mem_cons_of_mem _ (List.mem_append_right _ h)) (by decide +kernel))
set_option maxRecDepth 20000 in
theorem gL_does_X8_fill : GoodIn wsL_does (wsV RL 31 RX8 yX8_fill wsX8_fill) := goodIn_app (goodIn_of _ (by decide +kernel)) ggL_does_X8_fill
set_option maxRecDepth 20000 in
theorem ggL_does_X8_bounce : GoodIn wsL_does wsX8_bounce := goodIn_ca (goodIn_ca (goodIn_r _ [158, 21, 22, 10, 11, 133, 159, 160, 161, 162, 163, 164, 165, 147, 166, 154, 150, 151, 152, 153, 149, 231, 232, 233, 234, 235, 236, 237, 238, 239, 240, 260, 261, 262, 263, 264] (by decide +kernel) (by decide +kernel)) (goodIn_sub (fun _ h => List.mem_cons_of_mem _ (List.mem_append_left _ (List.mem_append_right _ h))) (by decide +kernel))) (goodIn_sub (fun _ h => List.mem_cons_of_mem _ (List.mem_append_left _ (List.mem_append_left _ (List.mem_append_right _ h)))) (by decide +kernel))
set_option maxRecDepth 20000 in
theorem gL_does_X8_bounce : GoodIn wsL_does (wsV RL 35 RX8 yX8_bounce wsX8_bounce) := goodIn_app (goodIn_of _ (by decide +kernel)) ggL_does_X8_bounce
set_option maxRecDepth 20000 in
theorem ggL_does_X8_close : GoodIn wsL_does wsX8_close := goodIn_ca (goodIn_r _ [170, 10, 11, 171, 13, 172, 173, 174, 8, 175, 176, 177, 178, 179, 180, 181, 182, 183, 184, 185, 186, 187, 188, 55, 97, 98, 99, 16, 100, 39, 77, 78, 79, 32, 80, 48, 64, 65, 66, 67, 68, 189, 190, 191, 95, 89, 96, 90, 192, 193, 194, 195, 36, 37, 35, 196, 197, 198, 199, 200, 201, 151, 152, 153, 127, 202, 203, 204, 205, 206, 207, 208, 111, 209, 210, 211, 212, 213, 114, 214, 121, 122, 215, 216, 217, 218, 219, 220, 221, 222, 28, 29, 223, 224, 225, 226, 227, 228, 229, 230, 41, 231, 232, 233, 234, 235, 236, 237, 238, 239, 240, 241, 242, 243, 244, 245, 246, 247, 248, 263, 264, 253, 254, 255, 249, 250, 251, 252, 265, 266, 267, 268, 256, 257, 258, 259] (by decide +kernel) (by decide +kernel)) (goodIn_sub (fun _ h => List.mem_cons_of_mem _ (List.mem_append_left _ (List.mem_append_left _ (List.mem_append_right _ h)))) (by decide +kernel))
set_option maxRecDepth 20000 in
theorem gL_does_X8_close : GoodIn wsL_does (wsV RL 38 RX8 yX8_close wsX8_close) := goodIn_app (goodIn_of _ (by decide +kernel)) ggL_does_X8_close
theorem dL_does_0 : decode cL_does 0 = .ok (.iload_n 1, 1) := by decide +kernel
theorem dL_does_1 : decode cL_does 1 = .ok (.ifCond .ne 11, 3) := by decide +kernel
theorem dL_does_4 : decode cL_does 4 = .ok (.aload_n 0, 1) := by decide +kernel
theorem dL_does_5 : decode cL_does 5 = .ok (.iload_n 2, 1) := by decide +kernel
theorem dL_does_6 : decode cL_does 6 = .ok (.invokevirtual 8, 3) := by decide +kernel
theorem dL_does_9 : decode cL_does 9 = .ok (.goto 119, 3) := by decide +kernel
theorem dL_does_12 : decode cL_does 12 = .ok (.iload_n 1, 1) := by decide +kernel
theorem dL_does_13 : decode cL_does 13 = .ok (.iconst 1, 1) := by decide +kernel
theorem dL_does_14 : decode cL_does 14 = .ok (.if_icmp .ne 14, 3) := by decide +kernel
theorem dL_does_17 : decode cL_does 17 = .ok (.aload_n 0, 1) := by decide +kernel
theorem dL_does_18 : decode cL_does 18 = .ok (.iload_n 2, 1) := by decide +kernel
theorem dL_does_19 : decode cL_does 19 = .ok (.iload_n 3, 1) := by decide +kernel
theorem dL_does_20 : decode cL_does 20 = .ok (.iload 4, 2) := by decide +kernel
theorem dL_does_22 : decode cL_does 22 = .ok (.invokevirtual 14, 3) := by decide +kernel
theorem dL_does_25 : decode cL_does 25 = .ok (.goto 103, 3) := by decide +kernel
theorem dL_does_28 : decode cL_does 28 = .ok (.iload_n 1, 1) := by decide +kernel
theorem dL_does_29 : decode cL_does 29 = .ok (.iconst 2, 1) := by decide +kernel
theorem dL_does_30 : decode cL_does 30 = .ok (.if_icmp .ne 16, 3) := by decide +kernel
theorem dL_does_33 : decode cL_does 33 = .ok (.aload_n 0, 1) := by decide +kernel
theorem dL_does_34 : decode cL_does 34 = .ok (.iload_n 2, 1) := by decide +kernel
theorem dL_does_35 : decode cL_does 35 = .ok (.iload_n 3, 1) := by decide +kernel
theorem dL_does_36 : decode cL_does 36 = .ok (.iload 4, 2) := by decide +kernel
theorem dL_does_38 : decode cL_does 38 = .ok (.iload 5, 2) := by decide +kernel
theorem dL_does_40 : decode cL_does 40 = .ok (.invokevirtual 18, 3) := by decide +kernel
theorem dL_does_43 : decode cL_does 43 = .ok (.goto 85, 3) := by decide +kernel
theorem dL_does_46 : decode cL_does 46 = .ok (.iload_n 1, 1) := by decide +kernel
theorem dL_does_47 : decode cL_does 47 = .ok (.iconst 3, 1) := by decide +kernel
theorem dL_does_48 : decode cL_does 48 = .ok (.if_icmp .ne 16, 3) := by decide +kernel
theorem dL_does_51 : decode cL_does 51 = .ok (.aload_n 0, 1) := by decide +kernel
theorem dL_does_52 : decode cL_does 52 = .ok (.iload_n 2, 1) := by decide +kernel
theorem dL_does_53 : decode cL_does 53 = .ok (.iload_n 3, 1) := by decide +kernel
theorem dL_does_54 : decode cL_does 54 = .ok (.iload 4, 2) := by decide +kernel
theorem dL_does_56 : decode cL_does 56 = .ok (.iload 5, 2) := by decide +kernel
theorem dL_does_58 : decode cL_does 58 = .ok (.invokevirtual 22, 3) := by decide +kernel
theorem dL_does_61 : decode cL_does 61 = .ok (.goto 67, 3) := by decide +kernel
theorem dL_does_64 : decode cL_does 64 = .ok (.iload_n 1, 1) := by decide +kernel
theorem dL_does_65 : decode cL_does 65 = .ok (.iconst 4, 1) := by decide +kernel
theorem dL_does_66 : decode cL_does 66 = .ok (.if_icmp .ne 16, 3) := by decide +kernel
theorem dL_does_69 : decode cL_does 69 = .ok (.aload_n 0, 1) := by decide +kernel
theorem dL_does_70 : decode cL_does 70 = .ok (.iload_n 2, 1) := by decide +kernel
theorem dL_does_71 : decode cL_does 71 = .ok (.iload_n 3, 1) := by decide +kernel
theorem dL_does_72 : decode cL_does 72 = .ok (.iload 4, 2) := by decide +kernel
theorem dL_does_74 : decode cL_does 74 = .ok (.iload 5, 2) := by decide +kernel
theorem dL_does_76 : decode cL_does 76 = .ok (.invokevirtual 25, 3) := by decide +kernel
theorem dL_does_79 : decode cL_does 79 = .ok (.goto 49, 3) := by decide +kernel
theorem dL_does_82 : decode cL_does 82 = .ok (.iload_n 1, 1) := by decide +kernel
theorem dL_does_83 : decode cL_does 83 = .ok (.iconst 5, 1) := by decide +kernel
theorem dL_does_84 : decode cL_does 84 = .ok (.if_icmp .ne 11, 3) := by decide +kernel
theorem dL_does_87 : decode cL_does 87 = .ok (.aload_n 0, 1) := by decide +kernel
theorem dL_does_88 : decode cL_does 88 = .ok (.iload_n 2, 1) := by decide +kernel
theorem dL_does_89 : decode cL_does 89 = .ok (.invokevirtual 28, 3) := by decide +kernel
theorem dL_does_92 : decode cL_does 92 = .ok (.goto 36, 3) := by decide +kernel
theorem dL_does_95 : decode cL_does 95 = .ok (.iload_n 1, 1) := by decide +kernel
theorem dL_does_96 : decode cL_does 96 = .ok (.bipush 6, 2) := by decide +kernel
theorem dL_does_98 : decode cL_does 98 = .ok (.if_icmp .ne 12, 3) := by decide +kernel
theorem dL_does_101 : decode cL_does 101 = .ok (.aload_n 0, 1) := by decide +kernel
theorem dL_does_102 : decode cL_does 102 = .ok (.iload_n 2, 1) := by decide +kernel
theorem dL_does_103 : decode cL_does 103 = .ok (.iload_n 3, 1) := by decide +kernel
theorem dL_does_104 : decode cL_does 104 = .ok (.invokevirtual 31, 3) := by decide +kernel
theorem dL_does_107 : decode cL_does 107 = .ok (.goto 21, 3) := by decide +kernel
theorem dL_does_110 : decode cL_does 110 = .ok (.iload_n 1, 1) := by decide +kernel
theorem dL_does_111 : decode cL_does 111 = .ok (.bipush 7, 2) := by decide +kernel
theorem dL_does_113 : decode cL_does 113 = .ok (.if_icmp .ne 11, 3) := by decide +kernel
theorem dL_does_116 : decode cL_does 116 = .ok (.aload_n 0, 1) := by decide +kernel
theorem dL_does_117 : decode cL_does 117 = .ok (.iload_n 2, 1) := by decide +kernel
theorem dL_does_118 : decode cL_does 118 = .ok (.invokevirtual 35, 3) := by decide +kernel
theorem dL_does_121 : decode cL_does 121 = .ok (.goto 7, 3) := by decide +kernel
theorem dL_does_124 : decode cL_does 124 = .ok (.aload_n 0, 1) := by decide +kernel
theorem dL_does_125 : decode cL_does 125 = .ok (.invokevirtual 38, 3) := by decide +kernel
theorem dL_does_128 : decode cL_does 128 = .ok (.ireturn, 1) := by decide +kernel
theorem dL_does_129 : decode cL_does 129 = .ok (.astore 6, 2) := by decide +kernel
theorem dL_does_131 : decode cL_does 131 = .ok (.ldc 44, 2) := by decide +kernel
theorem dL_does_133 : decode cL_does 133 = .ok (.ireturn, 1) := by decide +kernel
theorem dL_does_134 : decode cL_does 134 = .ok (.astore 6, 2) := by decide +kernel
theorem dL_does_136 : decode cL_does 136 = .ok (.ldc 44, 2) := by decide +kernel
theorem dL_does_138 : decode cL_does 138 = .ok (.ireturn, 1) := by decide +kernel
theorem dL_does_139 : decode cL_does 139 = .ok (.astore 6, 2) := by decide +kernel
theorem dL_does_141 : decode cL_does 141 = .ok (.ldc 44, 2) := by decide +kernel
theorem dL_does_143 : decode cL_does 143 = .ok (.ireturn, 1) := by decide +kernel
set_option maxRecDepth 20000 in
theorem ggL_come_X8_come : GoodIn wsL_come wsX8_come := goodIn_ca (goodIn_ca (goodIn_r _ [8, 9, 10, 11, 12, 13, 14, 15, 7, 16, 17, 18, 19, 20, 21, 22, 23, 24, 25, 26, 27, 28, 29, 30, 31, 32, 33, 34, 35, 36, 37, 38, 39, 40, 41, 42, 43, 44, 45, 46, 47, 48, 49, 50, 51, 52, 53, 54, 55, 56, 57, 58, 59, 60, 61, 62, 63, 64, 65, 66, 67, 68, 69, 70, 71, 72] (by decide +kernel) (by decide +kernel)) (goodIn_sub (fun _ h => List.mem_cons_of_mem _ (List.mem_append_left _ (List.mem_append_right _ h))) (by decide +kernel))) (goodIn_sub (fun _ h => List.mem_cons_of_mem _ (List.mem_append_right _ h)) (by decide +kernel))
set_option maxRecDepth 20000 in
theorem gL_come_X8_come : GoodIn wsL_come (wsV RL 49 RX8 yX8_come wsX8_come) := goodIn_app (goodIn_of _ (by decide +kernel)) ggL_come_X8_come
theorem dL_come_0 : decode cL_come 0 = .ok (.aload_n 0, 1) := by decide +kernel
theorem dL_come_1 : decode cL_come 1 = .ok (.iload_n 1, 1) := by decide +kernel
theorem dL_come_2 : decode cL_come 2 = .ok (.iload_n 2, 1) := by decide +kernel
theorem dL_come_3 : decode cL_come 3 = .ok (.iload_n 3, 1) := by decide +kernel
theorem dL_come_4 : decode cL_come 4 = .ok (.iload 4, 2) := by decide +kernel
theorem dL_come_6 : decode cL_come 6 = .ok (.iload 5, 2) := by decide +kernel
theorem dL_come_8 : decode cL_come 8 = .ok (.invokevirtual 49, 3) := by decide +kernel
theorem dL_come_11 : decode cL_come 11 = .ok (.ireturn, 1) := by decide +kernel
theorem dL_come_12 : decode cL_come 12 = .ok (.astore 6, 2) := by decide +kernel
theorem dL_come_14 : decode cL_come 14 = .ok (.ldc 44, 2) := by decide +kernel
theorem dL_come_16 : decode cL_come 16 = .ok (.ireturn, 1) := by decide +kernel
theorem dL_come_17 : decode cL_come 17 = .ok (.astore 6, 2) := by decide +kernel
theorem dL_come_19 : decode cL_come 19 = .ok (.ldc 44, 2) := by decide +kernel
theorem dL_come_21 : decode cL_come 21 = .ok (.ireturn, 1) := by decide +kernel
set_option maxRecDepth 20000 in
theorem ggL_looks_X8_acknowledged : GoodIn wsL_looks wsX8_acknowledged := goodIn_ca (goodIn_r _ [7, 8, 9, 10, 11, 6, 12, 13, 14, 15, 67, 68, 69, 70, 71, 72, 73, 74, 75, 76, 77, 78, 79, 80, 81, 82, 83, 84] (by decide +kernel) (by decide +kernel)) (goodIn_sub (fun _ h => List.mem_cons_of_mem _ (List.mem_append_right _ h)) (by decide +kernel))
set_option maxRecDepth 20000 in
theorem gL_looks_X8_acknowledged : GoodIn wsL_looks (wsV RL 53 RX8 yX8_acknowledged wsX8_acknowledged) := goodIn_app (goodIn_of _ (by decide +kernel)) ggL_looks_X8_acknowledged
set_option maxRecDepth 20000 in
theorem ggL_looks_X8_left : GoodIn wsL_looks wsX8_left := goodIn_ca (goodIn_r _ [19, 13, 14, 20, 21, 75, 76, 77, 78, 79, 80, 81, 82, 83, 84, 85, 86, 87, 88] (by decide +kernel) (by decide +kernel)) (goodIn_sub (fun _ h => List.mem_cons_of_mem _ (List.mem_append_right _ h)) (by decide +kernel))
set_option maxRecDepth 20000 in
theorem gL_looks_X8_left : GoodIn wsL_looks (wsV RL 56 RX8 yX8_left wsX8_left) := goodIn_app (goodIn_of _ (by decide +kernel)) ggL_looks_X8_left
set_option maxRecDepth 20000 in
theorem ggL_looks_X8_claim : GoodIn wsL_looks wsX8_claim := goodIn_ca (goodIn_r _ [25, 9, 10, 11, 6, 12, 13, 14, 15, 26, 27, 28, 29, 30, 31, 32, 33, 34, 35, 8, 36, 37, 38, 39, 40, 41, 42, 43, 44, 45, 46, 47, 48, 49, 50, 51, 52, 53, 54, 55, 56, 57, 58, 59, 60, 61, 75, 76, 77, 78, 79, 80, 81, 82, 83, 84, 67, 68, 69, 70, 71, 72, 73, 74, 89, 90, 91, 92, 93, 94, 95] (by decide +kernel) (by decide +kernel)) (goodIn_sub (fun _ h => List.mem_cons_of_mem _ (List.mem_append_right _ h)) (by decide +kernel))
set_option maxRecDepth 20000 in
theorem gL_looks_X8_claim : GoodIn wsL_looks (wsV RL 59 RX8 yX8_claim wsX8_claim) := goodIn_app (goodIn_of _ (by decide +kernel)) ggL_looks_X8_claim
set_option maxRecDepth 20000 in
theorem ggL_looks_X8_toTakeBack : GoodIn wsL_looks wsX8_toTakeBack := goodIn_ca (goodIn_r _ [65, 66, 9, 10, 11, 6, 12, 13, 14, 15, 67, 68, 69, 70, 71, 72, 73, 74, 75, 76, 77, 78, 79, 80, 81, 82, 83, 84] (by decide +kernel) (by decide +kernel)) (goodIn_sub (fun _ h => List.mem_cons_of_mem _ (List.mem_append_right _ h)) (by decide +kernel))
set_option maxRecDepth 20000 in
theorem gL_looks_X8_toTakeBack : GoodIn wsL_looks (wsV RL 62 RX8 yX8_toTakeBack wsX8_toTakeBack) := goodIn_app (goodIn_of _ (by decide +kernel)) ggL_looks_X8_toTakeBack
theorem dL_looks_0 : decode cL_looks 0 = .ok (.iload_n 1, 1) := by decide +kernel
theorem dL_looks_1 : decode cL_looks 1 = .ok (.ifCond .ne 11, 3) := by decide +kernel
theorem dL_looks_4 : decode cL_looks 4 = .ok (.aload_n 0, 1) := by decide +kernel
theorem dL_looks_5 : decode cL_looks 5 = .ok (.iload_n 2, 1) := by decide +kernel
theorem dL_looks_6 : decode cL_looks 6 = .ok (.invokevirtual 53, 3) := by decide +kernel
theorem dL_looks_9 : decode cL_looks 9 = .ok (.goto 34, 3) := by decide +kernel
theorem dL_looks_12 : decode cL_looks 12 = .ok (.iload_n 1, 1) := by decide +kernel
theorem dL_looks_13 : decode cL_looks 13 = .ok (.iconst 1, 1) := by decide +kernel
theorem dL_looks_14 : decode cL_looks 14 = .ok (.if_icmp .ne 11, 3) := by decide +kernel
theorem dL_looks_17 : decode cL_looks 17 = .ok (.aload_n 0, 1) := by decide +kernel
theorem dL_looks_18 : decode cL_looks 18 = .ok (.iload_n 2, 1) := by decide +kernel
theorem dL_looks_19 : decode cL_looks 19 = .ok (.invokevirtual 56, 3) := by decide +kernel
theorem dL_looks_22 : decode cL_looks 22 = .ok (.goto 21, 3) := by decide +kernel
theorem dL_looks_25 : decode cL_looks 25 = .ok (.iload_n 1, 1) := by decide +kernel
theorem dL_looks_26 : decode cL_looks 26 = .ok (.iconst 2, 1) := by decide +kernel
theorem dL_looks_27 : decode cL_looks 27 = .ok (.if_icmp .ne 11, 3) := by decide +kernel
theorem dL_looks_30 : decode cL_looks 30 = .ok (.aload_n 0, 1) := by decide +kernel
theorem dL_looks_31 : decode cL_looks 31 = .ok (.iload_n 2, 1) := by decide +kernel
theorem dL_looks_32 : decode cL_looks 32 = .ok (.invokevirtual 59, 3) := by decide +kernel
theorem dL_looks_35 : decode cL_looks 35 = .ok (.goto 8, 3) := by decide +kernel
theorem dL_looks_38 : decode cL_looks 38 = .ok (.aload_n 0, 1) := by decide +kernel
theorem dL_looks_39 : decode cL_looks 39 = .ok (.iload_n 2, 1) := by decide +kernel
theorem dL_looks_40 : decode cL_looks 40 = .ok (.invokevirtual 62, 3) := by decide +kernel
theorem dL_looks_43 : decode cL_looks 43 = .ok (.ireturn, 1) := by decide +kernel
theorem dL_looks_44 : decode cL_looks 44 = .ok (.astore_n 3, 1) := by decide +kernel
theorem dL_looks_45 : decode cL_looks 45 = .ok (.ldc 44, 2) := by decide +kernel
theorem dL_looks_47 : decode cL_looks 47 = .ok (.ireturn, 1) := by decide +kernel
set_option maxRecDepth 20000 in
theorem ggL_act_L_low : GoodIn wsL_act wsL_low := goodIn_r _ [9, 10] (by decide +kernel) (by decide +kernel)
set_option maxRecDepth 20000 in
theorem gL_act_L_low : GoodIn wsL_act (va_wsS RL 65 yL_low wsL_low) := goodIn_app (goodIn_of _ (by decide +kernel)) ggL_act_L_low
set_option maxRecDepth 20000 in
theorem ggL_act_L_come : GoodIn wsL_act wsL_come := goodIn_ca (goodIn_ca (goodIn_r _ [13, 14, 15, 16, 17, 18, 19, 20, 21, 22, 23, 24, 25, 26, 27, 28, 29, 30, 31, 32, 33, 34, 35, 36, 37, 38, 39, 40, 41, 42, 43, 44, 45, 46, 47, 48, 49, 50, 51, 52, 53, 54, 55, 56, 57, 58, 59, 60, 61, 62, 63, 64, 266, 267, 268, 269, 270, 271, 272, 273, 274, 275, 276, 277, 278, 279, 280, 281, 282, 283, 284, 285, 286] (by decide +kernel) (by decide +kernel)) (goodIn_sub (fun _ h => List.mem_cons_of_mem _ (List.mem_append_left _ (List.mem_append_left _ (List.mem_append_right _ h)))) (by decide +kernel))) (goodIn_sub (fun _ h => List.mem_cons_of_mem _ (List.mem_append_left _ (List.mem_append_right _ h))) (by decide +kernel))
set_option maxRecDepth 20000 in
theorem gL_act_L_come : GoodIn wsL_act (va_wsS RL 70 yL_come wsL_come) := goodIn_app (goodIn_of _ (by decide +kernel)) ggL_act_L_come
set_option maxRecDepth 20000 in
theorem ggL_act_L_does : GoodIn wsL_act wsL_does := goodIn_ca (goodIn_ca (goodIn_ca (goodIn_r _ [67, 14, 15, 68, 16, 69, 70, 71, 20, 72, 73, 74, 75, 32, 76, 77, 47, 78, 79, 80, 81, 30, 31, 82, 83, 84, 85, 86, 54, 55, 87, 88, 89, 90, 63, 91, 92, 93, 94, 49, 95, 96, 97, 98, 99, 100, 101, 102, 103, 104, 105, 106, 107, 108, 109, 110, 26, 27, 28, 29, 111, 112, 113, 114, 115, 116, 117, 118, 119, 38, 39, 40, 33, 34, 35, 36, 37, 120, 121, 122, 123, 124, 125, 126, 127, 128, 129, 130, 131, 132, 133, 134, 135, 136, 137, 138, 139, 44, 45, 46, 48, 41, 42, 43, 140, 141, 142, 143, 144, 145, 146, 147, 148, 149, 150, 151, 152, 153, 154, 155, 156, 157, 158, 159, 160, 161, 162, 163, 164, 165, 166, 167, 168, 169, 170, 171, 172, 173, 174, 175, 176, 177, 178, 179, 180, 181, 182, 183, 184, 185, 186, 187, 188, 189, 190, 191, 192, 193, 194, 195, 196, 197, 198, 199, 200, 201, 202, 203, 204, 205, 206, 207, 208, 209, 210, 211, 212, 213, 214, 215, 216, 217, 218, 219, 220, 221, 222, 25, 223, 224, 225, 226, 227, 228, 229, 230, 231, 232, 233, 234, 235, 236, 237, 238, 239, 240, 241, 242, 243, 244, 245, 246, 247, 248, 249, 250, 251, 252, 253, 254, 255, 256, 257, 258, 259, 260, 261, 262, 263, 264, 265, 277, 278, 279, 280, 281, 282, 283, 284, 285, 286, 269, 270, 271, 272, 273, 274, 275, 276, 287, 288, 289, 290, 266, 267, 268, 291, 292, 293, 294, 295, 296, 297, 298, 299, 300, 301, 302, 303] (by decide +kernel) (by decide +kernel)) (goodIn_sub (fun _ h => List.mem_cons_of_mem _ (List.mem_append_right _ h)) (by decide +kernel))) (goodIn_sub (fun _ h => List.mem_cons_of_mem _ (List.mem_append_left _ (List.mem_append_left _ (List.mem_append_right _ h)))) (by decide +kernel))) (goodIn_sub (fun _ h => List.mem_cons_of_mem _ (List.mem_append_left _ (List.mem_append_right _ h))) (by decide +kernel))
set_option maxRecDepth 20000 in
theorem gL_act_L_does : GoodIn wsL_act (va_wsS RL 73 yL_does wsL_does) := goodIn_app (goodIn_of _ (by decide +kernel)) ggL_act_L_does
theorem dL_act_0 : decode cL_act 0 = .ok (.iload_n 1, 1) := by decide +kernel
theorem dL_act_1 : decode cL_act 1 = .ok (.bipush 24, 2) := by decide +kernel
theorem dL_act_3 : decode cL_act 3 = .ok (.ishr, 1) := by decide +kernel
theorem dL_act_4 : decode cL_act 4 = .ok (.bipush 8, 2) := by decide +kernel
theorem dL_act_6 : decode cL_act 6 = .ok (.invokestatic 65, 3) := by decide +kernel
theorem dL_act_9 : decode cL_act 9 = .ok (.ifCond .ne 7, 3) := by decide +kernel
theorem dL_act_12 : decode cL_act 12 = .ok (.iconst 1, 1) := by decide +kernel
theorem dL_act_13 : decode cL_act 13 = .ok (.goto 4, 3) := by decide +kernel
theorem dL_act_16 : decode cL_act 16 = .ok (.iconst 0, 1) := by decide +kernel
theorem dL_act_17 : decode cL_act 17 = .ok (.istore_n 2, 1) := by decide +kernel
theorem dL_act_18 : decode cL_act 18 = .ok (.iload_n 1, 1) := by decide +kernel
theorem dL_act_19 : decode cL_act 19 = .ok (.bipush 34, 2) := by decide +kernel
theorem dL_act_21 : decode cL_act 21 = .ok (.invokestatic 65, 3) := by decide +kernel
theorem dL_act_24 : decode cL_act 24 = .ok (.istore_n 3, 1) := by decide +kernel
theorem dL_act_25 : decode cL_act 25 = .ok (.iload_n 2, 1) := by decide +kernel
theorem dL_act_26 : decode cL_act 26 = .ok (.ifCond .eq 17, 3) := by decide +kernel
theorem dL_act_29 : decode cL_act 29 = .ok (.iload_n 1, 1) := by decide +kernel
theorem dL_act_30 : decode cL_act 30 = .ok (.bipush 6, 2) := by decide +kernel
theorem dL_act_32 : decode cL_act 32 = .ok (.ishr, 1) := by decide +kernel
theorem dL_act_33 : decode cL_act 33 = .ok (.bipush 10, 2) := by decide +kernel
theorem dL_act_35 : decode cL_act 35 = .ok (.invokestatic 65, 3) := by decide +kernel
theorem dL_act_38 : decode cL_act 38 = .ok (.iconst 1, 1) := by decide +kernel
theorem dL_act_39 : decode cL_act 39 = .ok (.isub, 1) := by decide +kernel
theorem dL_act_40 : decode cL_act 40 = .ok (.goto 11, 3) := by decide +kernel
theorem dL_act_43 : decode cL_act 43 = .ok (.iload_n 1, 1) := by decide +kernel
theorem dL_act_44 : decode cL_act 44 = .ok (.bipush 6, 2) := by decide +kernel
theorem dL_act_46 : decode cL_act 46 = .ok (.ishr, 1) := by decide +kernel
theorem dL_act_47 : decode cL_act 47 = .ok (.iconst 3, 1) := by decide +kernel
theorem dL_act_48 : decode cL_act 48 = .ok (.invokestatic 65, 3) := by decide +kernel
theorem dL_act_51 : decode cL_act 51 = .ok (.istore 4, 2) := by decide +kernel
theorem dL_act_53 : decode cL_act 53 = .ok (.iload_n 2, 1) := by decide +kernel
theorem dL_act_54 : decode cL_act 54 = .ok (.ifCond .eq 17, 3) := by decide +kernel
theorem dL_act_57 : decode cL_act 57 = .ok (.iload_n 1, 1) := by decide +kernel
theorem dL_act_58 : decode cL_act 58 = .ok (.bipush 9, 2) := by decide +kernel
theorem dL_act_60 : decode cL_act 60 = .ok (.ishr, 1) := by decide +kernel
theorem dL_act_61 : decode cL_act 61 = .ok (.bipush 36, 2) := by decide +kernel
theorem dL_act_63 : decode cL_act 63 = .ok (.invokestatic 65, 3) := by decide +kernel
theorem dL_act_66 : decode cL_act 66 = .ok (.iconst 2, 1) := by decide +kernel
theorem dL_act_67 : decode cL_act 67 = .ok (.isub, 1) := by decide +kernel
theorem dL_act_68 : decode cL_act 68 = .ok (.goto 25, 3) := by decide +kernel
theorem dL_act_71 : decode cL_act 71 = .ok (.iload_n 1, 1) := by decide +kernel
theorem dL_act_72 : decode cL_act 72 = .ok (.bipush 9, 2) := by decide +kernel
theorem dL_act_74 : decode cL_act 74 = .ok (.ishr, 1) := by decide +kernel
theorem dL_act_75 : decode cL_act 75 = .ok (.iload_n 1, 1) := by decide +kernel
theorem dL_act_76 : decode cL_act 76 = .ok (.bipush 19, 2) := by decide +kernel
theorem dL_act_78 : decode cL_act 78 = .ok (.ishr, 1) := by decide +kernel
theorem dL_act_79 : decode cL_act 79 = .ok (.iconst 1, 1) := by decide +kernel
theorem dL_act_80 : decode cL_act 80 = .ok (.iand, 1) := by decide +kernel
theorem dL_act_81 : decode cL_act 81 = .ok (.ifCond .ne 8, 3) := by decide +kernel
theorem dL_act_84 : decode cL_act 84 = .ok (.bipush 31, 2) := by decide +kernel
theorem dL_act_86 : decode cL_act 86 = .ok (.goto 4, 3) := by decide +kernel
theorem dL_act_89 : decode cL_act 89 = .ok (.iconst 4, 1) := by decide +kernel
theorem dL_act_90 : decode cL_act 90 = .ok (.invokestatic 65, 3) := by decide +kernel
theorem dL_act_93 : decode cL_act 93 = .ok (.istore 5, 2) := by decide +kernel
theorem dL_act_95 : decode cL_act 95 = .ok (.iload_n 2, 1) := by decide +kernel
theorem dL_act_96 : decode cL_act 96 = .ok (.ifCond .eq 17, 3) := by decide +kernel
theorem dL_act_99 : decode cL_act 99 = .ok (.iload_n 1, 1) := by decide +kernel
theorem dL_act_100 : decode cL_act 100 = .ok (.bipush 12, 2) := by decide +kernel
theorem dL_act_102 : decode cL_act 102 = .ok (.ishr, 1) := by decide +kernel
theorem dL_act_103 : decode cL_act 103 = .ok (.bipush 110, 2) := by decide +kernel
theorem dL_act_105 : decode cL_act 105 = .ok (.invokestatic 65, 3) := by decide +kernel
theorem dL_act_108 : decode cL_act 108 = .ok (.iconst 3, 1) := by decide +kernel
theorem dL_act_109 : decode cL_act 109 = .ok (.isub, 1) := by decide +kernel
theorem dL_act_110 : decode cL_act 110 = .ok (.goto 12, 3) := by decide +kernel
theorem dL_act_113 : decode cL_act 113 = .ok (.iload_n 1, 1) := by decide +kernel
theorem dL_act_114 : decode cL_act 114 = .ok (.bipush 12, 2) := by decide +kernel
theorem dL_act_116 : decode cL_act 116 = .ok (.ishr, 1) := by decide +kernel
theorem dL_act_117 : decode cL_act 117 = .ok (.bipush 101, 2) := by decide +kernel
theorem dL_act_119 : decode cL_act 119 = .ok (.invokestatic 65, 3) := by decide +kernel
theorem dL_act_122 : decode cL_act 122 = .ok (.istore 6, 2) := by decide +kernel
theorem dL_act_124 : decode cL_act 124 = .ok (.iload_n 2, 1) := by decide +kernel
theorem dL_act_125 : decode cL_act 125 = .ok (.ifCond .eq 17, 3) := by decide +kernel
theorem dL_act_128 : decode cL_act 128 = .ok (.iload_n 1, 1) := by decide +kernel
theorem dL_act_129 : decode cL_act 129 = .ok (.bipush 15, 2) := by decide +kernel
theorem dL_act_131 : decode cL_act 131 = .ok (.ishr, 1) := by decide +kernel
theorem dL_act_132 : decode cL_act 132 = .ok (.bipush 110, 2) := by decide +kernel
theorem dL_act_134 : decode cL_act 134 = .ok (.invokestatic 65, 3) := by decide +kernel
theorem dL_act_137 : decode cL_act 137 = .ok (.iconst 3, 1) := by decide +kernel
theorem dL_act_138 : decode cL_act 138 = .ok (.isub, 1) := by decide +kernel
theorem dL_act_139 : decode cL_act 139 = .ok (.goto 12, 3) := by decide +kernel
theorem dL_act_142 : decode cL_act 142 = .ok (.iload_n 1, 1) := by decide +kernel
theorem dL_act_143 : decode cL_act 143 = .ok (.bipush 15, 2) := by decide +kernel
theorem dL_act_145 : decode cL_act 145 = .ok (.ishr, 1) := by decide +kernel
theorem dL_act_146 : decode cL_act 146 = .ok (.bipush 101, 2) := by decide +kernel
theorem dL_act_148 : decode cL_act 148 = .ok (.invokestatic 65, 3) := by decide +kernel
theorem dL_act_151 : decode cL_act 151 = .ok (.istore 7, 2) := by decide +kernel
theorem dL_act_153 : decode cL_act 153 = .ok (.iload_n 2, 1) := by decide +kernel
theorem dL_act_154 : decode cL_act 154 = .ok (.ifCond .eq 17, 3) := by decide +kernel
theorem dL_act_157 : decode cL_act 157 = .ok (.iload_n 1, 1) := by decide +kernel
theorem dL_act_158 : decode cL_act 158 = .ok (.bipush 8, 2) := by decide +kernel
theorem dL_act_160 : decode cL_act 160 = .ok (.ishr, 1) := by decide +kernel
theorem dL_act_161 : decode cL_act 161 = .ok (.bipush 24, 2) := by decide +kernel
theorem dL_act_163 : decode cL_act 163 = .ok (.invokestatic 65, 3) := by decide +kernel
theorem dL_act_166 : decode cL_act 166 = .ok (.iconst 2, 1) := by decide +kernel
theorem dL_act_167 : decode cL_act 167 = .ok (.isub, 1) := by decide +kernel
theorem dL_act_168 : decode cL_act 168 = .ok (.goto 25, 3) := by decide +kernel
theorem dL_act_171 : decode cL_act 171 = .ok (.iload_n 1, 1) := by decide +kernel
theorem dL_act_172 : decode cL_act 172 = .ok (.bipush 8, 2) := by decide +kernel
theorem dL_act_174 : decode cL_act 174 = .ok (.ishr, 1) := by decide +kernel
theorem dL_act_175 : decode cL_act 175 = .ok (.iload_n 1, 1) := by decide +kernel
theorem dL_act_176 : decode cL_act 176 = .ok (.bipush 18, 2) := by decide +kernel
theorem dL_act_178 : decode cL_act 178 = .ok (.ishr, 1) := by decide +kernel
theorem dL_act_179 : decode cL_act 179 = .ok (.iconst 1, 1) := by decide +kernel
theorem dL_act_180 : decode cL_act 180 = .ok (.iand, 1) := by decide +kernel
theorem dL_act_181 : decode cL_act 181 = .ok (.ifCond .ne 8, 3) := by decide +kernel
theorem dL_act_184 : decode cL_act 184 = .ok (.bipush 20, 2) := by decide +kernel
theorem dL_act_186 : decode cL_act 186 = .ok (.goto 4, 3) := by decide +kernel
theorem dL_act_189 : decode cL_act 189 = .ok (.iconst 4, 1) := by decide +kernel
theorem dL_act_190 : decode cL_act 190 = .ok (.invokestatic 65, 3) := by decide +kernel
theorem dL_act_193 : decode cL_act 193 = .ok (.istore 8, 2) := by decide +kernel
theorem dL_act_195 : decode cL_act 195 = .ok (.iload_n 3, 1) := by decide +kernel
theorem dL_act_196 : decode cL_act 196 = .ok (.bipush 13, 2) := by decide +kernel
theorem dL_act_198 : decode cL_act 198 = .ok (.if_icmp .ge 40, 3) := by decide +kernel
theorem dL_act_201 : decode cL_act 201 = .ok (.iload_n 3, 1) := by decide +kernel
theorem dL_act_202 : decode cL_act 202 = .ok (.bipush 9, 2) := by decide +kernel
theorem dL_act_204 : decode cL_act 204 = .ok (.if_icmp .ge 20, 3) := by decide +kernel
theorem dL_act_207 : decode cL_act 207 = .ok (.aload_n 0, 1) := by decide +kernel
theorem dL_act_208 : decode cL_act 208 = .ok (.iload 4, 2) := by decide +kernel
theorem dL_act_210 : decode cL_act 210 = .ok (.iload 8, 2) := by decide +kernel
theorem dL_act_212 : decode cL_act 212 = .ok (.iload 5, 2) := by decide +kernel
theorem dL_act_214 : decode cL_act 214 = .ok (.iload 6, 2) := by decide +kernel
theorem dL_act_216 : decode cL_act 216 = .ok (.iload 7, 2) := by decide +kernel
theorem dL_act_218 : decode cL_act 218 = .ok (.invokestatic 70, 3) := by decide +kernel
theorem dL_act_221 : decode cL_act 221 = .ok (.goto 16, 3) := by decide +kernel
theorem dL_act_224 : decode cL_act 224 = .ok (.aload_n 0, 1) := by decide +kernel
theorem dL_act_225 : decode cL_act 225 = .ok (.iconst 3, 1) := by decide +kernel
theorem dL_act_226 : decode cL_act 226 = .ok (.iload 4, 2) := by decide +kernel
theorem dL_act_228 : decode cL_act 228 = .ok (.iload 8, 2) := by decide +kernel
theorem dL_act_230 : decode cL_act 230 = .ok (.iload 6, 2) := by decide +kernel
theorem dL_act_232 : decode cL_act 232 = .ok (.iload 7, 2) := by decide +kernel
theorem dL_act_234 : decode cL_act 234 = .ok (.invokestatic 73, 3) := by decide +kernel
theorem dL_act_237 : decode cL_act 237 = .ok (.ireturn, 1) := by decide +kernel
theorem dL_act_238 : decode cL_act 238 = .ok (.iload_n 3, 1) := by decide +kernel
theorem dL_act_239 : decode cL_act 239 = .ok (.bipush 17, 2) := by decide +kernel
theorem dL_act_241 : decode cL_act 241 = .ok (.if_icmp .ge 110, 3) := by decide +kernel
theorem dL_act_244 : decode cL_act 244 = .ok (.iload_n 2, 1) := by decide +kernel
theorem dL_act_245 : decode cL_act 245 = .ok (.ifCond .eq 16, 3) := by decide +kernel
theorem dL_act_248 : decode cL_act 248 = .ok (.iload_n 1, 1) := by decide +kernel
theorem dL_act_249 : decode cL_act 249 = .ok (.bipush 13, 2) := by decide +kernel
theorem dL_act_251 : decode cL_act 251 = .ok (.ishr, 1) := by decide +kernel
theorem dL_act_252 : decode cL_act 252 = .ok (.iconst 5, 1) := by decide +kernel
theorem dL_act_253 : decode cL_act 253 = .ok (.invokestatic 65, 3) := by decide +kernel
theorem dL_act_256 : decode cL_act 256 = .ok (.iconst 1, 1) := by decide +kernel
theorem dL_act_257 : decode cL_act 257 = .ok (.isub, 1) := by decide +kernel
theorem dL_act_258 : decode cL_act 258 = .ok (.goto 11, 3) := by decide +kernel
theorem dL_act_261 : decode cL_act 261 = .ok (.iload_n 1, 1) := by decide +kernel
theorem dL_act_262 : decode cL_act 262 = .ok (.bipush 13, 2) := by decide +kernel
theorem dL_act_264 : decode cL_act 264 = .ok (.ishr, 1) := by decide +kernel
theorem dL_act_265 : decode cL_act 265 = .ok (.iconst 3, 1) := by decide +kernel
theorem dL_act_266 : decode cL_act 266 = .ok (.invokestatic 65, 3) := by decide +kernel
theorem dL_act_269 : decode cL_act 269 = .ok (.istore 9, 2) := by decide +kernel
theorem dL_act_271 : decode cL_act 271 = .ok (.iload_n 3, 1) := by decide +kernel
theorem dL_act_272 : decode cL_act 272 = .ok (.bipush 15, 2) := by decide +kernel
theorem dL_act_274 : decode cL_act 274 = .ok (.if_icmp .ge 18, 3) := by decide +kernel
theorem dL_act_277 : decode cL_act 277 = .ok (.aload_n 0, 1) := by decide +kernel
theorem dL_act_278 : decode cL_act 278 = .ok (.iconst 1, 1) := by decide +kernel
theorem dL_act_279 : decode cL_act 279 = .ok (.iload 4, 2) := by decide +kernel
theorem dL_act_281 : decode cL_act 281 = .ok (.iload 5, 2) := by decide +kernel
theorem dL_act_283 : decode cL_act 283 = .ok (.iload 9, 2) := by decide +kernel
theorem dL_act_285 : decode cL_act 285 = .ok (.iconst 0, 1) := by decide +kernel
theorem dL_act_286 : decode cL_act 286 = .ok (.invokestatic 73, 3) := by decide +kernel
theorem dL_act_289 : decode cL_act 289 = .ok (.goto 61, 3) := by decide +kernel
theorem dL_act_292 : decode cL_act 292 = .ok (.aload_n 0, 1) := by decide +kernel
theorem dL_act_293 : decode cL_act 293 = .ok (.iconst 2, 1) := by decide +kernel
theorem dL_act_294 : decode cL_act 294 = .ok (.iload 9, 2) := by decide +kernel
theorem dL_act_296 : decode cL_act 296 = .ok (.iload 5, 2) := by decide +kernel
theorem dL_act_298 : decode cL_act 298 = .ok (.iload_n 2, 1) := by decide +kernel
theorem dL_act_299 : decode cL_act 299 = .ok (.ifCond .eq 16, 3) := by decide +kernel
theorem dL_act_302 : decode cL_act 302 = .ok (.iload_n 1, 1) := by decide +kernel
theorem dL_act_303 : decode cL_act 303 = .ok (.bipush 11, 2) := by decide +kernel
theorem dL_act_305 : decode cL_act 305 = .ok (.ishr, 1) := by decide +kernel
theorem dL_act_306 : decode cL_act 306 = .ok (.sipush 11000, 3) := by decide +kernel
theorem dL_act_309 : decode cL_act 309 = .ok (.invokestatic 65, 3) := by decide +kernel
theorem dL_act_312 : decode cL_act 312 = .ok (.goto 15, 3) := by decide +kernel
theorem dL_act_315 : decode cL_act 315 = .ok (.bipush 100, 2) := by decide +kernel
theorem dL_act_317 : decode cL_act 317 = .ok (.iload_n 1, 1) := by decide +kernel
theorem dL_act_318 : decode cL_act 318 = .ok (.bipush 11, 2) := by decide +kernel
theorem dL_act_320 : decode cL_act 320 = .ok (.ishr, 1) := by decide +kernel
theorem dL_act_321 : decode cL_act 321 = .ok (.bipush 101, 2) := by decide +kernel
theorem dL_act_323 : decode cL_act 323 = .ok (.invokestatic 65, 3) := by decide +kernel
theorem dL_act_326 : decode cL_act 326 = .ok (.imul, 1) := by decide +kernel
theorem dL_act_327 : decode cL_act 327 = .ok (.iload_n 1, 1) := by decide +kernel
theorem dL_act_328 : decode cL_act 328 = .ok (.bipush 14, 2) := by decide +kernel
theorem dL_act_330 : decode cL_act 330 = .ok (.ishr, 1) := by decide +kernel
theorem dL_act_331 : decode cL_act 331 = .ok (.iload_n 2, 1) := by decide +kernel
theorem dL_act_332 : decode cL_act 332 = .ok (.ifCond .eq 9, 3) := by decide +kernel
theorem dL_act_335 : decode cL_act 335 = .ok (.sipush 11000, 3) := by decide +kernel
theorem dL_act_338 : decode cL_act 338 = .ok (.goto 6, 3) := by decide +kernel
theorem dL_act_341 : decode cL_act 341 = .ok (.sipush 10001, 3) := by decide +kernel
theorem dL_act_344 : decode cL_act 344 = .ok (.invokestatic 65, 3) := by decide +kernel
theorem dL_act_347 : decode cL_act 347 = .ok (.invokestatic 73, 3) := by decide +kernel
theorem dL_act_350 : decode cL_act 350 = .ok (.ireturn, 1) := by decide +kernel
theorem dL_act_351 : decode cL_act 351 = .ok (.iload_n 2, 1) := by decide +kernel
theorem dL_act_352 : decode cL_act 352 = .ok (.ifCond .eq 15, 3) := by decide +kernel
theorem dL_act_355 : decode cL_act 355 = .ok (.iload_n 1, 1) := by decide +kernel
theorem dL_act_356 : decode cL_act 356 = .ok (.bipush 9, 2) := by decide +kernel
theorem dL_act_358 : decode cL_act 358 = .ok (.ishr, 1) := by decide +kernel
theorem dL_act_359 : decode cL_act 359 = .ok (.ldc 76, 2) := by decide +kernel
theorem dL_act_361 : decode cL_act 361 = .ok (.invokestatic 65, 3) := by decide +kernel
theorem dL_act_364 : decode cL_act 364 = .ok (.goto 28, 3) := by decide +kernel
theorem dL_act_367 : decode cL_act 367 = .ok (.iconst 1, 1) := by decide +kernel
theorem dL_act_368 : decode cL_act 368 = .ok (.iload_n 1, 1) := by decide +kernel
theorem dL_act_369 : decode cL_act 369 = .ok (.bipush 9, 2) := by decide +kernel
theorem dL_act_371 : decode cL_act 371 = .ok (.ishr, 1) := by decide +kernel
theorem dL_act_372 : decode cL_act 372 = .ok (.iload_n 1, 1) := by decide +kernel
theorem dL_act_373 : decode cL_act 373 = .ok (.bipush 20, 2) := by decide +kernel
theorem dL_act_375 : decode cL_act 375 = .ok (.ishr, 1) := by decide +kernel
theorem dL_act_376 : decode cL_act 376 = .ok (.iconst 1, 1) := by decide +kernel
theorem dL_act_377 : decode cL_act 377 = .ok (.iand, 1) := by decide +kernel
theorem dL_act_378 : decode cL_act 378 = .ok (.ifCond .ne 8, 3) := by decide +kernel
theorem dL_act_381 : decode cL_act 381 = .ok (.ldc 77, 2) := by decide +kernel
theorem dL_act_383 : decode cL_act 383 = .ok (.goto 5, 3) := by decide +kernel
theorem dL_act_386 : decode cL_act 386 = .ok (.ldc 78, 2) := by decide +kernel
theorem dL_act_388 : decode cL_act 388 = .ok (.invokestatic 65, 3) := by decide +kernel
theorem dL_act_391 : decode cL_act 391 = .ok (.iadd, 1) := by decide +kernel
theorem dL_act_392 : decode cL_act 392 = .ok (.istore 9, 2) := by decide +kernel
theorem dL_act_394 : decode cL_act 394 = .ok (.iload_n 3, 1) := by decide +kernel
theorem dL_act_395 : decode cL_act 395 = .ok (.bipush 26, 2) := by decide +kernel
theorem dL_act_397 : decode cL_act 397 = .ok (.if_icmp .ge 139, 3) := by decide +kernel
theorem dL_act_400 : decode cL_act 400 = .ok (.iload_n 3, 1) := by decide +kernel
theorem dL_act_401 : decode cL_act 401 = .ok (.bipush 20, 2) := by decide +kernel
theorem dL_act_403 : decode cL_act 403 = .ok (.if_icmp .ge 61, 3) := by decide +kernel
theorem dL_act_406 : decode cL_act 406 = .ok (.aload_n 0, 1) := by decide +kernel
theorem dL_act_407 : decode cL_act 407 = .ok (.iconst 4, 1) := by decide +kernel
theorem dL_act_408 : decode cL_act 408 = .ok (.iload 4, 2) := by decide +kernel
theorem dL_act_410 : decode cL_act 410 = .ok (.iload_n 2, 1) := by decide +kernel
theorem dL_act_411 : decode cL_act 411 = .ok (.ifCond .eq 16, 3) := by decide +kernel
theorem dL_act_414 : decode cL_act 414 = .ok (.iload_n 1, 1) := by decide +kernel
theorem dL_act_415 : decode cL_act 415 = .ok (.bipush 13, 2) := by decide +kernel
theorem dL_act_417 : decode cL_act 417 = .ok (.ishr, 1) := by decide +kernel
theorem dL_act_418 : decode cL_act 418 = .ok (.iconst 5, 1) := by decide +kernel
theorem dL_act_419 : decode cL_act 419 = .ok (.invokestatic 65, 3) := by decide +kernel
theorem dL_act_422 : decode cL_act 422 = .ok (.iconst 1, 1) := by decide +kernel
theorem dL_act_423 : decode cL_act 423 = .ok (.isub, 1) := by decide +kernel
theorem dL_act_424 : decode cL_act 424 = .ok (.goto 11, 3) := by decide +kernel
theorem dL_act_427 : decode cL_act 427 = .ok (.iload_n 1, 1) := by decide +kernel
theorem dL_act_428 : decode cL_act 428 = .ok (.bipush 13, 2) := by decide +kernel
theorem dL_act_430 : decode cL_act 430 = .ok (.ishr, 1) := by decide +kernel
theorem dL_act_431 : decode cL_act 431 = .ok (.iconst 3, 1) := by decide +kernel
theorem dL_act_432 : decode cL_act 432 = .ok (.invokestatic 65, 3) := by decide +kernel
theorem dL_act_435 : decode cL_act 435 = .ok (.iload 9, 2) := by decide +kernel
theorem dL_act_437 : decode cL_act 437 = .ok (.iconst 1, 1) := by decide +kernel
theorem dL_act_438 : decode cL_act 438 = .ok (.iload_n 1, 1) := by decide +kernel
theorem dL_act_439 : decode cL_act 439 = .ok (.bipush 11, 2) := by decide +kernel
theorem dL_act_441 : decode cL_act 441 = .ok (.ishr, 1) := by decide +kernel
theorem dL_act_442 : decode cL_act 442 = .ok (.iload_n 2, 1) := by decide +kernel
theorem dL_act_443 : decode cL_act 443 = .ok (.ifCond .eq 8, 3) := by decide +kernel
theorem dL_act_446 : decode cL_act 446 = .ok (.ldc 79, 2) := by decide +kernel
theorem dL_act_448 : decode cL_act 448 = .ok (.goto 6, 3) := by decide +kernel
theorem dL_act_451 : decode cL_act 451 = .ok (.sipush 30000, 3) := by decide +kernel
theorem dL_act_454 : decode cL_act 454 = .ok (.invokestatic 65, 3) := by decide +kernel
theorem dL_act_457 : decode cL_act 457 = .ok (.iadd, 1) := by decide +kernel
theorem dL_act_458 : decode cL_act 458 = .ok (.invokestatic 73, 3) := by decide +kernel
theorem dL_act_461 : decode cL_act 461 = .ok (.goto 74, 3) := by decide +kernel
theorem dL_act_464 : decode cL_act 464 = .ok (.iload_n 3, 1) := by decide +kernel
theorem dL_act_465 : decode cL_act 465 = .ok (.bipush 25, 2) := by decide +kernel
theorem dL_act_467 : decode cL_act 467 = .ok (.if_icmp .ge 41, 3) := by decide +kernel
theorem dL_act_470 : decode cL_act 470 = .ok (.aload_n 0, 1) := by decide +kernel
theorem dL_act_471 : decode cL_act 471 = .ok (.bipush 6, 2) := by decide +kernel
theorem dL_act_473 : decode cL_act 473 = .ok (.iload_n 2, 1) := by decide +kernel
theorem dL_act_474 : decode cL_act 474 = .ok (.ifCond .eq 16, 3) := by decide +kernel
theorem dL_act_477 : decode cL_act 477 = .ok (.iload_n 1, 1) := by decide +kernel
theorem dL_act_478 : decode cL_act 478 = .ok (.bipush 6, 2) := by decide +kernel
theorem dL_act_480 : decode cL_act 480 = .ok (.ishr, 1) := by decide +kernel
theorem dL_act_481 : decode cL_act 481 = .ok (.iconst 5, 1) := by decide +kernel
theorem dL_act_482 : decode cL_act 482 = .ok (.invokestatic 65, 3) := by decide +kernel
theorem dL_act_485 : decode cL_act 485 = .ok (.iconst 1, 1) := by decide +kernel
theorem dL_act_486 : decode cL_act 486 = .ok (.isub, 1) := by decide +kernel
theorem dL_act_487 : decode cL_act 487 = .ok (.goto 11, 3) := by decide +kernel
theorem dL_act_490 : decode cL_act 490 = .ok (.iload_n 1, 1) := by decide +kernel
theorem dL_act_491 : decode cL_act 491 = .ok (.bipush 6, 2) := by decide +kernel
theorem dL_act_493 : decode cL_act 493 = .ok (.ishr, 1) := by decide +kernel
theorem dL_act_494 : decode cL_act 494 = .ok (.iconst 3, 1) := by decide +kernel
theorem dL_act_495 : decode cL_act 495 = .ok (.invokestatic 65, 3) := by decide +kernel
theorem dL_act_498 : decode cL_act 498 = .ok (.iload 9, 2) := by decide +kernel
theorem dL_act_500 : decode cL_act 500 = .ok (.iconst 0, 1) := by decide +kernel
theorem dL_act_501 : decode cL_act 501 = .ok (.iconst 0, 1) := by decide +kernel
theorem dL_act_502 : decode cL_act 502 = .ok (.invokestatic 73, 3) := by decide +kernel
theorem dL_act_505 : decode cL_act 505 = .ok (.goto 30, 3) := by decide +kernel
theorem dL_act_508 : decode cL_act 508 = .ok (.aload_n 0, 1) := by decide +kernel
theorem dL_act_509 : decode cL_act 509 = .ok (.bipush 7, 2) := by decide +kernel
theorem dL_act_511 : decode cL_act 511 = .ok (.iload_n 1, 1) := by decide +kernel
theorem dL_act_512 : decode cL_act 512 = .ok (.bipush 6, 2) := by decide +kernel
theorem dL_act_514 : decode cL_act 514 = .ok (.ishr, 1) := by decide +kernel
theorem dL_act_515 : decode cL_act 515 = .ok (.iload_n 2, 1) := by decide +kernel
theorem dL_act_516 : decode cL_act 516 = .ok (.ifCond .eq 8, 3) := by decide +kernel
theorem dL_act_519 : decode cL_act 519 = .ok (.bipush 50, 2) := by decide +kernel
theorem dL_act_521 : decode cL_act 521 = .ok (.goto 5, 3) := by decide +kernel
theorem dL_act_524 : decode cL_act 524 = .ok (.bipush 12, 2) := by decide +kernel
theorem dL_act_526 : decode cL_act 526 = .ok (.invokestatic 65, 3) := by decide +kernel
theorem dL_act_529 : decode cL_act 529 = .ok (.iconst 0, 1) := by decide +kernel
theorem dL_act_530 : decode cL_act 530 = .ok (.iconst 0, 1) := by decide +kernel
theorem dL_act_531 : decode cL_act 531 = .ok (.iconst 0, 1) := by decide +kernel
theorem dL_act_532 : decode cL_act 532 = .ok (.invokestatic 73, 3) := by decide +kernel
theorem dL_act_535 : decode cL_act 535 = .ok (.ireturn, 1) := by decide +kernel
theorem dL_act_536 : decode cL_act 536 = .ok (.iload_n 3, 1) := by decide +kernel
theorem dL_act_537 : decode cL_act 537 = .ok (.bipush 26, 2) := by decide +kernel
theorem dL_act_539 : decode cL_act 539 = .ok (.if_icmp .ne 39, 3) := by decide +kernel
theorem dL_act_542 : decode cL_act 542 = .ok (.aload_n 0, 1) := by decide +kernel
theorem dL_act_543 : decode cL_act 543 = .ok (.iconst 5, 1) := by decide +kernel
theorem dL_act_544 : decode cL_act 544 = .ok (.iload_n 2, 1) := by decide +kernel
theorem dL_act_545 : decode cL_act 545 = .ok (.ifCond .eq 15, 3) := by decide +kernel
theorem dL_act_548 : decode cL_act 548 = .ok (.iload_n 1, 1) := by decide +kernel
theorem dL_act_549 : decode cL_act 549 = .ok (.bipush 6, 2) := by decide +kernel
theorem dL_act_551 : decode cL_act 551 = .ok (.ishr, 1) := by decide +kernel
theorem dL_act_552 : decode cL_act 552 = .ok (.ldc 76, 2) := by decide +kernel
theorem dL_act_554 : decode cL_act 554 = .ok (.invokestatic 65, 3) := by decide +kernel
theorem dL_act_557 : decode cL_act 557 = .ok (.goto 12, 3) := by decide +kernel
theorem dL_act_560 : decode cL_act 560 = .ok (.iload_n 1, 1) := by decide +kernel
theorem dL_act_561 : decode cL_act 561 = .ok (.bipush 6, 2) := by decide +kernel
theorem dL_act_563 : decode cL_act 563 = .ok (.ishr, 1) := by decide +kernel
theorem dL_act_564 : decode cL_act 564 = .ok (.ldc 80, 2) := by decide +kernel
theorem dL_act_566 : decode cL_act 566 = .ok (.invokestatic 65, 3) := by decide +kernel
theorem dL_act_569 : decode cL_act 569 = .ok (.iconst 0, 1) := by decide +kernel
theorem dL_act_570 : decode cL_act 570 = .ok (.iconst 0, 1) := by decide +kernel
theorem dL_act_571 : decode cL_act 571 = .ok (.iconst 0, 1) := by decide +kernel
theorem dL_act_572 : decode cL_act 572 = .ok (.invokestatic 73, 3) := by decide +kernel
theorem dL_act_575 : decode cL_act 575 = .ok (.goto 13, 3) := by decide +kernel
theorem dL_act_578 : decode cL_act 578 = .ok (.aload_n 0, 1) := by decide +kernel
theorem dL_act_579 : decode cL_act 579 = .ok (.bipush 8, 2) := by decide +kernel
theorem dL_act_581 : decode cL_act 581 = .ok (.iconst 0, 1) := by decide +kernel
theorem dL_act_582 : decode cL_act 582 = .ok (.iconst 0, 1) := by decide +kernel
theorem dL_act_583 : decode cL_act 583 = .ok (.iconst 0, 1) := by decide +kernel
theorem dL_act_584 : decode cL_act 584 = .ok (.iconst 0, 1) := by decide +kernel
theorem dL_act_585 : decode cL_act 585 = .ok (.invokestatic 73, 3) := by decide +kernel
theorem dL_act_588 : decode cL_act 588 = .ok (.ireturn, 1) := by decide +kernel
