theorem dL_addWorker_0 : decode cL_addWorker 0 = .ok (.aload_n 2, 1) := by decide +kernel
theorem dL_addWorker_1 : decode cL_addWorker 1 = .ok (.iconst 0, 1) := by decide +kernel
theorem dL_addWorker_2 : decode cL_addWorker 2 = .ok (.aload_n 0, 1) := by decide +kernel
theorem dL_addWorker_3 : decode cL_addWorker 3 = .ok (.iload_n 1, 1) := by decide +kernel
theorem dL_addWorker_4 : decode cL_addWorker 4 = .ok (.invokevirtual 7, 3) := by decide +kernel
theorem dL_addWorker_7 : decode cL_addWorker 7 = .ok (.i2l, 1) := by decide +kernel
theorem dL_addWorker_8 : decode cL_addWorker 8 = .ok (.lastore, 1) := by decide +kernel
theorem dL_addWorker_9 : decode cL_addWorker 9 = .ok (.goto 9, 3) := by decide +kernel
theorem dL_addWorker_12 : decode cL_addWorker 12 = .ok (.astore_n 3, 1) := by decide +kernel
theorem dL_addWorker_13 : decode cL_addWorker 13 = .ok (.iconst 1, 1) := by decide +kernel
theorem dL_addWorker_14 : decode cL_addWorker 14 = .ok (.ireturn, 1) := by decide +kernel
theorem dL_addWorker_15 : decode cL_addWorker 15 = .ok (.astore_n 3, 1) := by decide +kernel
theorem dL_addWorker_16 : decode cL_addWorker 16 = .ok (.iconst 2, 1) := by decide +kernel
theorem dL_addWorker_17 : decode cL_addWorker 17 = .ok (.ireturn, 1) := by decide +kernel
theorem dL_addWorker_18 : decode cL_addWorker 18 = .ok (.iconst 0, 1) := by decide +kernel
theorem dL_addWorker_19 : decode cL_addWorker 19 = .ok (.ireturn, 1) := by decide +kernel
set_option maxRecDepth 20000 in
theorem ggL_setRank_X8_setRank : GoodIn wsL_setRank wsX8_setRank := goodIn_ca (goodIn_ca (goodIn_r _ [7, 8, 9, 10, 11, 6, 12, 13, 14, 15, 16, 17, 18, 19, 20, 21, 22, 23, 24, 25, 26, 27, 28, 29, 30, 31, 32, 33, 34, 35, 36, 37, 38, 39, 40, 41, 42, 43, 44, 45, 46, 47, 48, 49, 50, 51, 52, 53, 54, 55, 56, 57, 58, 59, 60, 61, 62, 63] (by decide +kernel) (by decide +kernel)) (goodIn_sub (fun _ h => List.mem_cons_of_mem _ (List.mem_append_left _ (List.mem_append_right _ h))) (by decide +kernel))) (goodIn_sub (fun _ h => List.mem_cons_of_mem _ (List.mem_append_right _ h)) (by decide +kernel))
set_option maxRecDepth 20000 in
theorem gL_setRank_X8_setRank : GoodIn wsL_setRank (wsV RL 17 RX8 yX8_setRank wsX8_setRank) := goodIn_app (goodIn_of _ (by decide +kernel)) ggL_setRank_X8_setRank
theorem dL_setRank_0 : decode cL_setRank 0 = .ok (.aload 4, 2) := by decide +kernel
theorem dL_setRank_2 : decode cL_setRank 2 = .ok (.iconst 0, 1) := by decide +kernel
theorem dL_setRank_3 : decode cL_setRank 3 = .ok (.aload_n 0, 1) := by decide +kernel
theorem dL_setRank_4 : decode cL_setRank 4 = .ok (.iload_n 1, 1) := by decide +kernel
theorem dL_setRank_5 : decode cL_setRank 5 = .ok (.iload_n 2, 1) := by decide +kernel
theorem dL_setRank_6 : decode cL_setRank 6 = .ok (.iload_n 3, 1) := by decide +kernel
theorem dL_setRank_7 : decode cL_setRank 7 = .ok (.invokevirtual 17, 3) := by decide +kernel
theorem dL_setRank_10 : decode cL_setRank 10 = .ok (.i2l, 1) := by decide +kernel
theorem dL_setRank_11 : decode cL_setRank 11 = .ok (.lastore, 1) := by decide +kernel
theorem dL_setRank_12 : decode cL_setRank 12 = .ok (.goto 11, 3) := by decide +kernel
theorem dL_setRank_15 : decode cL_setRank 15 = .ok (.astore 5, 2) := by decide +kernel
theorem dL_setRank_17 : decode cL_setRank 17 = .ok (.iconst 1, 1) := by decide +kernel
theorem dL_setRank_18 : decode cL_setRank 18 = .ok (.ireturn, 1) := by decide +kernel
theorem dL_setRank_19 : decode cL_setRank 19 = .ok (.astore 5, 2) := by decide +kernel
theorem dL_setRank_21 : decode cL_setRank 21 = .ok (.iconst 2, 1) := by decide +kernel
theorem dL_setRank_22 : decode cL_setRank 22 = .ok (.ireturn, 1) := by decide +kernel
theorem dL_setRank_23 : decode cL_setRank 23 = .ok (.iconst 0, 1) := by decide +kernel
theorem dL_setRank_24 : decode cL_setRank 24 = .ok (.ireturn, 1) := by decide +kernel
set_option maxRecDepth 20000 in
theorem ggL_setRates_X8_setRates : GoodIn wsL_setRates wsX8_setRates := goodIn_ca (goodIn_ca (goodIn_r _ [7, 8, 9, 10, 11, 12, 6, 13, 14, 15, 16, 17, 18, 19, 20, 21, 22, 23, 24, 25, 26, 27, 28, 29, 30, 31, 32, 33, 34, 35, 36, 37, 38, 39, 40, 41, 42, 43, 44, 45, 46, 47, 48, 49, 50, 51, 52, 53] (by decide +kernel) (by decide +kernel)) (goodIn_sub (fun _ h => List.mem_cons_of_mem _ (List.mem_append_left _ (List.mem_append_right _ h))) (by decide +kernel))) (goodIn_sub (fun _ h => List.mem_cons_of_mem _ (List.mem_append_right _ h)) (by decide +kernel))
set_option maxRecDepth 20000 in
theorem gL_setRates_X8_setRates : GoodIn wsL_setRates (wsV RL 23 RX8 yX8_setRates wsX8_setRates) := goodIn_app (goodIn_of _ (by decide +kernel)) ggL_setRates_X8_setRates
theorem dL_setRates_0 : decode cL_setRates 0 = .ok (.aload 5, 2) := by decide +kernel
theorem dL_setRates_2 : decode cL_setRates 2 = .ok (.iconst 0, 1) := by decide +kernel
theorem dL_setRates_3 : decode cL_setRates 3 = .ok (.aload_n 0, 1) := by decide +kernel
theorem dL_setRates_4 : decode cL_setRates 4 = .ok (.iload_n 1, 1) := by decide +kernel
theorem dL_setRates_5 : decode cL_setRates 5 = .ok (.iload_n 2, 1) := by decide +kernel
theorem dL_setRates_6 : decode cL_setRates 6 = .ok (.iload_n 3, 1) := by decide +kernel
theorem dL_setRates_7 : decode cL_setRates 7 = .ok (.iload 4, 2) := by decide +kernel
theorem dL_setRates_9 : decode cL_setRates 9 = .ok (.invokevirtual 23, 3) := by decide +kernel
theorem dL_setRates_12 : decode cL_setRates 12 = .ok (.i2l, 1) := by decide +kernel
theorem dL_setRates_13 : decode cL_setRates 13 = .ok (.lastore, 1) := by decide +kernel
theorem dL_setRates_14 : decode cL_setRates 14 = .ok (.goto 11, 3) := by decide +kernel
theorem dL_setRates_17 : decode cL_setRates 17 = .ok (.astore 6, 2) := by decide +kernel
theorem dL_setRates_19 : decode cL_setRates 19 = .ok (.iconst 1, 1) := by decide +kernel
theorem dL_setRates_20 : decode cL_setRates 20 = .ok (.ireturn, 1) := by decide +kernel
theorem dL_setRates_21 : decode cL_setRates 21 = .ok (.astore 6, 2) := by decide +kernel
theorem dL_setRates_23 : decode cL_setRates 23 = .ok (.iconst 2, 1) := by decide +kernel
theorem dL_setRates_24 : decode cL_setRates 24 = .ok (.ireturn, 1) := by decide +kernel
theorem dL_setRates_25 : decode cL_setRates 25 = .ok (.iconst 0, 1) := by decide +kernel
theorem dL_setRates_26 : decode cL_setRates 26 = .ok (.ireturn, 1) := by decide +kernel
set_option maxRecDepth 20000 in
theorem ggL_come_X8_come : GoodIn wsL_come wsX8_come := goodIn_ca (goodIn_ca (goodIn_r _ [7, 8, 9, 10, 11, 12, 13, 14, 6, 15, 16, 17, 18, 19, 20, 21, 22, 23, 24, 25, 26, 27, 28, 29, 30, 31, 32, 33, 34, 35, 36, 37, 38, 39, 40, 41, 42, 43, 44, 45, 46, 47, 48, 49, 50, 51, 52, 53, 54, 55, 56, 57, 58, 59, 60, 61, 62, 63, 64, 65, 66, 67, 68, 69, 70, 71] (by decide +kernel) (by decide +kernel)) (goodIn_sub (fun _ h => List.mem_cons_of_mem _ (List.mem_append_left _ (List.mem_append_right _ h))) (by decide +kernel))) (goodIn_sub (fun _ h => List.mem_cons_of_mem _ (List.mem_append_right _ h)) (by decide +kernel))
set_option maxRecDepth 20000 in
theorem gL_come_X8_come : GoodIn wsL_come (wsV RL 27 RX8 yX8_come wsX8_come) := goodIn_app (goodIn_of _ (by decide +kernel)) ggL_come_X8_come
theorem dL_come_0 : decode cL_come 0 = .ok (.aload 6, 2) := by decide +kernel
theorem dL_come_2 : decode cL_come 2 = .ok (.iconst 0, 1) := by decide +kernel
theorem dL_come_3 : decode cL_come 3 = .ok (.aload_n 0, 1) := by decide +kernel
theorem dL_come_4 : decode cL_come 4 = .ok (.iload_n 1, 1) := by decide +kernel
theorem dL_come_5 : decode cL_come 5 = .ok (.iload_n 2, 1) := by decide +kernel
theorem dL_come_6 : decode cL_come 6 = .ok (.iload_n 3, 1) := by decide +kernel
theorem dL_come_7 : decode cL_come 7 = .ok (.iload 4, 2) := by decide +kernel
theorem dL_come_9 : decode cL_come 9 = .ok (.iload 5, 2) := by decide +kernel
theorem dL_come_11 : decode cL_come 11 = .ok (.invokevirtual 27, 3) := by decide +kernel
theorem dL_come_14 : decode cL_come 14 = .ok (.i2l, 1) := by decide +kernel
theorem dL_come_15 : decode cL_come 15 = .ok (.lastore, 1) := by decide +kernel
theorem dL_come_16 : decode cL_come 16 = .ok (.goto 11, 3) := by decide +kernel
theorem dL_come_19 : decode cL_come 19 = .ok (.astore 7, 2) := by decide +kernel
theorem dL_come_21 : decode cL_come 21 = .ok (.iconst 1, 1) := by decide +kernel
theorem dL_come_22 : decode cL_come 22 = .ok (.ireturn, 1) := by decide +kernel
theorem dL_come_23 : decode cL_come 23 = .ok (.astore 7, 2) := by decide +kernel
theorem dL_come_25 : decode cL_come 25 = .ok (.iconst 2, 1) := by decide +kernel
theorem dL_come_26 : decode cL_come 26 = .ok (.ireturn, 1) := by decide +kernel
theorem dL_come_27 : decode cL_come 27 = .ok (.iconst 0, 1) := by decide +kernel
theorem dL_come_28 : decode cL_come 28 = .ok (.ireturn, 1) := by decide +kernel
set_option maxRecDepth 20000 in
theorem ggL_correct_X8_correct : GoodIn wsL_correct wsX8_correct := goodIn_ca (goodIn_ca (goodIn_r _ [7, 8, 9, 10, 11, 12, 13, 14, 6, 15, 16, 17, 18, 19, 20, 21, 22, 23, 24, 25, 26, 27, 28, 29, 30, 31, 32, 33, 34, 35, 36, 37, 38, 39, 40, 41, 42, 43, 44, 45, 46, 47, 48, 49, 50, 51] (by decide +kernel) (by decide +kernel)) (goodIn_sub (fun _ h => List.mem_cons_of_mem _ (List.mem_append_left _ (List.mem_append_right _ h))) (by decide +kernel))) (goodIn_sub (fun _ h => List.mem_cons_of_mem _ (List.mem_append_right _ h)) (by decide +kernel))
set_option maxRecDepth 20000 in
theorem gL_correct_X8_correct : GoodIn wsL_correct (wsV RL 31 RX8 yX8_correct wsX8_correct) := goodIn_app (goodIn_of _ (by decide +kernel)) ggL_correct_X8_correct
theorem dL_correct_0 : decode cL_correct 0 = .ok (.aload 5, 2) := by decide +kernel
theorem dL_correct_2 : decode cL_correct 2 = .ok (.iconst 0, 1) := by decide +kernel
theorem dL_correct_3 : decode cL_correct 3 = .ok (.aload_n 0, 1) := by decide +kernel
theorem dL_correct_4 : decode cL_correct 4 = .ok (.iload_n 1, 1) := by decide +kernel
theorem dL_correct_5 : decode cL_correct 5 = .ok (.iload_n 2, 1) := by decide +kernel
theorem dL_correct_6 : decode cL_correct 6 = .ok (.iload_n 3, 1) := by decide +kernel
theorem dL_correct_7 : decode cL_correct 7 = .ok (.iload 4, 2) := by decide +kernel
theorem dL_correct_9 : decode cL_correct 9 = .ok (.invokevirtual 31, 3) := by decide +kernel
theorem dL_correct_12 : decode cL_correct 12 = .ok (.i2l, 1) := by decide +kernel
theorem dL_correct_13 : decode cL_correct 13 = .ok (.lastore, 1) := by decide +kernel
theorem dL_correct_14 : decode cL_correct 14 = .ok (.goto 11, 3) := by decide +kernel
theorem dL_correct_17 : decode cL_correct 17 = .ok (.astore 6, 2) := by decide +kernel
theorem dL_correct_19 : decode cL_correct 19 = .ok (.iconst 1, 1) := by decide +kernel
theorem dL_correct_20 : decode cL_correct 20 = .ok (.ireturn, 1) := by decide +kernel
theorem dL_correct_21 : decode cL_correct 21 = .ok (.astore 6, 2) := by decide +kernel
theorem dL_correct_23 : decode cL_correct 23 = .ok (.iconst 2, 1) := by decide +kernel
theorem dL_correct_24 : decode cL_correct 24 = .ok (.ireturn, 1) := by decide +kernel
theorem dL_correct_25 : decode cL_correct 25 = .ok (.iconst 0, 1) := by decide +kernel
theorem dL_correct_26 : decode cL_correct 26 = .ok (.ireturn, 1) := by decide +kernel
set_option maxRecDepth 20000 in
theorem ggL_acknowledged_X8_acknowledged : GoodIn wsL_acknowledged wsX8_acknowledged := goodIn_ca (goodIn_r _ [6, 7, 8, 9, 10, 5, 11, 12, 13, 14, 15, 16, 17, 18, 19, 20, 21, 22, 23, 24, 25, 26, 27, 28, 29, 30, 31, 32] (by decide +kernel) (by decide +kernel)) (goodIn_sub (fun _ h => List.mem_cons_of_mem _ (List.mem_append_right _ h)) (by decide +kernel))
set_option maxRecDepth 20000 in
theorem gL_acknowledged_X8_acknowledged : GoodIn wsL_acknowledged (wsV RL 34 RX8 yX8_acknowledged wsX8_acknowledged) := goodIn_app (goodIn_of _ (by decide +kernel)) ggL_acknowledged_X8_acknowledged
theorem dL_acknowledged_0 : decode cL_acknowledged 0 = .ok (.aload_n 2, 1) := by decide +kernel
theorem dL_acknowledged_1 : decode cL_acknowledged 1 = .ok (.iconst 0, 1) := by decide +kernel
theorem dL_acknowledged_2 : decode cL_acknowledged 2 = .ok (.aload_n 0, 1) := by decide +kernel
theorem dL_acknowledged_3 : decode cL_acknowledged 3 = .ok (.iload_n 1, 1) := by decide +kernel
theorem dL_acknowledged_4 : decode cL_acknowledged 4 = .ok (.invokevirtual 34, 3) := by decide +kernel
theorem dL_acknowledged_7 : decode cL_acknowledged 7 = .ok (.i2l, 1) := by decide +kernel
theorem dL_acknowledged_8 : decode cL_acknowledged 8 = .ok (.lastore, 1) := by decide +kernel
theorem dL_acknowledged_9 : decode cL_acknowledged 9 = .ok (.goto 6, 3) := by decide +kernel
theorem dL_acknowledged_12 : decode cL_acknowledged 12 = .ok (.astore_n 3, 1) := by decide +kernel
theorem dL_acknowledged_13 : decode cL_acknowledged 13 = .ok (.iconst 1, 1) := by decide +kernel
theorem dL_acknowledged_14 : decode cL_acknowledged 14 = .ok (.ireturn, 1) := by decide +kernel
theorem dL_acknowledged_15 : decode cL_acknowledged 15 = .ok (.iconst 0, 1) := by decide +kernel
theorem dL_acknowledged_16 : decode cL_acknowledged 16 = .ok (.ireturn, 1) := by decide +kernel
set_option maxRecDepth 20000 in
theorem ggL_due_X8_due : GoodIn wsL_due wsX8_due := goodIn_ca (goodIn_ca (goodIn_r _ [7, 8, 9, 10, 6, 11, 12, 13, 14, 15, 16, 17, 18, 19, 20, 21, 22, 23, 24, 25, 26, 27, 28, 29, 30, 31, 32, 33, 34, 35, 36, 37, 38, 39, 40, 41, 42, 43, 44, 45, 46, 47, 48, 49, 50, 51, 52, 53, 54, 55, 56, 57, 58, 59, 60, 61, 62, 63, 64, 65, 66, 67, 68, 69, 70, 71, 72, 73, 74, 75, 76, 77, 78] (by decide +kernel) (by decide +kernel)) (goodIn_sub (fun _ h => List.mem_cons_of_mem _ (List.mem_append_left _ (List.mem_append_right _ h))) (by decide +kernel))) (goodIn_sub (fun _ h => List.mem_cons_of_mem _ (List.mem_append_right _ h)) (by decide +kernel))
set_option maxRecDepth 20000 in
theorem gL_due_X8_due : GoodIn wsL_due (wsV RL 37 RX8 yX8_due wsX8_due) := goodIn_app (goodIn_of _ (by decide +kernel)) ggL_due_X8_due
theorem dL_due_0 : decode cL_due 0 = .ok (.aload_n 3, 1) := by decide +kernel
theorem dL_due_1 : decode cL_due 1 = .ok (.iconst 0, 1) := by decide +kernel
theorem dL_due_2 : decode cL_due 2 = .ok (.aload_n 0, 1) := by decide +kernel
theorem dL_due_3 : decode cL_due 3 = .ok (.iload_n 1, 1) := by decide +kernel
theorem dL_due_4 : decode cL_due 4 = .ok (.iload_n 2, 1) := by decide +kernel
theorem dL_due_5 : decode cL_due 5 = .ok (.invokevirtual 37, 3) := by decide +kernel
theorem dL_due_8 : decode cL_due 8 = .ok (.i2l, 1) := by decide +kernel
theorem dL_due_9 : decode cL_due 9 = .ok (.lastore, 1) := by decide +kernel
theorem dL_due_10 : decode cL_due 10 = .ok (.goto 11, 3) := by decide +kernel
theorem dL_due_13 : decode cL_due 13 = .ok (.astore 4, 2) := by decide +kernel
theorem dL_due_15 : decode cL_due 15 = .ok (.iconst 1, 1) := by decide +kernel
theorem dL_due_16 : decode cL_due 16 = .ok (.ireturn, 1) := by decide +kernel
theorem dL_due_17 : decode cL_due 17 = .ok (.astore 4, 2) := by decide +kernel
theorem dL_due_19 : decode cL_due 19 = .ok (.iconst 2, 1) := by decide +kernel
theorem dL_due_20 : decode cL_due 20 = .ok (.ireturn, 1) := by decide +kernel
theorem dL_due_21 : decode cL_due 21 = .ok (.iconst 0, 1) := by decide +kernel
theorem dL_due_22 : decode cL_due 22 = .ok (.ireturn, 1) := by decide +kernel
set_option maxRecDepth 20000 in
theorem ggL_order_X8_order : GoodIn wsL_order wsX8_order := goodIn_ca (goodIn_ca (goodIn_ca (goodIn_r _ [8, 9, 10, 11, 12, 13, 14, 15, 16, 17, 18, 19, 20, 7, 21, 22, 23, 24, 25, 26, 27, 28, 29, 30, 31, 32, 33, 34, 35, 36, 37, 38, 39, 40, 41, 42, 43, 44, 45, 46, 47, 48, 49, 50, 51, 52, 53] (by decide +kernel) (by decide +kernel)) (goodIn_sub (fun _ h => List.mem_cons_of_mem _ (List.mem_append_left _ (List.mem_append_left _ (List.mem_append_right _ h)))) (by decide +kernel))) (goodIn_sub (fun _ h => List.mem_cons_of_mem _ (List.mem_append_left _ (List.mem_append_right _ h))) (by decide +kernel))) (goodIn_sub (fun _ h => List.mem_cons_of_mem _ (List.mem_append_right _ h)) (by decide +kernel))
set_option maxRecDepth 20000 in
theorem gL_order_X8_order : GoodIn wsL_order (wsV RL 41 RX8 yX8_order wsX8_order) := goodIn_app (goodIn_of _ (by decide +kernel)) ggL_order_X8_order
theorem dL_order_0 : decode cL_order 0 = .ok (.aload 5, 2) := by decide +kernel
theorem dL_order_2 : decode cL_order 2 = .ok (.iconst 0, 1) := by decide +kernel
theorem dL_order_3 : decode cL_order 3 = .ok (.aload_n 0, 1) := by decide +kernel
theorem dL_order_4 : decode cL_order 4 = .ok (.iload_n 1, 1) := by decide +kernel
theorem dL_order_5 : decode cL_order 5 = .ok (.iload_n 2, 1) := by decide +kernel
theorem dL_order_6 : decode cL_order 6 = .ok (.iload_n 3, 1) := by decide +kernel
theorem dL_order_7 : decode cL_order 7 = .ok (.iload 4, 2) := by decide +kernel
theorem dL_order_9 : decode cL_order 9 = .ok (.invokevirtual 41, 3) := by decide +kernel
theorem dL_order_12 : decode cL_order 12 = .ok (.i2l, 1) := by decide +kernel
theorem dL_order_13 : decode cL_order 13 = .ok (.lastore, 1) := by decide +kernel
theorem dL_order_14 : decode cL_order 14 = .ok (.goto 15, 3) := by decide +kernel
theorem dL_order_17 : decode cL_order 17 = .ok (.astore 6, 2) := by decide +kernel
theorem dL_order_19 : decode cL_order 19 = .ok (.iconst 1, 1) := by decide +kernel
theorem dL_order_20 : decode cL_order 20 = .ok (.ireturn, 1) := by decide +kernel
theorem dL_order_21 : decode cL_order 21 = .ok (.astore 6, 2) := by decide +kernel
theorem dL_order_23 : decode cL_order 23 = .ok (.iconst 2, 1) := by decide +kernel
theorem dL_order_24 : decode cL_order 24 = .ok (.ireturn, 1) := by decide +kernel
theorem dL_order_25 : decode cL_order 25 = .ok (.astore 6, 2) := by decide +kernel
theorem dL_order_27 : decode cL_order 27 = .ok (.iconst 3, 1) := by decide +kernel
theorem dL_order_28 : decode cL_order 28 = .ok (.ireturn, 1) := by decide +kernel
theorem dL_order_29 : decode cL_order 29 = .ok (.iconst 0, 1) := by decide +kernel
theorem dL_order_30 : decode cL_order 30 = .ok (.ireturn, 1) := by decide +kernel
set_option maxRecDepth 20000 in
theorem ggL_left_X8_left : GoodIn wsL_left wsX8_left := goodIn_ca (goodIn_r _ [6, 7, 8, 9, 10, 11, 12, 13, 14, 15, 16, 17, 18, 19, 20, 21, 22, 23, 24] (by decide +kernel) (by decide +kernel)) (goodIn_sub (fun _ h => List.mem_cons_of_mem _ (List.mem_append_right _ h)) (by decide +kernel))
set_option maxRecDepth 20000 in
theorem gL_left_X8_left : GoodIn wsL_left (wsV RL 44 RX8 yX8_left wsX8_left) := goodIn_app (goodIn_of _ (by decide +kernel)) ggL_left_X8_left
theorem dL_left_0 : decode cL_left 0 = .ok (.aload_n 2, 1) := by decide +kernel
theorem dL_left_1 : decode cL_left 1 = .ok (.iconst 0, 1) := by decide +kernel
theorem dL_left_2 : decode cL_left 2 = .ok (.aload_n 0, 1) := by decide +kernel
theorem dL_left_3 : decode cL_left 3 = .ok (.iload_n 1, 1) := by decide +kernel
theorem dL_left_4 : decode cL_left 4 = .ok (.invokevirtual 44, 3) := by decide +kernel
theorem dL_left_7 : decode cL_left 7 = .ok (.i2l, 1) := by decide +kernel
theorem dL_left_8 : decode cL_left 8 = .ok (.lastore, 1) := by decide +kernel
theorem dL_left_9 : decode cL_left 9 = .ok (.goto 6, 3) := by decide +kernel
theorem dL_left_12 : decode cL_left 12 = .ok (.astore_n 3, 1) := by decide +kernel
theorem dL_left_13 : decode cL_left 13 = .ok (.iconst 1, 1) := by decide +kernel
theorem dL_left_14 : decode cL_left 14 = .ok (.ireturn, 1) := by decide +kernel
theorem dL_left_15 : decode cL_left 15 = .ok (.iconst 0, 1) := by decide +kernel
theorem dL_left_16 : decode cL_left 16 = .ok (.ireturn, 1) := by decide +kernel
set_option maxRecDepth 20000 in
theorem ggL_setFloor_X8_setFloor : GoodIn wsL_setFloor wsX8_setFloor := goodIn_ca (goodIn_r _ [6, 7, 8, 9, 10, 5, 11, 12, 13, 14, 15, 16, 17, 18, 19, 20, 21, 22, 23] (by decide +kernel) (by decide +kernel)) (goodIn_sub (fun _ h => List.mem_cons_of_mem _ (List.mem_append_right _ h)) (by decide +kernel))
set_option maxRecDepth 20000 in
theorem gL_setFloor_X8_setFloor : GoodIn wsL_setFloor (wsV RL 47 RX8 yX8_setFloor wsX8_setFloor) := goodIn_app (goodIn_of _ (by decide +kernel)) ggL_setFloor_X8_setFloor
theorem dL_setFloor_0 : decode cL_setFloor 0 = .ok (.aload_n 2, 1) := by decide +kernel
theorem dL_setFloor_1 : decode cL_setFloor 1 = .ok (.iconst 0, 1) := by decide +kernel
theorem dL_setFloor_2 : decode cL_setFloor 2 = .ok (.aload_n 0, 1) := by decide +kernel
theorem dL_setFloor_3 : decode cL_setFloor 3 = .ok (.iload_n 1, 1) := by decide +kernel
theorem dL_setFloor_4 : decode cL_setFloor 4 = .ok (.invokevirtual 47, 3) := by decide +kernel
theorem dL_setFloor_7 : decode cL_setFloor 7 = .ok (.i2l, 1) := by decide +kernel
theorem dL_setFloor_8 : decode cL_setFloor 8 = .ok (.lastore, 1) := by decide +kernel
theorem dL_setFloor_9 : decode cL_setFloor 9 = .ok (.goto 6, 3) := by decide +kernel
theorem dL_setFloor_12 : decode cL_setFloor 12 = .ok (.astore_n 3, 1) := by decide +kernel
theorem dL_setFloor_13 : decode cL_setFloor 13 = .ok (.iconst 1, 1) := by decide +kernel
theorem dL_setFloor_14 : decode cL_setFloor 14 = .ok (.ireturn, 1) := by decide +kernel
theorem dL_setFloor_15 : decode cL_setFloor 15 = .ok (.iconst 0, 1) := by decide +kernel
theorem dL_setFloor_16 : decode cL_setFloor 16 = .ok (.ireturn, 1) := by decide +kernel
set_option maxRecDepth 20000 in
theorem ggL_fill_X8_fill : GoodIn wsL_fill wsX8_fill := goodIn_ca (goodIn_ca (goodIn_ca (goodIn_r _ [8, 9, 10, 11, 12, 13, 14, 15, 16, 17, 18, 19, 7, 20, 21, 22, 23, 24, 25, 26, 27, 28, 29, 30, 31, 32, 33, 34, 35, 36, 37, 38, 39, 40, 41, 42, 43, 44, 45, 46, 47, 48, 49, 50, 51, 52, 53, 54, 55, 56, 57, 58, 59, 60, 61, 62, 63] (by decide +kernel) (by decide +kernel)) (goodIn_sub (fun _ h => List.mem_cons_of_mem _ (List.mem_append_left _ (List.mem_append_left _ (List.mem_append_right _ h)))) (by decide +kernel))) (goodIn_sub (fun _ h => List.mem_cons_of_mem _ (List.mem_append_left _ (List.mem_append_right _ h))) (by decide +kernel))) (goodIn_sub (fun _ h => List.mem_cons_of_mem _ (List.mem_append_right _ h)) (by decide +kernel))
set_option maxRecDepth 20000 in
theorem gL_fill_X8_fill : GoodIn wsL_fill (wsV RL 50 RX8 yX8_fill wsX8_fill) := goodIn_app (goodIn_of _ (by decide +kernel)) ggL_fill_X8_fill
theorem dL_fill_0 : decode cL_fill 0 = .ok (.aload_n 3, 1) := by decide +kernel
theorem dL_fill_1 : decode cL_fill 1 = .ok (.iconst 0, 1) := by decide +kernel
theorem dL_fill_2 : decode cL_fill 2 = .ok (.aload_n 0, 1) := by decide +kernel
theorem dL_fill_3 : decode cL_fill 3 = .ok (.iload_n 1, 1) := by decide +kernel
theorem dL_fill_4 : decode cL_fill 4 = .ok (.iload_n 2, 1) := by decide +kernel
theorem dL_fill_5 : decode cL_fill 5 = .ok (.invokevirtual 50, 3) := by decide +kernel
theorem dL_fill_8 : decode cL_fill 8 = .ok (.i2l, 1) := by decide +kernel
theorem dL_fill_9 : decode cL_fill 9 = .ok (.lastore, 1) := by decide +kernel
theorem dL_fill_10 : decode cL_fill 10 = .ok (.goto 15, 3) := by decide +kernel
theorem dL_fill_13 : decode cL_fill 13 = .ok (.astore 4, 2) := by decide +kernel
theorem dL_fill_15 : decode cL_fill 15 = .ok (.iconst 1, 1) := by decide +kernel
theorem dL_fill_16 : decode cL_fill 16 = .ok (.ireturn, 1) := by decide +kernel
theorem dL_fill_17 : decode cL_fill 17 = .ok (.astore 4, 2) := by decide +kernel
theorem dL_fill_19 : decode cL_fill 19 = .ok (.iconst 2, 1) := by decide +kernel
theorem dL_fill_20 : decode cL_fill 20 = .ok (.ireturn, 1) := by decide +kernel
theorem dL_fill_21 : decode cL_fill 21 = .ok (.astore 4, 2) := by decide +kernel
theorem dL_fill_23 : decode cL_fill 23 = .ok (.iconst 3, 1) := by decide +kernel
theorem dL_fill_24 : decode cL_fill 24 = .ok (.ireturn, 1) := by decide +kernel
theorem dL_fill_25 : decode cL_fill 25 = .ok (.iconst 0, 1) := by decide +kernel
theorem dL_fill_26 : decode cL_fill 26 = .ok (.ireturn, 1) := by decide +kernel
set_option maxRecDepth 20000 in
theorem ggL_bounce_X8_bounce : GoodIn wsL_bounce wsX8_bounce := goodIn_ca (goodIn_ca (goodIn_r _ [7, 8, 9, 10, 11, 12, 13, 14, 15, 16, 17, 18, 19, 20, 21, 22, 23, 24, 25, 26, 27, 28, 29, 30, 31, 32, 33, 34, 35, 36, 37, 38, 39, 40, 41, 42] (by decide +kernel) (by decide +kernel)) (goodIn_sub (fun _ h => List.mem_cons_of_mem _ (List.mem_append_left _ (List.mem_append_right _ h))) (by decide +kernel))) (goodIn_sub (fun _ h => List.mem_cons_of_mem _ (List.mem_append_right _ h)) (by decide +kernel))
set_option maxRecDepth 20000 in
theorem gL_bounce_X8_bounce : GoodIn wsL_bounce (wsV RL 53 RX8 yX8_bounce wsX8_bounce) := goodIn_app (goodIn_of _ (by decide +kernel)) ggL_bounce_X8_bounce
theorem dL_bounce_0 : decode cL_bounce 0 = .ok (.aload_n 2, 1) := by decide +kernel
theorem dL_bounce_1 : decode cL_bounce 1 = .ok (.iconst 0, 1) := by decide +kernel
theorem dL_bounce_2 : decode cL_bounce 2 = .ok (.aload_n 0, 1) := by decide +kernel
theorem dL_bounce_3 : decode cL_bounce 3 = .ok (.iload_n 1, 1) := by decide +kernel
theorem dL_bounce_4 : decode cL_bounce 4 = .ok (.invokevirtual 53, 3) := by decide +kernel
theorem dL_bounce_7 : decode cL_bounce 7 = .ok (.i2l, 1) := by decide +kernel
theorem dL_bounce_8 : decode cL_bounce 8 = .ok (.lastore, 1) := by decide +kernel
theorem dL_bounce_9 : decode cL_bounce 9 = .ok (.goto 9, 3) := by decide +kernel
theorem dL_bounce_12 : decode cL_bounce 12 = .ok (.astore_n 3, 1) := by decide +kernel
theorem dL_bounce_13 : decode cL_bounce 13 = .ok (.iconst 1, 1) := by decide +kernel
theorem dL_bounce_14 : decode cL_bounce 14 = .ok (.ireturn, 1) := by decide +kernel
theorem dL_bounce_15 : decode cL_bounce 15 = .ok (.astore_n 3, 1) := by decide +kernel
theorem dL_bounce_16 : decode cL_bounce 16 = .ok (.iconst 2, 1) := by decide +kernel
theorem dL_bounce_17 : decode cL_bounce 17 = .ok (.ireturn, 1) := by decide +kernel
theorem dL_bounce_18 : decode cL_bounce 18 = .ok (.iconst 0, 1) := by decide +kernel
theorem dL_bounce_19 : decode cL_bounce 19 = .ok (.ireturn, 1) := by decide +kernel
set_option maxRecDepth 20000 in
theorem ggL_pot_X8_pot : GoodIn wsL_pot wsX8_pot := goodIn_ca (goodIn_r _ [6, 7, 8, 9, 10, 5, 11, 12, 13, 14, 15, 16, 17, 18, 19, 20, 21, 22, 23, 24, 25, 26] (by decide +kernel) (by decide +kernel)) (goodIn_sub (fun _ h => List.mem_cons_of_mem _ (List.mem_append_right _ h)) (by decide +kernel))
set_option maxRecDepth 20000 in
theorem gL_pot_X8_pot : GoodIn wsL_pot (wsV RL 56 RX8 yX8_pot wsX8_pot) := goodIn_app (goodIn_of _ (by decide +kernel)) ggL_pot_X8_pot
theorem dL_pot_0 : decode cL_pot 0 = .ok (.aload_n 2, 1) := by decide +kernel
theorem dL_pot_1 : decode cL_pot 1 = .ok (.iconst 0, 1) := by decide +kernel
theorem dL_pot_2 : decode cL_pot 2 = .ok (.aload_n 0, 1) := by decide +kernel
theorem dL_pot_3 : decode cL_pot 3 = .ok (.iload_n 1, 1) := by decide +kernel
theorem dL_pot_4 : decode cL_pot 4 = .ok (.invokevirtual 56, 3) := by decide +kernel
theorem dL_pot_7 : decode cL_pot 7 = .ok (.i2l, 1) := by decide +kernel
theorem dL_pot_8 : decode cL_pot 8 = .ok (.lastore, 1) := by decide +kernel
theorem dL_pot_9 : decode cL_pot 9 = .ok (.goto 6, 3) := by decide +kernel
theorem dL_pot_12 : decode cL_pot 12 = .ok (.astore_n 3, 1) := by decide +kernel
theorem dL_pot_13 : decode cL_pot 13 = .ok (.iconst 1, 1) := by decide +kernel
theorem dL_pot_14 : decode cL_pot 14 = .ok (.ireturn, 1) := by decide +kernel
theorem dL_pot_15 : decode cL_pot 15 = .ok (.iconst 0, 1) := by decide +kernel
theorem dL_pot_16 : decode cL_pot 16 = .ok (.ireturn, 1) := by decide +kernel
set_option maxRecDepth 20000 in
theorem ggL_shortage_X8_shortage : GoodIn wsL_shortage wsX8_shortage := goodIn_ca (goodIn_r _ [6, 7, 8, 9, 10, 5, 11, 12, 13, 14, 15, 16, 17, 18, 19, 20, 21, 22, 23, 24, 25, 26] (by decide +kernel) (by decide +kernel)) (goodIn_sub (fun _ h => List.mem_cons_of_mem _ (List.mem_append_right _ h)) (by decide +kernel))
set_option maxRecDepth 20000 in
theorem gL_shortage_X8_shortage : GoodIn wsL_shortage (wsV RL 59 RX8 yX8_shortage wsX8_shortage) := goodIn_app (goodIn_of _ (by decide +kernel)) ggL_shortage_X8_shortage
theorem dL_shortage_0 : decode cL_shortage 0 = .ok (.aload_n 2, 1) := by decide +kernel
theorem dL_shortage_1 : decode cL_shortage 1 = .ok (.iconst 0, 1) := by decide +kernel
theorem dL_shortage_2 : decode cL_shortage 2 = .ok (.aload_n 0, 1) := by decide +kernel
theorem dL_shortage_3 : decode cL_shortage 3 = .ok (.iload_n 1, 1) := by decide +kernel
theorem dL_shortage_4 : decode cL_shortage 4 = .ok (.invokevirtual 59, 3) := by decide +kernel
theorem dL_shortage_7 : decode cL_shortage 7 = .ok (.i2l, 1) := by decide +kernel
theorem dL_shortage_8 : decode cL_shortage 8 = .ok (.lastore, 1) := by decide +kernel
theorem dL_shortage_9 : decode cL_shortage 9 = .ok (.goto 6, 3) := by decide +kernel
theorem dL_shortage_12 : decode cL_shortage 12 = .ok (.astore_n 3, 1) := by decide +kernel
theorem dL_shortage_13 : decode cL_shortage 13 = .ok (.iconst 1, 1) := by decide +kernel
theorem dL_shortage_14 : decode cL_shortage 14 = .ok (.ireturn, 1) := by decide +kernel
theorem dL_shortage_15 : decode cL_shortage 15 = .ok (.iconst 0, 1) := by decide +kernel
theorem dL_shortage_16 : decode cL_shortage 16 = .ok (.ireturn, 1) := by decide +kernel
set_option maxRecDepth 20000 in
theorem ggL_close_X8_close : GoodIn wsL_close wsX8_close := goodIn_ca (goodIn_r _ [6, 7, 8, 9, 10, 11, 12, 13, 5, 14, 15, 16, 17, 18, 19, 20, 21, 22, 23, 24, 25, 26, 27, 28, 29, 30, 31, 32, 33, 34, 35, 36, 37, 38, 39, 40, 41, 42, 43, 44, 45, 46, 47, 48, 49, 50, 51, 52, 53, 54, 55, 56, 57, 58, 59, 60, 61, 62, 63, 64, 65, 66, 67, 68, 69, 70, 71, 72, 73, 74, 75, 76, 77, 78, 79, 80, 81, 82, 83, 84, 85, 86, 87, 88, 89, 90, 91, 92, 93, 94, 95, 96, 97, 98, 99, 100, 101, 102, 103, 104, 105, 106, 107, 108, 109, 110, 111, 112, 113, 114, 115, 116, 117, 118, 119, 120, 121, 122, 123, 124, 125, 126, 127, 128, 129, 130, 131, 132, 133, 134, 135, 136, 137, 138, 139, 140] (by decide +kernel) (by decide +kernel)) (goodIn_sub (fun _ h => List.mem_cons_of_mem _ (List.mem_append_right _ h)) (by decide +kernel))
set_option maxRecDepth 20000 in
theorem gL_close_X8_close : GoodIn wsL_close (wsV RL 62 RX8 yX8_close wsX8_close) := goodIn_app (goodIn_of _ (by decide +kernel)) ggL_close_X8_close
theorem dL_close_0 : decode cL_close 0 = .ok (.aload_n 1, 1) := by decide +kernel
theorem dL_close_1 : decode cL_close 1 = .ok (.iconst 0, 1) := by decide +kernel
theorem dL_close_2 : decode cL_close 2 = .ok (.aload_n 0, 1) := by decide +kernel
theorem dL_close_3 : decode cL_close 3 = .ok (.invokevirtual 62, 3) := by decide +kernel
theorem dL_close_6 : decode cL_close 6 = .ok (.i2l, 1) := by decide +kernel
theorem dL_close_7 : decode cL_close 7 = .ok (.lastore, 1) := by decide +kernel
theorem dL_close_8 : decode cL_close 8 = .ok (.goto 6, 3) := by decide +kernel
theorem dL_close_11 : decode cL_close 11 = .ok (.astore_n 2, 1) := by decide +kernel
theorem dL_close_12 : decode cL_close 12 = .ok (.iconst 1, 1) := by decide +kernel
theorem dL_close_13 : decode cL_close 13 = .ok (.ireturn, 1) := by decide +kernel
theorem dL_close_14 : decode cL_close 14 = .ok (.iconst 0, 1) := by decide +kernel
theorem dL_close_15 : decode cL_close 15 = .ok (.ireturn, 1) := by decide +kernel
set_option maxRecDepth 20000 in
theorem ggL_slip_X8_slip : GoodIn wsL_slip wsX8_slip := goodIn_ca (goodIn_ca (goodIn_r _ [7, 8, 9, 10, 6, 11, 12, 13, 14, 15, 16, 17, 18, 19, 20, 21, 22, 23, 24, 25, 26, 27, 28, 29, 30, 31, 32, 33, 34, 35, 36, 37, 38, 39, 40, 41, 42, 43, 44, 45, 46, 47, 48, 49, 50, 51, 52, 53, 54, 55, 56, 57, 58, 59] (by decide +kernel) (by decide +kernel)) (goodIn_sub (fun _ h => List.mem_cons_of_mem _ (List.mem_append_left _ (List.mem_append_right _ h))) (by decide +kernel))) (goodIn_sub (fun _ h => List.mem_cons_of_mem _ (List.mem_append_right _ h)) (by decide +kernel))
set_option maxRecDepth 20000 in
theorem gL_slip_X8_slip : GoodIn wsL_slip (wsV RL 66 RX8 yX8_slip wsX8_slip) := goodIn_app (goodIn_of _ (by decide +kernel)) ggL_slip_X8_slip
theorem dL_slip_0 : decode cL_slip 0 = .ok (.aload 4, 2) := by decide +kernel
theorem dL_slip_2 : decode cL_slip 2 = .ok (.iconst 0, 1) := by decide +kernel
theorem dL_slip_3 : decode cL_slip 3 = .ok (.aload_n 0, 1) := by decide +kernel
theorem dL_slip_4 : decode cL_slip 4 = .ok (.iload_n 1, 1) := by decide +kernel
theorem dL_slip_5 : decode cL_slip 5 = .ok (.iload_n 2, 1) := by decide +kernel
theorem dL_slip_6 : decode cL_slip 6 = .ok (.iload_n 3, 1) := by decide +kernel
theorem dL_slip_7 : decode cL_slip 7 = .ok (.invokevirtual 66, 3) := by decide +kernel
theorem dL_slip_10 : decode cL_slip 10 = .ok (.i2l, 1) := by decide +kernel
theorem dL_slip_11 : decode cL_slip 11 = .ok (.lastore, 1) := by decide +kernel
theorem dL_slip_12 : decode cL_slip 12 = .ok (.goto 11, 3) := by decide +kernel
theorem dL_slip_15 : decode cL_slip 15 = .ok (.astore 5, 2) := by decide +kernel
theorem dL_slip_17 : decode cL_slip 17 = .ok (.iconst 1, 1) := by decide +kernel
theorem dL_slip_18 : decode cL_slip 18 = .ok (.ireturn, 1) := by decide +kernel
theorem dL_slip_19 : decode cL_slip 19 = .ok (.astore 5, 2) := by decide +kernel
theorem dL_slip_21 : decode cL_slip 21 = .ok (.iconst 2, 1) := by decide +kernel
theorem dL_slip_22 : decode cL_slip 22 = .ok (.ireturn, 1) := by decide +kernel
theorem dL_slip_23 : decode cL_slip 23 = .ok (.iconst 0, 1) := by decide +kernel
theorem dL_slip_24 : decode cL_slip 24 = .ok (.ireturn, 1) := by decide +kernel
set_option maxRecDepth 20000 in
theorem ggL_toTakeBack_X8_toTakeBack : GoodIn wsL_toTakeBack wsX8_toTakeBack := goodIn_ca (goodIn_r _ [6, 7, 8, 9, 10, 5, 11, 12, 13, 14, 15, 16, 17, 18, 19, 20, 21, 22, 23, 24, 25, 26, 27, 28, 29, 30, 31, 32] (by decide +kernel) (by decide +kernel)) (goodIn_sub (fun _ h => List.mem_cons_of_mem _ (List.mem_append_right _ h)) (by decide +kernel))
set_option maxRecDepth 20000 in
theorem gL_toTakeBack_X8_toTakeBack : GoodIn wsL_toTakeBack (wsV RL 69 RX8 yX8_toTakeBack wsX8_toTakeBack) := goodIn_app (goodIn_of _ (by decide +kernel)) ggL_toTakeBack_X8_toTakeBack
theorem dL_toTakeBack_0 : decode cL_toTakeBack 0 = .ok (.aload_n 2, 1) := by decide +kernel
theorem dL_toTakeBack_1 : decode cL_toTakeBack 1 = .ok (.iconst 0, 1) := by decide +kernel
theorem dL_toTakeBack_2 : decode cL_toTakeBack 2 = .ok (.aload_n 0, 1) := by decide +kernel
theorem dL_toTakeBack_3 : decode cL_toTakeBack 3 = .ok (.iload_n 1, 1) := by decide +kernel
theorem dL_toTakeBack_4 : decode cL_toTakeBack 4 = .ok (.invokevirtual 69, 3) := by decide +kernel
theorem dL_toTakeBack_7 : decode cL_toTakeBack 7 = .ok (.i2l, 1) := by decide +kernel
theorem dL_toTakeBack_8 : decode cL_toTakeBack 8 = .ok (.lastore, 1) := by decide +kernel
theorem dL_toTakeBack_9 : decode cL_toTakeBack 9 = .ok (.goto 6, 3) := by decide +kernel
theorem dL_toTakeBack_12 : decode cL_toTakeBack 12 = .ok (.astore_n 3, 1) := by decide +kernel
theorem dL_toTakeBack_13 : decode cL_toTakeBack 13 = .ok (.iconst 1, 1) := by decide +kernel
theorem dL_toTakeBack_14 : decode cL_toTakeBack 14 = .ok (.ireturn, 1) := by decide +kernel
theorem dL_toTakeBack_15 : decode cL_toTakeBack 15 = .ok (.iconst 0, 1) := by decide +kernel
theorem dL_toTakeBack_16 : decode cL_toTakeBack 16 = .ok (.ireturn, 1) := by decide +kernel
set_option maxRecDepth 20000 in
theorem ggL_claim_X8_claim : GoodIn wsL_claim wsX8_claim := goodIn_ca (goodIn_r _ [6, 7, 8, 9, 5, 10, 11, 12, 13, 14, 15, 16, 17, 18, 19, 20, 21, 22, 23, 24, 25, 26, 27, 28, 29, 30, 31, 32, 33, 34, 35, 36, 37, 38, 39, 40, 41, 42, 43, 44, 45, 46, 47, 48, 49, 50, 51, 52, 53, 54, 55, 56, 57, 58, 59, 60, 61, 62, 63, 64, 65, 66, 67, 68, 69, 70, 71, 72, 73, 74, 75] (by decide +kernel) (by decide +kernel)) (goodIn_sub (fun _ h => List.mem_cons_of_mem _ (List.mem_append_right _ h)) (by decide +kernel))
set_option maxRecDepth 20000 in
theorem gL_claim_X8_claim : GoodIn wsL_claim (wsV RL 72 RX8 yX8_claim wsX8_claim) := goodIn_app (goodIn_of _ (by decide +kernel)) ggL_claim_X8_claim
theorem dL_claim_0 : decode cL_claim 0 = .ok (.aload_n 2, 1) := by decide +kernel
theorem dL_claim_1 : decode cL_claim 1 = .ok (.iconst 0, 1) := by decide +kernel
theorem dL_claim_2 : decode cL_claim 2 = .ok (.aload_n 0, 1) := by decide +kernel
theorem dL_claim_3 : decode cL_claim 3 = .ok (.iload_n 1, 1) := by decide +kernel
theorem dL_claim_4 : decode cL_claim 4 = .ok (.invokevirtual 72, 3) := by decide +kernel
theorem dL_claim_7 : decode cL_claim 7 = .ok (.i2l, 1) := by decide +kernel
theorem dL_claim_8 : decode cL_claim 8 = .ok (.lastore, 1) := by decide +kernel
theorem dL_claim_9 : decode cL_claim 9 = .ok (.goto 6, 3) := by decide +kernel
theorem dL_claim_12 : decode cL_claim 12 = .ok (.astore_n 3, 1) := by decide +kernel
theorem dL_claim_13 : decode cL_claim 13 = .ok (.iconst 1, 1) := by decide +kernel
theorem dL_claim_14 : decode cL_claim 14 = .ok (.ireturn, 1) := by decide +kernel
theorem dL_claim_15 : decode cL_claim 15 = .ok (.iconst 0, 1) := by decide +kernel
theorem dL_claim_16 : decode cL_claim 16 = .ok (.ireturn, 1) := by decide +kernel
set_option maxRecDepth 20000 in
theorem ggL_claimBySlips_X8_claimBySlips : GoodIn wsL_claimBySlips wsX8_claimBySlips := goodIn_ca (goodIn_r _ [6, 7, 8, 9, 10, 11, 5, 12, 13, 14, 15, 16, 17, 18, 19, 20, 21, 22, 23, 24, 25, 26, 27, 28, 29, 30, 31, 32, 33, 34, 35, 36, 37, 38, 39, 40, 41, 42, 43, 44, 45, 46, 47, 48, 49, 50, 51, 52, 53, 54, 55, 56, 57, 58, 59, 60, 61, 62, 63, 64, 65, 66, 67, 68, 69, 70, 71, 72, 73, 74, 75, 76, 77, 78, 79, 80, 81, 82, 83, 84, 85, 86, 87, 88, 89] (by decide +kernel) (by decide +kernel)) (goodIn_sub (fun _ h => List.mem_cons_of_mem _ (List.mem_append_right _ h)) (by decide +kernel))
set_option maxRecDepth 20000 in
theorem gL_claimBySlips_X8_claimBySlips : GoodIn wsL_claimBySlips (wsV RL 75 RX8 yX8_claimBySlips wsX8_claimBySlips) := goodIn_app (goodIn_of _ (by decide +kernel)) ggL_claimBySlips_X8_claimBySlips
theorem dL_claimBySlips_0 : decode cL_claimBySlips 0 = .ok (.aload_n 2, 1) := by decide +kernel
theorem dL_claimBySlips_1 : decode cL_claimBySlips 1 = .ok (.iconst 0, 1) := by decide +kernel
theorem dL_claimBySlips_2 : decode cL_claimBySlips 2 = .ok (.aload_n 0, 1) := by decide +kernel
theorem dL_claimBySlips_3 : decode cL_claimBySlips 3 = .ok (.iload_n 1, 1) := by decide +kernel
theorem dL_claimBySlips_4 : decode cL_claimBySlips 4 = .ok (.invokevirtual 75, 3) := by decide +kernel
theorem dL_claimBySlips_7 : decode cL_claimBySlips 7 = .ok (.i2l, 1) := by decide +kernel
theorem dL_claimBySlips_8 : decode cL_claimBySlips 8 = .ok (.lastore, 1) := by decide +kernel
theorem dL_claimBySlips_9 : decode cL_claimBySlips 9 = .ok (.goto 6, 3) := by decide +kernel
theorem dL_claimBySlips_12 : decode cL_claimBySlips 12 = .ok (.astore_n 3, 1) := by decide +kernel
theorem dL_claimBySlips_13 : decode cL_claimBySlips 13 = .ok (.iconst 1, 1) := by decide +kernel
theorem dL_claimBySlips_14 : decode cL_claimBySlips 14 = .ok (.ireturn, 1) := by decide +kernel
theorem dL_claimBySlips_15 : decode cL_claimBySlips 15 = .ok (.iconst 0, 1) := by decide +kernel
theorem dL_claimBySlips_16 : decode cL_claimBySlips 16 = .ok (.ireturn, 1) := by decide +kernel