set_option maxRecDepth 20000 in
theorem ggL_areAlike_X8_week : GoodIn wsL_areAlike wsX8_week := goodIn_r _ [5, 6, 120, 121, 122, 123, 124, 125, 126, 127, 128, 129] (by decide +kernel) (by decide +kernel)
set_option maxRecDepth 20000 in
theorem gL_areAlike_X8_week : GoodIn wsL_areAlike (wsV RL 81 RX8 yX8_week wsX8_week) := goodIn_app (goodIn_of _ (by decide +kernel)) ggL_areAlike_X8_week
set_option maxRecDepth 20000 in
theorem ggL_areAlike_X8_pot : GoodIn wsL_areAlike wsX8_pot := goodIn_ca (goodIn_r _ [10, 11, 12, 13, 14, 4, 15, 16, 17, 18, 130, 131, 120, 121, 122, 123, 124, 125, 126, 127, 128, 129] (by decide +kernel) (by decide +kernel)) (goodIn_sub (fun _ h => List.mem_cons_of_mem _ (List.mem_append_left _ (List.mem_append_right _ h))) (by decide +kernel))
set_option maxRecDepth 20000 in
theorem gL_areAlike_X8_pot : GoodIn wsL_areAlike (wsV RL 84 RX8 yX8_pot wsX8_pot) := goodIn_app (goodIn_of _ (by decide +kernel)) ggL_areAlike_X8_pot
set_option maxRecDepth 20000 in
theorem ggL_areAlike_X8_shortage : GoodIn wsL_areAlike wsX8_shortage := goodIn_ca (goodIn_r _ [22, 23, 12, 13, 14, 4, 15, 16, 17, 18, 130, 131, 120, 121, 122, 123, 124, 125, 126, 127, 128, 129] (by decide +kernel) (by decide +kernel)) (goodIn_sub (fun _ h => List.mem_cons_of_mem _ (List.mem_append_left _ (List.mem_append_right _ h))) (by decide +kernel))
set_option maxRecDepth 20000 in
theorem gL_areAlike_X8_shortage : GoodIn wsL_areAlike (wsV RL 87 RX8 yX8_shortage wsX8_shortage) := goodIn_app (goodIn_of _ (by decide +kernel)) ggL_areAlike_X8_shortage
set_option maxRecDepth 20000 in
theorem ggL_areAlike_X8_claim : GoodIn wsL_areAlike wsX8_claim := goodIn_ca (goodIn_r _ [27, 28, 29, 30, 4, 31, 16, 17, 32, 33, 34, 35, 36, 6, 37, 38, 39, 40, 41, 42, 43, 44, 45, 46, 47, 48, 49, 50, 51, 52, 53, 54, 55, 56, 57, 58, 59, 60, 61, 62, 63, 64, 65, 66, 67, 68, 120, 121, 122, 123, 124, 125, 126, 127, 128, 129, 132, 133, 134, 135, 136, 137, 138, 139, 140, 141, 142, 143, 144, 145, 146] (by decide +kernel) (by decide +kernel)) (goodIn_sub (fun _ h => List.mem_cons_of_mem _ (List.mem_append_left _ (List.mem_append_right _ h))) (by decide +kernel))
set_option maxRecDepth 20000 in
theorem gL_areAlike_X8_claim : GoodIn wsL_areAlike (wsV RL 59 RX8 yX8_claim wsX8_claim) := goodIn_app (goodIn_of _ (by decide +kernel)) ggL_areAlike_X8_claim
set_option maxRecDepth 20000 in
theorem ggL_areAlike_X8_toTakeBack : GoodIn wsL_areAlike wsX8_toTakeBack := goodIn_ca (goodIn_r _ [72, 73, 28, 29, 30, 4, 31, 16, 17, 32, 132, 133, 134, 135, 136, 137, 138, 139, 120, 121, 122, 123, 124, 125, 126, 127, 128, 129] (by decide +kernel) (by decide +kernel)) (goodIn_sub (fun _ h => List.mem_cons_of_mem _ (List.mem_append_left _ (List.mem_append_right _ h))) (by decide +kernel))
set_option maxRecDepth 20000 in
theorem gL_areAlike_X8_toTakeBack : GoodIn wsL_areAlike (wsV RL 62 RX8 yX8_toTakeBack wsX8_toTakeBack) := goodIn_app (goodIn_of _ (by decide +kernel)) ggL_areAlike_X8_toTakeBack
set_option maxRecDepth 20000 in
theorem ggL_areAlike_X8_acknowledged : GoodIn wsL_areAlike wsX8_acknowledged := goodIn_ca (goodIn_r _ [77, 42, 28, 29, 30, 4, 31, 16, 17, 32, 132, 133, 134, 135, 136, 137, 138, 139, 120, 121, 122, 123, 124, 125, 126, 127, 128, 129] (by decide +kernel) (by decide +kernel)) (goodIn_sub (fun _ h => List.mem_cons_of_mem _ (List.mem_append_left _ (List.mem_append_right _ h))) (by decide +kernel))
set_option maxRecDepth 20000 in
theorem gL_areAlike_X8_acknowledged : GoodIn wsL_areAlike (wsV RL 53 RX8 yX8_acknowledged wsX8_acknowledged) := goodIn_app (goodIn_of _ (by decide +kernel)) ggL_areAlike_X8_acknowledged
set_option maxRecDepth 20000 in
theorem ggL_areAlike_X8_due : GoodIn wsL_areAlike wsX8_due := goodIn_ca (goodIn_ca (goodIn_r _ [81, 28, 29, 30, 4, 31, 16, 17, 32, 82, 83, 84, 85, 86, 87, 88, 89, 38, 39, 40, 41, 42, 43, 44, 45, 46, 47, 48, 49, 50, 51, 52, 53, 54, 55, 56, 57, 58, 59, 60, 61, 62, 63, 64, 65, 66, 67, 68, 120, 121, 122, 123, 124, 125, 126, 127, 128, 129, 132, 133, 134, 135, 136, 137, 138, 139, 140, 141, 142, 143, 144, 145, 146] (by decide +kernel) (by decide +kernel)) (goodIn_sub (fun _ h => List.mem_cons_of_mem _ (List.mem_append_left _ (List.mem_append_right _ h))) (by decide +kernel))) (goodIn_sub (fun _ h => List.mem_cons_of_mem _ (List.mem_append_right _ h)) (by decide +kernel))
set_option maxRecDepth 20000 in
theorem gL_areAlike_X8_due : GoodIn wsL_areAlike (wsV RL 90 RX8 yX8_due wsX8_due) := goodIn_app (goodIn_of _ (by decide +kernel)) ggL_areAlike_X8_due
set_option maxRecDepth 20000 in
theorem ggL_areAlike_X8_slip : GoodIn wsL_areAlike wsX8_slip := goodIn_ca (goodIn_ca (goodIn_r _ [93, 28, 29, 30, 4, 31, 16, 17, 32, 82, 83, 84, 85, 86, 87, 88, 89, 94, 95, 96, 48, 97, 98, 99, 100, 101, 102, 103, 104, 105, 106, 107, 120, 121, 122, 123, 124, 125, 126, 127, 128, 129, 132, 133, 134, 135, 136, 137, 138, 139, 147, 148, 149, 150] (by decide +kernel) (by decide +kernel)) (goodIn_sub (fun _ h => List.mem_cons_of_mem _ (List.mem_append_left _ (List.mem_append_right _ h))) (by decide +kernel))) (goodIn_sub (fun _ h => List.mem_cons_of_mem _ (List.mem_append_right _ h)) (by decide +kernel))
set_option maxRecDepth 20000 in
theorem gL_areAlike_X8_slip : GoodIn wsL_areAlike (wsV RL 93 RX8 yX8_slip wsX8_slip) := goodIn_app (goodIn_of _ (by decide +kernel)) ggL_areAlike_X8_slip
set_option maxRecDepth 20000 in
theorem ggL_areAlike_L_looks : GoodIn wsL_areAlike wsL_looks := goodIn_ca (goodIn_r _ [111, 112, 113, 74, 75, 76, 4, 77, 42, 28, 29, 30, 31, 16, 17, 32, 114, 115, 116, 117, 118, 119, 24, 25, 26, 27, 33, 34, 35, 36, 6, 37, 38, 39, 40, 41, 43, 44, 45, 46, 47, 48, 49, 50, 51, 52, 53, 54, 55, 56, 57, 58, 59, 60, 61, 62, 63, 64, 65, 66, 67, 68, 69, 70, 71, 72, 73, 132, 133, 134, 135, 136, 137, 138, 139, 120, 121, 122, 123, 124, 125, 126, 127, 128, 129, 151, 152, 153, 154, 140, 141, 142, 143, 144, 145, 146] (by decide +kernel) (by decide +kernel)) (goodIn_sub (fun _ h => List.mem_cons_of_mem _ (List.mem_append_left _ (List.mem_append_right _ h))) (by decide +kernel))
set_option maxRecDepth 20000 in
theorem gL_areAlike_L_looks : GoodIn wsL_areAlike (va_wsS RL 96 yL_looks wsL_looks) := goodIn_app (goodIn_of _ (by decide +kernel)) ggL_areAlike_L_looks
theorem dL_areAlike_0 : decode cL_areAlike 0 = .ok (.aload_n 0, 1) := by decide +kernel
theorem dL_areAlike_1 : decode cL_areAlike 1 = .ok (.invokevirtual 81, 3) := by decide +kernel
theorem dL_areAlike_4 : decode cL_areAlike 4 = .ok (.aload_n 1, 1) := by decide +kernel
theorem dL_areAlike_5 : decode cL_areAlike 5 = .ok (.invokevirtual 81, 3) := by decide +kernel
theorem dL_areAlike_8 : decode cL_areAlike 8 = .ok (.if_icmp .ne 7, 3) := by decide +kernel
theorem dL_areAlike_11 : decode cL_areAlike 11 = .ok (.iconst 1, 1) := by decide +kernel
theorem dL_areAlike_12 : decode cL_areAlike 12 = .ok (.goto 4, 3) := by decide +kernel
theorem dL_areAlike_15 : decode cL_areAlike 15 = .ok (.iconst 0, 1) := by decide +kernel
theorem dL_areAlike_16 : decode cL_areAlike 16 = .ok (.istore_n 3, 1) := by decide +kernel
theorem dL_areAlike_17 : decode cL_areAlike 17 = .ok (.iconst 0, 1) := by decide +kernel
theorem dL_areAlike_18 : decode cL_areAlike 18 = .ok (.istore 4, 2) := by decide +kernel
theorem dL_areAlike_20 : decode cL_areAlike 20 = .ok (.iload 4, 2) := by decide +kernel
theorem dL_areAlike_22 : decode cL_areAlike 22 = .ok (.iconst 3, 1) := by decide +kernel
theorem dL_areAlike_23 : decode cL_areAlike 23 = .ok (.if_icmp .ge 149, 3) := by decide +kernel
theorem dL_areAlike_26 : decode cL_areAlike 26 = .ok (.iload_n 3, 1) := by decide +kernel
theorem dL_areAlike_27 : decode cL_areAlike 27 = .ok (.ifCond .eq 145, 3) := by decide +kernel
theorem dL_areAlike_30 : decode cL_areAlike 30 = .ok (.aload_n 0, 1) := by decide +kernel
theorem dL_areAlike_31 : decode cL_areAlike 31 = .ok (.iload 4, 2) := by decide +kernel
theorem dL_areAlike_33 : decode cL_areAlike 33 = .ok (.invokevirtual 84, 3) := by decide +kernel
theorem dL_areAlike_36 : decode cL_areAlike 36 = .ok (.aload_n 1, 1) := by decide +kernel
theorem dL_areAlike_37 : decode cL_areAlike 37 = .ok (.iload 4, 2) := by decide +kernel
theorem dL_areAlike_39 : decode cL_areAlike 39 = .ok (.invokevirtual 84, 3) := by decide +kernel
theorem dL_areAlike_42 : decode cL_areAlike 42 = .ok (.if_icmp .ne 122, 3) := by decide +kernel
theorem dL_areAlike_45 : decode cL_areAlike 45 = .ok (.aload_n 0, 1) := by decide +kernel
theorem dL_areAlike_46 : decode cL_areAlike 46 = .ok (.iload 4, 2) := by decide +kernel
theorem dL_areAlike_48 : decode cL_areAlike 48 = .ok (.invokevirtual 87, 3) := by decide +kernel
theorem dL_areAlike_51 : decode cL_areAlike 51 = .ok (.aload_n 1, 1) := by decide +kernel
theorem dL_areAlike_52 : decode cL_areAlike 52 = .ok (.iload 4, 2) := by decide +kernel
theorem dL_areAlike_54 : decode cL_areAlike 54 = .ok (.invokevirtual 87, 3) := by decide +kernel
theorem dL_areAlike_57 : decode cL_areAlike 57 = .ok (.if_icmp .ne 107, 3) := by decide +kernel
theorem dL_areAlike_60 : decode cL_areAlike 60 = .ok (.aload_n 0, 1) := by decide +kernel
theorem dL_areAlike_61 : decode cL_areAlike 61 = .ok (.iload 4, 2) := by decide +kernel
theorem dL_areAlike_63 : decode cL_areAlike 63 = .ok (.invokevirtual 59, 3) := by decide +kernel
theorem dL_areAlike_66 : decode cL_areAlike 66 = .ok (.aload_n 1, 1) := by decide +kernel
theorem dL_areAlike_67 : decode cL_areAlike 67 = .ok (.iload 4, 2) := by decide +kernel
theorem dL_areAlike_69 : decode cL_areAlike 69 = .ok (.invokevirtual 59, 3) := by decide +kernel
theorem dL_areAlike_72 : decode cL_areAlike 72 = .ok (.if_icmp .ne 92, 3) := by decide +kernel
theorem dL_areAlike_75 : decode cL_areAlike 75 = .ok (.aload_n 0, 1) := by decide +kernel
theorem dL_areAlike_76 : decode cL_areAlike 76 = .ok (.iload 4, 2) := by decide +kernel
theorem dL_areAlike_78 : decode cL_areAlike 78 = .ok (.invokevirtual 62, 3) := by decide +kernel
theorem dL_areAlike_81 : decode cL_areAlike 81 = .ok (.aload_n 1, 1) := by decide +kernel
theorem dL_areAlike_82 : decode cL_areAlike 82 = .ok (.iload 4, 2) := by decide +kernel
theorem dL_areAlike_84 : decode cL_areAlike 84 = .ok (.invokevirtual 62, 3) := by decide +kernel
theorem dL_areAlike_87 : decode cL_areAlike 87 = .ok (.if_icmp .ne 77, 3) := by decide +kernel
theorem dL_areAlike_90 : decode cL_areAlike 90 = .ok (.aload_n 0, 1) := by decide +kernel
theorem dL_areAlike_91 : decode cL_areAlike 91 = .ok (.iload 4, 2) := by decide +kernel
theorem dL_areAlike_93 : decode cL_areAlike 93 = .ok (.invokevirtual 53, 3) := by decide +kernel
theorem dL_areAlike_96 : decode cL_areAlike 96 = .ok (.aload_n 1, 1) := by decide +kernel
theorem dL_areAlike_97 : decode cL_areAlike 97 = .ok (.iload 4, 2) := by decide +kernel
theorem dL_areAlike_99 : decode cL_areAlike 99 = .ok (.invokevirtual 53, 3) := by decide +kernel
theorem dL_areAlike_102 : decode cL_areAlike 102 = .ok (.if_icmp .ne 62, 3) := by decide +kernel
theorem dL_areAlike_105 : decode cL_areAlike 105 = .ok (.aload_n 0, 1) := by decide +kernel
theorem dL_areAlike_106 : decode cL_areAlike 106 = .ok (.iload 4, 2) := by decide +kernel
theorem dL_areAlike_108 : decode cL_areAlike 108 = .ok (.iload_n 2, 1) := by decide +kernel
theorem dL_areAlike_109 : decode cL_areAlike 109 = .ok (.invokevirtual 90, 3) := by decide +kernel
theorem dL_areAlike_112 : decode cL_areAlike 112 = .ok (.aload_n 1, 1) := by decide +kernel
theorem dL_areAlike_113 : decode cL_areAlike 113 = .ok (.iload 4, 2) := by decide +kernel
theorem dL_areAlike_115 : decode cL_areAlike 115 = .ok (.iload_n 2, 1) := by decide +kernel
theorem dL_areAlike_116 : decode cL_areAlike 116 = .ok (.invokevirtual 90, 3) := by decide +kernel
theorem dL_areAlike_119 : decode cL_areAlike 119 = .ok (.if_icmp .ne 45, 3) := by decide +kernel
theorem dL_areAlike_122 : decode cL_areAlike 122 = .ok (.aload_n 0, 1) := by decide +kernel
theorem dL_areAlike_123 : decode cL_areAlike 123 = .ok (.iload 4, 2) := by decide +kernel
theorem dL_areAlike_125 : decode cL_areAlike 125 = .ok (.iload_n 2, 1) := by decide +kernel
theorem dL_areAlike_126 : decode cL_areAlike 126 = .ok (.iconst 0, 1) := by decide +kernel
theorem dL_areAlike_127 : decode cL_areAlike 127 = .ok (.invokevirtual 93, 3) := by decide +kernel
theorem dL_areAlike_130 : decode cL_areAlike 130 = .ok (.aload_n 1, 1) := by decide +kernel
theorem dL_areAlike_131 : decode cL_areAlike 131 = .ok (.iload 4, 2) := by decide +kernel
theorem dL_areAlike_133 : decode cL_areAlike 133 = .ok (.iload_n 2, 1) := by decide +kernel
theorem dL_areAlike_134 : decode cL_areAlike 134 = .ok (.iconst 0, 1) := by decide +kernel
theorem dL_areAlike_135 : decode cL_areAlike 135 = .ok (.invokevirtual 93, 3) := by decide +kernel
theorem dL_areAlike_138 : decode cL_areAlike 138 = .ok (.if_icmp .ne 26, 3) := by decide +kernel
theorem dL_areAlike_141 : decode cL_areAlike 141 = .ok (.aload_n 0, 1) := by decide +kernel
theorem dL_areAlike_142 : decode cL_areAlike 142 = .ok (.iload 4, 2) := by decide +kernel
theorem dL_areAlike_144 : decode cL_areAlike 144 = .ok (.iload_n 2, 1) := by decide +kernel
theorem dL_areAlike_145 : decode cL_areAlike 145 = .ok (.iconst 2, 1) := by decide +kernel
theorem dL_areAlike_146 : decode cL_areAlike 146 = .ok (.invokevirtual 93, 3) := by decide +kernel
theorem dL_areAlike_149 : decode cL_areAlike 149 = .ok (.aload_n 1, 1) := by decide +kernel
theorem dL_areAlike_150 : decode cL_areAlike 150 = .ok (.iload 4, 2) := by decide +kernel
theorem dL_areAlike_152 : decode cL_areAlike 152 = .ok (.iload_n 2, 1) := by decide +kernel
theorem dL_areAlike_153 : decode cL_areAlike 153 = .ok (.iconst 2, 1) := by decide +kernel
theorem dL_areAlike_154 : decode cL_areAlike 154 = .ok (.invokevirtual 93, 3) := by decide +kernel
theorem dL_areAlike_157 : decode cL_areAlike 157 = .ok (.if_icmp .ne 7, 3) := by decide +kernel
theorem dL_areAlike_160 : decode cL_areAlike 160 = .ok (.iconst 1, 1) := by decide +kernel
theorem dL_areAlike_161 : decode cL_areAlike 161 = .ok (.goto 4, 3) := by decide +kernel
theorem dL_areAlike_164 : decode cL_areAlike 164 = .ok (.iconst 0, 1) := by decide +kernel
theorem dL_areAlike_165 : decode cL_areAlike 165 = .ok (.istore_n 3, 1) := by decide +kernel
theorem dL_areAlike_166 : decode cL_areAlike 166 = .ok (.iinc 4 1, 3) := by decide +kernel
theorem dL_areAlike_169 : decode cL_areAlike 169 = .ok (.goto (-149), 3) := by decide +kernel
theorem dL_areAlike_172 : decode cL_areAlike 172 = .ok (.iconst 0, 1) := by decide +kernel
theorem dL_areAlike_173 : decode cL_areAlike 173 = .ok (.istore 4, 2) := by decide +kernel
theorem dL_areAlike_175 : decode cL_areAlike 175 = .ok (.iload 4, 2) := by decide +kernel
theorem dL_areAlike_177 : decode cL_areAlike 177 = .ok (.bipush 20, 2) := by decide +kernel
theorem dL_areAlike_179 : decode cL_areAlike 179 = .ok (.if_icmp .ge 36, 3) := by decide +kernel
theorem dL_areAlike_182 : decode cL_areAlike 182 = .ok (.iload_n 3, 1) := by decide +kernel
theorem dL_areAlike_183 : decode cL_areAlike 183 = .ok (.ifCond .eq 32, 3) := by decide +kernel
theorem dL_areAlike_186 : decode cL_areAlike 186 = .ok (.aload_n 0, 1) := by decide +kernel
theorem dL_areAlike_187 : decode cL_areAlike 187 = .ok (.iconst 1, 1) := by decide +kernel
theorem dL_areAlike_188 : decode cL_areAlike 188 = .ok (.iload 4, 2) := by decide +kernel
theorem dL_areAlike_190 : decode cL_areAlike 190 = .ok (.invokestatic 96, 3) := by decide +kernel
theorem dL_areAlike_193 : decode cL_areAlike 193 = .ok (.aload_n 1, 1) := by decide +kernel
theorem dL_areAlike_194 : decode cL_areAlike 194 = .ok (.iconst 1, 1) := by decide +kernel
theorem dL_areAlike_195 : decode cL_areAlike 195 = .ok (.iload 4, 2) := by decide +kernel
theorem dL_areAlike_197 : decode cL_areAlike 197 = .ok (.invokestatic 96, 3) := by decide +kernel
theorem dL_areAlike_200 : decode cL_areAlike 200 = .ok (.if_icmp .ne 7, 3) := by decide +kernel
theorem dL_areAlike_203 : decode cL_areAlike 203 = .ok (.iconst 1, 1) := by decide +kernel
theorem dL_areAlike_204 : decode cL_areAlike 204 = .ok (.goto 4, 3) := by decide +kernel
theorem dL_areAlike_207 : decode cL_areAlike 207 = .ok (.iconst 0, 1) := by decide +kernel
theorem dL_areAlike_208 : decode cL_areAlike 208 = .ok (.istore_n 3, 1) := by decide +kernel
theorem dL_areAlike_209 : decode cL_areAlike 209 = .ok (.iinc 4 1, 3) := by decide +kernel
theorem dL_areAlike_212 : decode cL_areAlike 212 = .ok (.goto (-37), 3) := by decide +kernel
theorem dL_areAlike_215 : decode cL_areAlike 215 = .ok (.iload_n 3, 1) := by decide +kernel
theorem dL_areAlike_216 : decode cL_areAlike 216 = .ok (.ireturn, 1) := by decide +kernel
set_option maxRecDepth 20000 in
theorem ggL_isWorkerSo_X8_claim : GoodIn wsL_isWorkerSo wsX8_claim := goodIn_ca (goodIn_r _ [5, 6, 7, 8, 4, 9, 10, 11, 12, 13, 14, 15, 16, 17, 18, 19, 20, 21, 22, 23, 24, 25, 26, 27, 28, 29, 30, 31, 32, 33, 34, 35, 36, 37, 38, 39, 40, 41, 42, 43, 44, 45, 46, 47, 48, 49, 98, 99, 100, 101, 102, 103, 104, 105, 106, 107, 108, 109, 110, 111, 112, 113, 114, 115, 116, 117, 118, 119, 120, 121, 122] (by decide +kernel) (by decide +kernel)) (goodIn_sub (fun _ h => List.mem_cons_of_mem _ (List.mem_append_left _ (List.mem_append_right _ h))) (by decide +kernel))
set_option maxRecDepth 20000 in
theorem gL_isWorkerSo_X8_claim : GoodIn wsL_isWorkerSo (wsV RL 59 RX8 yX8_claim wsX8_claim) := goodIn_app (goodIn_of _ (by decide +kernel)) ggL_isWorkerSo_X8_claim
set_option maxRecDepth 20000 in
theorem ggL_isWorkerSo_X8_claimBySlips : GoodIn wsL_isWorkerSo wsX8_claimBySlips := goodIn_ca (goodIn_r _ [53, 17, 54, 6, 7, 8, 4, 9, 10, 11, 12, 19, 20, 21, 22, 23, 24, 25, 26, 27, 28, 29, 30, 31, 32, 33, 34, 35, 36, 37, 38, 39, 40, 41, 42, 43, 44, 45, 46, 47, 48, 49, 55, 56, 57, 58, 59, 60, 61, 62, 63, 64, 65, 66, 67, 68, 98, 99, 100, 101, 102, 103, 104, 105, 106, 107, 108, 109, 110, 111, 112, 113, 114, 115, 116, 117, 118, 119, 120, 121, 122, 123, 124, 125, 126] (by decide +kernel) (by decide +kernel)) (goodIn_sub (fun _ h => List.mem_cons_of_mem _ (List.mem_append_left _ (List.mem_append_right _ h))) (by decide +kernel))
set_option maxRecDepth 20000 in
theorem gL_isWorkerSo_X8_claimBySlips : GoodIn wsL_isWorkerSo (wsV RL 100 RX8 yX8_claimBySlips wsX8_claimBySlips) := goodIn_app (goodIn_of _ (by decide +kernel)) ggL_isWorkerSo_X8_claimBySlips
set_option maxRecDepth 20000 in
theorem ggL_isWorkerSo_X8_toTakeBack : GoodIn wsL_isWorkerSo wsX8_toTakeBack := goodIn_ca (goodIn_r _ [72, 73, 6, 7, 8, 4, 9, 10, 11, 12, 108, 109, 110, 111, 112, 113, 114, 115, 98, 99, 100, 101, 102, 103, 104, 105, 106, 107] (by decide +kernel) (by decide +kernel)) (goodIn_sub (fun _ h => List.mem_cons_of_mem _ (List.mem_append_left _ (List.mem_append_right _ h))) (by decide +kernel))
set_option maxRecDepth 20000 in
theorem gL_isWorkerSo_X8_toTakeBack : GoodIn wsL_isWorkerSo (wsV RL 62 RX8 yX8_toTakeBack wsX8_toTakeBack) := goodIn_app (goodIn_of _ (by decide +kernel)) ggL_isWorkerSo_X8_toTakeBack
set_option maxRecDepth 20000 in
theorem ggL_isWorkerSo_X8_acknowledged : GoodIn wsL_isWorkerSo wsX8_acknowledged := goodIn_ca (goodIn_r _ [77, 23, 6, 7, 8, 4, 9, 10, 11, 12, 108, 109, 110, 111, 112, 113, 114, 115, 98, 99, 100, 101, 102, 103, 104, 105, 106, 107] (by decide +kernel) (by decide +kernel)) (goodIn_sub (fun _ h => List.mem_cons_of_mem _ (List.mem_append_left _ (List.mem_append_right _ h))) (by decide +kernel))
set_option maxRecDepth 20000 in
theorem gL_isWorkerSo_X8_acknowledged : GoodIn wsL_isWorkerSo (wsV RL 53 RX8 yX8_acknowledged wsX8_acknowledged) := goodIn_app (goodIn_of _ (by decide +kernel)) ggL_isWorkerSo_X8_acknowledged
set_option maxRecDepth 20000 in
theorem ggL_isWorkerSo_X8_slip : GoodIn wsL_isWorkerSo wsX8_slip := goodIn_ca (goodIn_ca (goodIn_r _ [81, 6, 7, 8, 4, 9, 10, 11, 12, 82, 83, 84, 85, 86, 87, 88, 89, 55, 56, 57, 29, 58, 59, 60, 61, 62, 63, 64, 65, 66, 67, 68, 98, 99, 100, 101, 102, 103, 104, 105, 106, 107, 108, 109, 110, 111, 112, 113, 114, 115, 123, 124, 125, 126] (by decide +kernel) (by decide +kernel)) (goodIn_sub (fun _ h => List.mem_cons_of_mem _ (List.mem_append_left _ (List.mem_append_right _ h))) (by decide +kernel))) (goodIn_sub (fun _ h => List.mem_cons_of_mem _ (List.mem_append_right _ h)) (by decide +kernel))
set_option maxRecDepth 20000 in
theorem gL_isWorkerSo_X8_slip : GoodIn wsL_isWorkerSo (wsV RL 93 RX8 yX8_slip wsX8_slip) := goodIn_app (goodIn_of _ (by decide +kernel)) ggL_isWorkerSo_X8_slip
set_option maxRecDepth 20000 in
theorem ggL_isWorkerSo_X8_week : GoodIn wsL_isWorkerSo wsX8_week := goodIn_r _ [93, 17, 98, 99, 100, 101, 102, 103, 104, 105, 106, 107] (by decide +kernel) (by decide +kernel)
set_option maxRecDepth 20000 in
theorem gL_isWorkerSo_X8_week : GoodIn wsL_isWorkerSo (wsV RL 81 RX8 yX8_week wsX8_week) := goodIn_app (goodIn_of _ (by decide +kernel)) ggL_isWorkerSo_X8_week
set_option maxRecDepth 20000 in
theorem ggL_isWorkerSo_X8_due : GoodIn wsL_isWorkerSo wsX8_due := goodIn_ca (goodIn_ca (goodIn_r _ [97, 6, 7, 8, 4, 9, 10, 11, 12, 82, 83, 84, 85, 86, 87, 88, 89, 19, 20, 21, 22, 23, 24, 25, 26, 27, 28, 29, 30, 31, 32, 33, 34, 35, 36, 37, 38, 39, 40, 41, 42, 43, 44, 45, 46, 47, 48, 49, 98, 99, 100, 101, 102, 103, 104, 105, 106, 107, 108, 109, 110, 111, 112, 113, 114, 115, 116, 117, 118, 119, 120, 121, 122] (by decide +kernel) (by decide +kernel)) (goodIn_sub (fun _ h => List.mem_cons_of_mem _ (List.mem_append_left _ (List.mem_append_right _ h))) (by decide +kernel))) (goodIn_sub (fun _ h => List.mem_cons_of_mem _ (List.mem_append_right _ h)) (by decide +kernel))
set_option maxRecDepth 20000 in
theorem gL_isWorkerSo_X8_due : GoodIn wsL_isWorkerSo (wsV RL 90 RX8 yX8_due wsX8_due) := goodIn_app (goodIn_of _ (by decide +kernel)) ggL_isWorkerSo_X8_due
theorem dL_isWorkerSo_0 : decode cL_isWorkerSo 0 = .ok (.iconst 0, 1) := by decide +kernel
theorem dL_isWorkerSo_1 : decode cL_isWorkerSo 1 = .ok (.istore_n 2, 1) := by decide +kernel
theorem dL_isWorkerSo_2 : decode cL_isWorkerSo 2 = .ok (.iconst 0, 1) := by decide +kernel
theorem dL_isWorkerSo_3 : decode cL_isWorkerSo 3 = .ok (.istore_n 3, 1) := by decide +kernel
theorem dL_isWorkerSo_4 : decode cL_isWorkerSo 4 = .ok (.iconst 0, 1) := by decide +kernel
theorem dL_isWorkerSo_5 : decode cL_isWorkerSo 5 = .ok (.istore 4, 2) := by decide +kernel
theorem dL_isWorkerSo_7 : decode cL_isWorkerSo 7 = .ok (.aload_n 0, 1) := by decide +kernel
theorem dL_isWorkerSo_8 : decode cL_isWorkerSo 8 = .ok (.iload_n 1, 1) := by decide +kernel
theorem dL_isWorkerSo_9 : decode cL_isWorkerSo 9 = .ok (.invokevirtual 59, 3) := by decide +kernel
theorem dL_isWorkerSo_12 : decode cL_isWorkerSo 12 = .ok (.aload_n 0, 1) := by decide +kernel
theorem dL_isWorkerSo_13 : decode cL_isWorkerSo 13 = .ok (.iload_n 1, 1) := by decide +kernel
theorem dL_isWorkerSo_14 : decode cL_isWorkerSo 14 = .ok (.invokevirtual 100, 3) := by decide +kernel
theorem dL_isWorkerSo_17 : decode cL_isWorkerSo 17 = .ok (.if_icmp .ne 33, 3) := by decide +kernel
theorem dL_isWorkerSo_20 : decode cL_isWorkerSo 20 = .ok (.aload_n 0, 1) := by decide +kernel
theorem dL_isWorkerSo_21 : decode cL_isWorkerSo 21 = .ok (.iload_n 1, 1) := by decide +kernel
theorem dL_isWorkerSo_22 : decode cL_isWorkerSo 22 = .ok (.invokevirtual 62, 3) := by decide +kernel
theorem dL_isWorkerSo_25 : decode cL_isWorkerSo 25 = .ok (.ifCond .lt 25, 3) := by decide +kernel
theorem dL_isWorkerSo_28 : decode cL_isWorkerSo 28 = .ok (.aload_n 0, 1) := by decide +kernel
theorem dL_isWorkerSo_29 : decode cL_isWorkerSo 29 = .ok (.iload_n 1, 1) := by decide +kernel
theorem dL_isWorkerSo_30 : decode cL_isWorkerSo 30 = .ok (.invokevirtual 53, 3) := by decide +kernel
theorem dL_isWorkerSo_33 : decode cL_isWorkerSo 33 = .ok (.ifCond .lt 17, 3) := by decide +kernel
theorem dL_isWorkerSo_36 : decode cL_isWorkerSo 36 = .ok (.aload_n 0, 1) := by decide +kernel
theorem dL_isWorkerSo_37 : decode cL_isWorkerSo 37 = .ok (.iload_n 1, 1) := by decide +kernel
theorem dL_isWorkerSo_38 : decode cL_isWorkerSo 38 = .ok (.invokevirtual 53, 3) := by decide +kernel
theorem dL_isWorkerSo_41 : decode cL_isWorkerSo 41 = .ok (.bipush 20, 2) := by decide +kernel
theorem dL_isWorkerSo_43 : decode cL_isWorkerSo 43 = .ok (.if_icmp .gt 7, 3) := by decide +kernel
theorem dL_isWorkerSo_46 : decode cL_isWorkerSo 46 = .ok (.iconst 1, 1) := by decide +kernel
theorem dL_isWorkerSo_47 : decode cL_isWorkerSo 47 = .ok (.goto 4, 3) := by decide +kernel
theorem dL_isWorkerSo_50 : decode cL_isWorkerSo 50 = .ok (.iconst 0, 1) := by decide +kernel
theorem dL_isWorkerSo_51 : decode cL_isWorkerSo 51 = .ok (.istore 5, 2) := by decide +kernel
theorem dL_isWorkerSo_53 : decode cL_isWorkerSo 53 = .ok (.iconst 0, 1) := by decide +kernel
theorem dL_isWorkerSo_54 : decode cL_isWorkerSo 54 = .ok (.istore 6, 2) := by decide +kernel
theorem dL_isWorkerSo_56 : decode cL_isWorkerSo 56 = .ok (.iload 6, 2) := by decide +kernel
theorem dL_isWorkerSo_58 : decode cL_isWorkerSo 58 = .ok (.bipush 31, 2) := by decide +kernel
theorem dL_isWorkerSo_60 : decode cL_isWorkerSo 60 = .ok (.if_icmp .ge 170, 3) := by decide +kernel
theorem dL_isWorkerSo_63 : decode cL_isWorkerSo 63 = .ok (.iload 5, 2) := by decide +kernel
theorem dL_isWorkerSo_65 : decode cL_isWorkerSo 65 = .ok (.ifCond .eq 165, 3) := by decide +kernel
theorem dL_isWorkerSo_68 : decode cL_isWorkerSo 68 = .ok (.aload_n 0, 1) := by decide +kernel
theorem dL_isWorkerSo_69 : decode cL_isWorkerSo 69 = .ok (.iload_n 1, 1) := by decide +kernel
theorem dL_isWorkerSo_70 : decode cL_isWorkerSo 70 = .ok (.iload 6, 2) := by decide +kernel
theorem dL_isWorkerSo_72 : decode cL_isWorkerSo 72 = .ok (.iconst 0, 1) := by decide +kernel
theorem dL_isWorkerSo_73 : decode cL_isWorkerSo 73 = .ok (.invokevirtual 93, 3) := by decide +kernel
theorem dL_isWorkerSo_76 : decode cL_isWorkerSo 76 = .ok (.istore 7, 2) := by decide +kernel
theorem dL_isWorkerSo_78 : decode cL_isWorkerSo 78 = .ok (.iload_n 2, 1) := by decide +kernel
theorem dL_isWorkerSo_79 : decode cL_isWorkerSo 79 = .ok (.iload 6, 2) := by decide +kernel
theorem dL_isWorkerSo_81 : decode cL_isWorkerSo 81 = .ok (.aload_n 0, 1) := by decide +kernel
theorem dL_isWorkerSo_82 : decode cL_isWorkerSo 82 = .ok (.invokevirtual 81, 3) := by decide +kernel
theorem dL_isWorkerSo_85 : decode cL_isWorkerSo 85 = .ok (.if_icmp .gt 13, 3) := by decide +kernel
theorem dL_isWorkerSo_88 : decode cL_isWorkerSo 88 = .ok (.aload_n 0, 1) := by decide +kernel
theorem dL_isWorkerSo_89 : decode cL_isWorkerSo 89 = .ok (.iload_n 1, 1) := by decide +kernel
theorem dL_isWorkerSo_90 : decode cL_isWorkerSo 90 = .ok (.iload 6, 2) := by decide +kernel
theorem dL_isWorkerSo_92 : decode cL_isWorkerSo 92 = .ok (.invokevirtual 90, 3) := by decide +kernel
theorem dL_isWorkerSo_95 : decode cL_isWorkerSo 95 = .ok (.goto 4, 3) := by decide +kernel
theorem dL_isWorkerSo_98 : decode cL_isWorkerSo 98 = .ok (.iconst 0, 1) := by decide +kernel
theorem dL_isWorkerSo_99 : decode cL_isWorkerSo 99 = .ok (.iadd, 1) := by decide +kernel
theorem dL_isWorkerSo_100 : decode cL_isWorkerSo 100 = .ok (.istore_n 2, 1) := by decide +kernel
theorem dL_isWorkerSo_101 : decode cL_isWorkerSo 101 = .ok (.iload_n 3, 1) := by decide +kernel
theorem dL_isWorkerSo_102 : decode cL_isWorkerSo 102 = .ok (.iload 7, 2) := by decide +kernel
theorem dL_isWorkerSo_104 : decode cL_isWorkerSo 104 = .ok (.iadd, 1) := by decide +kernel
theorem dL_isWorkerSo_105 : decode cL_isWorkerSo 105 = .ok (.istore_n 3, 1) := by decide +kernel
theorem dL_isWorkerSo_106 : decode cL_isWorkerSo 106 = .ok (.iload 4, 2) := by decide +kernel
theorem dL_isWorkerSo_108 : decode cL_isWorkerSo 108 = .ok (.aload_n 0, 1) := by decide +kernel
theorem dL_isWorkerSo_109 : decode cL_isWorkerSo 109 = .ok (.iload_n 1, 1) := by decide +kernel
theorem dL_isWorkerSo_110 : decode cL_isWorkerSo 110 = .ok (.iload 6, 2) := by decide +kernel
theorem dL_isWorkerSo_112 : decode cL_isWorkerSo 112 = .ok (.iconst 1, 1) := by decide +kernel
theorem dL_isWorkerSo_113 : decode cL_isWorkerSo 113 = .ok (.invokevirtual 93, 3) := by decide +kernel
theorem dL_isWorkerSo_116 : decode cL_isWorkerSo 116 = .ok (.iadd, 1) := by decide +kernel
theorem dL_isWorkerSo_117 : decode cL_isWorkerSo 117 = .ok (.istore 4, 2) := by decide +kernel
theorem dL_isWorkerSo_119 : decode cL_isWorkerSo 119 = .ok (.aload_n 0, 1) := by decide +kernel
theorem dL_isWorkerSo_120 : decode cL_isWorkerSo 120 = .ok (.iload_n 1, 1) := by decide +kernel
theorem dL_isWorkerSo_121 : decode cL_isWorkerSo 121 = .ok (.iload 6, 2) := by decide +kernel
theorem dL_isWorkerSo_123 : decode cL_isWorkerSo 123 = .ok (.invokevirtual 90, 3) := by decide +kernel
theorem dL_isWorkerSo_126 : decode cL_isWorkerSo 126 = .ok (.ifCond .lt 95, 3) := by decide +kernel
theorem dL_isWorkerSo_129 : decode cL_isWorkerSo 129 = .ok (.iload 7, 2) := by decide +kernel
theorem dL_isWorkerSo_131 : decode cL_isWorkerSo 131 = .ok (.ifCond .lt 90, 3) := by decide +kernel
theorem dL_isWorkerSo_134 : decode cL_isWorkerSo 134 = .ok (.aload_n 0, 1) := by decide +kernel
theorem dL_isWorkerSo_135 : decode cL_isWorkerSo 135 = .ok (.iload_n 1, 1) := by decide +kernel
theorem dL_isWorkerSo_136 : decode cL_isWorkerSo 136 = .ok (.iload 6, 2) := by decide +kernel
theorem dL_isWorkerSo_138 : decode cL_isWorkerSo 138 = .ok (.iconst 1, 1) := by decide +kernel
theorem dL_isWorkerSo_139 : decode cL_isWorkerSo 139 = .ok (.invokevirtual 93, 3) := by decide +kernel
theorem dL_isWorkerSo_142 : decode cL_isWorkerSo 142 = .ok (.iload 7, 2) := by decide +kernel
theorem dL_isWorkerSo_144 : decode cL_isWorkerSo 144 = .ok (.bipush 10, 2) := by decide +kernel
theorem dL_isWorkerSo_146 : decode cL_isWorkerSo 146 = .ok (.idiv, 1) := by decide +kernel
theorem dL_isWorkerSo_147 : decode cL_isWorkerSo 147 = .ok (.if_icmp .gt 74, 3) := by decide +kernel
theorem dL_isWorkerSo_150 : decode cL_isWorkerSo 150 = .ok (.aload_n 0, 1) := by decide +kernel
theorem dL_isWorkerSo_151 : decode cL_isWorkerSo 151 = .ok (.iload_n 1, 1) := by decide +kernel
theorem dL_isWorkerSo_152 : decode cL_isWorkerSo 152 = .ok (.iload 6, 2) := by decide +kernel
theorem dL_isWorkerSo_154 : decode cL_isWorkerSo 154 = .ok (.iconst 2, 1) := by decide +kernel
theorem dL_isWorkerSo_155 : decode cL_isWorkerSo 155 = .ok (.invokevirtual 93, 3) := by decide +kernel
theorem dL_isWorkerSo_158 : decode cL_isWorkerSo 158 = .ok (.ifCond .lt 63, 3) := by decide +kernel
theorem dL_isWorkerSo_161 : decode cL_isWorkerSo 161 = .ok (.aload_n 0, 1) := by decide +kernel
theorem dL_isWorkerSo_162 : decode cL_isWorkerSo 162 = .ok (.iload_n 1, 1) := by decide +kernel
theorem dL_isWorkerSo_163 : decode cL_isWorkerSo 163 = .ok (.iload 6, 2) := by decide +kernel
theorem dL_isWorkerSo_165 : decode cL_isWorkerSo 165 = .ok (.iconst 3, 1) := by decide +kernel
theorem dL_isWorkerSo_166 : decode cL_isWorkerSo 166 = .ok (.invokevirtual 93, 3) := by decide +kernel
theorem dL_isWorkerSo_169 : decode cL_isWorkerSo 169 = .ok (.ifCond .lt 52, 3) := by decide +kernel
theorem dL_isWorkerSo_172 : decode cL_isWorkerSo 172 = .ok (.iload 7, 2) := by decide +kernel
theorem dL_isWorkerSo_174 : decode cL_isWorkerSo 174 = .ok (.aload_n 0, 1) := by decide +kernel
theorem dL_isWorkerSo_175 : decode cL_isWorkerSo 175 = .ok (.iload_n 1, 1) := by decide +kernel
theorem dL_isWorkerSo_176 : decode cL_isWorkerSo 176 = .ok (.iload 6, 2) := by decide +kernel
theorem dL_isWorkerSo_178 : decode cL_isWorkerSo 178 = .ok (.iconst 1, 1) := by decide +kernel
theorem dL_isWorkerSo_179 : decode cL_isWorkerSo 179 = .ok (.invokevirtual 93, 3) := by decide +kernel
theorem dL_isWorkerSo_182 : decode cL_isWorkerSo 182 = .ok (.aload_n 0, 1) := by decide +kernel
theorem dL_isWorkerSo_183 : decode cL_isWorkerSo 183 = .ok (.iload_n 1, 1) := by decide +kernel
theorem dL_isWorkerSo_184 : decode cL_isWorkerSo 184 = .ok (.iload 6, 2) := by decide +kernel
theorem dL_isWorkerSo_186 : decode cL_isWorkerSo 186 = .ok (.iconst 2, 1) := by decide +kernel
theorem dL_isWorkerSo_187 : decode cL_isWorkerSo 187 = .ok (.invokevirtual 93, 3) := by decide +kernel
theorem dL_isWorkerSo_190 : decode cL_isWorkerSo 190 = .ok (.iadd, 1) := by decide +kernel
theorem dL_isWorkerSo_191 : decode cL_isWorkerSo 191 = .ok (.aload_n 0, 1) := by decide +kernel
theorem dL_isWorkerSo_192 : decode cL_isWorkerSo 192 = .ok (.iload_n 1, 1) := by decide +kernel
theorem dL_isWorkerSo_193 : decode cL_isWorkerSo 193 = .ok (.iload 6, 2) := by decide +kernel
theorem dL_isWorkerSo_195 : decode cL_isWorkerSo 195 = .ok (.iconst 3, 1) := by decide +kernel
theorem dL_isWorkerSo_196 : decode cL_isWorkerSo 196 = .ok (.invokevirtual 93, 3) := by decide +kernel
theorem dL_isWorkerSo_199 : decode cL_isWorkerSo 199 = .ok (.iadd, 1) := by decide +kernel
theorem dL_isWorkerSo_200 : decode cL_isWorkerSo 200 = .ok (.if_icmp .ne 21, 3) := by decide +kernel
theorem dL_isWorkerSo_203 : decode cL_isWorkerSo 203 = .ok (.iload 6, 2) := by decide +kernel
theorem dL_isWorkerSo_205 : decode cL_isWorkerSo 205 = .ok (.aload_n 0, 1) := by decide +kernel
theorem dL_isWorkerSo_206 : decode cL_isWorkerSo 206 = .ok (.invokevirtual 81, 3) := by decide +kernel
theorem dL_isWorkerSo_209 : decode cL_isWorkerSo 209 = .ok (.if_icmp .lt 8, 3) := by decide +kernel
theorem dL_isWorkerSo_212 : decode cL_isWorkerSo 212 = .ok (.iload 7, 2) := by decide +kernel
theorem dL_isWorkerSo_214 : decode cL_isWorkerSo 214 = .ok (.ifCond .ne 7, 3) := by decide +kernel
theorem dL_isWorkerSo_217 : decode cL_isWorkerSo 217 = .ok (.iconst 1, 1) := by decide +kernel
theorem dL_isWorkerSo_218 : decode cL_isWorkerSo 218 = .ok (.goto 4, 3) := by decide +kernel
theorem dL_isWorkerSo_221 : decode cL_isWorkerSo 221 = .ok (.iconst 0, 1) := by decide +kernel
theorem dL_isWorkerSo_222 : decode cL_isWorkerSo 222 = .ok (.istore 5, 2) := by decide +kernel
theorem dL_isWorkerSo_224 : decode cL_isWorkerSo 224 = .ok (.iinc 6 1, 3) := by decide +kernel
theorem dL_isWorkerSo_227 : decode cL_isWorkerSo 227 = .ok (.goto (-171), 3) := by decide +kernel
theorem dL_isWorkerSo_230 : decode cL_isWorkerSo 230 = .ok (.iload 5, 2) := by decide +kernel
theorem dL_isWorkerSo_232 : decode cL_isWorkerSo 232 = .ok (.ifCond .eq 27, 3) := by decide +kernel
theorem dL_isWorkerSo_235 : decode cL_isWorkerSo 235 = .ok (.aload_n 0, 1) := by decide +kernel
theorem dL_isWorkerSo_236 : decode cL_isWorkerSo 236 = .ok (.iload_n 1, 1) := by decide +kernel
theorem dL_isWorkerSo_237 : decode cL_isWorkerSo 237 = .ok (.invokevirtual 59, 3) := by decide +kernel
theorem dL_isWorkerSo_240 : decode cL_isWorkerSo 240 = .ok (.iload_n 2, 1) := by decide +kernel
theorem dL_isWorkerSo_241 : decode cL_isWorkerSo 241 = .ok (.iload_n 3, 1) := by decide +kernel
theorem dL_isWorkerSo_242 : decode cL_isWorkerSo 242 = .ok (.isub, 1) := by decide +kernel
theorem dL_isWorkerSo_243 : decode cL_isWorkerSo 243 = .ok (.iload 4, 2) := by decide +kernel
theorem dL_isWorkerSo_245 : decode cL_isWorkerSo 245 = .ok (.iadd, 1) := by decide +kernel
theorem dL_isWorkerSo_246 : decode cL_isWorkerSo 246 = .ok (.aload_n 0, 1) := by decide +kernel
theorem dL_isWorkerSo_247 : decode cL_isWorkerSo 247 = .ok (.iload_n 1, 1) := by decide +kernel
theorem dL_isWorkerSo_248 : decode cL_isWorkerSo 248 = .ok (.invokevirtual 62, 3) := by decide +kernel
theorem dL_isWorkerSo_251 : decode cL_isWorkerSo 251 = .ok (.iadd, 1) := by decide +kernel
theorem dL_isWorkerSo_252 : decode cL_isWorkerSo 252 = .ok (.if_icmp .ne 7, 3) := by decide +kernel
theorem dL_isWorkerSo_255 : decode cL_isWorkerSo 255 = .ok (.iconst 1, 1) := by decide +kernel
theorem dL_isWorkerSo_256 : decode cL_isWorkerSo 256 = .ok (.goto 4, 3) := by decide +kernel
theorem dL_isWorkerSo_259 : decode cL_isWorkerSo 259 = .ok (.iconst 0, 1) := by decide +kernel
theorem dL_isWorkerSo_260 : decode cL_isWorkerSo 260 = .ok (.ireturn, 1) := by decide +kernel
set_option maxRecDepth 20000 in
theorem ggL_isClosedSo_X8_week : GoodIn wsL_isClosedSo wsX8_week := goodIn_r _ [6, 7, 275, 276, 277, 278, 279, 280, 281, 282, 283, 284] (by decide +kernel) (by decide +kernel)
set_option maxRecDepth 20000 in
theorem gL_isClosedSo_X8_week : GoodIn wsL_isClosedSo (wsV RL 81 RX8 yX8_week wsX8_week) := goodIn_app (goodIn_of _ (by decide +kernel)) ggL_isClosedSo_X8_week
set_option maxRecDepth 20000 in
theorem ggL_isClosedSo_X8_pot : GoodIn wsL_isClosedSo wsX8_pot := goodIn_ca (goodIn_r _ [11, 12, 13, 14, 15, 5, 16, 17, 18, 19, 285, 286, 275, 276, 277, 278, 279, 280, 281, 282, 283, 284] (by decide +kernel) (by decide +kernel)) (goodIn_sub (fun _ h => List.mem_cons_of_mem _ (List.mem_append_left _ (List.mem_append_left _ (List.mem_append_right _ h)))) (by decide +kernel))
set_option maxRecDepth 20000 in
theorem gL_isClosedSo_X8_pot : GoodIn wsL_isClosedSo (wsV RL 84 RX8 yX8_pot wsX8_pot) := goodIn_app (goodIn_of _ (by decide +kernel)) ggL_isClosedSo_X8_pot
set_option maxRecDepth 20000 in
theorem ggL_isClosedSo_L_looks : GoodIn wsL_isClosedSo wsL_looks := goodIn_ca (goodIn_r _ [23, 24, 1, 25, 26, 27, 5, 28, 29, 30, 31, 32, 33, 17, 18, 34, 35, 36, 37, 38, 39, 40, 41, 42, 43, 44, 45, 46, 47, 48, 7, 49, 50, 51, 52, 53, 54, 55, 56, 57, 58, 59, 60, 61, 62, 63, 64, 65, 66, 67, 68, 69, 70, 71, 72, 73, 74, 75, 76, 77, 78, 79, 80, 81, 82, 83, 84, 287, 288, 289, 290, 291, 292, 293, 294, 275, 276, 277, 278, 279, 280, 281, 282, 283, 284, 295, 296, 297, 298, 299, 300, 301, 302, 303, 304, 305] (by decide +kernel) (by decide +kernel)) (goodIn_sub (fun _ h => List.mem_cons_of_mem _ (List.mem_append_left _ (List.mem_append_left _ (List.mem_append_right _ h)))) (by decide +kernel))
set_option maxRecDepth 20000 in
theorem gL_isClosedSo_L_looks : GoodIn wsL_isClosedSo (va_wsS RL 96 yL_looks wsL_looks) := goodIn_app (goodIn_of _ (by decide +kernel)) ggL_isClosedSo_L_looks
set_option maxRecDepth 20000 in
theorem ggL_isClosedSo_L_does : GoodIn wsL_isClosedSo wsL_does := goodIn_ca (goodIn_ca (goodIn_ca (goodIn_r _ [87, 24, 88, 89, 1, 90, 91, 92, 5, 93, 94, 95, 96, 34, 97, 98, 59, 13, 14, 15, 16, 17, 18, 19, 99, 100, 101, 102, 103, 104, 105, 106, 65, 107, 108, 109, 110, 111, 112, 61, 113, 114, 115, 116, 117, 118, 119, 120, 67, 121, 122, 123, 124, 125, 126, 55, 30, 31, 32, 33, 127, 128, 129, 130, 68, 69, 70, 71, 72, 131, 132, 133, 134, 135, 136, 137, 138, 62, 63, 64, 66, 139, 140, 141, 142, 143, 144, 145, 146, 77, 79, 147, 148, 149, 150, 76, 78, 56, 57, 58, 60, 151, 152, 153, 154, 155, 156, 157, 158, 159, 160, 39, 161, 162, 163, 164, 165, 166, 167, 168, 169, 170, 171, 172, 173, 174, 175, 176, 177, 178, 179, 180, 181, 182, 183, 184, 185, 186, 187, 188, 189, 190, 191, 192, 193, 194, 195, 196, 197, 198, 199, 200, 201, 202, 203, 204, 205, 206, 207, 208, 209, 210, 211, 212, 213, 214, 215, 216, 217, 218, 219, 7, 220, 221, 222, 223, 224, 12, 45, 46, 47, 48, 49, 50, 51, 52, 53, 29, 54, 73, 74, 75, 225, 226, 227, 228, 229, 230, 231, 232, 84, 233, 234, 235, 236, 237, 238, 239, 240, 241, 242, 243, 244, 245, 246, 247, 248, 249, 250, 251, 252, 253, 254, 255, 256, 257, 258, 259, 260, 261, 262, 275, 276, 277, 278, 279, 280, 281, 282, 283, 284, 287, 288, 289, 290, 291, 292, 293, 294, 302, 303, 304, 305, 299, 300, 301, 295, 296, 297, 298, 306, 307, 308, 285, 286, 309, 310, 311, 312] (by decide +kernel) (by decide +kernel)) (goodIn_sub (fun _ h => List.mem_cons_of_mem _ (List.mem_append_left _ (List.mem_append_right _ h))) (by decide +kernel))) (goodIn_sub (fun _ h => List.mem_cons_of_mem _ (List.mem_append_left _ (List.mem_append_left _ (List.mem_append_right _ h)))) (by decide +kernel))) (goodIn_sub (fun _ h => List.mem_cons_of_mem _ (List.mem_append_right _ h)) (by decide +kernel))
set_option maxRecDepth 20000 in
theorem gL_isClosedSo_L_does : GoodIn wsL_isClosedSo (va_wsS RL 73 yL_does wsL_does) := goodIn_app (goodIn_of _ (by decide +kernel)) ggL_isClosedSo_L_does
set_option maxRecDepth 20000 in
theorem ggL_isClosedSo_X8_slip : GoodIn wsL_isClosedSo wsX8_slip := goodIn_ca (goodIn_ca (goodIn_r _ [266, 30, 31, 32, 5, 33, 17, 18, 34, 131, 132, 133, 134, 135, 136, 137, 138, 267, 268, 269, 59, 270, 114, 271, 272, 273, 236, 274, 255, 256, 257, 258, 275, 276, 277, 278, 279, 280, 281, 282, 283, 284, 287, 288, 289, 290, 291, 292, 293, 294, 309, 310, 311, 312] (by decide +kernel) (by decide +kernel)) (goodIn_sub (fun _ h => List.mem_cons_of_mem _ (List.mem_append_left _ (List.mem_append_left _ (List.mem_append_right _ h)))) (by decide +kernel))) (goodIn_sub (fun _ h => List.mem_cons_of_mem _ (List.mem_append_right _ h)) (by decide +kernel))
set_option maxRecDepth 20000 in
theorem gL_isClosedSo_X8_slip : GoodIn wsL_isClosedSo (wsV RL 93 RX8 yX8_slip wsX8_slip) := goodIn_app (goodIn_of _ (by decide +kernel)) ggL_isClosedSo_X8_slip
theorem dL_isClosedSo_0 : decode cL_isClosedSo 0 = .ok (.aload_n 0, 1) := by decide +kernel
theorem dL_isClosedSo_1 : decode cL_isClosedSo 1 = .ok (.invokevirtual 81, 3) := by decide +kernel
theorem dL_isClosedSo_4 : decode cL_isClosedSo 4 = .ok (.istore_n 2, 1) := by decide +kernel
theorem dL_isClosedSo_5 : decode cL_isClosedSo 5 = .ok (.iconst 0, 1) := by decide +kernel
theorem dL_isClosedSo_6 : decode cL_isClosedSo 6 = .ok (.istore_n 3, 1) := by decide +kernel
theorem dL_isClosedSo_7 : decode cL_isClosedSo 7 = .ok (.aload_n 0, 1) := by decide +kernel
theorem dL_isClosedSo_8 : decode cL_isClosedSo 8 = .ok (.iconst 0, 1) := by decide +kernel
theorem dL_isClosedSo_9 : decode cL_isClosedSo 9 = .ok (.invokevirtual 84, 3) := by decide +kernel
theorem dL_isClosedSo_12 : decode cL_isClosedSo 12 = .ok (.aload_n 0, 1) := by decide +kernel
theorem dL_isClosedSo_13 : decode cL_isClosedSo 13 = .ok (.iconst 1, 1) := by decide +kernel
theorem dL_isClosedSo_14 : decode cL_isClosedSo 14 = .ok (.invokevirtual 84, 3) := by decide +kernel
theorem dL_isClosedSo_17 : decode cL_isClosedSo 17 = .ok (.iadd, 1) := by decide +kernel
theorem dL_isClosedSo_18 : decode cL_isClosedSo 18 = .ok (.aload_n 0, 1) := by decide +kernel
theorem dL_isClosedSo_19 : decode cL_isClosedSo 19 = .ok (.iconst 2, 1) := by decide +kernel
theorem dL_isClosedSo_20 : decode cL_isClosedSo 20 = .ok (.invokevirtual 84, 3) := by decide +kernel
theorem dL_isClosedSo_23 : decode cL_isClosedSo 23 = .ok (.iadd, 1) := by decide +kernel
theorem dL_isClosedSo_24 : decode cL_isClosedSo 24 = .ok (.istore 4, 2) := by decide +kernel
theorem dL_isClosedSo_26 : decode cL_isClosedSo 26 = .ok (.iconst 0, 1) := by decide +kernel
theorem dL_isClosedSo_27 : decode cL_isClosedSo 27 = .ok (.istore 5, 2) := by decide +kernel
theorem dL_isClosedSo_29 : decode cL_isClosedSo 29 = .ok (.aload_n 0, 1) := by decide +kernel
theorem dL_isClosedSo_30 : decode cL_isClosedSo 30 = .ok (.iconst 1, 1) := by decide +kernel
theorem dL_isClosedSo_31 : decode cL_isClosedSo 31 = .ok (.iload 5, 2) := by decide +kernel
theorem dL_isClosedSo_33 : decode cL_isClosedSo 33 = .ok (.invokestatic 96, 3) := by decide +kernel
theorem dL_isClosedSo_36 : decode cL_isClosedSo 36 = .ok (.ifCond .lt 19, 3) := by decide +kernel
theorem dL_isClosedSo_39 : decode cL_isClosedSo 39 = .ok (.iload_n 3, 1) := by decide +kernel
theorem dL_isClosedSo_40 : decode cL_isClosedSo 40 = .ok (.aload_n 0, 1) := by decide +kernel
theorem dL_isClosedSo_41 : decode cL_isClosedSo 41 = .ok (.iconst 1, 1) := by decide +kernel
theorem dL_isClosedSo_42 : decode cL_isClosedSo 42 = .ok (.iload 5, 2) := by decide +kernel
theorem dL_isClosedSo_44 : decode cL_isClosedSo 44 = .ok (.invokestatic 96, 3) := by decide +kernel
theorem dL_isClosedSo_47 : decode cL_isClosedSo 47 = .ok (.iadd, 1) := by decide +kernel
theorem dL_isClosedSo_48 : decode cL_isClosedSo 48 = .ok (.istore_n 3, 1) := by decide +kernel
theorem dL_isClosedSo_49 : decode cL_isClosedSo 49 = .ok (.iinc 5 1, 3) := by decide +kernel
theorem dL_isClosedSo_52 : decode cL_isClosedSo 52 = .ok (.goto (-23), 3) := by decide +kernel
theorem dL_isClosedSo_55 : decode cL_isClosedSo 55 = .ok (.aload_n 0, 1) := by decide +kernel
theorem dL_isClosedSo_56 : decode cL_isClosedSo 56 = .ok (.bipush 8, 2) := by decide +kernel
theorem dL_isClosedSo_58 : decode cL_isClosedSo 58 = .ok (.iconst 0, 1) := by decide +kernel
theorem dL_isClosedSo_59 : decode cL_isClosedSo 59 = .ok (.iconst 0, 1) := by decide +kernel
theorem dL_isClosedSo_60 : decode cL_isClosedSo 60 = .ok (.iconst 0, 1) := by decide +kernel
theorem dL_isClosedSo_61 : decode cL_isClosedSo 61 = .ok (.iconst 0, 1) := by decide +kernel
theorem dL_isClosedSo_62 : decode cL_isClosedSo 62 = .ok (.invokestatic 73, 3) := by decide +kernel
theorem dL_isClosedSo_65 : decode cL_isClosedSo 65 = .ok (.istore 5, 2) := by decide +kernel
theorem dL_isClosedSo_67 : decode cL_isClosedSo 67 = .ok (.aload_n 1, 1) := by decide +kernel
theorem dL_isClosedSo_68 : decode cL_isClosedSo 68 = .ok (.bipush 8, 2) := by decide +kernel
theorem dL_isClosedSo_70 : decode cL_isClosedSo 70 = .ok (.iconst 0, 1) := by decide +kernel
theorem dL_isClosedSo_71 : decode cL_isClosedSo 71 = .ok (.iconst 0, 1) := by decide +kernel
theorem dL_isClosedSo_72 : decode cL_isClosedSo 72 = .ok (.iconst 0, 1) := by decide +kernel
theorem dL_isClosedSo_73 : decode cL_isClosedSo 73 = .ok (.iconst 0, 1) := by decide +kernel
theorem dL_isClosedSo_74 : decode cL_isClosedSo 74 = .ok (.invokestatic 73, 3) := by decide +kernel
theorem dL_isClosedSo_77 : decode cL_isClosedSo 77 = .ok (.iload 5, 2) := by decide +kernel
theorem dL_isClosedSo_79 : decode cL_isClosedSo 79 = .ok (.if_icmp .ne 33, 3) := by decide +kernel
theorem dL_isClosedSo_82 : decode cL_isClosedSo 82 = .ok (.iload 5, 2) := by decide +kernel
theorem dL_isClosedSo_84 : decode cL_isClosedSo 84 = .ok (.ldc 44, 2) := by decide +kernel
theorem dL_isClosedSo_86 : decode cL_isClosedSo 86 = .ok (.if_icmp .ne 7, 3) := by decide +kernel
theorem dL_isClosedSo_89 : decode cL_isClosedSo 89 = .ok (.iconst 1, 1) := by decide +kernel
theorem dL_isClosedSo_90 : decode cL_isClosedSo 90 = .ok (.goto 4, 3) := by decide +kernel
theorem dL_isClosedSo_93 : decode cL_isClosedSo 93 = .ok (.iconst 0, 1) := by decide +kernel
theorem dL_isClosedSo_94 : decode cL_isClosedSo 94 = .ok (.iload_n 2, 1) := by decide +kernel
theorem dL_isClosedSo_95 : decode cL_isClosedSo 95 = .ok (.bipush 31, 2) := by decide +kernel
theorem dL_isClosedSo_97 : decode cL_isClosedSo 97 = .ok (.if_icmp .ne 7, 3) := by decide +kernel
theorem dL_isClosedSo_100 : decode cL_isClosedSo 100 = .ok (.iconst 1, 1) := by decide +kernel
theorem dL_isClosedSo_101 : decode cL_isClosedSo 101 = .ok (.goto 4, 3) := by decide +kernel
theorem dL_isClosedSo_104 : decode cL_isClosedSo 104 = .ok (.iconst 0, 1) := by decide +kernel
theorem dL_isClosedSo_105 : decode cL_isClosedSo 105 = .ok (.if_icmp .ne 7, 3) := by decide +kernel
theorem dL_isClosedSo_108 : decode cL_isClosedSo 108 = .ok (.iconst 1, 1) := by decide +kernel
theorem dL_isClosedSo_109 : decode cL_isClosedSo 109 = .ok (.goto 4, 3) := by decide +kernel
theorem dL_isClosedSo_112 : decode cL_isClosedSo 112 = .ok (.iconst 0, 1) := by decide +kernel
theorem dL_isClosedSo_113 : decode cL_isClosedSo 113 = .ok (.istore 6, 2) := by decide +kernel
theorem dL_isClosedSo_115 : decode cL_isClosedSo 115 = .ok (.iload 5, 2) := by decide +kernel
theorem dL_isClosedSo_117 : decode cL_isClosedSo 117 = .ok (.ldc 44, 2) := by decide +kernel
theorem dL_isClosedSo_119 : decode cL_isClosedSo 119 = .ok (.if_icmp .ne 23, 3) := by decide +kernel
theorem dL_isClosedSo_122 : decode cL_isClosedSo 122 = .ok (.iload 6, 2) := by decide +kernel
theorem dL_isClosedSo_124 : decode cL_isClosedSo 124 = .ok (.ifCond .eq 16, 3) := by decide +kernel
theorem dL_isClosedSo_127 : decode cL_isClosedSo 127 = .ok (.aload_n 0, 1) := by decide +kernel
theorem dL_isClosedSo_128 : decode cL_isClosedSo 128 = .ok (.invokevirtual 81, 3) := by decide +kernel
theorem dL_isClosedSo_131 : decode cL_isClosedSo 131 = .ok (.bipush 31, 2) := by decide +kernel
theorem dL_isClosedSo_133 : decode cL_isClosedSo 133 = .ok (.if_icmp .ne 7, 3) := by decide +kernel
theorem dL_isClosedSo_136 : decode cL_isClosedSo 136 = .ok (.iconst 1, 1) := by decide +kernel
theorem dL_isClosedSo_137 : decode cL_isClosedSo 137 = .ok (.goto 4, 3) := by decide +kernel
theorem dL_isClosedSo_140 : decode cL_isClosedSo 140 = .ok (.iconst 0, 1) := by decide +kernel
theorem dL_isClosedSo_141 : decode cL_isClosedSo 141 = .ok (.ireturn, 1) := by decide +kernel
theorem dL_isClosedSo_142 : decode cL_isClosedSo 142 = .ok (.iconst 0, 1) := by decide +kernel
theorem dL_isClosedSo_143 : decode cL_isClosedSo 143 = .ok (.istore 7, 2) := by decide +kernel
theorem dL_isClosedSo_145 : decode cL_isClosedSo 145 = .ok (.iconst 0, 1) := by decide +kernel
theorem dL_isClosedSo_146 : decode cL_isClosedSo 146 = .ok (.istore 8, 2) := by decide +kernel
theorem dL_isClosedSo_148 : decode cL_isClosedSo 148 = .ok (.aload_n 0, 1) := by decide +kernel
theorem dL_isClosedSo_149 : decode cL_isClosedSo 149 = .ok (.iconst 0, 1) := by decide +kernel
theorem dL_isClosedSo_150 : decode cL_isClosedSo 150 = .ok (.iload 8, 2) := by decide +kernel
theorem dL_isClosedSo_152 : decode cL_isClosedSo 152 = .ok (.invokestatic 96, 3) := by decide +kernel
theorem dL_isClosedSo_155 : decode cL_isClosedSo 155 = .ok (.ifCond .lt 63, 3) := by decide +kernel
theorem dL_isClosedSo_158 : decode cL_isClosedSo 158 = .ok (.iload_n 3, 1) := by decide +kernel
theorem dL_isClosedSo_159 : decode cL_isClosedSo 159 = .ok (.aload_n 0, 1) := by decide +kernel
theorem dL_isClosedSo_160 : decode cL_isClosedSo 160 = .ok (.iload 8, 2) := by decide +kernel
theorem dL_isClosedSo_162 : decode cL_isClosedSo 162 = .ok (.iload_n 2, 1) := by decide +kernel
theorem dL_isClosedSo_163 : decode cL_isClosedSo 163 = .ok (.iconst 2, 1) := by decide +kernel
theorem dL_isClosedSo_164 : decode cL_isClosedSo 164 = .ok (.invokevirtual 93, 3) := by decide +kernel
theorem dL_isClosedSo_167 : decode cL_isClosedSo 167 = .ok (.isub, 1) := by decide +kernel
theorem dL_isClosedSo_168 : decode cL_isClosedSo 168 = .ok (.istore_n 3, 1) := by decide +kernel
theorem dL_isClosedSo_169 : decode cL_isClosedSo 169 = .ok (.iload 4, 2) := by decide +kernel
theorem dL_isClosedSo_171 : decode cL_isClosedSo 171 = .ok (.aload_n 0, 1) := by decide +kernel
theorem dL_isClosedSo_172 : decode cL_isClosedSo 172 = .ok (.iload 8, 2) := by decide +kernel
theorem dL_isClosedSo_174 : decode cL_isClosedSo 174 = .ok (.iload_n 2, 1) := by decide +kernel
theorem dL_isClosedSo_175 : decode cL_isClosedSo 175 = .ok (.iconst 0, 1) := by decide +kernel
theorem dL_isClosedSo_176 : decode cL_isClosedSo 176 = .ok (.invokevirtual 93, 3) := by decide +kernel
theorem dL_isClosedSo_179 : decode cL_isClosedSo 179 = .ok (.aload_n 0, 1) := by decide +kernel
theorem dL_isClosedSo_180 : decode cL_isClosedSo 180 = .ok (.iload 8, 2) := by decide +kernel
theorem dL_isClosedSo_182 : decode cL_isClosedSo 182 = .ok (.iload_n 2, 1) := by decide +kernel
theorem dL_isClosedSo_183 : decode cL_isClosedSo 183 = .ok (.iconst 1, 1) := by decide +kernel
theorem dL_isClosedSo_184 : decode cL_isClosedSo 184 = .ok (.invokevirtual 93, 3) := by decide +kernel
theorem dL_isClosedSo_187 : decode cL_isClosedSo 187 = .ok (.isub, 1) := by decide +kernel
theorem dL_isClosedSo_188 : decode cL_isClosedSo 188 = .ok (.isub, 1) := by decide +kernel
theorem dL_isClosedSo_189 : decode cL_isClosedSo 189 = .ok (.istore 4, 2) := by decide +kernel
theorem dL_isClosedSo_191 : decode cL_isClosedSo 191 = .ok (.iload 7, 2) := by decide +kernel
theorem dL_isClosedSo_193 : decode cL_isClosedSo 193 = .ok (.aload_n 0, 1) := by decide +kernel
theorem dL_isClosedSo_194 : decode cL_isClosedSo 194 = .ok (.iload 8, 2) := by decide +kernel
theorem dL_isClosedSo_196 : decode cL_isClosedSo 196 = .ok (.iload_n 2, 1) := by decide +kernel
theorem dL_isClosedSo_197 : decode cL_isClosedSo 197 = .ok (.iconst 0, 1) := by decide +kernel
theorem dL_isClosedSo_198 : decode cL_isClosedSo 198 = .ok (.invokevirtual 93, 3) := by decide +kernel
theorem dL_isClosedSo_201 : decode cL_isClosedSo 201 = .ok (.ifCond .le 7, 3) := by decide +kernel
theorem dL_isClosedSo_204 : decode cL_isClosedSo 204 = .ok (.iconst 1, 1) := by decide +kernel
theorem dL_isClosedSo_205 : decode cL_isClosedSo 205 = .ok (.goto 4, 3) := by decide +kernel
theorem dL_isClosedSo_208 : decode cL_isClosedSo 208 = .ok (.iconst 0, 1) := by decide +kernel
theorem dL_isClosedSo_209 : decode cL_isClosedSo 209 = .ok (.iadd, 1) := by decide +kernel
theorem dL_isClosedSo_210 : decode cL_isClosedSo 210 = .ok (.istore 7, 2) := by decide +kernel
theorem dL_isClosedSo_212 : decode cL_isClosedSo 212 = .ok (.iinc 8 1, 3) := by decide +kernel
theorem dL_isClosedSo_215 : decode cL_isClosedSo 215 = .ok (.goto (-67), 3) := by decide +kernel
theorem dL_isClosedSo_218 : decode cL_isClosedSo 218 = .ok (.iconst 0, 1) := by decide +kernel
theorem dL_isClosedSo_219 : decode cL_isClosedSo 219 = .ok (.istore 8, 2) := by decide +kernel
theorem dL_isClosedSo_221 : decode cL_isClosedSo 221 = .ok (.aload_n 0, 1) := by decide +kernel
theorem dL_isClosedSo_222 : decode cL_isClosedSo 222 = .ok (.iconst 1, 1) := by decide +kernel
theorem dL_isClosedSo_223 : decode cL_isClosedSo 223 = .ok (.iload 8, 2) := by decide +kernel
theorem dL_isClosedSo_225 : decode cL_isClosedSo 225 = .ok (.invokestatic 96, 3) := by decide +kernel
theorem dL_isClosedSo_228 : decode cL_isClosedSo 228 = .ok (.ifCond .lt 19, 3) := by decide +kernel
theorem dL_isClosedSo_231 : decode cL_isClosedSo 231 = .ok (.iload_n 3, 1) := by decide +kernel
theorem dL_isClosedSo_232 : decode cL_isClosedSo 232 = .ok (.aload_n 0, 1) := by decide +kernel
theorem dL_isClosedSo_233 : decode cL_isClosedSo 233 = .ok (.iconst 1, 1) := by decide +kernel
theorem dL_isClosedSo_234 : decode cL_isClosedSo 234 = .ok (.iload 8, 2) := by decide +kernel
theorem dL_isClosedSo_236 : decode cL_isClosedSo 236 = .ok (.invokestatic 96, 3) := by decide +kernel
theorem dL_isClosedSo_239 : decode cL_isClosedSo 239 = .ok (.isub, 1) := by decide +kernel
theorem dL_isClosedSo_240 : decode cL_isClosedSo 240 = .ok (.istore_n 3, 1) := by decide +kernel
theorem dL_isClosedSo_241 : decode cL_isClosedSo 241 = .ok (.iinc 8 1, 3) := by decide +kernel
theorem dL_isClosedSo_244 : decode cL_isClosedSo 244 = .ok (.goto (-23), 3) := by decide +kernel
theorem dL_isClosedSo_247 : decode cL_isClosedSo 247 = .ok (.iload 6, 2) := by decide +kernel
theorem dL_isClosedSo_249 : decode cL_isClosedSo 249 = .ok (.ifCond .eq 50, 3) := by decide +kernel
theorem dL_isClosedSo_252 : decode cL_isClosedSo 252 = .ok (.iload 7, 2) := by decide +kernel
theorem dL_isClosedSo_254 : decode cL_isClosedSo 254 = .ok (.iload 5, 2) := by decide +kernel
theorem dL_isClosedSo_256 : decode cL_isClosedSo 256 = .ok (.if_icmp .ne 43, 3) := by decide +kernel
theorem dL_isClosedSo_259 : decode cL_isClosedSo 259 = .ok (.iload_n 3, 1) := by decide +kernel
theorem dL_isClosedSo_260 : decode cL_isClosedSo 260 = .ok (.ifCond .ne 39, 3) := by decide +kernel
theorem dL_isClosedSo_263 : decode cL_isClosedSo 263 = .ok (.iload 4, 2) := by decide +kernel
theorem dL_isClosedSo_265 : decode cL_isClosedSo 265 = .ok (.aload_n 0, 1) := by decide +kernel
theorem dL_isClosedSo_266 : decode cL_isClosedSo 266 = .ok (.iconst 0, 1) := by decide +kernel
theorem dL_isClosedSo_267 : decode cL_isClosedSo 267 = .ok (.invokevirtual 84, 3) := by decide +kernel
theorem dL_isClosedSo_270 : decode cL_isClosedSo 270 = .ok (.aload_n 0, 1) := by decide +kernel
theorem dL_isClosedSo_271 : decode cL_isClosedSo 271 = .ok (.iconst 1, 1) := by decide +kernel
theorem dL_isClosedSo_272 : decode cL_isClosedSo 272 = .ok (.invokevirtual 84, 3) := by decide +kernel
theorem dL_isClosedSo_275 : decode cL_isClosedSo 275 = .ok (.iadd, 1) := by decide +kernel
theorem dL_isClosedSo_276 : decode cL_isClosedSo 276 = .ok (.aload_n 0, 1) := by decide +kernel
theorem dL_isClosedSo_277 : decode cL_isClosedSo 277 = .ok (.iconst 2, 1) := by decide +kernel
theorem dL_isClosedSo_278 : decode cL_isClosedSo 278 = .ok (.invokevirtual 84, 3) := by decide +kernel
theorem dL_isClosedSo_281 : decode cL_isClosedSo 281 = .ok (.iadd, 1) := by decide +kernel
theorem dL_isClosedSo_282 : decode cL_isClosedSo 282 = .ok (.if_icmp .ne 17, 3) := by decide +kernel
theorem dL_isClosedSo_285 : decode cL_isClosedSo 285 = .ok (.aload_n 0, 1) := by decide +kernel
theorem dL_isClosedSo_286 : decode cL_isClosedSo 286 = .ok (.invokevirtual 81, 3) := by decide +kernel
theorem dL_isClosedSo_289 : decode cL_isClosedSo 289 = .ok (.iload_n 2, 1) := by decide +kernel
theorem dL_isClosedSo_290 : decode cL_isClosedSo 290 = .ok (.iconst 1, 1) := by decide +kernel
theorem dL_isClosedSo_291 : decode cL_isClosedSo 291 = .ok (.iadd, 1) := by decide +kernel
theorem dL_isClosedSo_292 : decode cL_isClosedSo 292 = .ok (.if_icmp .ne 7, 3) := by decide +kernel
theorem dL_isClosedSo_295 : decode cL_isClosedSo 295 = .ok (.iconst 1, 1) := by decide +kernel
theorem dL_isClosedSo_296 : decode cL_isClosedSo 296 = .ok (.goto 4, 3) := by decide +kernel
theorem dL_isClosedSo_299 : decode cL_isClosedSo 299 = .ok (.iconst 0, 1) := by decide +kernel
theorem dL_isClosedSo_300 : decode cL_isClosedSo 300 = .ok (.ireturn, 1) := by decide +kernel
set_option maxRecDepth 20000 in
theorem ggL_isBouncedSo_X8_pot : GoodIn wsL_isBouncedSo wsX8_pot := goodIn_ca (goodIn_r _ [6, 7, 8, 9, 10, 5, 11, 12, 13, 14, 243, 244, 245, 246, 247, 248, 249, 250, 251, 252, 253, 254] (by decide +kernel) (by decide +kernel)) (goodIn_sub (fun _ h => List.mem_cons_of_mem _ (List.mem_append_left _ (List.mem_append_left _ (List.mem_append_right _ h)))) (by decide +kernel))
set_option maxRecDepth 20000 in
theorem gL_isBouncedSo_X8_pot : GoodIn wsL_isBouncedSo (wsV RL 84 RX8 yX8_pot wsX8_pot) := goodIn_app (goodIn_of _ (by decide +kernel)) ggL_isBouncedSo_X8_pot
set_option maxRecDepth 20000 in
theorem ggL_isBouncedSo_X8_shortage : GoodIn wsL_isBouncedSo wsX8_shortage := goodIn_ca (goodIn_r _ [18, 19, 8, 9, 10, 5, 11, 12, 13, 14, 243, 244, 245, 246, 247, 248, 249, 250, 251, 252, 253, 254] (by decide +kernel) (by decide +kernel)) (goodIn_sub (fun _ h => List.mem_cons_of_mem _ (List.mem_append_left _ (List.mem_append_left _ (List.mem_append_right _ h)))) (by decide +kernel))
set_option maxRecDepth 20000 in
theorem gL_isBouncedSo_X8_shortage : GoodIn wsL_isBouncedSo (wsV RL 87 RX8 yX8_shortage wsX8_shortage) := goodIn_app (goodIn_of _ (by decide +kernel)) ggL_isBouncedSo_X8_shortage
set_option maxRecDepth 20000 in
theorem ggL_isBouncedSo_L_does : GoodIn wsL_isBouncedSo wsL_does := goodIn_ca (goodIn_ca (goodIn_ca (goodIn_r _ [23, 24, 25, 26, 1, 27, 28, 29, 5, 30, 31, 32, 33, 34, 35, 36, 37, 8, 9, 10, 11, 12, 13, 14, 38, 39, 40, 41, 42, 43, 44, 45, 46, 47, 48, 49, 50, 51, 52, 53, 54, 55, 56, 57, 58, 59, 60, 61, 62, 63, 64, 65, 66, 67, 68, 69, 70, 71, 72, 73, 74, 75, 76, 77, 78, 79, 80, 81, 82, 83, 84, 85, 86, 87, 88, 89, 90, 91, 92, 93, 94, 95, 96, 97, 98, 99, 100, 101, 102, 103, 104, 105, 106, 107, 108, 109, 110, 111, 112, 113, 114, 115, 116, 117, 118, 119, 120, 121, 122, 123, 124, 125, 126, 127, 128, 129, 130, 131, 132, 133, 134, 135, 136, 137, 138, 139, 140, 141, 142, 143, 144, 145, 146, 147, 148, 149, 150, 151, 152, 153, 154, 155, 156, 157, 158, 159, 160, 161, 162, 163, 164, 165, 166, 167, 168, 169, 170, 171, 172, 173, 174, 175, 19, 176, 177, 178, 179, 180, 181, 182, 183, 184, 185, 186, 187, 188, 189, 7, 190, 191, 192, 193, 194, 195, 196, 197, 198, 199, 200, 201, 202, 203, 204, 205, 206, 207, 208, 209, 210, 211, 212, 213, 214, 215, 216, 217, 218, 219, 220, 221, 222, 223, 224, 225, 226, 227, 228, 229, 230, 231, 232, 233, 234, 235, 236, 237, 238, 239, 240, 241, 242, 245, 246, 247, 248, 249, 250, 251, 252, 253, 254, 255, 256, 257, 258, 259, 260, 261, 262, 263, 264, 265, 266, 267, 268, 269, 270, 271, 272, 273, 274, 275, 276, 243, 244, 277, 278, 279, 280] (by decide +kernel) (by decide +kernel)) (goodIn_sub (fun _ h => List.mem_cons_of_mem _ (List.mem_append_left _ (List.mem_append_right _ h))) (by decide +kernel))) (goodIn_sub (fun _ h => List.mem_cons_of_mem _ (List.mem_append_left _ (List.mem_append_left _ (List.mem_append_right _ h)))) (by decide +kernel))) (goodIn_sub (fun _ h => List.mem_cons_of_mem _ (List.mem_append_right _ h)) (by decide +kernel))
set_option maxRecDepth 20000 in
theorem gL_isBouncedSo_L_does : GoodIn wsL_isBouncedSo (va_wsS RL 73 yL_does wsL_does) := goodIn_app (goodIn_of _ (by decide +kernel)) ggL_isBouncedSo_L_does
theorem dL_isBouncedSo_0 : decode cL_isBouncedSo 0 = .ok (.aload_n 0, 1) := by decide +kernel
theorem dL_isBouncedSo_1 : decode cL_isBouncedSo 1 = .ok (.iload_n 2, 1) := by decide +kernel
theorem dL_isBouncedSo_2 : decode cL_isBouncedSo 2 = .ok (.invokevirtual 84, 3) := by decide +kernel
theorem dL_isBouncedSo_5 : decode cL_isBouncedSo 5 = .ok (.istore 4, 2) := by decide +kernel
theorem dL_isBouncedSo_7 : decode cL_isBouncedSo 7 = .ok (.aload_n 0, 1) := by decide +kernel
theorem dL_isBouncedSo_8 : decode cL_isBouncedSo 8 = .ok (.iload_n 2, 1) := by decide +kernel
theorem dL_isBouncedSo_9 : decode cL_isBouncedSo 9 = .ok (.invokevirtual 87, 3) := by decide +kernel
theorem dL_isBouncedSo_12 : decode cL_isBouncedSo 12 = .ok (.istore 5, 2) := by decide +kernel
theorem dL_isBouncedSo_14 : decode cL_isBouncedSo 14 = .ok (.aload_n 0, 1) := by decide +kernel
theorem dL_isBouncedSo_15 : decode cL_isBouncedSo 15 = .ok (.bipush 6, 2) := by decide +kernel
theorem dL_isBouncedSo_17 : decode cL_isBouncedSo 17 = .ok (.iload_n 2, 1) := by decide +kernel
theorem dL_isBouncedSo_18 : decode cL_isBouncedSo 18 = .ok (.iload_n 3, 1) := by decide +kernel
theorem dL_isBouncedSo_19 : decode cL_isBouncedSo 19 = .ok (.iconst 0, 1) := by decide +kernel
theorem dL_isBouncedSo_20 : decode cL_isBouncedSo 20 = .ok (.iconst 0, 1) := by decide +kernel
theorem dL_isBouncedSo_21 : decode cL_isBouncedSo 21 = .ok (.invokestatic 73, 3) := by decide +kernel
theorem dL_isBouncedSo_24 : decode cL_isBouncedSo 24 = .ok (.istore 6, 2) := by decide +kernel
theorem dL_isBouncedSo_26 : decode cL_isBouncedSo 26 = .ok (.aload_n 1, 1) := by decide +kernel
theorem dL_isBouncedSo_27 : decode cL_isBouncedSo 27 = .ok (.bipush 6, 2) := by decide +kernel
theorem dL_isBouncedSo_29 : decode cL_isBouncedSo 29 = .ok (.iload_n 2, 1) := by decide +kernel
theorem dL_isBouncedSo_30 : decode cL_isBouncedSo 30 = .ok (.iload_n 3, 1) := by decide +kernel
theorem dL_isBouncedSo_31 : decode cL_isBouncedSo 31 = .ok (.iconst 0, 1) := by decide +kernel
theorem dL_isBouncedSo_32 : decode cL_isBouncedSo 32 = .ok (.iconst 0, 1) := by decide +kernel
theorem dL_isBouncedSo_33 : decode cL_isBouncedSo 33 = .ok (.invokestatic 73, 3) := by decide +kernel
theorem dL_isBouncedSo_36 : decode cL_isBouncedSo 36 = .ok (.iload 6, 2) := by decide +kernel
theorem dL_isBouncedSo_38 : decode cL_isBouncedSo 38 = .ok (.if_icmp .ne 7, 3) := by decide +kernel
theorem dL_isBouncedSo_41 : decode cL_isBouncedSo 41 = .ok (.iconst 1, 1) := by decide +kernel
theorem dL_isBouncedSo_42 : decode cL_isBouncedSo 42 = .ok (.goto 4, 3) := by decide +kernel
theorem dL_isBouncedSo_45 : decode cL_isBouncedSo 45 = .ok (.iconst 0, 1) := by decide +kernel
theorem dL_isBouncedSo_46 : decode cL_isBouncedSo 46 = .ok (.istore 7, 2) := by decide +kernel
theorem dL_isBouncedSo_48 : decode cL_isBouncedSo 48 = .ok (.iload 6, 2) := by decide +kernel
theorem dL_isBouncedSo_50 : decode cL_isBouncedSo 50 = .ok (.ifCond .ge 24, 3) := by decide +kernel
theorem dL_isBouncedSo_53 : decode cL_isBouncedSo 53 = .ok (.iload 7, 2) := by decide +kernel
theorem dL_isBouncedSo_55 : decode cL_isBouncedSo 55 = .ok (.ifCond .eq 17, 3) := by decide +kernel
theorem dL_isBouncedSo_58 : decode cL_isBouncedSo 58 = .ok (.aload_n 0, 1) := by decide +kernel
theorem dL_isBouncedSo_59 : decode cL_isBouncedSo 59 = .ok (.iload_n 2, 1) := by decide +kernel
theorem dL_isBouncedSo_60 : decode cL_isBouncedSo 60 = .ok (.invokevirtual 84, 3) := by decide +kernel
theorem dL_isBouncedSo_63 : decode cL_isBouncedSo 63 = .ok (.iload 4, 2) := by decide +kernel
theorem dL_isBouncedSo_65 : decode cL_isBouncedSo 65 = .ok (.if_icmp .ne 7, 3) := by decide +kernel
theorem dL_isBouncedSo_68 : decode cL_isBouncedSo 68 = .ok (.iconst 1, 1) := by decide +kernel
theorem dL_isBouncedSo_69 : decode cL_isBouncedSo 69 = .ok (.goto 4, 3) := by decide +kernel
theorem dL_isBouncedSo_72 : decode cL_isBouncedSo 72 = .ok (.iconst 0, 1) := by decide +kernel
theorem dL_isBouncedSo_73 : decode cL_isBouncedSo 73 = .ok (.ireturn, 1) := by decide +kernel
theorem dL_isBouncedSo_74 : decode cL_isBouncedSo 74 = .ok (.iload 7, 2) := by decide +kernel
theorem dL_isBouncedSo_76 : decode cL_isBouncedSo 76 = .ok (.ifCond .eq 55, 3) := by decide +kernel
theorem dL_isBouncedSo_79 : decode cL_isBouncedSo 79 = .ok (.aload_n 0, 1) := by decide +kernel
theorem dL_isBouncedSo_80 : decode cL_isBouncedSo 80 = .ok (.iload_n 2, 1) := by decide +kernel
theorem dL_isBouncedSo_81 : decode cL_isBouncedSo 81 = .ok (.invokevirtual 84, 3) := by decide +kernel
theorem dL_isBouncedSo_84 : decode cL_isBouncedSo 84 = .ok (.aload_n 0, 1) := by decide +kernel
theorem dL_isBouncedSo_85 : decode cL_isBouncedSo 85 = .ok (.iload_n 2, 1) := by decide +kernel
theorem dL_isBouncedSo_86 : decode cL_isBouncedSo 86 = .ok (.invokevirtual 87, 3) := by decide +kernel
theorem dL_isBouncedSo_89 : decode cL_isBouncedSo 89 = .ok (.isub, 1) := by decide +kernel
theorem dL_isBouncedSo_90 : decode cL_isBouncedSo 90 = .ok (.iload 4, 2) := by decide +kernel
theorem dL_isBouncedSo_92 : decode cL_isBouncedSo 92 = .ok (.iload 5, 2) := by decide +kernel
theorem dL_isBouncedSo_94 : decode cL_isBouncedSo 94 = .ok (.isub, 1) := by decide +kernel
theorem dL_isBouncedSo_95 : decode cL_isBouncedSo 95 = .ok (.iload_n 3, 1) := by decide +kernel
theorem dL_isBouncedSo_96 : decode cL_isBouncedSo 96 = .ok (.iadd, 1) := by decide +kernel
theorem dL_isBouncedSo_97 : decode cL_isBouncedSo 97 = .ok (.if_icmp .ne 34, 3) := by decide +kernel
theorem dL_isBouncedSo_100 : decode cL_isBouncedSo 100 = .ok (.iload_n 3, 1) := by decide +kernel
theorem dL_isBouncedSo_101 : decode cL_isBouncedSo 101 = .ok (.iload 5, 2) := by decide +kernel
theorem dL_isBouncedSo_103 : decode cL_isBouncedSo 103 = .ok (.if_icmp .lt 14, 3) := by decide +kernel
theorem dL_isBouncedSo_106 : decode cL_isBouncedSo 106 = .ok (.aload_n 0, 1) := by decide +kernel
theorem dL_isBouncedSo_107 : decode cL_isBouncedSo 107 = .ok (.iload_n 2, 1) := by decide +kernel
theorem dL_isBouncedSo_108 : decode cL_isBouncedSo 108 = .ok (.invokevirtual 87, 3) := by decide +kernel
theorem dL_isBouncedSo_111 : decode cL_isBouncedSo 111 = .ok (.ifCond .ne 20, 3) := by decide +kernel
theorem dL_isBouncedSo_114 : decode cL_isBouncedSo 114 = .ok (.goto 13, 3) := by decide +kernel
theorem dL_isBouncedSo_117 : decode cL_isBouncedSo 117 = .ok (.aload_n 0, 1) := by decide +kernel
theorem dL_isBouncedSo_118 : decode cL_isBouncedSo 118 = .ok (.iload_n 2, 1) := by decide +kernel
theorem dL_isBouncedSo_119 : decode cL_isBouncedSo 119 = .ok (.invokevirtual 84, 3) := by decide +kernel
theorem dL_isBouncedSo_122 : decode cL_isBouncedSo 122 = .ok (.iload 4, 2) := by decide +kernel
theorem dL_isBouncedSo_124 : decode cL_isBouncedSo 124 = .ok (.if_icmp .ne 7, 3) := by decide +kernel
theorem dL_isBouncedSo_127 : decode cL_isBouncedSo 127 = .ok (.iconst 1, 1) := by decide +kernel
theorem dL_isBouncedSo_128 : decode cL_isBouncedSo 128 = .ok (.goto 4, 3) := by decide +kernel
theorem dL_isBouncedSo_131 : decode cL_isBouncedSo 131 = .ok (.iconst 0, 1) := by decide +kernel
theorem dL_isBouncedSo_132 : decode cL_isBouncedSo 132 = .ok (.istore 7, 2) := by decide +kernel
theorem dL_isBouncedSo_134 : decode cL_isBouncedSo 134 = .ok (.aload_n 0, 1) := by decide +kernel
theorem dL_isBouncedSo_135 : decode cL_isBouncedSo 135 = .ok (.bipush 7, 2) := by decide +kernel
theorem dL_isBouncedSo_137 : decode cL_isBouncedSo 137 = .ok (.iload 6, 2) := by decide +kernel
theorem dL_isBouncedSo_139 : decode cL_isBouncedSo 139 = .ok (.iconst 0, 1) := by decide +kernel
theorem dL_isBouncedSo_140 : decode cL_isBouncedSo 140 = .ok (.iconst 0, 1) := by decide +kernel
theorem dL_isBouncedSo_141 : decode cL_isBouncedSo 141 = .ok (.iconst 0, 1) := by decide +kernel
theorem dL_isBouncedSo_142 : decode cL_isBouncedSo 142 = .ok (.invokestatic 73, 3) := by decide +kernel
theorem dL_isBouncedSo_145 : decode cL_isBouncedSo 145 = .ok (.istore 8, 2) := by decide +kernel
theorem dL_isBouncedSo_147 : decode cL_isBouncedSo 147 = .ok (.iload 7, 2) := by decide +kernel
theorem dL_isBouncedSo_149 : decode cL_isBouncedSo 149 = .ok (.ifCond .eq 65, 3) := by decide +kernel
theorem dL_isBouncedSo_152 : decode cL_isBouncedSo 152 = .ok (.aload_n 1, 1) := by decide +kernel
theorem dL_isBouncedSo_153 : decode cL_isBouncedSo 153 = .ok (.bipush 7, 2) := by decide +kernel
theorem dL_isBouncedSo_155 : decode cL_isBouncedSo 155 = .ok (.iload 6, 2) := by decide +kernel
theorem dL_isBouncedSo_157 : decode cL_isBouncedSo 157 = .ok (.iconst 0, 1) := by decide +kernel
theorem dL_isBouncedSo_158 : decode cL_isBouncedSo 158 = .ok (.iconst 0, 1) := by decide +kernel
theorem dL_isBouncedSo_159 : decode cL_isBouncedSo 159 = .ok (.iconst 0, 1) := by decide +kernel
theorem dL_isBouncedSo_160 : decode cL_isBouncedSo 160 = .ok (.invokestatic 73, 3) := by decide +kernel
theorem dL_isBouncedSo_163 : decode cL_isBouncedSo 163 = .ok (.iload 8, 2) := by decide +kernel
theorem dL_isBouncedSo_165 : decode cL_isBouncedSo 165 = .ok (.if_icmp .ne 49, 3) := by decide +kernel
theorem dL_isBouncedSo_168 : decode cL_isBouncedSo 168 = .ok (.iload 8, 2) := by decide +kernel
theorem dL_isBouncedSo_170 : decode cL_isBouncedSo 170 = .ok (.aload_n 0, 1) := by decide +kernel
theorem dL_isBouncedSo_171 : decode cL_isBouncedSo 171 = .ok (.iload_n 2, 1) := by decide +kernel
theorem dL_isBouncedSo_172 : decode cL_isBouncedSo 172 = .ok (.invokevirtual 87, 3) := by decide +kernel
theorem dL_isBouncedSo_175 : decode cL_isBouncedSo 175 = .ok (.if_icmp .ne 39, 3) := by decide +kernel
theorem dL_isBouncedSo_178 : decode cL_isBouncedSo 178 = .ok (.aload_n 0, 1) := by decide +kernel
theorem dL_isBouncedSo_179 : decode cL_isBouncedSo 179 = .ok (.iload_n 2, 1) := by decide +kernel
theorem dL_isBouncedSo_180 : decode cL_isBouncedSo 180 = .ok (.invokevirtual 84, 3) := by decide +kernel
theorem dL_isBouncedSo_183 : decode cL_isBouncedSo 183 = .ok (.iload 8, 2) := by decide +kernel
theorem dL_isBouncedSo_185 : decode cL_isBouncedSo 185 = .ok (.isub, 1) := by decide +kernel
theorem dL_isBouncedSo_186 : decode cL_isBouncedSo 186 = .ok (.iload 4, 2) := by decide +kernel
theorem dL_isBouncedSo_188 : decode cL_isBouncedSo 188 = .ok (.iload 5, 2) := by decide +kernel
theorem dL_isBouncedSo_190 : decode cL_isBouncedSo 190 = .ok (.isub, 1) := by decide +kernel
theorem dL_isBouncedSo_191 : decode cL_isBouncedSo 191 = .ok (.if_icmp .ne 23, 3) := by decide +kernel
theorem dL_isBouncedSo_194 : decode cL_isBouncedSo 194 = .ok (.aload_n 0, 1) := by decide +kernel
theorem dL_isBouncedSo_195 : decode cL_isBouncedSo 195 = .ok (.bipush 7, 2) := by decide +kernel
theorem dL_isBouncedSo_197 : decode cL_isBouncedSo 197 = .ok (.iload 6, 2) := by decide +kernel
theorem dL_isBouncedSo_199 : decode cL_isBouncedSo 199 = .ok (.iconst 0, 1) := by decide +kernel
theorem dL_isBouncedSo_200 : decode cL_isBouncedSo 200 = .ok (.iconst 0, 1) := by decide +kernel
theorem dL_isBouncedSo_201 : decode cL_isBouncedSo 201 = .ok (.iconst 0, 1) := by decide +kernel
theorem dL_isBouncedSo_202 : decode cL_isBouncedSo 202 = .ok (.invokestatic 73, 3) := by decide +kernel
theorem dL_isBouncedSo_205 : decode cL_isBouncedSo 205 = .ok (.ldc 44, 2) := by decide +kernel
theorem dL_isBouncedSo_207 : decode cL_isBouncedSo 207 = .ok (.if_icmp .ne 7, 3) := by decide +kernel
theorem dL_isBouncedSo_210 : decode cL_isBouncedSo 210 = .ok (.iconst 1, 1) := by decide +kernel
theorem dL_isBouncedSo_211 : decode cL_isBouncedSo 211 = .ok (.goto 4, 3) := by decide +kernel
theorem dL_isBouncedSo_214 : decode cL_isBouncedSo 214 = .ok (.iconst 0, 1) := by decide +kernel
theorem dL_isBouncedSo_215 : decode cL_isBouncedSo 215 = .ok (.ireturn, 1) := by decide +kernel
