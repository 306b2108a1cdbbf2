theorem dX9_init_0 : decode cX9_init 0 = .ok (.aload_n 0, 1) := by decide +kernel
theorem dX9_init_1 : decode cX9_init 1 = .ok (.invokespecial 1, 3) := by decide +kernel
theorem dX9_init_4 : decode cX9_init 4 = .ok (.aload_n 0, 1) := by decide +kernel
theorem dX9_init_5 : decode cX9_init 5 = .ok (.bipush 8, 2) := by decide +kernel
theorem dX9_init_7 : decode cX9_init 7 = .ok (.newarray .int, 2) := by decide +kernel
theorem dX9_init_9 : decode cX9_init 9 = .ok (.putfield 7, 3) := by decide +kernel
theorem dX9_init_12 : decode cX9_init 12 = .ok (.aload_n 0, 1) := by decide +kernel
theorem dX9_init_13 : decode cX9_init 13 = .ok (.sipush 248, 3) := by decide +kernel
theorem dX9_init_16 : decode cX9_init 16 = .ok (.newarray .int, 2) := by decide +kernel
theorem dX9_init_18 : decode cX9_init 18 = .ok (.putfield 13, 3) := by decide +kernel
theorem dX9_init_21 : decode cX9_init 21 = .ok (.aload_n 0, 1) := by decide +kernel
theorem dX9_init_22 : decode cX9_init 22 = .ok (.bipush 93, 2) := by decide +kernel
theorem dX9_init_24 : decode cX9_init 24 = .ok (.newarray .int, 2) := by decide +kernel
theorem dX9_init_26 : decode cX9_init 26 = .ok (.putfield 16, 3) := by decide +kernel
theorem dX9_init_29 : decode cX9_init 29 = .ok (.aload_n 0, 1) := by decide +kernel
theorem dX9_init_30 : decode cX9_init 30 = .ok (.bipush 93, 2) := by decide +kernel
theorem dX9_init_32 : decode cX9_init 32 = .ok (.newarray .int, 2) := by decide +kernel
theorem dX9_init_34 : decode cX9_init 34 = .ok (.putfield 19, 3) := by decide +kernel
theorem dX9_init_37 : decode cX9_init 37 = .ok (.aload_n 0, 1) := by decide +kernel
theorem dX9_init_38 : decode cX9_init 38 = .ok (.sipush 160, 3) := by decide +kernel
theorem dX9_init_41 : decode cX9_init 41 = .ok (.newarray .int, 2) := by decide +kernel
theorem dX9_init_43 : decode cX9_init 43 = .ok (.putfield 22, 3) := by decide +kernel
theorem dX9_init_46 : decode cX9_init 46 = .ok (.aload_n 0, 1) := by decide +kernel
theorem dX9_init_47 : decode cX9_init 47 = .ok (.sipush 160, 3) := by decide +kernel
theorem dX9_init_50 : decode cX9_init 50 = .ok (.newarray .int, 2) := by decide +kernel
theorem dX9_init_52 : decode cX9_init 52 = .ok (.putfield 25, 3) := by decide +kernel
theorem dX9_init_55 : decode cX9_init 55 = .ok (.aload_n 0, 1) := by decide +kernel
theorem dX9_init_56 : decode cX9_init 56 = .ok (.sipush 160, 3) := by decide +kernel
theorem dX9_init_59 : decode cX9_init 59 = .ok (.newarray .int, 2) := by decide +kernel
theorem dX9_init_61 : decode cX9_init 61 = .ok (.putfield 28, 3) := by decide +kernel
theorem dX9_init_64 : decode cX9_init 64 = .ok (.aload_n 0, 1) := by decide +kernel
theorem dX9_init_65 : decode cX9_init 65 = .ok (.bipush 8, 2) := by decide +kernel
theorem dX9_init_67 : decode cX9_init 67 = .ok (.newarray .int, 2) := by decide +kernel
theorem dX9_init_69 : decode cX9_init 69 = .ok (.putfield 31, 3) := by decide +kernel
theorem dX9_init_72 : decode cX9_init 72 = .ok (.aload_n 0, 1) := by decide +kernel
theorem dX9_init_73 : decode cX9_init 73 = .ok (.bipush 8, 2) := by decide +kernel
theorem dX9_init_75 : decode cX9_init 75 = .ok (.newarray .int, 2) := by decide +kernel
theorem dX9_init_77 : decode cX9_init 77 = .ok (.putfield 34, 3) := by decide +kernel
theorem dX9_init_80 : decode cX9_init 80 = .ok (.aload_n 0, 1) := by decide +kernel
theorem dX9_init_81 : decode cX9_init 81 = .ok (.sipush 992, 3) := by decide +kernel
theorem dX9_init_84 : decode cX9_init 84 = .ok (.newarray .int, 2) := by decide +kernel
theorem dX9_init_86 : decode cX9_init 86 = .ok (.putfield 37, 3) := by decide +kernel
theorem dX9_init_89 : decode cX9_init 89 = .ok (.aload_n 0, 1) := by decide +kernel
theorem dX9_init_90 : decode cX9_init 90 = .ok (.bipush 20, 2) := by decide +kernel
theorem dX9_init_92 : decode cX9_init 92 = .ok (.newarray .int, 2) := by decide +kernel
theorem dX9_init_94 : decode cX9_init 94 = .ok (.putfield 40, 3) := by decide +kernel
theorem dX9_init_97 : decode cX9_init 97 = .ok (.aload_n 0, 1) := by decide +kernel
theorem dX9_init_98 : decode cX9_init 98 = .ok (.bipush 20, 2) := by decide +kernel
theorem dX9_init_100 : decode cX9_init 100 = .ok (.newarray .int, 2) := by decide +kernel
theorem dX9_init_102 : decode cX9_init 102 = .ok (.putfield 43, 3) := by decide +kernel
theorem dX9_init_105 : decode cX9_init 105 = .ok (.aload_n 0, 1) := by decide +kernel
theorem dX9_init_106 : decode cX9_init 106 = .ok (.bipush 20, 2) := by decide +kernel
theorem dX9_init_108 : decode cX9_init 108 = .ok (.newarray .int, 2) := by decide +kernel
theorem dX9_init_110 : decode cX9_init 110 = .ok (.putfield 46, 3) := by decide +kernel
theorem dX9_init_113 : decode cX9_init 113 = .ok (.aload_n 0, 1) := by decide +kernel
theorem dX9_init_114 : decode cX9_init 114 = .ok (.bipush 20, 2) := by decide +kernel
theorem dX9_init_116 : decode cX9_init 116 = .ok (.newarray .int, 2) := by decide +kernel
theorem dX9_init_118 : decode cX9_init 118 = .ok (.putfield 49, 3) := by decide +kernel
theorem dX9_init_121 : decode cX9_init 121 = .ok (.aload_n 0, 1) := by decide +kernel
theorem dX9_init_122 : decode cX9_init 122 = .ok (.sipush 20000, 3) := by decide +kernel
theorem dX9_init_125 : decode cX9_init 125 = .ok (.putfield 52, 3) := by decide +kernel
theorem dX9_init_128 : decode cX9_init 128 = .ok (.aload_n 0, 1) := by decide +kernel
theorem dX9_init_129 : decode cX9_init 129 = .ok (.iconst 3, 1) := by decide +kernel
theorem dX9_init_130 : decode cX9_init 130 = .ok (.newarray .int, 2) := by decide +kernel
theorem dX9_init_132 : decode cX9_init 132 = .ok (.putfield 56, 3) := by decide +kernel
theorem dX9_init_135 : decode cX9_init 135 = .ok (.aload_n 0, 1) := by decide +kernel
theorem dX9_init_136 : decode cX9_init 136 = .ok (.iconst 3, 1) := by decide +kernel
theorem dX9_init_137 : decode cX9_init 137 = .ok (.newarray .int, 2) := by decide +kernel
theorem dX9_init_139 : decode cX9_init 139 = .ok (.putfield 59, 3) := by decide +kernel
theorem dX9_init_142 : decode cX9_init 142 = .ok (.aload_n 0, 1) := by decide +kernel
theorem dX9_init_143 : decode cX9_init 143 = .ok (.bipush 40, 2) := by decide +kernel
theorem dX9_init_145 : decode cX9_init 145 = .ok (.newarray .int, 2) := by decide +kernel
theorem dX9_init_147 : decode cX9_init 147 = .ok (.putfield 62, 3) := by decide +kernel
theorem dX9_init_150 : decode cX9_init 150 = .ok (.aload_n 0, 1) := by decide +kernel
theorem dX9_init_151 : decode cX9_init 151 = .ok (.bipush 40, 2) := by decide +kernel
theorem dX9_init_153 : decode cX9_init 153 = .ok (.newarray .int, 2) := by decide +kernel
theorem dX9_init_155 : decode cX9_init 155 = .ok (.putfield 65, 3) := by decide +kernel
theorem dX9_init_158 : decode cX9_init 158 = .ok (.aload_n 0, 1) := by decide +kernel
theorem dX9_init_159 : decode cX9_init 159 = .ok (.bipush 40, 2) := by decide +kernel
theorem dX9_init_161 : decode cX9_init 161 = .ok (.newarray .boolean, 2) := by decide +kernel
theorem dX9_init_163 : decode cX9_init 163 = .ok (.putfield 68, 3) := by decide +kernel
theorem dX9_init_166 : decode cX9_init 166 = .ok (.iconst 0, 1) := by decide +kernel
theorem dX9_init_167 : decode cX9_init 167 = .ok (.istore_n 1, 1) := by decide +kernel
theorem dX9_init_168 : decode cX9_init 168 = .ok (.iload_n 1, 1) := by decide +kernel
theorem dX9_init_169 : decode cX9_init 169 = .ok (.sipush 248, 3) := by decide +kernel
theorem dX9_init_172 : decode cX9_init 172 = .ok (.if_icmp .ge 27, 3) := by decide +kernel
theorem dX9_init_175 : decode cX9_init 175 = .ok (.aload_n 0, 1) := by decide +kernel
theorem dX9_init_176 : decode cX9_init 176 = .ok (.getfield 13, 3) := by decide +kernel
theorem dX9_init_179 : decode cX9_init 179 = .ok (.iload_n 1, 1) := by decide +kernel
theorem dX9_init_180 : decode cX9_init 180 = .ok (.iload_n 1, 1) := by decide +kernel
theorem dX9_init_181 : decode cX9_init 181 = .ok (.bipush 31, 2) := by decide +kernel
theorem dX9_init_183 : decode cX9_init 183 = .ok (.irem, 1) := by decide +kernel
theorem dX9_init_184 : decode cX9_init 184 = .ok (.ifCond .ne 7, 3) := by decide +kernel
theorem dX9_init_187 : decode cX9_init 187 = .ok (.iconst 0, 1) := by decide +kernel
theorem dX9_init_188 : decode cX9_init 188 = .ok (.goto 4, 3) := by decide +kernel
theorem dX9_init_191 : decode cX9_init 191 = .ok (.iconst (-1), 1) := by decide +kernel
theorem dX9_init_192 : decode cX9_init 192 = .ok (.iastore, 1) := by decide +kernel
theorem dX9_init_193 : decode cX9_init 193 = .ok (.iinc 1 1, 3) := by decide +kernel
theorem dX9_init_196 : decode cX9_init 196 = .ok (.goto (-28), 3) := by decide +kernel
theorem dX9_init_199 : decode cX9_init 199 = .ok (.iconst 0, 1) := by decide +kernel
theorem dX9_init_200 : decode cX9_init 200 = .ok (.istore_n 1, 1) := by decide +kernel
theorem dX9_init_201 : decode cX9_init 201 = .ok (.iload_n 1, 1) := by decide +kernel
theorem dX9_init_202 : decode cX9_init 202 = .ok (.bipush 93, 2) := by decide +kernel
theorem dX9_init_204 : decode cX9_init 204 = .ok (.if_icmp .ge 49, 3) := by decide +kernel
theorem dX9_init_207 : decode cX9_init 207 = .ok (.aload_n 0, 1) := by decide +kernel
theorem dX9_init_208 : decode cX9_init 208 = .ok (.getfield 16, 3) := by decide +kernel
theorem dX9_init_211 : decode cX9_init 211 = .ok (.iload_n 1, 1) := by decide +kernel
theorem dX9_init_212 : decode cX9_init 212 = .ok (.iload_n 1, 1) := by decide +kernel
theorem dX9_init_213 : decode cX9_init 213 = .ok (.bipush 31, 2) := by decide +kernel
theorem dX9_init_215 : decode cX9_init 215 = .ok (.irem, 1) := by decide +kernel
theorem dX9_init_216 : decode cX9_init 216 = .ok (.ifCond .ne 9, 3) := by decide +kernel
theorem dX9_init_219 : decode cX9_init 219 = .ok (.sipush 1000, 3) := by decide +kernel
theorem dX9_init_222 : decode cX9_init 222 = .ok (.goto 4, 3) := by decide +kernel
theorem dX9_init_225 : decode cX9_init 225 = .ok (.iconst (-1), 1) := by decide +kernel
theorem dX9_init_226 : decode cX9_init 226 = .ok (.iastore, 1) := by decide +kernel
theorem dX9_init_227 : decode cX9_init 227 = .ok (.aload_n 0, 1) := by decide +kernel
theorem dX9_init_228 : decode cX9_init 228 = .ok (.getfield 19, 3) := by decide +kernel
theorem dX9_init_231 : decode cX9_init 231 = .ok (.iload_n 1, 1) := by decide +kernel
theorem dX9_init_232 : decode cX9_init 232 = .ok (.iload_n 1, 1) := by decide +kernel
theorem dX9_init_233 : decode cX9_init 233 = .ok (.bipush 31, 2) := by decide +kernel
theorem dX9_init_235 : decode cX9_init 235 = .ok (.irem, 1) := by decide +kernel
theorem dX9_init_236 : decode cX9_init 236 = .ok (.ifCond .ne 9, 3) := by decide +kernel
theorem dX9_init_239 : decode cX9_init 239 = .ok (.sipush 1500, 3) := by decide +kernel
theorem dX9_init_242 : decode cX9_init 242 = .ok (.goto 4, 3) := by decide +kernel
theorem dX9_init_245 : decode cX9_init 245 = .ok (.iconst (-1), 1) := by decide +kernel
theorem dX9_init_246 : decode cX9_init 246 = .ok (.iastore, 1) := by decide +kernel
theorem dX9_init_247 : decode cX9_init 247 = .ok (.iinc 1 1, 3) := by decide +kernel
theorem dX9_init_250 : decode cX9_init 250 = .ok (.goto (-49), 3) := by decide +kernel
theorem dX9_init_253 : decode cX9_init 253 = .ok (.iconst 0, 1) := by decide +kernel
theorem dX9_init_254 : decode cX9_init 254 = .ok (.istore_n 1, 1) := by decide +kernel
theorem dX9_init_255 : decode cX9_init 255 = .ok (.iload_n 1, 1) := by decide +kernel
theorem dX9_init_256 : decode cX9_init 256 = .ok (.sipush 160, 3) := by decide +kernel
theorem dX9_init_259 : decode cX9_init 259 = .ok (.if_icmp .ge 16, 3) := by decide +kernel
theorem dX9_init_262 : decode cX9_init 262 = .ok (.aload_n 0, 1) := by decide +kernel
theorem dX9_init_263 : decode cX9_init 263 = .ok (.getfield 22, 3) := by decide +kernel
theorem dX9_init_266 : decode cX9_init 266 = .ok (.iload_n 1, 1) := by decide +kernel
theorem dX9_init_267 : decode cX9_init 267 = .ok (.iconst (-1), 1) := by decide +kernel
theorem dX9_init_268 : decode cX9_init 268 = .ok (.iastore, 1) := by decide +kernel
theorem dX9_init_269 : decode cX9_init 269 = .ok (.iinc 1 1, 3) := by decide +kernel
theorem dX9_init_272 : decode cX9_init 272 = .ok (.goto (-17), 3) := by decide +kernel
theorem dX9_init_275 : decode cX9_init 275 = .ok (.return_, 1) := by decide +kernel
theorem dX9_thrown_0 : decode cX9_thrown 0 = .ok (.aload_n 0, 1) := by decide +kernel
theorem dX9_thrown_1 : decode cX9_thrown 1 = .ok (.getfield 72, 3) := by decide +kernel
theorem dX9_thrown_4 : decode cX9_thrown 4 = .ok (.ireturn, 1) := by decide +kernel
theorem dX9_holds_0 : decode cX9_holds 0 = .ok (.aload_n 0, 1) := by decide +kernel
theorem dX9_holds_1 : decode cX9_holds 1 = .ok (.iload_n 1, 1) := by decide +kernel
theorem dX9_holds_2 : decode cX9_holds 2 = .ok (.putfield 72, 3) := by decide +kernel
theorem dX9_holds_5 : decode cX9_holds 5 = .ok (.iload_n 1, 1) := by decide +kernel
theorem dX9_holds_6 : decode cX9_holds 6 = .ok (.ifCond .ne 7, 3) := by decide +kernel
theorem dX9_holds_9 : decode cX9_holds 9 = .ok (.iconst 1, 1) := by decide +kernel
theorem dX9_holds_10 : decode cX9_holds 10 = .ok (.goto 4, 3) := by decide +kernel
theorem dX9_holds_13 : decode cX9_holds 13 = .ok (.iconst 0, 1) := by decide +kernel
theorem dX9_holds_14 : decode cX9_holds 14 = .ok (.ireturn, 1) := by decide +kernel
theorem dX9_in_0 : decode cX9_in 0 = .ok (.iload_n 0, 1) := by decide +kernel
theorem dX9_in_1 : decode cX9_in 1 = .ok (.iload_n 1, 1) := by decide +kernel
theorem dX9_in_2 : decode cX9_in 2 = .ok (.if_icmp .lt 12, 3) := by decide +kernel
theorem dX9_in_5 : decode cX9_in 5 = .ok (.iload_n 0, 1) := by decide +kernel
theorem dX9_in_6 : decode cX9_in 6 = .ok (.iload_n 2, 1) := by decide +kernel
theorem dX9_in_7 : decode cX9_in 7 = .ok (.if_icmp .gt 7, 3) := by decide +kernel
theorem dX9_in_10 : decode cX9_in 10 = .ok (.iconst 1, 1) := by decide +kernel
theorem dX9_in_11 : decode cX9_in 11 = .ok (.goto 4, 3) := by decide +kernel
theorem dX9_in_14 : decode cX9_in 14 = .ok (.iconst 0, 1) := by decide +kernel
theorem dX9_in_15 : decode cX9_in 15 = .ok (.ireturn, 1) := by decide +kernel
set_option maxRecDepth 20000 in
theorem ggX9_isWorker_X9_in : GoodIn wsX9_isWorker wsX9_in := goodIn_r _ [5] (by decide +kernel) (by decide +kernel)
set_option maxRecDepth 20000 in
theorem gX9_isWorker_X9_in : GoodIn wsX9_isWorker (va_wsS RX9 78 yX9_in wsX9_in) := goodIn_app (goodIn_of _ (by decide +kernel)) ggX9_isWorker_X9_in
theorem dX9_isWorker_0 : decode cX9_isWorker 0 = .ok (.iload_n 1, 1) := by decide +kernel
theorem dX9_isWorker_1 : decode cX9_isWorker 1 = .ok (.iconst 0, 1) := by decide +kernel
theorem dX9_isWorker_2 : decode cX9_isWorker 2 = .ok (.aload_n 0, 1) := by decide +kernel
theorem dX9_isWorker_3 : decode cX9_isWorker 3 = .ok (.getfield 75, 3) := by decide +kernel
theorem dX9_isWorker_6 : decode cX9_isWorker 6 = .ok (.iconst 1, 1) := by decide +kernel
theorem dX9_isWorker_7 : decode cX9_isWorker 7 = .ok (.isub, 1) := by decide +kernel
theorem dX9_isWorker_8 : decode cX9_isWorker 8 = .ok (.invokestatic 78, 3) := by decide +kernel
theorem dX9_isWorker_11 : decode cX9_isWorker 11 = .ok (.ireturn, 1) := by decide +kernel
set_option maxRecDepth 20000 in
theorem ggX9_isWeek_X9_in : GoodIn wsX9_isWeek wsX9_in := goodIn_r _ [4] (by decide +kernel) (by decide +kernel)
set_option maxRecDepth 20000 in
theorem gX9_isWeek_X9_in : GoodIn wsX9_isWeek (va_wsS RX9 78 yX9_in wsX9_in) := goodIn_app (goodIn_of _ (by decide +kernel)) ggX9_isWeek_X9_in
theorem dX9_isWeek_0 : decode cX9_isWeek 0 = .ok (.iload_n 0, 1) := by decide +kernel
theorem dX9_isWeek_1 : decode cX9_isWeek 1 = .ok (.iconst 0, 1) := by decide +kernel
theorem dX9_isWeek_2 : decode cX9_isWeek 2 = .ok (.bipush 30, 2) := by decide +kernel
theorem dX9_isWeek_4 : decode cX9_isWeek 4 = .ok (.invokestatic 78, 3) := by decide +kernel
theorem dX9_isWeek_7 : decode cX9_isWeek 7 = .ok (.ireturn, 1) := by decide +kernel
set_option maxRecDepth 20000 in
theorem ggX9_areHours_X9_in : GoodIn wsX9_areHours wsX9_in := goodIn_r _ [4] (by decide +kernel) (by decide +kernel)
set_option maxRecDepth 20000 in
theorem gX9_areHours_X9_in : GoodIn wsX9_areHours (va_wsS RX9 78 yX9_in wsX9_in) := goodIn_app (goodIn_of _ (by decide +kernel)) ggX9_areHours_X9_in
theorem dX9_areHours_0 : decode cX9_areHours 0 = .ok (.iload_n 0, 1) := by decide +kernel
theorem dX9_areHours_1 : decode cX9_areHours 1 = .ok (.iconst 0, 1) := by decide +kernel
theorem dX9_areHours_2 : decode cX9_areHours 2 = .ok (.bipush 100, 2) := by decide +kernel
theorem dX9_areHours_4 : decode cX9_areHours 4 = .ok (.invokestatic 78, 3) := by decide +kernel
theorem dX9_areHours_7 : decode cX9_areHours 7 = .ok (.ifCond .eq 17, 3) := by decide +kernel
theorem dX9_areHours_10 : decode cX9_areHours 10 = .ok (.iload_n 1, 1) := by decide +kernel
theorem dX9_areHours_11 : decode cX9_areHours 11 = .ok (.iconst 0, 1) := by decide +kernel
theorem dX9_areHours_12 : decode cX9_areHours 12 = .ok (.bipush 100, 2) := by decide +kernel
theorem dX9_areHours_14 : decode cX9_areHours 14 = .ok (.invokestatic 78, 3) := by decide +kernel
theorem dX9_areHours_17 : decode cX9_areHours 17 = .ok (.ifCond .eq 7, 3) := by decide +kernel
theorem dX9_areHours_20 : decode cX9_areHours 20 = .ok (.iconst 1, 1) := by decide +kernel
theorem dX9_areHours_21 : decode cX9_areHours 21 = .ok (.goto 4, 3) := by decide +kernel
theorem dX9_areHours_24 : decode cX9_areHours 24 = .ok (.iconst 0, 1) := by decide +kernel
theorem dX9_areHours_25 : decode cX9_areHours 25 = .ok (.ireturn, 1) := by decide +kernel
theorem dX9_least_0 : decode cX9_least 0 = .ok (.iload_n 0, 1) := by decide +kernel
theorem dX9_least_1 : decode cX9_least 1 = .ok (.iload_n 1, 1) := by decide +kernel
theorem dX9_least_2 : decode cX9_least 2 = .ok (.if_icmp .ge 7, 3) := by decide +kernel
theorem dX9_least_5 : decode cX9_least 5 = .ok (.iload_n 0, 1) := by decide +kernel
theorem dX9_least_6 : decode cX9_least 6 = .ok (.goto 4, 3) := by decide +kernel
theorem dX9_least_9 : decode cX9_least 9 = .ok (.iload_n 1, 1) := by decide +kernel
theorem dX9_least_10 : decode cX9_least 10 = .ok (.ireturn, 1) := by decide +kernel
set_option maxRecDepth 20000 in
theorem ggX9_addWorker_X9_in : GoodIn wsX9_addWorker wsX9_in := goodIn_r _ [6] (by decide +kernel) (by decide +kernel)
set_option maxRecDepth 20000 in
theorem gX9_addWorker_X9_in : GoodIn wsX9_addWorker (va_wsS RX9 78 yX9_in wsX9_in) := goodIn_app (goodIn_of _ (by decide +kernel)) ggX9_addWorker_X9_in
set_option maxRecDepth 20000 in
theorem ggX9_addWorker_X9_holds : GoodIn wsX9_addWorker wsX9_holds := goodIn_r _ [10, 11, 12, 13, 14, 15, 16, 17, 18, 19, 20, 21, 22, 23, 24, 25, 26, 27, 28, 29, 30, 31, 32, 33, 34, 35, 36] (by decide +kernel) (by decide +kernel)
set_option maxRecDepth 20000 in
theorem gX9_addWorker_X9_holds : GoodIn wsX9_addWorker (wsV RX9 82 RX9 yX9_holds wsX9_holds) := goodIn_app (goodIn_of _ (by decide +kernel)) ggX9_addWorker_X9_holds
theorem dX9_addWorker_0 : decode cX9_addWorker 0 = .ok (.aload_n 0, 1) := by decide +kernel
theorem dX9_addWorker_1 : decode cX9_addWorker 1 = .ok (.iload_n 1, 1) := by decide +kernel
theorem dX9_addWorker_2 : decode cX9_addWorker 2 = .ok (.iconst 0, 1) := by decide +kernel
theorem dX9_addWorker_3 : decode cX9_addWorker 3 = .ok (.iconst 2, 1) := by decide +kernel
theorem dX9_addWorker_4 : decode cX9_addWorker 4 = .ok (.invokestatic 78, 3) := by decide +kernel
theorem dX9_addWorker_7 : decode cX9_addWorker 7 = .ok (.ifCond .ne 7, 3) := by decide +kernel
theorem dX9_addWorker_10 : decode cX9_addWorker 10 = .ok (.iconst 1, 1) := by decide +kernel
theorem dX9_addWorker_11 : decode cX9_addWorker 11 = .ok (.goto 17, 3) := by decide +kernel
theorem dX9_addWorker_14 : decode cX9_addWorker 14 = .ok (.aload_n 0, 1) := by decide +kernel
theorem dX9_addWorker_15 : decode cX9_addWorker 15 = .ok (.getfield 75, 3) := by decide +kernel
theorem dX9_addWorker_18 : decode cX9_addWorker 18 = .ok (.bipush 8, 2) := by decide +kernel
theorem dX9_addWorker_20 : decode cX9_addWorker 20 = .ok (.if_icmp .ne 7, 3) := by decide +kernel
theorem dX9_addWorker_23 : decode cX9_addWorker 23 = .ok (.iconst 2, 1) := by decide +kernel
theorem dX9_addWorker_24 : decode cX9_addWorker 24 = .ok (.goto 4, 3) := by decide +kernel
theorem dX9_addWorker_27 : decode cX9_addWorker 27 = .ok (.iconst 0, 1) := by decide +kernel
theorem dX9_addWorker_28 : decode cX9_addWorker 28 = .ok (.invokevirtual 82, 3) := by decide +kernel
theorem dX9_addWorker_31 : decode cX9_addWorker 31 = .ok (.ifCond .ne 5, 3) := by decide +kernel
theorem dX9_addWorker_34 : decode cX9_addWorker 34 = .ok (.iconst 0, 1) := by decide +kernel
theorem dX9_addWorker_35 : decode cX9_addWorker 35 = .ok (.ireturn, 1) := by decide +kernel
theorem dX9_addWorker_36 : decode cX9_addWorker 36 = .ok (.aload_n 0, 1) := by decide +kernel
theorem dX9_addWorker_37 : decode cX9_addWorker 37 = .ok (.getfield 7, 3) := by decide +kernel
theorem dX9_addWorker_40 : decode cX9_addWorker 40 = .ok (.aload_n 0, 1) := by decide +kernel
theorem dX9_addWorker_41 : decode cX9_addWorker 41 = .ok (.getfield 75, 3) := by decide +kernel
theorem dX9_addWorker_44 : decode cX9_addWorker 44 = .ok (.iload_n 1, 1) := by decide +kernel
theorem dX9_addWorker_45 : decode cX9_addWorker 45 = .ok (.iastore, 1) := by decide +kernel
theorem dX9_addWorker_46 : decode cX9_addWorker 46 = .ok (.aload_n 0, 1) := by decide +kernel
theorem dX9_addWorker_47 : decode cX9_addWorker 47 = .ok (.dup, 1) := by decide +kernel
theorem dX9_addWorker_48 : decode cX9_addWorker 48 = .ok (.getfield 75, 3) := by decide +kernel
theorem dX9_addWorker_51 : decode cX9_addWorker 51 = .ok (.iconst 1, 1) := by decide +kernel
theorem dX9_addWorker_52 : decode cX9_addWorker 52 = .ok (.iadd, 1) := by decide +kernel
theorem dX9_addWorker_53 : decode cX9_addWorker 53 = .ok (.putfield 75, 3) := by decide +kernel
theorem dX9_addWorker_56 : decode cX9_addWorker 56 = .ok (.aload_n 0, 1) := by decide +kernel
theorem dX9_addWorker_57 : decode cX9_addWorker 57 = .ok (.getfield 75, 3) := by decide +kernel
theorem dX9_addWorker_60 : decode cX9_addWorker 60 = .ok (.iconst 1, 1) := by decide +kernel
theorem dX9_addWorker_61 : decode cX9_addWorker 61 = .ok (.isub, 1) := by decide +kernel
theorem dX9_addWorker_62 : decode cX9_addWorker 62 = .ok (.ireturn, 1) := by decide +kernel
theorem dX9_told_0 : decode cX9_told 0 = .ok (.bipush 31, 2) := by decide +kernel
theorem dX9_told_2 : decode cX9_told 2 = .ok (.iload_n 1, 1) := by decide +kernel
theorem dX9_told_3 : decode cX9_told 3 = .ok (.imul, 1) := by decide +kernel
theorem dX9_told_4 : decode cX9_told 4 = .ok (.iload_n 2, 1) := by decide +kernel
theorem dX9_told_5 : decode cX9_told 5 = .ok (.iadd, 1) := by decide +kernel
theorem dX9_told_6 : decode cX9_told 6 = .ok (.istore_n 3, 1) := by decide +kernel
theorem dX9_told_7 : decode cX9_told 7 = .ok (.aload_n 0, 1) := by decide +kernel
theorem dX9_told_8 : decode cX9_told 8 = .ok (.iload_n 3, 1) := by decide +kernel
theorem dX9_told_9 : decode cX9_told 9 = .ok (.iaload, 1) := by decide +kernel
theorem dX9_told_10 : decode cX9_told 10 = .ok (.iconst (-1), 1) := by decide +kernel
theorem dX9_told_11 : decode cX9_told 11 = .ok (.if_icmp .ne 9, 3) := by decide +kernel
theorem dX9_told_14 : decode cX9_told 14 = .ok (.iinc 3 (-1), 3) := by decide +kernel
theorem dX9_told_17 : decode cX9_told 17 = .ok (.goto (-10), 3) := by decide +kernel
theorem dX9_told_20 : decode cX9_told 20 = .ok (.iload_n 3, 1) := by decide +kernel
theorem dX9_told_21 : decode cX9_told 21 = .ok (.ireturn, 1) := by decide +kernel
set_option maxRecDepth 20000 in
theorem ggX9_setRank_X9_isWorker : GoodIn wsX9_setRank wsX9_isWorker := goodIn_r _ [6, 7, 8, 9, 5, 10, 22, 23, 24, 25, 26, 27, 28, 29, 30, 31, 32, 33, 34, 35, 36, 37, 38, 39, 40, 41, 42, 43, 44, 45, 46] (by decide +kernel) (by decide +kernel)
set_option maxRecDepth 20000 in
theorem gX9_setRank_X9_isWorker : GoodIn wsX9_setRank (wsV RX9 86 RX9 yX9_isWorker wsX9_isWorker) := goodIn_app (goodIn_of _ (by decide +kernel)) ggX9_setRank_X9_isWorker
set_option maxRecDepth 20000 in
theorem ggX9_setRank_X9_in : GoodIn wsX9_setRank wsX9_in := goodIn_r _ [10] (by decide +kernel) (by decide +kernel)
set_option maxRecDepth 20000 in
theorem gX9_setRank_X9_in : GoodIn wsX9_setRank (va_wsS RX9 78 yX9_in wsX9_in) := goodIn_app (goodIn_of _ (by decide +kernel)) ggX9_setRank_X9_in
set_option maxRecDepth 20000 in
theorem ggX9_setRank_X9_isWeek : GoodIn wsX9_setRank wsX9_isWeek := goodIn_r _ [13, 8, 9, 5, 10] (by decide +kernel) (by decide +kernel)
set_option maxRecDepth 20000 in
theorem gX9_setRank_X9_isWeek : GoodIn wsX9_setRank (va_wsS RX9 89 yX9_isWeek wsX9_isWeek) := goodIn_app (goodIn_of _ (by decide +kernel)) ggX9_setRank_X9_isWeek
set_option maxRecDepth 20000 in
theorem ggX9_setRank_X9_holds : GoodIn wsX9_setRank wsX9_holds := goodIn_r _ [17, 18, 22, 23, 24, 25, 26, 27, 28, 29, 30, 31, 32, 33, 34, 35, 36, 37, 38, 39, 40, 41, 42, 43, 44, 45, 46] (by decide +kernel) (by decide +kernel)
set_option maxRecDepth 20000 in
theorem gX9_setRank_X9_holds : GoodIn wsX9_setRank (wsV RX9 82 RX9 yX9_holds wsX9_holds) := goodIn_app (goodIn_of _ (by decide +kernel)) ggX9_setRank_X9_holds
set_option maxRecDepth 20000 in
theorem ggX9_setRank_X9_told : GoodIn wsX9_setRank wsX9_told := goodIn_r _ [21] (by decide +kernel) (by decide +kernel)
set_option maxRecDepth 20000 in
theorem gX9_setRank_X9_told : GoodIn wsX9_setRank (va_wsS RX9 92 yX9_told wsX9_told) := goodIn_app (goodIn_of _ (by decide +kernel)) ggX9_setRank_X9_told
theorem dX9_setRank_0 : decode cX9_setRank 0 = .ok (.aload_n 0, 1) := by decide +kernel
theorem dX9_setRank_1 : decode cX9_setRank 1 = .ok (.iload_n 1, 1) := by decide +kernel
theorem dX9_setRank_2 : decode cX9_setRank 2 = .ok (.invokevirtual 86, 3) := by decide +kernel
theorem dX9_setRank_5 : decode cX9_setRank 5 = .ok (.ifCond .eq 16, 3) := by decide +kernel
theorem dX9_setRank_8 : decode cX9_setRank 8 = .ok (.iload_n 3, 1) := by decide +kernel
theorem dX9_setRank_9 : decode cX9_setRank 9 = .ok (.iconst 0, 1) := by decide +kernel
theorem dX9_setRank_10 : decode cX9_setRank 10 = .ok (.iconst 2, 1) := by decide +kernel
theorem dX9_setRank_11 : decode cX9_setRank 11 = .ok (.invokestatic 78, 3) := by decide +kernel
theorem dX9_setRank_14 : decode cX9_setRank 14 = .ok (.ifCond .eq 7, 3) := by decide +kernel
theorem dX9_setRank_17 : decode cX9_setRank 17 = .ok (.iconst 1, 1) := by decide +kernel
theorem dX9_setRank_18 : decode cX9_setRank 18 = .ok (.goto 4, 3) := by decide +kernel
theorem dX9_setRank_21 : decode cX9_setRank 21 = .ok (.iconst 0, 1) := by decide +kernel
theorem dX9_setRank_22 : decode cX9_setRank 22 = .ok (.istore 4, 2) := by decide +kernel
theorem dX9_setRank_24 : decode cX9_setRank 24 = .ok (.aload_n 0, 1) := by decide +kernel
theorem dX9_setRank_25 : decode cX9_setRank 25 = .ok (.iload 4, 2) := by decide +kernel
theorem dX9_setRank_27 : decode cX9_setRank 27 = .ok (.ifCond .ne 7, 3) := by decide +kernel
theorem dX9_setRank_30 : decode cX9_setRank 30 = .ok (.iconst 1, 1) := by decide +kernel
theorem dX9_setRank_31 : decode cX9_setRank 31 = .ok (.goto 15, 3) := by decide +kernel
theorem dX9_setRank_34 : decode cX9_setRank 34 = .ok (.iload_n 2, 1) := by decide +kernel
theorem dX9_setRank_35 : decode cX9_setRank 35 = .ok (.invokestatic 89, 3) := by decide +kernel
theorem dX9_setRank_38 : decode cX9_setRank 38 = .ok (.ifCond .eq 7, 3) := by decide +kernel
theorem dX9_setRank_41 : decode cX9_setRank 41 = .ok (.iconst 0, 1) := by decide +kernel
theorem dX9_setRank_42 : decode cX9_setRank 42 = .ok (.goto 4, 3) := by decide +kernel
theorem dX9_setRank_45 : decode cX9_setRank 45 = .ok (.iconst 2, 1) := by decide +kernel
theorem dX9_setRank_46 : decode cX9_setRank 46 = .ok (.invokevirtual 82, 3) := by decide +kernel
theorem dX9_setRank_49 : decode cX9_setRank 49 = .ok (.ifCond .ne 5, 3) := by decide +kernel
theorem dX9_setRank_52 : decode cX9_setRank 52 = .ok (.iconst 0, 1) := by decide +kernel
theorem dX9_setRank_53 : decode cX9_setRank 53 = .ok (.ireturn, 1) := by decide +kernel
theorem dX9_setRank_54 : decode cX9_setRank 54 = .ok (.aload_n 0, 1) := by decide +kernel
theorem dX9_setRank_55 : decode cX9_setRank 55 = .ok (.getfield 13, 3) := by decide +kernel
theorem dX9_setRank_58 : decode cX9_setRank 58 = .ok (.aload_n 0, 1) := by decide +kernel
theorem dX9_setRank_59 : decode cX9_setRank 59 = .ok (.getfield 13, 3) := by decide +kernel
theorem dX9_setRank_62 : decode cX9_setRank 62 = .ok (.iload_n 1, 1) := by decide +kernel
theorem dX9_setRank_63 : decode cX9_setRank 63 = .ok (.iload_n 2, 1) := by decide +kernel
theorem dX9_setRank_64 : decode cX9_setRank 64 = .ok (.invokestatic 92, 3) := by decide +kernel
theorem dX9_setRank_67 : decode cX9_setRank 67 = .ok (.iaload, 1) := by decide +kernel
theorem dX9_setRank_68 : decode cX9_setRank 68 = .ok (.istore 5, 2) := by decide +kernel
theorem dX9_setRank_70 : decode cX9_setRank 70 = .ok (.aload_n 0, 1) := by decide +kernel
theorem dX9_setRank_71 : decode cX9_setRank 71 = .ok (.getfield 13, 3) := by decide +kernel
theorem dX9_setRank_74 : decode cX9_setRank 74 = .ok (.bipush 31, 2) := by decide +kernel
theorem dX9_setRank_76 : decode cX9_setRank 76 = .ok (.iload_n 1, 1) := by decide +kernel
theorem dX9_setRank_77 : decode cX9_setRank 77 = .ok (.imul, 1) := by decide +kernel
theorem dX9_setRank_78 : decode cX9_setRank 78 = .ok (.iload_n 2, 1) := by decide +kernel
theorem dX9_setRank_79 : decode cX9_setRank 79 = .ok (.iadd, 1) := by decide +kernel
theorem dX9_setRank_80 : decode cX9_setRank 80 = .ok (.iload_n 3, 1) := by decide +kernel
theorem dX9_setRank_81 : decode cX9_setRank 81 = .ok (.iastore, 1) := by decide +kernel
theorem dX9_setRank_82 : decode cX9_setRank 82 = .ok (.iload 5, 2) := by decide +kernel
theorem dX9_setRank_84 : decode cX9_setRank 84 = .ok (.ireturn, 1) := by decide +kernel
set_option maxRecDepth 20000 in
theorem ggX9_setRates_X9_isWeek : GoodIn wsX9_setRates wsX9_isWeek := goodIn_r _ [6, 7, 8, 5, 9] (by decide +kernel) (by decide +kernel)
set_option maxRecDepth 20000 in
theorem gX9_setRates_X9_isWeek : GoodIn wsX9_setRates (va_wsS RX9 89 yX9_isWeek wsX9_isWeek) := goodIn_app (goodIn_of _ (by decide +kernel)) ggX9_setRates_X9_isWeek
set_option maxRecDepth 20000 in
theorem ggX9_setRates_X9_in : GoodIn wsX9_setRates wsX9_in := goodIn_r _ [9] (by decide +kernel) (by decide +kernel)
set_option maxRecDepth 20000 in
theorem gX9_setRates_X9_in : GoodIn wsX9_setRates (va_wsS RX9 78 yX9_in wsX9_in) := goodIn_app (goodIn_of _ (by decide +kernel)) ggX9_setRates_X9_in
set_option maxRecDepth 20000 in
theorem ggX9_setRates_X9_holds : GoodIn wsX9_setRates wsX9_holds := goodIn_r _ [13, 14, 18, 19, 20, 21, 22, 23, 24, 25, 26, 27, 28, 29, 30, 31, 32, 33, 34, 35, 36, 37, 38, 39, 40, 41, 42] (by decide +kernel) (by decide +kernel)
set_option maxRecDepth 20000 in
theorem gX9_setRates_X9_holds : GoodIn wsX9_setRates (wsV RX9 82 RX9 yX9_holds wsX9_holds) := goodIn_app (goodIn_of _ (by decide +kernel)) ggX9_setRates_X9_holds
set_option maxRecDepth 20000 in
theorem ggX9_setRates_X9_told : GoodIn wsX9_setRates wsX9_told := goodIn_r _ [17] (by decide +kernel) (by decide +kernel)
set_option maxRecDepth 20000 in
theorem gX9_setRates_X9_told : GoodIn wsX9_setRates (va_wsS RX9 92 yX9_told wsX9_told) := goodIn_app (goodIn_of _ (by decide +kernel)) ggX9_setRates_X9_told
theorem dX9_setRates_0 : decode cX9_setRates 0 = .ok (.iload_n 2, 1) := by decide +kernel
theorem dX9_setRates_1 : decode cX9_setRates 1 = .ok (.invokestatic 89, 3) := by decide +kernel
theorem dX9_setRates_4 : decode cX9_setRates 4 = .ok (.ifCond .eq 30, 3) := by decide +kernel
theorem dX9_setRates_7 : decode cX9_setRates 7 = .ok (.iload_n 3, 1) := by decide +kernel
theorem dX9_setRates_8 : decode cX9_setRates 8 = .ok (.iconst 0, 1) := by decide +kernel
theorem dX9_setRates_9 : decode cX9_setRates 9 = .ok (.sipush 10000, 3) := by decide +kernel
theorem dX9_setRates_12 : decode cX9_setRates 12 = .ok (.invokestatic 78, 3) := by decide +kernel
theorem dX9_setRates_15 : decode cX9_setRates 15 = .ok (.ifCond .eq 19, 3) := by decide +kernel
theorem dX9_setRates_18 : decode cX9_setRates 18 = .ok (.iload 4, 2) := by decide +kernel
theorem dX9_setRates_20 : decode cX9_setRates 20 = .ok (.iconst 0, 1) := by decide +kernel
theorem dX9_setRates_21 : decode cX9_setRates 21 = .ok (.sipush 10000, 3) := by decide +kernel
theorem dX9_setRates_24 : decode cX9_setRates 24 = .ok (.invokestatic 78, 3) := by decide +kernel
theorem dX9_setRates_27 : decode cX9_setRates 27 = .ok (.ifCond .eq 7, 3) := by decide +kernel
theorem dX9_setRates_30 : decode cX9_setRates 30 = .ok (.iconst 1, 1) := by decide +kernel
theorem dX9_setRates_31 : decode cX9_setRates 31 = .ok (.goto 4, 3) := by decide +kernel
theorem dX9_setRates_34 : decode cX9_setRates 34 = .ok (.iconst 0, 1) := by decide +kernel
theorem dX9_setRates_35 : decode cX9_setRates 35 = .ok (.istore 5, 2) := by decide +kernel
theorem dX9_setRates_37 : decode cX9_setRates 37 = .ok (.aload_n 0, 1) := by decide +kernel
theorem dX9_setRates_38 : decode cX9_setRates 38 = .ok (.iload_n 1, 1) := by decide +kernel
theorem dX9_setRates_39 : decode cX9_setRates 39 = .ok (.iconst 0, 1) := by decide +kernel
theorem dX9_setRates_40 : decode cX9_setRates 40 = .ok (.iconst 2, 1) := by decide +kernel
theorem dX9_setRates_41 : decode cX9_setRates 41 = .ok (.invokestatic 78, 3) := by decide +kernel
theorem dX9_setRates_44 : decode cX9_setRates 44 = .ok (.ifCond .ne 7, 3) := by decide +kernel
theorem dX9_setRates_47 : decode cX9_setRates 47 = .ok (.iconst 1, 1) := by decide +kernel
theorem dX9_setRates_48 : decode cX9_setRates 48 = .ok (.goto 13, 3) := by decide +kernel
theorem dX9_setRates_51 : decode cX9_setRates 51 = .ok (.iload 5, 2) := by decide +kernel
theorem dX9_setRates_53 : decode cX9_setRates 53 = .ok (.ifCond .eq 7, 3) := by decide +kernel
theorem dX9_setRates_56 : decode cX9_setRates 56 = .ok (.iconst 0, 1) := by decide +kernel
theorem dX9_setRates_57 : decode cX9_setRates 57 = .ok (.goto 4, 3) := by decide +kernel
theorem dX9_setRates_60 : decode cX9_setRates 60 = .ok (.iconst 2, 1) := by decide +kernel
theorem dX9_setRates_61 : decode cX9_setRates 61 = .ok (.invokevirtual 82, 3) := by decide +kernel
theorem dX9_setRates_64 : decode cX9_setRates 64 = .ok (.ifCond .ne 5, 3) := by decide +kernel
theorem dX9_setRates_67 : decode cX9_setRates 67 = .ok (.iconst 0, 1) := by decide +kernel
theorem dX9_setRates_68 : decode cX9_setRates 68 = .ok (.ireturn, 1) := by decide +kernel
theorem dX9_setRates_69 : decode cX9_setRates 69 = .ok (.aload_n 0, 1) := by decide +kernel
theorem dX9_setRates_70 : decode cX9_setRates 70 = .ok (.getfield 16, 3) := by decide +kernel
theorem dX9_setRates_73 : decode cX9_setRates 73 = .ok (.aload_n 0, 1) := by decide +kernel
theorem dX9_setRates_74 : decode cX9_setRates 74 = .ok (.getfield 16, 3) := by decide +kernel
theorem dX9_setRates_77 : decode cX9_setRates 77 = .ok (.iload_n 1, 1) := by decide +kernel
theorem dX9_setRates_78 : decode cX9_setRates 78 = .ok (.iload_n 2, 1) := by decide +kernel
theorem dX9_setRates_79 : decode cX9_setRates 79 = .ok (.invokestatic 92, 3) := by decide +kernel
theorem dX9_setRates_82 : decode cX9_setRates 82 = .ok (.iaload, 1) := by decide +kernel
theorem dX9_setRates_83 : decode cX9_setRates 83 = .ok (.istore 6, 2) := by decide +kernel
theorem dX9_setRates_85 : decode cX9_setRates 85 = .ok (.aload_n 0, 1) := by decide +kernel
theorem dX9_setRates_86 : decode cX9_setRates 86 = .ok (.getfield 16, 3) := by decide +kernel
theorem dX9_setRates_89 : decode cX9_setRates 89 = .ok (.bipush 31, 2) := by decide +kernel
theorem dX9_setRates_91 : decode cX9_setRates 91 = .ok (.iload_n 1, 1) := by decide +kernel
theorem dX9_setRates_92 : decode cX9_setRates 92 = .ok (.imul, 1) := by decide +kernel
theorem dX9_setRates_93 : decode cX9_setRates 93 = .ok (.iload_n 2, 1) := by decide +kernel
theorem dX9_setRates_94 : decode cX9_setRates 94 = .ok (.iadd, 1) := by decide +kernel
theorem dX9_setRates_95 : decode cX9_setRates 95 = .ok (.iload_n 3, 1) := by decide +kernel
theorem dX9_setRates_96 : decode cX9_setRates 96 = .ok (.iastore, 1) := by decide +kernel
theorem dX9_setRates_97 : decode cX9_setRates 97 = .ok (.aload_n 0, 1) := by decide +kernel
theorem dX9_setRates_98 : decode cX9_setRates 98 = .ok (.getfield 19, 3) := by decide +kernel
theorem dX9_setRates_101 : decode cX9_setRates 101 = .ok (.bipush 31, 2) := by decide +kernel
theorem dX9_setRates_103 : decode cX9_setRates 103 = .ok (.iload_n 1, 1) := by decide +kernel
theorem dX9_setRates_104 : decode cX9_setRates 104 = .ok (.imul, 1) := by decide +kernel
theorem dX9_setRates_105 : decode cX9_setRates 105 = .ok (.iload_n 2, 1) := by decide +kernel
theorem dX9_setRates_106 : decode cX9_setRates 106 = .ok (.iadd, 1) := by decide +kernel
theorem dX9_setRates_107 : decode cX9_setRates 107 = .ok (.iload 4, 2) := by decide +kernel
theorem dX9_setRates_109 : decode cX9_setRates 109 = .ok (.iastore, 1) := by decide +kernel
theorem dX9_setRates_110 : decode cX9_setRates 110 = .ok (.iload 6, 2) := by decide +kernel
theorem dX9_setRates_112 : decode cX9_setRates 112 = .ok (.ireturn, 1) := by decide +kernel
theorem dX9_counting_0 : decode cX9_counting 0 = .ok (.iconst 0, 1) := by decide +kernel
theorem dX9_counting_1 : decode cX9_counting 1 = .ok (.istore_n 2, 1) := by decide +kernel
theorem dX9_counting_2 : decode cX9_counting 2 = .ok (.iload_n 2, 1) := by decide +kernel
theorem dX9_counting_3 : decode cX9_counting 3 = .ok (.bipush 20, 2) := by decide +kernel
theorem dX9_counting_5 : decode cX9_counting 5 = .ok (.if_icmp .ge 24, 3) := by decide +kernel
theorem dX9_counting_8 : decode cX9_counting 8 = .ok (.aload_n 0, 1) := by decide +kernel
theorem dX9_counting_9 : decode cX9_counting 9 = .ok (.getfield 22, 3) := by decide +kernel
theorem dX9_counting_12 : decode cX9_counting 12 = .ok (.bipush 20, 2) := by decide +kernel
theorem dX9_counting_14 : decode cX9_counting 14 = .ok (.iload_n 1, 1) := by decide +kernel
theorem dX9_counting_15 : decode cX9_counting 15 = .ok (.imul, 1) := by decide +kernel
theorem dX9_counting_16 : decode cX9_counting 16 = .ok (.iload_n 2, 1) := by decide +kernel
theorem dX9_counting_17 : decode cX9_counting 17 = .ok (.iadd, 1) := by decide +kernel
theorem dX9_counting_18 : decode cX9_counting 18 = .ok (.iaload, 1) := by decide +kernel
theorem dX9_counting_19 : decode cX9_counting 19 = .ok (.iconst (-1), 1) := by decide +kernel
theorem dX9_counting_20 : decode cX9_counting 20 = .ok (.if_icmp .eq 9, 3) := by decide +kernel
theorem dX9_counting_23 : decode cX9_counting 23 = .ok (.iinc 2 1, 3) := by decide +kernel
theorem dX9_counting_26 : decode cX9_counting 26 = .ok (.goto (-24), 3) := by decide +kernel
theorem dX9_counting_29 : decode cX9_counting 29 = .ok (.iload_n 2, 1) := by decide +kernel
theorem dX9_counting_30 : decode cX9_counting 30 = .ok (.ireturn, 1) := by decide +kernel
set_option maxRecDepth 20000 in
theorem ggX9_come_X9_in : GoodIn wsX9_come wsX9_in := goodIn_r _ [7] (by decide +kernel) (by decide +kernel)
set_option maxRecDepth 20000 in
theorem gX9_come_X9_in : GoodIn wsX9_come (va_wsS RX9 78 yX9_in wsX9_in) := goodIn_app (goodIn_of _ (by decide +kernel)) ggX9_come_X9_in
set_option maxRecDepth 20000 in
theorem ggX9_come_X9_isWeek : GoodIn wsX9_come wsX9_isWeek := goodIn_r _ [10, 4, 5, 6, 7] (by decide +kernel) (by decide +kernel)
set_option maxRecDepth 20000 in
theorem gX9_come_X9_isWeek : GoodIn wsX9_come (va_wsS RX9 89 yX9_isWeek wsX9_isWeek) := goodIn_app (goodIn_of _ (by decide +kernel)) ggX9_come_X9_isWeek
set_option maxRecDepth 20000 in
theorem ggX9_come_X9_areHours : GoodIn wsX9_come wsX9_areHours := goodIn_r _ [13, 4, 5, 6, 7] (by decide +kernel) (by decide +kernel)
set_option maxRecDepth 20000 in
theorem gX9_come_X9_areHours : GoodIn wsX9_come (va_wsS RX9 96 yX9_areHours wsX9_areHours) := goodIn_app (goodIn_of _ (by decide +kernel)) ggX9_come_X9_areHours
set_option maxRecDepth 20000 in
theorem ggX9_come_X9_isWorker : GoodIn wsX9_come wsX9_isWorker := goodIn_r _ [17, 18, 4, 5, 6, 7, 28, 29, 30, 31, 32, 33, 34, 35, 36, 37, 38, 39, 40, 41, 42, 43, 44, 45, 46, 47, 48, 49, 50, 51, 52] (by decide +kernel) (by decide +kernel)
set_option maxRecDepth 20000 in
theorem gX9_come_X9_isWorker : GoodIn wsX9_come (wsV RX9 86 RX9 yX9_isWorker wsX9_isWorker) := goodIn_app (goodIn_of _ (by decide +kernel)) ggX9_come_X9_isWorker
set_option maxRecDepth 20000 in
theorem ggX9_come_X9_holds : GoodIn wsX9_come wsX9_holds := goodIn_r _ [22, 23, 28, 29, 30, 31, 32, 33, 34, 35, 36, 37, 38, 39, 40, 41, 42, 43, 44, 45, 46, 47, 48, 49, 50, 51, 52] (by decide +kernel) (by decide +kernel)
set_option maxRecDepth 20000 in
theorem gX9_come_X9_holds : GoodIn wsX9_come (wsV RX9 82 RX9 yX9_holds wsX9_holds) := goodIn_app (goodIn_of _ (by decide +kernel)) ggX9_come_X9_holds
set_option maxRecDepth 20000 in
theorem ggX9_come_X9_counting : GoodIn wsX9_come wsX9_counting := goodIn_r _ [27, 1, 28, 29, 30, 31, 32, 33, 34, 35, 36, 37, 38, 39, 40, 41, 42, 43, 44, 45, 46, 47, 48, 49, 50, 51, 52] (by decide +kernel) (by decide +kernel)
set_option maxRecDepth 20000 in
theorem gX9_come_X9_counting : GoodIn wsX9_come (wsV RX9 100 RX9 yX9_counting wsX9_counting) := goodIn_app (goodIn_of _ (by decide +kernel)) ggX9_come_X9_counting
theorem dX9_come_0 : decode cX9_come 0 = .ok (.iload_n 2, 1) := by decide +kernel
theorem dX9_come_1 : decode cX9_come 1 = .ok (.iconst 0, 1) := by decide +kernel
theorem dX9_come_2 : decode cX9_come 2 = .ok (.bipush 19, 2) := by decide +kernel
theorem dX9_come_4 : decode cX9_come 4 = .ok (.invokestatic 78, 3) := by decide +kernel
theorem dX9_come_7 : decode cX9_come 7 = .ok (.ifCond .eq 24, 3) := by decide +kernel
theorem dX9_come_10 : decode cX9_come 10 = .ok (.iload_n 3, 1) := by decide +kernel
theorem dX9_come_11 : decode cX9_come 11 = .ok (.invokestatic 89, 3) := by decide +kernel
theorem dX9_come_14 : decode cX9_come 14 = .ok (.ifCond .eq 17, 3) := by decide +kernel
theorem dX9_come_17 : decode cX9_come 17 = .ok (.iload 4, 2) := by decide +kernel
theorem dX9_come_19 : decode cX9_come 19 = .ok (.iload 5, 2) := by decide +kernel
theorem dX9_come_21 : decode cX9_come 21 = .ok (.invokestatic 96, 3) := by decide +kernel
theorem dX9_come_24 : decode cX9_come 24 = .ok (.ifCond .eq 7, 3) := by decide +kernel
theorem dX9_come_27 : decode cX9_come 27 = .ok (.iconst 1, 1) := by decide +kernel
theorem dX9_come_28 : decode cX9_come 28 = .ok (.goto 4, 3) := by decide +kernel
theorem dX9_come_31 : decode cX9_come 31 = .ok (.iconst 0, 1) := by decide +kernel
theorem dX9_come_32 : decode cX9_come 32 = .ok (.istore 6, 2) := by decide +kernel
theorem dX9_come_34 : decode cX9_come 34 = .ok (.aload_n 0, 1) := by decide +kernel
theorem dX9_come_35 : decode cX9_come 35 = .ok (.aload_n 0, 1) := by decide +kernel
theorem dX9_come_36 : decode cX9_come 36 = .ok (.iload_n 1, 1) := by decide +kernel
theorem dX9_come_37 : decode cX9_come 37 = .ok (.invokevirtual 86, 3) := by decide +kernel
theorem dX9_come_40 : decode cX9_come 40 = .ok (.ifCond .ne 7, 3) := by decide +kernel
theorem dX9_come_43 : decode cX9_come 43 = .ok (.iconst 1, 1) := by decide +kernel
theorem dX9_come_44 : decode cX9_come 44 = .ok (.goto 13, 3) := by decide +kernel
theorem dX9_come_47 : decode cX9_come 47 = .ok (.iload 6, 2) := by decide +kernel
theorem dX9_come_49 : decode cX9_come 49 = .ok (.ifCond .eq 7, 3) := by decide +kernel
theorem dX9_come_52 : decode cX9_come 52 = .ok (.iconst 0, 1) := by decide +kernel
theorem dX9_come_53 : decode cX9_come 53 = .ok (.goto 4, 3) := by decide +kernel
theorem dX9_come_56 : decode cX9_come 56 = .ok (.iconst 2, 1) := by decide +kernel
theorem dX9_come_57 : decode cX9_come 57 = .ok (.invokevirtual 82, 3) := by decide +kernel
theorem dX9_come_60 : decode cX9_come 60 = .ok (.ifCond .ne 5, 3) := by decide +kernel
theorem dX9_come_63 : decode cX9_come 63 = .ok (.iconst 0, 1) := by decide +kernel
theorem dX9_come_64 : decode cX9_come 64 = .ok (.ireturn, 1) := by decide +kernel
theorem dX9_come_65 : decode cX9_come 65 = .ok (.bipush 20, 2) := by decide +kernel
theorem dX9_come_67 : decode cX9_come 67 = .ok (.iload_n 1, 1) := by decide +kernel
theorem dX9_come_68 : decode cX9_come 68 = .ok (.imul, 1) := by decide +kernel
theorem dX9_come_69 : decode cX9_come 69 = .ok (.iload_n 2, 1) := by decide +kernel
theorem dX9_come_70 : decode cX9_come 70 = .ok (.iadd, 1) := by decide +kernel
theorem dX9_come_71 : decode cX9_come 71 = .ok (.istore 7, 2) := by decide +kernel
theorem dX9_come_73 : decode cX9_come 73 = .ok (.aload_n 0, 1) := by decide +kernel
theorem dX9_come_74 : decode cX9_come 74 = .ok (.getfield 22, 3) := by decide +kernel
theorem dX9_come_77 : decode cX9_come 77 = .ok (.iload 7, 2) := by decide +kernel
theorem dX9_come_79 : decode cX9_come 79 = .ok (.iaload, 1) := by decide +kernel
theorem dX9_come_80 : decode cX9_come 80 = .ok (.iconst (-1), 1) := by decide +kernel
theorem dX9_come_81 : decode cX9_come 81 = .ok (.if_icmp .ne 29, 3) := by decide +kernel
theorem dX9_come_84 : decode cX9_come 84 = .ok (.aload_n 0, 1) := by decide +kernel
theorem dX9_come_85 : decode cX9_come 85 = .ok (.getfield 22, 3) := by decide +kernel
theorem dX9_come_88 : decode cX9_come 88 = .ok (.iload 7, 2) := by decide +kernel
theorem dX9_come_90 : decode cX9_come 90 = .ok (.iload_n 3, 1) := by decide +kernel
theorem dX9_come_91 : decode cX9_come 91 = .ok (.iastore, 1) := by decide +kernel
theorem dX9_come_92 : decode cX9_come 92 = .ok (.aload_n 0, 1) := by decide +kernel
theorem dX9_come_93 : decode cX9_come 93 = .ok (.getfield 25, 3) := by decide +kernel
theorem dX9_come_96 : decode cX9_come 96 = .ok (.iload 7, 2) := by decide +kernel
theorem dX9_come_98 : decode cX9_come 98 = .ok (.iload 4, 2) := by decide +kernel
theorem dX9_come_100 : decode cX9_come 100 = .ok (.iastore, 1) := by decide +kernel
theorem dX9_come_101 : decode cX9_come 101 = .ok (.aload_n 0, 1) := by decide +kernel
theorem dX9_come_102 : decode cX9_come 102 = .ok (.getfield 28, 3) := by decide +kernel
theorem dX9_come_105 : decode cX9_come 105 = .ok (.iload 7, 2) := by decide +kernel
theorem dX9_come_107 : decode cX9_come 107 = .ok (.iload 5, 2) := by decide +kernel
theorem dX9_come_109 : decode cX9_come 109 = .ok (.iastore, 1) := by decide +kernel
theorem dX9_come_110 : decode cX9_come 110 = .ok (.aload_n 0, 1) := by decide +kernel
theorem dX9_come_111 : decode cX9_come 111 = .ok (.iload_n 1, 1) := by decide +kernel
theorem dX9_come_112 : decode cX9_come 112 = .ok (.invokevirtual 100, 3) := by decide +kernel
theorem dX9_come_115 : decode cX9_come 115 = .ok (.ireturn, 1) := by decide +kernel
set_option maxRecDepth 20000 in
theorem ggX9_correct_X9_isWorker : GoodIn wsX9_correct wsX9_isWorker := goodIn_r _ [8, 9, 10, 11, 7, 12, 21, 22, 23, 24, 25, 26, 27, 28, 29, 30, 31, 32, 33, 34, 35, 36, 37, 38, 39, 40, 41, 42, 43, 44, 45] (by decide +kernel) (by decide +kernel)
set_option maxRecDepth 20000 in
theorem gX9_correct_X9_isWorker : GoodIn wsX9_correct (wsV RX9 86 RX9 yX9_isWorker wsX9_isWorker) := goodIn_app (goodIn_of _ (by decide +kernel)) ggX9_correct_X9_isWorker
set_option maxRecDepth 20000 in
theorem ggX9_correct_X9_in : GoodIn wsX9_correct wsX9_in := goodIn_r _ [12] (by decide +kernel) (by decide +kernel)
set_option maxRecDepth 20000 in
theorem gX9_correct_X9_in : GoodIn wsX9_correct (va_wsS RX9 78 yX9_in wsX9_in) := goodIn_app (goodIn_of _ (by decide +kernel)) ggX9_correct_X9_in
set_option maxRecDepth 20000 in
theorem ggX9_correct_X9_areHours : GoodIn wsX9_correct wsX9_areHours := goodIn_r _ [15, 10, 11, 7, 12] (by decide +kernel) (by decide +kernel)
set_option maxRecDepth 20000 in
theorem gX9_correct_X9_areHours : GoodIn wsX9_correct (va_wsS RX9 96 yX9_areHours wsX9_areHours) := goodIn_app (goodIn_of _ (by decide +kernel)) ggX9_correct_X9_areHours
set_option maxRecDepth 20000 in
theorem ggX9_correct_X9_holds : GoodIn wsX9_correct wsX9_holds := goodIn_r _ [19, 20, 21, 22, 23, 24, 25, 26, 27, 28, 29, 30, 31, 32, 33, 34, 35, 36, 37, 38, 39, 40, 41, 42, 43, 44, 45] (by decide +kernel) (by decide +kernel)
set_option maxRecDepth 20000 in
theorem gX9_correct_X9_holds : GoodIn wsX9_correct (wsV RX9 82 RX9 yX9_holds wsX9_holds) := goodIn_app (goodIn_of _ (by decide +kernel)) ggX9_correct_X9_holds
theorem dX9_correct_0 : decode cX9_correct 0 = .ok (.aload_n 0, 1) := by decide +kernel
theorem dX9_correct_1 : decode cX9_correct 1 = .ok (.iload_n 1, 1) := by decide +kernel
theorem dX9_correct_2 : decode cX9_correct 2 = .ok (.invokevirtual 86, 3) := by decide +kernel
theorem dX9_correct_5 : decode cX9_correct 5 = .ok (.ifCond .eq 32, 3) := by decide +kernel
theorem dX9_correct_8 : decode cX9_correct 8 = .ok (.iload_n 2, 1) := by decide +kernel
theorem dX9_correct_9 : decode cX9_correct 9 = .ok (.iconst 0, 1) := by decide +kernel
theorem dX9_correct_10 : decode cX9_correct 10 = .ok (.bipush 19, 2) := by decide +kernel
theorem dX9_correct_12 : decode cX9_correct 12 = .ok (.invokestatic 78, 3) := by decide +kernel
theorem dX9_correct_15 : decode cX9_correct 15 = .ok (.ifCond .eq 22, 3) := by decide +kernel
theorem dX9_correct_18 : decode cX9_correct 18 = .ok (.aload_n 0, 1) := by decide +kernel
theorem dX9_correct_19 : decode cX9_correct 19 = .ok (.getfield 22, 3) := by decide +kernel
theorem dX9_correct_22 : decode cX9_correct 22 = .ok (.bipush 20, 2) := by decide +kernel
theorem dX9_correct_24 : decode cX9_correct 24 = .ok (.iload_n 1, 1) := by decide +kernel
theorem dX9_correct_25 : decode cX9_correct 25 = .ok (.imul, 1) := by decide +kernel
theorem dX9_correct_26 : decode cX9_correct 26 = .ok (.iload_n 2, 1) := by decide +kernel
theorem dX9_correct_27 : decode cX9_correct 27 = .ok (.iadd, 1) := by decide +kernel
theorem dX9_correct_28 : decode cX9_correct 28 = .ok (.iaload, 1) := by decide +kernel
theorem dX9_correct_29 : decode cX9_correct 29 = .ok (.iconst (-1), 1) := by decide +kernel
theorem dX9_correct_30 : decode cX9_correct 30 = .ok (.if_icmp .eq 7, 3) := by decide +kernel
theorem dX9_correct_33 : decode cX9_correct 33 = .ok (.iconst 1, 1) := by decide +kernel
theorem dX9_correct_34 : decode cX9_correct 34 = .ok (.goto 4, 3) := by decide +kernel
theorem dX9_correct_37 : decode cX9_correct 37 = .ok (.iconst 0, 1) := by decide +kernel
theorem dX9_correct_38 : decode cX9_correct 38 = .ok (.istore 5, 2) := by decide +kernel
theorem dX9_correct_40 : decode cX9_correct 40 = .ok (.aload_n 0, 1) := by decide +kernel
theorem dX9_correct_41 : decode cX9_correct 41 = .ok (.iload 5, 2) := by decide +kernel
theorem dX9_correct_43 : decode cX9_correct 43 = .ok (.ifCond .ne 7, 3) := by decide +kernel
theorem dX9_correct_46 : decode cX9_correct 46 = .ok (.iconst 1, 1) := by decide +kernel
theorem dX9_correct_47 : decode cX9_correct 47 = .ok (.goto 17, 3) := by decide +kernel
theorem dX9_correct_50 : decode cX9_correct 50 = .ok (.iload_n 3, 1) := by decide +kernel
theorem dX9_correct_51 : decode cX9_correct 51 = .ok (.iload 4, 2) := by decide +kernel
theorem dX9_correct_53 : decode cX9_correct 53 = .ok (.invokestatic 96, 3) := by decide +kernel
theorem dX9_correct_56 : decode cX9_correct 56 = .ok (.ifCond .eq 7, 3) := by decide +kernel
theorem dX9_correct_59 : decode cX9_correct 59 = .ok (.iconst 0, 1) := by decide +kernel
theorem dX9_correct_60 : decode cX9_correct 60 = .ok (.goto 4, 3) := by decide +kernel
theorem dX9_correct_63 : decode cX9_correct 63 = .ok (.iconst 2, 1) := by decide +kernel
theorem dX9_correct_64 : decode cX9_correct 64 = .ok (.invokevirtual 82, 3) := by decide +kernel
theorem dX9_correct_67 : decode cX9_correct 67 = .ok (.ifCond .ne 5, 3) := by decide +kernel
theorem dX9_correct_70 : decode cX9_correct 70 = .ok (.iconst 0, 1) := by decide +kernel
theorem dX9_correct_71 : decode cX9_correct 71 = .ok (.ireturn, 1) := by decide +kernel
theorem dX9_correct_72 : decode cX9_correct 72 = .ok (.bipush 20, 2) := by decide +kernel
theorem dX9_correct_74 : decode cX9_correct 74 = .ok (.iload_n 1, 1) := by decide +kernel
theorem dX9_correct_75 : decode cX9_correct 75 = .ok (.imul, 1) := by decide +kernel
theorem dX9_correct_76 : decode cX9_correct 76 = .ok (.iload_n 2, 1) := by decide +kernel
theorem dX9_correct_77 : decode cX9_correct 77 = .ok (.iadd, 1) := by decide +kernel
theorem dX9_correct_78 : decode cX9_correct 78 = .ok (.istore 6, 2) := by decide +kernel
theorem dX9_correct_80 : decode cX9_correct 80 = .ok (.aload_n 0, 1) := by decide +kernel
theorem dX9_correct_81 : decode cX9_correct 81 = .ok (.getfield 25, 3) := by decide +kernel
theorem dX9_correct_84 : decode cX9_correct 84 = .ok (.iload 6, 2) := by decide +kernel
theorem dX9_correct_86 : decode cX9_correct 86 = .ok (.iaload, 1) := by decide +kernel
theorem dX9_correct_87 : decode cX9_correct 87 = .ok (.aload_n 0, 1) := by decide +kernel
theorem dX9_correct_88 : decode cX9_correct 88 = .ok (.getfield 28, 3) := by decide +kernel
theorem dX9_correct_91 : decode cX9_correct 91 = .ok (.iload 6, 2) := by decide +kernel
theorem dX9_correct_93 : decode cX9_correct 93 = .ok (.iaload, 1) := by decide +kernel
theorem dX9_correct_94 : decode cX9_correct 94 = .ok (.iadd, 1) := by decide +kernel
theorem dX9_correct_95 : decode cX9_correct 95 = .ok (.istore 7, 2) := by decide +kernel
theorem dX9_correct_97 : decode cX9_correct 97 = .ok (.aload_n 0, 1) := by decide +kernel
theorem dX9_correct_98 : decode cX9_correct 98 = .ok (.getfield 25, 3) := by decide +kernel
theorem dX9_correct_101 : decode cX9_correct 101 = .ok (.iload 6, 2) := by decide +kernel
theorem dX9_correct_103 : decode cX9_correct 103 = .ok (.iload_n 3, 1) := by decide +kernel
theorem dX9_correct_104 : decode cX9_correct 104 = .ok (.iastore, 1) := by decide +kernel
theorem dX9_correct_105 : decode cX9_correct 105 = .ok (.aload_n 0, 1) := by decide +kernel
theorem dX9_correct_106 : decode cX9_correct 106 = .ok (.getfield 28, 3) := by decide +kernel
theorem dX9_correct_109 : decode cX9_correct 109 = .ok (.iload 6, 2) := by decide +kernel
theorem dX9_correct_111 : decode cX9_correct 111 = .ok (.iload 4, 2) := by decide +kernel
theorem dX9_correct_113 : decode cX9_correct 113 = .ok (.iastore, 1) := by decide +kernel
theorem dX9_correct_114 : decode cX9_correct 114 = .ok (.iload 7, 2) := by decide +kernel
theorem dX9_correct_116 : decode cX9_correct 116 = .ok (.ireturn, 1) := by decide +kernel
set_option maxRecDepth 20000 in
theorem ggX9_acknowledged_X9_isWorker : GoodIn wsX9_acknowledged wsX9_isWorker := goodIn_r _ [5, 6, 7, 8, 4, 9, 20, 21, 22, 23, 24, 25, 26, 27, 28, 29, 30, 31, 32, 33, 34, 35, 36, 37, 38, 39, 40, 41, 42, 43, 44] (by decide +kernel) (by decide +kernel)
set_option maxRecDepth 20000 in
theorem gX9_acknowledged_X9_isWorker : GoodIn wsX9_acknowledged (wsV RX9 86 RX9 yX9_isWorker wsX9_isWorker) := goodIn_app (goodIn_of _ (by decide +kernel)) ggX9_acknowledged_X9_isWorker
set_option maxRecDepth 20000 in
theorem ggX9_acknowledged_X9_holds : GoodIn wsX9_acknowledged wsX9_holds := goodIn_r _ [13, 14, 20, 21, 22, 23, 24, 25, 26, 27, 28, 29, 30, 31, 32, 33, 34, 35, 36, 37, 38, 39, 40, 41, 42, 43, 44] (by decide +kernel) (by decide +kernel)
set_option maxRecDepth 20000 in
theorem gX9_acknowledged_X9_holds : GoodIn wsX9_acknowledged (wsV RX9 82 RX9 yX9_holds wsX9_holds) := goodIn_app (goodIn_of _ (by decide +kernel)) ggX9_acknowledged_X9_holds
set_option maxRecDepth 20000 in
theorem ggX9_acknowledged_X9_counting : GoodIn wsX9_acknowledged wsX9_counting := goodIn_r _ [18, 19, 20, 21, 22, 23, 24, 25, 26, 27, 28, 29, 30, 31, 32, 33, 34, 35, 36, 37, 38, 39, 40, 41, 42, 43, 44] (by decide +kernel) (by decide +kernel)
set_option maxRecDepth 20000 in
theorem gX9_acknowledged_X9_counting : GoodIn wsX9_acknowledged (wsV RX9 100 RX9 yX9_counting wsX9_counting) := goodIn_app (goodIn_of _ (by decide +kernel)) ggX9_acknowledged_X9_counting
theorem dX9_acknowledged_0 : decode cX9_acknowledged 0 = .ok (.aload_n 0, 1) := by decide +kernel
theorem dX9_acknowledged_1 : decode cX9_acknowledged 1 = .ok (.aload_n 0, 1) := by decide +kernel
theorem dX9_acknowledged_2 : decode cX9_acknowledged 2 = .ok (.iload_n 1, 1) := by decide +kernel
theorem dX9_acknowledged_3 : decode cX9_acknowledged 3 = .ok (.invokevirtual 86, 3) := by decide +kernel
theorem dX9_acknowledged_6 : decode cX9_acknowledged 6 = .ok (.ifCond .eq 7, 3) := by decide +kernel
theorem dX9_acknowledged_9 : decode cX9_acknowledged 9 = .ok (.iconst 0, 1) := by decide +kernel
theorem dX9_acknowledged_10 : decode cX9_acknowledged 10 = .ok (.goto 4, 3) := by decide +kernel
theorem dX9_acknowledged_13 : decode cX9_acknowledged 13 = .ok (.iconst 1, 1) := by decide +kernel
theorem dX9_acknowledged_14 : decode cX9_acknowledged 14 = .ok (.invokevirtual 82, 3) := by decide +kernel
theorem dX9_acknowledged_17 : decode cX9_acknowledged 17 = .ok (.ifCond .eq 11, 3) := by decide +kernel
theorem dX9_acknowledged_20 : decode cX9_acknowledged 20 = .ok (.aload_n 0, 1) := by decide +kernel
theorem dX9_acknowledged_21 : decode cX9_acknowledged 21 = .ok (.iload_n 1, 1) := by decide +kernel
theorem dX9_acknowledged_22 : decode cX9_acknowledged 22 = .ok (.invokevirtual 100, 3) := by decide +kernel
theorem dX9_acknowledged_25 : decode cX9_acknowledged 25 = .ok (.goto 4, 3) := by decide +kernel
theorem dX9_acknowledged_28 : decode cX9_acknowledged 28 = .ok (.iconst 0, 1) := by decide +kernel
theorem dX9_acknowledged_29 : decode cX9_acknowledged 29 = .ok (.ireturn, 1) := by decide +kernel
set_option maxRecDepth 20000 in
theorem ggX9_dueFor_X9_told : GoodIn wsX9_dueFor wsX9_told := goodIn_r _ [10] (by decide +kernel) (by decide +kernel)
set_option maxRecDepth 20000 in
theorem gX9_dueFor_X9_told : GoodIn wsX9_dueFor (va_wsS RX9 92 yX9_told wsX9_told) := goodIn_app (goodIn_of _ (by decide +kernel)) ggX9_dueFor_X9_told
set_option maxRecDepth 20000 in
theorem ggX9_dueFor_X9_counting : GoodIn wsX9_dueFor wsX9_counting := goodIn_r _ [14, 3, 15, 16, 17, 18, 19, 20, 21, 22, 23, 24, 25, 26, 27, 28, 29, 30, 31, 32, 33, 34, 35, 36, 37, 38, 39] (by decide +kernel) (by decide +kernel)
set_option maxRecDepth 20000 in
theorem gX9_dueFor_X9_counting : GoodIn wsX9_dueFor (wsV RX9 100 RX9 yX9_counting wsX9_counting) := goodIn_app (goodIn_of _ (by decide +kernel)) ggX9_dueFor_X9_counting
theorem dX9_dueFor_0 : decode cX9_dueFor 0 = .ok (.aload_n 0, 1) := by decide +kernel
theorem dX9_dueFor_1 : decode cX9_dueFor 1 = .ok (.getfield 13, 3) := by decide +kernel
theorem dX9_dueFor_4 : decode cX9_dueFor 4 = .ok (.aload_n 0, 1) := by decide +kernel
theorem dX9_dueFor_5 : decode cX9_dueFor 5 = .ok (.getfield 13, 3) := by decide +kernel
theorem dX9_dueFor_8 : decode cX9_dueFor 8 = .ok (.iload_n 1, 1) := by decide +kernel
theorem dX9_dueFor_9 : decode cX9_dueFor 9 = .ok (.iload_n 2, 1) := by decide +kernel
theorem dX9_dueFor_10 : decode cX9_dueFor 10 = .ok (.invokestatic 92, 3) := by decide +kernel
theorem dX9_dueFor_13 : decode cX9_dueFor 13 = .ok (.iaload, 1) := by decide +kernel
theorem dX9_dueFor_14 : decode cX9_dueFor 14 = .ok (.istore_n 3, 1) := by decide +kernel
theorem dX9_dueFor_15 : decode cX9_dueFor 15 = .ok (.aload_n 0, 1) := by decide +kernel
theorem dX9_dueFor_16 : decode cX9_dueFor 16 = .ok (.getfield 16, 3) := by decide +kernel
theorem dX9_dueFor_19 : decode cX9_dueFor 19 = .ok (.iload_n 3, 1) := by decide +kernel
theorem dX9_dueFor_20 : decode cX9_dueFor 20 = .ok (.iload_n 2, 1) := by decide +kernel
theorem dX9_dueFor_21 : decode cX9_dueFor 21 = .ok (.invokestatic 92, 3) := by decide +kernel
theorem dX9_dueFor_24 : decode cX9_dueFor 24 = .ok (.istore 4, 2) := by decide +kernel
theorem dX9_dueFor_26 : decode cX9_dueFor 26 = .ok (.iconst 0, 1) := by decide +kernel
theorem dX9_dueFor_27 : decode cX9_dueFor 27 = .ok (.istore 5, 2) := by decide +kernel
theorem dX9_dueFor_29 : decode cX9_dueFor 29 = .ok (.iconst 0, 1) := by decide +kernel
theorem dX9_dueFor_30 : decode cX9_dueFor 30 = .ok (.istore 6, 2) := by decide +kernel
theorem dX9_dueFor_32 : decode cX9_dueFor 32 = .ok (.iload 6, 2) := by decide +kernel
theorem dX9_dueFor_34 : decode cX9_dueFor 34 = .ok (.aload_n 0, 1) := by decide +kernel
theorem dX9_dueFor_35 : decode cX9_dueFor 35 = .ok (.iload_n 1, 1) := by decide +kernel
theorem dX9_dueFor_36 : decode cX9_dueFor 36 = .ok (.invokevirtual 100, 3) := by decide +kernel
theorem dX9_dueFor_39 : decode cX9_dueFor 39 = .ok (.if_icmp .ge 69, 3) := by decide +kernel
theorem dX9_dueFor_42 : decode cX9_dueFor 42 = .ok (.bipush 20, 2) := by decide +kernel
theorem dX9_dueFor_44 : decode cX9_dueFor 44 = .ok (.iload_n 1, 1) := by decide +kernel
theorem dX9_dueFor_45 : decode cX9_dueFor 45 = .ok (.imul, 1) := by decide +kernel
theorem dX9_dueFor_46 : decode cX9_dueFor 46 = .ok (.iload 6, 2) := by decide +kernel
theorem dX9_dueFor_48 : decode cX9_dueFor 48 = .ok (.iadd, 1) := by decide +kernel
theorem dX9_dueFor_49 : decode cX9_dueFor 49 = .ok (.istore 7, 2) := by decide +kernel
theorem dX9_dueFor_51 : decode cX9_dueFor 51 = .ok (.iload 5, 2) := by decide +kernel
theorem dX9_dueFor_53 : decode cX9_dueFor 53 = .ok (.aload_n 0, 1) := by decide +kernel
theorem dX9_dueFor_54 : decode cX9_dueFor 54 = .ok (.getfield 22, 3) := by decide +kernel
theorem dX9_dueFor_57 : decode cX9_dueFor 57 = .ok (.iload 7, 2) := by decide +kernel
theorem dX9_dueFor_59 : decode cX9_dueFor 59 = .ok (.iaload, 1) := by decide +kernel
theorem dX9_dueFor_60 : decode cX9_dueFor 60 = .ok (.iload_n 2, 1) := by decide +kernel
theorem dX9_dueFor_61 : decode cX9_dueFor 61 = .ok (.if_icmp .ne 37, 3) := by decide +kernel
theorem dX9_dueFor_64 : decode cX9_dueFor 64 = .ok (.aload_n 0, 1) := by decide +kernel
theorem dX9_dueFor_65 : decode cX9_dueFor 65 = .ok (.getfield 25, 3) := by decide +kernel
theorem dX9_dueFor_68 : decode cX9_dueFor 68 = .ok (.iload 7, 2) := by decide +kernel
theorem dX9_dueFor_70 : decode cX9_dueFor 70 = .ok (.iaload, 1) := by decide +kernel
theorem dX9_dueFor_71 : decode cX9_dueFor 71 = .ok (.aload_n 0, 1) := by decide +kernel
theorem dX9_dueFor_72 : decode cX9_dueFor 72 = .ok (.getfield 16, 3) := by decide +kernel
theorem dX9_dueFor_75 : decode cX9_dueFor 75 = .ok (.iload 4, 2) := by decide +kernel
theorem dX9_dueFor_77 : decode cX9_dueFor 77 = .ok (.iaload, 1) := by decide +kernel
theorem dX9_dueFor_78 : decode cX9_dueFor 78 = .ok (.imul, 1) := by decide +kernel
theorem dX9_dueFor_79 : decode cX9_dueFor 79 = .ok (.aload_n 0, 1) := by decide +kernel
theorem dX9_dueFor_80 : decode cX9_dueFor 80 = .ok (.getfield 28, 3) := by decide +kernel
theorem dX9_dueFor_83 : decode cX9_dueFor 83 = .ok (.iload 7, 2) := by decide +kernel
theorem dX9_dueFor_85 : decode cX9_dueFor 85 = .ok (.iaload, 1) := by decide +kernel
theorem dX9_dueFor_86 : decode cX9_dueFor 86 = .ok (.aload_n 0, 1) := by decide +kernel
theorem dX9_dueFor_87 : decode cX9_dueFor 87 = .ok (.getfield 19, 3) := by decide +kernel
theorem dX9_dueFor_90 : decode cX9_dueFor 90 = .ok (.iload 4, 2) := by decide +kernel
theorem dX9_dueFor_92 : decode cX9_dueFor 92 = .ok (.iaload, 1) := by decide +kernel
theorem dX9_dueFor_93 : decode cX9_dueFor 93 = .ok (.imul, 1) := by decide +kernel
theorem dX9_dueFor_94 : decode cX9_dueFor 94 = .ok (.iadd, 1) := by decide +kernel
theorem dX9_dueFor_95 : decode cX9_dueFor 95 = .ok (.goto 4, 3) := by decide +kernel
theorem dX9_dueFor_98 : decode cX9_dueFor 98 = .ok (.iconst 0, 1) := by decide +kernel
theorem dX9_dueFor_99 : decode cX9_dueFor 99 = .ok (.iadd, 1) := by decide +kernel
theorem dX9_dueFor_100 : decode cX9_dueFor 100 = .ok (.istore 5, 2) := by decide +kernel
theorem dX9_dueFor_102 : decode cX9_dueFor 102 = .ok (.iinc 6 1, 3) := by decide +kernel
theorem dX9_dueFor_105 : decode cX9_dueFor 105 = .ok (.goto (-73), 3) := by decide +kernel
theorem dX9_dueFor_108 : decode cX9_dueFor 108 = .ok (.iload 5, 2) := by decide +kernel
theorem dX9_dueFor_110 : decode cX9_dueFor 110 = .ok (.ireturn, 1) := by decide +kernel
set_option maxRecDepth 20000 in
theorem ggX9_due_X9_isWorker : GoodIn wsX9_due wsX9_isWorker := goodIn_r _ [5, 6, 7, 8, 4, 9, 35, 36, 37, 38, 39, 40, 41, 42, 43, 44, 45, 46, 47, 48, 49, 50, 51, 52, 53, 54, 55, 56, 57, 58, 59] (by decide +kernel) (by decide +kernel)
set_option maxRecDepth 20000 in
theorem gX9_due_X9_isWorker : GoodIn wsX9_due (wsV RX9 86 RX9 yX9_isWorker wsX9_isWorker) := goodIn_app (goodIn_of _ (by decide +kernel)) ggX9_due_X9_isWorker
set_option maxRecDepth 20000 in
theorem ggX9_due_X9_isWeek : GoodIn wsX9_due wsX9_isWeek := goodIn_r _ [12, 7, 8, 4, 9] (by decide +kernel) (by decide +kernel)
set_option maxRecDepth 20000 in
theorem gX9_due_X9_isWeek : GoodIn wsX9_due (va_wsS RX9 89 yX9_isWeek wsX9_isWeek) := goodIn_app (goodIn_of _ (by decide +kernel)) ggX9_due_X9_isWeek
set_option maxRecDepth 20000 in
theorem ggX9_due_X9_holds : GoodIn wsX9_due wsX9_holds := goodIn_r _ [16, 17, 35, 36, 37, 38, 39, 40, 41, 42, 43, 44, 45, 46, 47, 48, 49, 50, 51, 52, 53, 54, 55, 56, 57, 58, 59] (by decide +kernel) (by decide +kernel)
set_option maxRecDepth 20000 in
theorem gX9_due_X9_holds : GoodIn wsX9_due (wsV RX9 82 RX9 yX9_holds wsX9_holds) := goodIn_app (goodIn_of _ (by decide +kernel)) ggX9_due_X9_holds
set_option maxRecDepth 20000 in
theorem ggX9_due_X9_dueFor : GoodIn wsX9_due wsX9_dueFor := goodIn_r _ [21, 22, 23, 24, 25, 26, 27, 28, 29, 4, 30, 31, 32, 33, 34, 35, 36, 37, 38, 39, 40, 41, 42, 43, 44, 45, 46, 47, 48, 49, 50, 51, 52, 53, 54, 55, 56, 57, 58, 59] (by decide +kernel) (by decide +kernel)
set_option maxRecDepth 20000 in
theorem gX9_due_X9_dueFor : GoodIn wsX9_due (wsV RX9 104 RX9 yX9_dueFor wsX9_dueFor) := goodIn_app (goodIn_of _ (by decide +kernel)) ggX9_due_X9_dueFor
theorem dX9_due_0 : decode cX9_due 0 = .ok (.aload_n 0, 1) := by decide +kernel
theorem dX9_due_1 : decode cX9_due 1 = .ok (.aload_n 0, 1) := by decide +kernel
theorem dX9_due_2 : decode cX9_due 2 = .ok (.iload_n 1, 1) := by decide +kernel
theorem dX9_due_3 : decode cX9_due 3 = .ok (.invokevirtual 86, 3) := by decide +kernel
theorem dX9_due_6 : decode cX9_due 6 = .ok (.ifCond .ne 7, 3) := by decide +kernel
theorem dX9_due_9 : decode cX9_due 9 = .ok (.iconst 1, 1) := by decide +kernel
theorem dX9_due_10 : decode cX9_due 10 = .ok (.goto 15, 3) := by decide +kernel
theorem dX9_due_13 : decode cX9_due 13 = .ok (.iload_n 2, 1) := by decide +kernel
theorem dX9_due_14 : decode cX9_due 14 = .ok (.invokestatic 89, 3) := by decide +kernel
theorem dX9_due_17 : decode cX9_due 17 = .ok (.ifCond .eq 7, 3) := by decide +kernel
theorem dX9_due_20 : decode cX9_due 20 = .ok (.iconst 0, 1) := by decide +kernel
theorem dX9_due_21 : decode cX9_due 21 = .ok (.goto 4, 3) := by decide +kernel
theorem dX9_due_24 : decode cX9_due 24 = .ok (.iconst 2, 1) := by decide +kernel
theorem dX9_due_25 : decode cX9_due 25 = .ok (.invokevirtual 82, 3) := by decide +kernel
theorem dX9_due_28 : decode cX9_due 28 = .ok (.ifCond .eq 12, 3) := by decide +kernel
theorem dX9_due_31 : decode cX9_due 31 = .ok (.aload_n 0, 1) := by decide +kernel
theorem dX9_due_32 : decode cX9_due 32 = .ok (.iload_n 1, 1) := by decide +kernel
theorem dX9_due_33 : decode cX9_due 33 = .ok (.iload_n 2, 1) := by decide +kernel
theorem dX9_due_34 : decode cX9_due 34 = .ok (.invokevirtual 104, 3) := by decide +kernel
theorem dX9_due_37 : decode cX9_due 37 = .ok (.goto 4, 3) := by decide +kernel
theorem dX9_due_40 : decode cX9_due 40 = .ok (.iconst 0, 1) := by decide +kernel
theorem dX9_due_41 : decode cX9_due 41 = .ok (.ireturn, 1) := by decide +kernel
set_option maxRecDepth 20000 in
theorem ggX9_order_X9_in : GoodIn wsX9_order wsX9_in := goodIn_r _ [11] (by decide +kernel) (by decide +kernel)
set_option maxRecDepth 20000 in
theorem gX9_order_X9_in : GoodIn wsX9_order (va_wsS RX9 78 yX9_in wsX9_in) := goodIn_app (goodIn_of _ (by decide +kernel)) ggX9_order_X9_in
set_option maxRecDepth 20000 in
theorem ggX9_order_X9_isWorker : GoodIn wsX9_order wsX9_isWorker := goodIn_r _ [15, 16, 8, 9, 10, 11, 22, 23, 24, 25, 26, 27, 28, 29, 30, 31, 32, 33, 34, 35, 36, 37, 38, 39, 40, 41, 42, 43, 44, 45, 46] (by decide +kernel) (by decide +kernel)
set_option maxRecDepth 20000 in
theorem gX9_order_X9_isWorker : GoodIn wsX9_order (wsV RX9 86 RX9 yX9_isWorker wsX9_isWorker) := goodIn_app (goodIn_of _ (by decide +kernel)) ggX9_order_X9_isWorker
set_option maxRecDepth 20000 in
theorem ggX9_order_X9_holds : GoodIn wsX9_order wsX9_holds := goodIn_r _ [20, 21, 22, 23, 24, 25, 26, 27, 28, 29, 30, 31, 32, 33, 34, 35, 36, 37, 38, 39, 40, 41, 42, 43, 44, 45, 46] (by decide +kernel) (by decide +kernel)
set_option maxRecDepth 20000 in
theorem gX9_order_X9_holds : GoodIn wsX9_order (wsV RX9 82 RX9 yX9_holds wsX9_holds) := goodIn_app (goodIn_of _ (by decide +kernel)) ggX9_order_X9_holds
theorem dX9_order_0 : decode cX9_order 0 = .ok (.iload_n 2, 1) := by decide +kernel
theorem dX9_order_1 : decode cX9_order 1 = .ok (.iconst 0, 1) := by decide +kernel
theorem dX9_order_2 : decode cX9_order 2 = .ok (.iconst 2, 1) := by decide +kernel
theorem dX9_order_3 : decode cX9_order 3 = .ok (.invokestatic 78, 3) := by decide +kernel
theorem dX9_order_6 : decode cX9_order 6 = .ok (.ifCond .eq 28, 3) := by decide +kernel
theorem dX9_order_9 : decode cX9_order 9 = .ok (.iload_n 3, 1) := by decide +kernel
theorem dX9_order_10 : decode cX9_order 10 = .ok (.iconst 1, 1) := by decide +kernel
theorem dX9_order_11 : decode cX9_order 11 = .ok (.ldc 108, 2) := by decide +kernel
theorem dX9_order_13 : decode cX9_order 13 = .ok (.invokestatic 78, 3) := by decide +kernel
theorem dX9_order_16 : decode cX9_order 16 = .ok (.ifCond .eq 18, 3) := by decide +kernel
theorem dX9_order_19 : decode cX9_order 19 = .ok (.iload 4, 2) := by decide +kernel
theorem dX9_order_21 : decode cX9_order 21 = .ok (.iconst 1, 1) := by decide +kernel
theorem dX9_order_22 : decode cX9_order 22 = .ok (.ldc 109, 2) := by decide +kernel
theorem dX9_order_24 : decode cX9_order 24 = .ok (.invokestatic 78, 3) := by decide +kernel
theorem dX9_order_27 : decode cX9_order 27 = .ok (.ifCond .eq 7, 3) := by decide +kernel
theorem dX9_order_30 : decode cX9_order 30 = .ok (.iconst 1, 1) := by decide +kernel
theorem dX9_order_31 : decode cX9_order 31 = .ok (.goto 4, 3) := by decide +kernel
theorem dX9_order_34 : decode cX9_order 34 = .ok (.iconst 0, 1) := by decide +kernel
theorem dX9_order_35 : decode cX9_order 35 = .ok (.istore 5, 2) := by decide +kernel
theorem dX9_order_37 : decode cX9_order 37 = .ok (.aload_n 0, 1) := by decide +kernel
theorem dX9_order_38 : decode cX9_order 38 = .ok (.aload_n 0, 1) := by decide +kernel
theorem dX9_order_39 : decode cX9_order 39 = .ok (.iload_n 1, 1) := by decide +kernel
theorem dX9_order_40 : decode cX9_order 40 = .ok (.invokevirtual 86, 3) := by decide +kernel
theorem dX9_order_43 : decode cX9_order 43 = .ok (.ifCond .ne 7, 3) := by decide +kernel
theorem dX9_order_46 : decode cX9_order 46 = .ok (.iconst 1, 1) := by decide +kernel
theorem dX9_order_47 : decode cX9_order 47 = .ok (.goto 26, 3) := by decide +kernel
theorem dX9_order_50 : decode cX9_order 50 = .ok (.iload 5, 2) := by decide +kernel
theorem dX9_order_52 : decode cX9_order 52 = .ok (.ifCond .ne 7, 3) := by decide +kernel
theorem dX9_order_55 : decode cX9_order 55 = .ok (.iconst 2, 1) := by decide +kernel
theorem dX9_order_56 : decode cX9_order 56 = .ok (.goto 17, 3) := by decide +kernel
theorem dX9_order_59 : decode cX9_order 59 = .ok (.aload_n 0, 1) := by decide +kernel
theorem dX9_order_60 : decode cX9_order 60 = .ok (.getfield 110, 3) := by decide +kernel
theorem dX9_order_63 : decode cX9_order 63 = .ok (.bipush 20, 2) := by decide +kernel
theorem dX9_order_65 : decode cX9_order 65 = .ok (.if_icmp .ne 7, 3) := by decide +kernel
theorem dX9_order_68 : decode cX9_order 68 = .ok (.iconst 3, 1) := by decide +kernel
theorem dX9_order_69 : decode cX9_order 69 = .ok (.goto 4, 3) := by decide +kernel
theorem dX9_order_72 : decode cX9_order 72 = .ok (.iconst 0, 1) := by decide +kernel
theorem dX9_order_73 : decode cX9_order 73 = .ok (.invokevirtual 82, 3) := by decide +kernel
theorem dX9_order_76 : decode cX9_order 76 = .ok (.ifCond .ne 5, 3) := by decide +kernel
theorem dX9_order_79 : decode cX9_order 79 = .ok (.iconst 0, 1) := by decide +kernel
theorem dX9_order_80 : decode cX9_order 80 = .ok (.ireturn, 1) := by decide +kernel
theorem dX9_order_81 : decode cX9_order 81 = .ok (.aload_n 0, 1) := by decide +kernel
theorem dX9_order_82 : decode cX9_order 82 = .ok (.getfield 40, 3) := by decide +kernel
theorem dX9_order_85 : decode cX9_order 85 = .ok (.aload_n 0, 1) := by decide +kernel
theorem dX9_order_86 : decode cX9_order 86 = .ok (.getfield 110, 3) := by decide +kernel
theorem dX9_order_89 : decode cX9_order 89 = .ok (.iload_n 1, 1) := by decide +kernel
theorem dX9_order_90 : decode cX9_order 90 = .ok (.iastore, 1) := by decide +kernel
theorem dX9_order_91 : decode cX9_order 91 = .ok (.aload_n 0, 1) := by decide +kernel
theorem dX9_order_92 : decode cX9_order 92 = .ok (.getfield 43, 3) := by decide +kernel
theorem dX9_order_95 : decode cX9_order 95 = .ok (.aload_n 0, 1) := by decide +kernel
theorem dX9_order_96 : decode cX9_order 96 = .ok (.getfield 110, 3) := by decide +kernel
theorem dX9_order_99 : decode cX9_order 99 = .ok (.iload_n 2, 1) := by decide +kernel
theorem dX9_order_100 : decode cX9_order 100 = .ok (.iastore, 1) := by decide +kernel
theorem dX9_order_101 : decode cX9_order 101 = .ok (.aload_n 0, 1) := by decide +kernel
theorem dX9_order_102 : decode cX9_order 102 = .ok (.getfield 46, 3) := by decide +kernel
theorem dX9_order_105 : decode cX9_order 105 = .ok (.aload_n 0, 1) := by decide +kernel
theorem dX9_order_106 : decode cX9_order 106 = .ok (.getfield 110, 3) := by decide +kernel
theorem dX9_order_109 : decode cX9_order 109 = .ok (.iload_n 3, 1) := by decide +kernel
theorem dX9_order_110 : decode cX9_order 110 = .ok (.iastore, 1) := by decide +kernel
theorem dX9_order_111 : decode cX9_order 111 = .ok (.aload_n 0, 1) := by decide +kernel
theorem dX9_order_112 : decode cX9_order 112 = .ok (.getfield 49, 3) := by decide +kernel
theorem dX9_order_115 : decode cX9_order 115 = .ok (.aload_n 0, 1) := by decide +kernel
theorem dX9_order_116 : decode cX9_order 116 = .ok (.getfield 110, 3) := by decide +kernel
theorem dX9_order_119 : decode cX9_order 119 = .ok (.iload 4, 2) := by decide +kernel
theorem dX9_order_121 : decode cX9_order 121 = .ok (.iastore, 1) := by decide +kernel
theorem dX9_order_122 : decode cX9_order 122 = .ok (.aload_n 0, 1) := by decide +kernel
theorem dX9_order_123 : decode cX9_order 123 = .ok (.dup, 1) := by decide +kernel
theorem dX9_order_124 : decode cX9_order 124 = .ok (.getfield 110, 3) := by decide +kernel
theorem dX9_order_127 : decode cX9_order 127 = .ok (.iconst 1, 1) := by decide +kernel
theorem dX9_order_128 : decode cX9_order 128 = .ok (.iadd, 1) := by decide +kernel
theorem dX9_order_129 : decode cX9_order 129 = .ok (.putfield 110, 3) := by decide +kernel
theorem dX9_order_132 : decode cX9_order 132 = .ok (.aload_n 0, 1) := by decide +kernel
theorem dX9_order_133 : decode cX9_order 133 = .ok (.getfield 110, 3) := by decide +kernel
theorem dX9_order_136 : decode cX9_order 136 = .ok (.iconst 1, 1) := by decide +kernel
theorem dX9_order_137 : decode cX9_order 137 = .ok (.isub, 1) := by decide +kernel
theorem dX9_order_138 : decode cX9_order 138 = .ok (.ireturn, 1) := by decide +kernel
set_option maxRecDepth 20000 in
theorem ggX9_left_X9_in : GoodIn wsX9_left wsX9_in := goodIn_r _ [6] (by decide +kernel) (by decide +kernel)
set_option maxRecDepth 20000 in
theorem gX9_left_X9_in : GoodIn wsX9_left (va_wsS RX9 78 yX9_in wsX9_in) := goodIn_app (goodIn_of _ (by decide +kernel)) ggX9_left_X9_in
set_option maxRecDepth 20000 in
theorem ggX9_left_X9_holds : GoodIn wsX9_left wsX9_holds := goodIn_r _ [10, 11, 12, 13, 14, 15, 16, 17, 18, 19, 20, 21, 22, 23, 24, 25, 26, 27, 28, 29, 30, 31, 32, 33, 34, 35, 36] (by decide +kernel) (by decide +kernel)
set_option maxRecDepth 20000 in
theorem gX9_left_X9_holds : GoodIn wsX9_left (wsV RX9 82 RX9 yX9_holds wsX9_holds) := goodIn_app (goodIn_of _ (by decide +kernel)) ggX9_left_X9_holds
theorem dX9_left_0 : decode cX9_left 0 = .ok (.aload_n 0, 1) := by decide +kernel
theorem dX9_left_1 : decode cX9_left 1 = .ok (.iload_n 1, 1) := by decide +kernel
theorem dX9_left_2 : decode cX9_left 2 = .ok (.iconst 0, 1) := by decide +kernel
theorem dX9_left_3 : decode cX9_left 3 = .ok (.aload_n 0, 1) := by decide +kernel
theorem dX9_left_4 : decode cX9_left 4 = .ok (.getfield 110, 3) := by decide +kernel
theorem dX9_left_7 : decode cX9_left 7 = .ok (.iconst 1, 1) := by decide +kernel
theorem dX9_left_8 : decode cX9_left 8 = .ok (.isub, 1) := by decide +kernel
theorem dX9_left_9 : decode cX9_left 9 = .ok (.invokestatic 78, 3) := by decide +kernel
theorem dX9_left_12 : decode cX9_left 12 = .ok (.ifCond .eq 7, 3) := by decide +kernel
theorem dX9_left_15 : decode cX9_left 15 = .ok (.iconst 0, 1) := by decide +kernel
theorem dX9_left_16 : decode cX9_left 16 = .ok (.goto 4, 3) := by decide +kernel
theorem dX9_left_19 : decode cX9_left 19 = .ok (.iconst 1, 1) := by decide +kernel
theorem dX9_left_20 : decode cX9_left 20 = .ok (.invokevirtual 82, 3) := by decide +kernel
theorem dX9_left_23 : decode cX9_left 23 = .ok (.ifCond .eq 12, 3) := by decide +kernel
theorem dX9_left_26 : decode cX9_left 26 = .ok (.aload_n 0, 1) := by decide +kernel
theorem dX9_left_27 : decode cX9_left 27 = .ok (.getfield 46, 3) := by decide +kernel
theorem dX9_left_30 : decode cX9_left 30 = .ok (.iload_n 1, 1) := by decide +kernel
theorem dX9_left_31 : decode cX9_left 31 = .ok (.iaload, 1) := by decide +kernel
theorem dX9_left_32 : decode cX9_left 32 = .ok (.goto 4, 3) := by decide +kernel
theorem dX9_left_35 : decode cX9_left 35 = .ok (.iconst 0, 1) := by decide +kernel
theorem dX9_left_36 : decode cX9_left 36 = .ok (.ireturn, 1) := by decide +kernel
set_option maxRecDepth 20000 in
theorem ggX9_setFloor_X9_in : GoodIn wsX9_setFloor wsX9_in := goodIn_r _ [6] (by decide +kernel) (by decide +kernel)
set_option maxRecDepth 20000 in
theorem gX9_setFloor_X9_in : GoodIn wsX9_setFloor (va_wsS RX9 78 yX9_in wsX9_in) := goodIn_app (goodIn_of _ (by decide +kernel)) ggX9_setFloor_X9_in
set_option maxRecDepth 20000 in
theorem ggX9_setFloor_X9_holds : GoodIn wsX9_setFloor wsX9_holds := goodIn_r _ [10, 11, 12, 13, 14, 15, 16, 17, 18, 19, 20, 21, 22, 23, 24, 25, 26, 27, 28, 29, 30, 31, 32, 33, 34, 35, 36] (by decide +kernel) (by decide +kernel)
set_option maxRecDepth 20000 in
theorem gX9_setFloor_X9_holds : GoodIn wsX9_setFloor (wsV RX9 82 RX9 yX9_holds wsX9_holds) := goodIn_app (goodIn_of _ (by decide +kernel)) ggX9_setFloor_X9_holds
theorem dX9_setFloor_0 : decode cX9_setFloor 0 = .ok (.aload_n 0, 1) := by decide +kernel
theorem dX9_setFloor_1 : decode cX9_setFloor 1 = .ok (.iload_n 1, 1) := by decide +kernel
theorem dX9_setFloor_2 : decode cX9_setFloor 2 = .ok (.iconst 0, 1) := by decide +kernel
theorem dX9_setFloor_3 : decode cX9_setFloor 3 = .ok (.ldc 108, 2) := by decide +kernel
theorem dX9_setFloor_5 : decode cX9_setFloor 5 = .ok (.invokestatic 78, 3) := by decide +kernel
theorem dX9_setFloor_8 : decode cX9_setFloor 8 = .ok (.ifCond .eq 7, 3) := by decide +kernel
theorem dX9_setFloor_11 : decode cX9_setFloor 11 = .ok (.iconst 0, 1) := by decide +kernel
theorem dX9_setFloor_12 : decode cX9_setFloor 12 = .ok (.goto 4, 3) := by decide +kernel
theorem dX9_setFloor_15 : decode cX9_setFloor 15 = .ok (.iconst 1, 1) := by decide +kernel
theorem dX9_setFloor_16 : decode cX9_setFloor 16 = .ok (.invokevirtual 82, 3) := by decide +kernel
theorem dX9_setFloor_19 : decode cX9_setFloor 19 = .ok (.ifCond .ne 5, 3) := by decide +kernel
theorem dX9_setFloor_22 : decode cX9_setFloor 22 = .ok (.iconst 0, 1) := by decide +kernel
theorem dX9_setFloor_23 : decode cX9_setFloor 23 = .ok (.ireturn, 1) := by decide +kernel
theorem dX9_setFloor_24 : decode cX9_setFloor 24 = .ok (.aload_n 0, 1) := by decide +kernel
theorem dX9_setFloor_25 : decode cX9_setFloor 25 = .ok (.getfield 52, 3) := by decide +kernel
theorem dX9_setFloor_28 : decode cX9_setFloor 28 = .ok (.istore_n 2, 1) := by decide +kernel
theorem dX9_setFloor_29 : decode cX9_setFloor 29 = .ok (.aload_n 0, 1) := by decide +kernel
theorem dX9_setFloor_30 : decode cX9_setFloor 30 = .ok (.iload_n 1, 1) := by decide +kernel
theorem dX9_setFloor_31 : decode cX9_setFloor 31 = .ok (.putfield 52, 3) := by decide +kernel
theorem dX9_setFloor_34 : decode cX9_setFloor 34 = .ok (.iload_n 2, 1) := by decide +kernel
theorem dX9_setFloor_35 : decode cX9_setFloor 35 = .ok (.ireturn, 1) := by decide +kernel
set_option maxRecDepth 20000 in
theorem ggX9_isEmployer_X9_in : GoodIn wsX9_isEmployer wsX9_in := goodIn_r _ [4] (by decide +kernel) (by decide +kernel)
set_option maxRecDepth 20000 in
theorem gX9_isEmployer_X9_in : GoodIn wsX9_isEmployer (va_wsS RX9 78 yX9_in wsX9_in) := goodIn_app (goodIn_of _ (by decide +kernel)) ggX9_isEmployer_X9_in
theorem dX9_isEmployer_0 : decode cX9_isEmployer 0 = .ok (.iload_n 0, 1) := by decide +kernel
theorem dX9_isEmployer_1 : decode cX9_isEmployer 1 = .ok (.iconst 0, 1) := by decide +kernel
theorem dX9_isEmployer_2 : decode cX9_isEmployer 2 = .ok (.iconst 2, 1) := by decide +kernel
theorem dX9_isEmployer_3 : decode cX9_isEmployer 3 = .ok (.invokestatic 78, 3) := by decide +kernel
theorem dX9_isEmployer_6 : decode cX9_isEmployer 6 = .ok (.ireturn, 1) := by decide +kernel
set_option maxRecDepth 20000 in
theorem ggX9_fill_X9_isEmployer : GoodIn wsX9_fill wsX9_isEmployer := goodIn_r _ [10, 11, 12, 9, 13] (by decide +kernel) (by decide +kernel)
set_option maxRecDepth 20000 in
theorem gX9_fill_X9_isEmployer : GoodIn wsX9_fill (va_wsS RX9 113 yX9_isEmployer wsX9_isEmployer) := goodIn_app (goodIn_of _ (by decide +kernel)) ggX9_fill_X9_isEmployer
set_option maxRecDepth 20000 in
theorem ggX9_fill_X9_in : GoodIn wsX9_fill wsX9_in := goodIn_r _ [13] (by decide +kernel) (by decide +kernel)
set_option maxRecDepth 20000 in
theorem gX9_fill_X9_in : GoodIn wsX9_fill (va_wsS RX9 78 yX9_in wsX9_in) := goodIn_app (goodIn_of _ (by decide +kernel)) ggX9_fill_X9_in
set_option maxRecDepth 20000 in
theorem ggX9_fill_X9_holds : GoodIn wsX9_fill wsX9_holds := goodIn_r _ [17, 18, 22, 23, 24, 25, 26, 27, 28, 29, 30, 31, 32, 33, 34, 35, 36, 37, 38, 39, 40, 41, 42, 43, 44, 45, 46] (by decide +kernel) (by decide +kernel)
set_option maxRecDepth 20000 in
theorem gX9_fill_X9_holds : GoodIn wsX9_fill (wsV RX9 82 RX9 yX9_holds wsX9_holds) := goodIn_app (goodIn_of _ (by decide +kernel)) ggX9_fill_X9_holds
set_option maxRecDepth 20000 in
theorem ggX9_fill_X9_least : GoodIn wsX9_fill wsX9_least := goodIn_r _ [21] (by decide +kernel) (by decide +kernel)
set_option maxRecDepth 20000 in
theorem gX9_fill_X9_least : GoodIn wsX9_fill (va_wsS RX9 119 yX9_least wsX9_least) := goodIn_app (goodIn_of _ (by decide +kernel)) ggX9_fill_X9_least
theorem dX9_fill_0 : decode cX9_fill 0 = .ok (.aload_n 0, 1) := by decide +kernel
theorem dX9_fill_1 : decode cX9_fill 1 = .ok (.iload_n 1, 1) := by decide +kernel
theorem dX9_fill_2 : decode cX9_fill 2 = .ok (.invokestatic 113, 3) := by decide +kernel
theorem dX9_fill_5 : decode cX9_fill 5 = .ok (.ifCond .ne 7, 3) := by decide +kernel
theorem dX9_fill_8 : decode cX9_fill 8 = .ok (.iconst 1, 1) := by decide +kernel
theorem dX9_fill_9 : decode cX9_fill 9 = .ok (.goto 31, 3) := by decide +kernel
theorem dX9_fill_12 : decode cX9_fill 12 = .ok (.iload_n 2, 1) := by decide +kernel
theorem dX9_fill_13 : decode cX9_fill 13 = .ok (.iconst 1, 1) := by decide +kernel
theorem dX9_fill_14 : decode cX9_fill 14 = .ok (.ldc 108, 2) := by decide +kernel
theorem dX9_fill_16 : decode cX9_fill 16 = .ok (.invokestatic 78, 3) := by decide +kernel
theorem dX9_fill_19 : decode cX9_fill 19 = .ok (.ifCond .ne 7, 3) := by decide +kernel
theorem dX9_fill_22 : decode cX9_fill 22 = .ok (.iconst 2, 1) := by decide +kernel
theorem dX9_fill_23 : decode cX9_fill 23 = .ok (.goto 17, 3) := by decide +kernel
theorem dX9_fill_26 : decode cX9_fill 26 = .ok (.aload_n 0, 1) := by decide +kernel
theorem dX9_fill_27 : decode cX9_fill 27 = .ok (.getfield 116, 3) := by decide +kernel
theorem dX9_fill_30 : decode cX9_fill 30 = .ok (.bipush 40, 2) := by decide +kernel
theorem dX9_fill_32 : decode cX9_fill 32 = .ok (.if_icmp .ne 7, 3) := by decide +kernel
theorem dX9_fill_35 : decode cX9_fill 35 = .ok (.iconst 3, 1) := by decide +kernel
theorem dX9_fill_36 : decode cX9_fill 36 = .ok (.goto 4, 3) := by decide +kernel
theorem dX9_fill_39 : decode cX9_fill 39 = .ok (.iconst 0, 1) := by decide +kernel
theorem dX9_fill_40 : decode cX9_fill 40 = .ok (.invokevirtual 82, 3) := by decide +kernel
theorem dX9_fill_43 : decode cX9_fill 43 = .ok (.ifCond .ne 5, 3) := by decide +kernel
theorem dX9_fill_46 : decode cX9_fill 46 = .ok (.iconst 0, 1) := by decide +kernel
theorem dX9_fill_47 : decode cX9_fill 47 = .ok (.ireturn, 1) := by decide +kernel
theorem dX9_fill_48 : decode cX9_fill 48 = .ok (.iload_n 2, 1) := by decide +kernel
theorem dX9_fill_49 : decode cX9_fill 49 = .ok (.aload_n 0, 1) := by decide +kernel
theorem dX9_fill_50 : decode cX9_fill 50 = .ok (.getfield 59, 3) := by decide +kernel
theorem dX9_fill_53 : decode cX9_fill 53 = .ok (.iload_n 1, 1) := by decide +kernel
theorem dX9_fill_54 : decode cX9_fill 54 = .ok (.iaload, 1) := by decide +kernel
theorem dX9_fill_55 : decode cX9_fill 55 = .ok (.invokestatic 119, 3) := by decide +kernel
theorem dX9_fill_58 : decode cX9_fill 58 = .ok (.istore_n 3, 1) := by decide +kernel
theorem dX9_fill_59 : decode cX9_fill 59 = .ok (.aload_n 0, 1) := by decide +kernel
theorem dX9_fill_60 : decode cX9_fill 60 = .ok (.getfield 59, 3) := by decide +kernel
theorem dX9_fill_63 : decode cX9_fill 63 = .ok (.iload_n 1, 1) := by decide +kernel
theorem dX9_fill_64 : decode cX9_fill 64 = .ok (.dup2, 1) := by decide +kernel
theorem dX9_fill_65 : decode cX9_fill 65 = .ok (.iaload, 1) := by decide +kernel
theorem dX9_fill_66 : decode cX9_fill 66 = .ok (.iload_n 3, 1) := by decide +kernel
theorem dX9_fill_67 : decode cX9_fill 67 = .ok (.isub, 1) := by decide +kernel
theorem dX9_fill_68 : decode cX9_fill 68 = .ok (.iastore, 1) := by decide +kernel
theorem dX9_fill_69 : decode cX9_fill 69 = .ok (.aload_n 0, 1) := by decide +kernel
theorem dX9_fill_70 : decode cX9_fill 70 = .ok (.getfield 56, 3) := by decide +kernel
theorem dX9_fill_73 : decode cX9_fill 73 = .ok (.iload_n 1, 1) := by decide +kernel
theorem dX9_fill_74 : decode cX9_fill 74 = .ok (.dup2, 1) := by decide +kernel
theorem dX9_fill_75 : decode cX9_fill 75 = .ok (.iaload, 1) := by decide +kernel
theorem dX9_fill_76 : decode cX9_fill 76 = .ok (.iload_n 2, 1) := by decide +kernel
theorem dX9_fill_77 : decode cX9_fill 77 = .ok (.iload_n 3, 1) := by decide +kernel
theorem dX9_fill_78 : decode cX9_fill 78 = .ok (.isub, 1) := by decide +kernel
theorem dX9_fill_79 : decode cX9_fill 79 = .ok (.iadd, 1) := by decide +kernel
theorem dX9_fill_80 : decode cX9_fill 80 = .ok (.iastore, 1) := by decide +kernel
theorem dX9_fill_81 : decode cX9_fill 81 = .ok (.aload_n 0, 1) := by decide +kernel
theorem dX9_fill_82 : decode cX9_fill 82 = .ok (.getfield 62, 3) := by decide +kernel
theorem dX9_fill_85 : decode cX9_fill 85 = .ok (.aload_n 0, 1) := by decide +kernel
theorem dX9_fill_86 : decode cX9_fill 86 = .ok (.getfield 116, 3) := by decide +kernel
theorem dX9_fill_89 : decode cX9_fill 89 = .ok (.iload_n 1, 1) := by decide +kernel
theorem dX9_fill_90 : decode cX9_fill 90 = .ok (.iastore, 1) := by decide +kernel
theorem dX9_fill_91 : decode cX9_fill 91 = .ok (.aload_n 0, 1) := by decide +kernel
theorem dX9_fill_92 : decode cX9_fill 92 = .ok (.getfield 65, 3) := by decide +kernel
theorem dX9_fill_95 : decode cX9_fill 95 = .ok (.aload_n 0, 1) := by decide +kernel
theorem dX9_fill_96 : decode cX9_fill 96 = .ok (.getfield 116, 3) := by decide +kernel
theorem dX9_fill_99 : decode cX9_fill 99 = .ok (.iload_n 2, 1) := by decide +kernel
theorem dX9_fill_100 : decode cX9_fill 100 = .ok (.iastore, 1) := by decide +kernel
theorem dX9_fill_101 : decode cX9_fill 101 = .ok (.aload_n 0, 1) := by decide +kernel
theorem dX9_fill_102 : decode cX9_fill 102 = .ok (.dup, 1) := by decide +kernel
theorem dX9_fill_103 : decode cX9_fill 103 = .ok (.getfield 116, 3) := by decide +kernel
theorem dX9_fill_106 : decode cX9_fill 106 = .ok (.iconst 1, 1) := by decide +kernel
theorem dX9_fill_107 : decode cX9_fill 107 = .ok (.iadd, 1) := by decide +kernel
theorem dX9_fill_108 : decode cX9_fill 108 = .ok (.putfield 116, 3) := by decide +kernel
theorem dX9_fill_111 : decode cX9_fill 111 = .ok (.aload_n 0, 1) := by decide +kernel
theorem dX9_fill_112 : decode cX9_fill 112 = .ok (.getfield 116, 3) := by decide +kernel
theorem dX9_fill_115 : decode cX9_fill 115 = .ok (.iconst 1, 1) := by decide +kernel
theorem dX9_fill_116 : decode cX9_fill 116 = .ok (.isub, 1) := by decide +kernel
theorem dX9_fill_117 : decode cX9_fill 117 = .ok (.ireturn, 1) := by decide +kernel
set_option maxRecDepth 20000 in
theorem ggX9_bounce_X9_in : GoodIn wsX9_bounce wsX9_in := goodIn_r _ [10] (by decide +kernel) (by decide +kernel)
set_option maxRecDepth 20000 in
theorem gX9_bounce_X9_in : GoodIn wsX9_bounce (va_wsS RX9 78 yX9_in wsX9_in) := goodIn_app (goodIn_of _ (by decide +kernel)) ggX9_bounce_X9_in
set_option maxRecDepth 20000 in
theorem ggX9_bounce_X9_holds : GoodIn wsX9_bounce wsX9_holds := goodIn_r _ [14, 15, 19, 20, 21, 22, 23, 24, 25, 26, 27, 28, 29, 30, 31, 32, 33, 34, 35, 36, 37, 38, 39, 40, 41, 42, 43] (by decide +kernel) (by decide +kernel)
set_option maxRecDepth 20000 in
theorem gX9_bounce_X9_holds : GoodIn wsX9_bounce (wsV RX9 82 RX9 yX9_holds wsX9_holds) := goodIn_app (goodIn_of _ (by decide +kernel)) ggX9_bounce_X9_holds
set_option maxRecDepth 20000 in
theorem ggX9_bounce_X9_least : GoodIn wsX9_bounce wsX9_least := goodIn_r _ [18] (by decide +kernel) (by decide +kernel)
set_option maxRecDepth 20000 in
theorem gX9_bounce_X9_least : GoodIn wsX9_bounce (va_wsS RX9 119 yX9_least wsX9_least) := goodIn_app (goodIn_of _ (by decide +kernel)) ggX9_bounce_X9_least
theorem dX9_bounce_0 : decode cX9_bounce 0 = .ok (.iload_n 1, 1) := by decide +kernel
theorem dX9_bounce_1 : decode cX9_bounce 1 = .ok (.iconst 0, 1) := by decide +kernel
theorem dX9_bounce_2 : decode cX9_bounce 2 = .ok (.aload_n 0, 1) := by decide +kernel
theorem dX9_bounce_3 : decode cX9_bounce 3 = .ok (.getfield 116, 3) := by decide +kernel
theorem dX9_bounce_6 : decode cX9_bounce 6 = .ok (.iconst 1, 1) := by decide +kernel
theorem dX9_bounce_7 : decode cX9_bounce 7 = .ok (.isub, 1) := by decide +kernel
theorem dX9_bounce_8 : decode cX9_bounce 8 = .ok (.invokestatic 78, 3) := by decide +kernel
theorem dX9_bounce_11 : decode cX9_bounce 11 = .ok (.istore_n 2, 1) := by decide +kernel
theorem dX9_bounce_12 : decode cX9_bounce 12 = .ok (.aload_n 0, 1) := by decide +kernel
theorem dX9_bounce_13 : decode cX9_bounce 13 = .ok (.iload_n 2, 1) := by decide +kernel
theorem dX9_bounce_14 : decode cX9_bounce 14 = .ok (.ifCond .ne 7, 3) := by decide +kernel
theorem dX9_bounce_17 : decode cX9_bounce 17 = .ok (.iconst 1, 1) := by decide +kernel
theorem dX9_bounce_18 : decode cX9_bounce 18 = .ok (.goto 17, 3) := by decide +kernel
theorem dX9_bounce_21 : decode cX9_bounce 21 = .ok (.aload_n 0, 1) := by decide +kernel
theorem dX9_bounce_22 : decode cX9_bounce 22 = .ok (.getfield 68, 3) := by decide +kernel
theorem dX9_bounce_25 : decode cX9_bounce 25 = .ok (.iload_n 1, 1) := by decide +kernel
theorem dX9_bounce_26 : decode cX9_bounce 26 = .ok (.baload, 1) := by decide +kernel
theorem dX9_bounce_27 : decode cX9_bounce 27 = .ok (.ifCond .eq 7, 3) := by decide +kernel
theorem dX9_bounce_30 : decode cX9_bounce 30 = .ok (.iconst 2, 1) := by decide +kernel
theorem dX9_bounce_31 : decode cX9_bounce 31 = .ok (.goto 4, 3) := by decide +kernel
theorem dX9_bounce_34 : decode cX9_bounce 34 = .ok (.iconst 0, 1) := by decide +kernel
theorem dX9_bounce_35 : decode cX9_bounce 35 = .ok (.invokevirtual 82, 3) := by decide +kernel
theorem dX9_bounce_38 : decode cX9_bounce 38 = .ok (.ifCond .ne 5, 3) := by decide +kernel
theorem dX9_bounce_41 : decode cX9_bounce 41 = .ok (.iconst 0, 1) := by decide +kernel
theorem dX9_bounce_42 : decode cX9_bounce 42 = .ok (.ireturn, 1) := by decide +kernel
theorem dX9_bounce_43 : decode cX9_bounce 43 = .ok (.aload_n 0, 1) := by decide +kernel
theorem dX9_bounce_44 : decode cX9_bounce 44 = .ok (.getfield 62, 3) := by decide +kernel
theorem dX9_bounce_47 : decode cX9_bounce 47 = .ok (.iload_n 1, 1) := by decide +kernel
theorem dX9_bounce_48 : decode cX9_bounce 48 = .ok (.iaload, 1) := by decide +kernel
theorem dX9_bounce_49 : decode cX9_bounce 49 = .ok (.istore_n 3, 1) := by decide +kernel
theorem dX9_bounce_50 : decode cX9_bounce 50 = .ok (.aload_n 0, 1) := by decide +kernel
theorem dX9_bounce_51 : decode cX9_bounce 51 = .ok (.getfield 65, 3) := by decide +kernel
theorem dX9_bounce_54 : decode cX9_bounce 54 = .ok (.iload_n 1, 1) := by decide +kernel
theorem dX9_bounce_55 : decode cX9_bounce 55 = .ok (.iaload, 1) := by decide +kernel
theorem dX9_bounce_56 : decode cX9_bounce 56 = .ok (.aload_n 0, 1) := by decide +kernel
theorem dX9_bounce_57 : decode cX9_bounce 57 = .ok (.getfield 56, 3) := by decide +kernel
theorem dX9_bounce_60 : decode cX9_bounce 60 = .ok (.iload_n 3, 1) := by decide +kernel
theorem dX9_bounce_61 : decode cX9_bounce 61 = .ok (.iaload, 1) := by decide +kernel
theorem dX9_bounce_62 : decode cX9_bounce 62 = .ok (.invokestatic 119, 3) := by decide +kernel
theorem dX9_bounce_65 : decode cX9_bounce 65 = .ok (.istore 4, 2) := by decide +kernel
theorem dX9_bounce_67 : decode cX9_bounce 67 = .ok (.aload_n 0, 1) := by decide +kernel
theorem dX9_bounce_68 : decode cX9_bounce 68 = .ok (.getfield 68, 3) := by decide +kernel
theorem dX9_bounce_71 : decode cX9_bounce 71 = .ok (.iload_n 1, 1) := by decide +kernel
theorem dX9_bounce_72 : decode cX9_bounce 72 = .ok (.iconst 1, 1) := by decide +kernel
theorem dX9_bounce_73 : decode cX9_bounce 73 = .ok (.bastore, 1) := by decide +kernel
theorem dX9_bounce_74 : decode cX9_bounce 74 = .ok (.aload_n 0, 1) := by decide +kernel
theorem dX9_bounce_75 : decode cX9_bounce 75 = .ok (.getfield 56, 3) := by decide +kernel
theorem dX9_bounce_78 : decode cX9_bounce 78 = .ok (.iload_n 3, 1) := by decide +kernel
theorem dX9_bounce_79 : decode cX9_bounce 79 = .ok (.dup2, 1) := by decide +kernel
theorem dX9_bounce_80 : decode cX9_bounce 80 = .ok (.iaload, 1) := by decide +kernel
theorem dX9_bounce_81 : decode cX9_bounce 81 = .ok (.iload 4, 2) := by decide +kernel
theorem dX9_bounce_83 : decode cX9_bounce 83 = .ok (.isub, 1) := by decide +kernel
theorem dX9_bounce_84 : decode cX9_bounce 84 = .ok (.iastore, 1) := by decide +kernel
theorem dX9_bounce_85 : decode cX9_bounce 85 = .ok (.aload_n 0, 1) := by decide +kernel
theorem dX9_bounce_86 : decode cX9_bounce 86 = .ok (.getfield 59, 3) := by decide +kernel
theorem dX9_bounce_89 : decode cX9_bounce 89 = .ok (.iload_n 3, 1) := by decide +kernel
theorem dX9_bounce_90 : decode cX9_bounce 90 = .ok (.dup2, 1) := by decide +kernel
theorem dX9_bounce_91 : decode cX9_bounce 91 = .ok (.iaload, 1) := by decide +kernel
theorem dX9_bounce_92 : decode cX9_bounce 92 = .ok (.aload_n 0, 1) := by decide +kernel
theorem dX9_bounce_93 : decode cX9_bounce 93 = .ok (.getfield 65, 3) := by decide +kernel
theorem dX9_bounce_96 : decode cX9_bounce 96 = .ok (.iload_n 1, 1) := by decide +kernel
theorem dX9_bounce_97 : decode cX9_bounce 97 = .ok (.iaload, 1) := by decide +kernel
theorem dX9_bounce_98 : decode cX9_bounce 98 = .ok (.iload 4, 2) := by decide +kernel
theorem dX9_bounce_100 : decode cX9_bounce 100 = .ok (.isub, 1) := by decide +kernel
theorem dX9_bounce_101 : decode cX9_bounce 101 = .ok (.iadd, 1) := by decide +kernel
theorem dX9_bounce_102 : decode cX9_bounce 102 = .ok (.iastore, 1) := by decide +kernel
theorem dX9_bounce_103 : decode cX9_bounce 103 = .ok (.aload_n 0, 1) := by decide +kernel
theorem dX9_bounce_104 : decode cX9_bounce 104 = .ok (.getfield 59, 3) := by decide +kernel
theorem dX9_bounce_107 : decode cX9_bounce 107 = .ok (.iload_n 3, 1) := by decide +kernel
theorem dX9_bounce_108 : decode cX9_bounce 108 = .ok (.iaload, 1) := by decide +kernel
theorem dX9_bounce_109 : decode cX9_bounce 109 = .ok (.ireturn, 1) := by decide +kernel
set_option maxRecDepth 20000 in
theorem ggX9_pot_X9_isEmployer : GoodIn wsX9_pot wsX9_isEmployer := goodIn_r _ [5, 6, 7, 4, 8] (by decide +kernel) (by decide +kernel)
set_option maxRecDepth 20000 in
theorem gX9_pot_X9_isEmployer : GoodIn wsX9_pot (va_wsS RX9 113 yX9_isEmployer wsX9_isEmployer) := goodIn_app (goodIn_of _ (by decide +kernel)) ggX9_pot_X9_isEmployer
set_option maxRecDepth 20000 in
theorem ggX9_pot_X9_holds : GoodIn wsX9_pot wsX9_holds := goodIn_r _ [12, 13, 14, 15, 16, 17, 18, 19, 20, 21, 22, 23, 24, 25, 26, 27, 28, 29, 30, 31, 32, 33, 34, 35, 36, 37, 38] (by decide +kernel) (by decide +kernel)
set_option maxRecDepth 20000 in
theorem gX9_pot_X9_holds : GoodIn wsX9_pot (wsV RX9 82 RX9 yX9_holds wsX9_holds) := goodIn_app (goodIn_of _ (by decide +kernel)) ggX9_pot_X9_holds
theorem dX9_pot_0 : decode cX9_pot 0 = .ok (.aload_n 0, 1) := by decide +kernel
theorem dX9_pot_1 : decode cX9_pot 1 = .ok (.iload_n 1, 1) := by decide +kernel
theorem dX9_pot_2 : decode cX9_pot 2 = .ok (.invokestatic 113, 3) := by decide +kernel
theorem dX9_pot_5 : decode cX9_pot 5 = .ok (.ifCond .eq 7, 3) := by decide +kernel
theorem dX9_pot_8 : decode cX9_pot 8 = .ok (.iconst 0, 1) := by decide +kernel
theorem dX9_pot_9 : decode cX9_pot 9 = .ok (.goto 4, 3) := by decide +kernel
theorem dX9_pot_12 : decode cX9_pot 12 = .ok (.iconst 1, 1) := by decide +kernel
theorem dX9_pot_13 : decode cX9_pot 13 = .ok (.invokevirtual 82, 3) := by decide +kernel
theorem dX9_pot_16 : decode cX9_pot 16 = .ok (.ifCond .eq 12, 3) := by decide +kernel
theorem dX9_pot_19 : decode cX9_pot 19 = .ok (.aload_n 0, 1) := by decide +kernel
theorem dX9_pot_20 : decode cX9_pot 20 = .ok (.getfield 56, 3) := by decide +kernel
theorem dX9_pot_23 : decode cX9_pot 23 = .ok (.iload_n 1, 1) := by decide +kernel
theorem dX9_pot_24 : decode cX9_pot 24 = .ok (.iaload, 1) := by decide +kernel
theorem dX9_pot_25 : decode cX9_pot 25 = .ok (.goto 4, 3) := by decide +kernel
theorem dX9_pot_28 : decode cX9_pot 28 = .ok (.iconst 0, 1) := by decide +kernel
theorem dX9_pot_29 : decode cX9_pot 29 = .ok (.ireturn, 1) := by decide +kernel
set_option maxRecDepth 20000 in
theorem ggX9_shortage_X9_isEmployer : GoodIn wsX9_shortage wsX9_isEmployer := goodIn_r _ [5, 6, 7, 4, 8] (by decide +kernel) (by decide +kernel)
set_option maxRecDepth 20000 in
theorem gX9_shortage_X9_isEmployer : GoodIn wsX9_shortage (va_wsS RX9 113 yX9_isEmployer wsX9_isEmployer) := goodIn_app (goodIn_of _ (by decide +kernel)) ggX9_shortage_X9_isEmployer
set_option maxRecDepth 20000 in
theorem ggX9_shortage_X9_holds : GoodIn wsX9_shortage wsX9_holds := goodIn_r _ [12, 13, 14, 15, 16, 17, 18, 19, 20, 21, 22, 23, 24, 25, 26, 27, 28, 29, 30, 31, 32, 33, 34, 35, 36, 37, 38] (by decide +kernel) (by decide +kernel)
set_option maxRecDepth 20000 in
theorem gX9_shortage_X9_holds : GoodIn wsX9_shortage (wsV RX9 82 RX9 yX9_holds wsX9_holds) := goodIn_app (goodIn_of _ (by decide +kernel)) ggX9_shortage_X9_holds
theorem dX9_shortage_0 : decode cX9_shortage 0 = .ok (.aload_n 0, 1) := by decide +kernel
theorem dX9_shortage_1 : decode cX9_shortage 1 = .ok (.iload_n 1, 1) := by decide +kernel
theorem dX9_shortage_2 : decode cX9_shortage 2 = .ok (.invokestatic 113, 3) := by decide +kernel
theorem dX9_shortage_5 : decode cX9_shortage 5 = .ok (.ifCond .eq 7, 3) := by decide +kernel
theorem dX9_shortage_8 : decode cX9_shortage 8 = .ok (.iconst 0, 1) := by decide +kernel
theorem dX9_shortage_9 : decode cX9_shortage 9 = .ok (.goto 4, 3) := by decide +kernel
theorem dX9_shortage_12 : decode cX9_shortage 12 = .ok (.iconst 1, 1) := by decide +kernel
theorem dX9_shortage_13 : decode cX9_shortage 13 = .ok (.invokevirtual 82, 3) := by decide +kernel
theorem dX9_shortage_16 : decode cX9_shortage 16 = .ok (.ifCond .eq 12, 3) := by decide +kernel
theorem dX9_shortage_19 : decode cX9_shortage 19 = .ok (.aload_n 0, 1) := by decide +kernel
theorem dX9_shortage_20 : decode cX9_shortage 20 = .ok (.getfield 59, 3) := by decide +kernel
theorem dX9_shortage_23 : decode cX9_shortage 23 = .ok (.iload_n 1, 1) := by decide +kernel
theorem dX9_shortage_24 : decode cX9_shortage 24 = .ok (.iaload, 1) := by decide +kernel
theorem dX9_shortage_25 : decode cX9_shortage 25 = .ok (.goto 4, 3) := by decide +kernel
theorem dX9_shortage_28 : decode cX9_shortage 28 = .ok (.iconst 0, 1) := by decide +kernel
theorem dX9_shortage_29 : decode cX9_shortage 29 = .ok (.ireturn, 1) := by decide +kernel
set_option maxRecDepth 20000 in
theorem ggX9_claimOf_X9_dueFor : GoodIn wsX9_claimOf wsX9_dueFor := goodIn_r _ [7, 8, 9, 10, 11, 12, 13, 14, 15, 6, 16, 17, 18, 19, 20, 21, 22, 23, 24, 25, 26, 27, 28, 29, 30, 31, 32, 33, 34, 35, 36, 37, 38, 39, 40, 41, 42, 43, 44, 45] (by decide +kernel) (by decide +kernel)
set_option maxRecDepth 20000 in
theorem gX9_claimOf_X9_dueFor : GoodIn wsX9_claimOf (wsV RX9 104 RX9 yX9_dueFor wsX9_dueFor) := goodIn_app (goodIn_of _ (by decide +kernel)) ggX9_claimOf_X9_dueFor
theorem dX9_claimOf_0 : decode cX9_claimOf 0 = .ok (.iconst 0, 1) := by decide +kernel
theorem dX9_claimOf_1 : decode cX9_claimOf 1 = .ok (.istore_n 2, 1) := by decide +kernel
theorem dX9_claimOf_2 : decode cX9_claimOf 2 = .ok (.iconst 0, 1) := by decide +kernel
theorem dX9_claimOf_3 : decode cX9_claimOf 3 = .ok (.istore_n 3, 1) := by decide +kernel
theorem dX9_claimOf_4 : decode cX9_claimOf 4 = .ok (.iload_n 3, 1) := by decide +kernel
theorem dX9_claimOf_5 : decode cX9_claimOf 5 = .ok (.aload_n 0, 1) := by decide +kernel
theorem dX9_claimOf_6 : decode cX9_claimOf 6 = .ok (.getfield 122, 3) := by decide +kernel
theorem dX9_claimOf_9 : decode cX9_claimOf 9 = .ok (.if_icmp .gt 24, 3) := by decide +kernel
theorem dX9_claimOf_12 : decode cX9_claimOf 12 = .ok (.iload_n 3, 1) := by decide +kernel
theorem dX9_claimOf_13 : decode cX9_claimOf 13 = .ok (.bipush 31, 2) := by decide +kernel
theorem dX9_claimOf_15 : decode cX9_claimOf 15 = .ok (.if_icmp .ge 18, 3) := by decide +kernel
theorem dX9_claimOf_18 : decode cX9_claimOf 18 = .ok (.iload_n 2, 1) := by decide +kernel
theorem dX9_claimOf_19 : decode cX9_claimOf 19 = .ok (.aload_n 0, 1) := by decide +kernel
theorem dX9_claimOf_20 : decode cX9_claimOf 20 = .ok (.iload_n 1, 1) := by decide +kernel
theorem dX9_claimOf_21 : decode cX9_claimOf 21 = .ok (.iload_n 3, 1) := by decide +kernel
theorem dX9_claimOf_22 : decode cX9_claimOf 22 = .ok (.invokevirtual 104, 3) := by decide +kernel
theorem dX9_claimOf_25 : decode cX9_claimOf 25 = .ok (.iadd, 1) := by decide +kernel
theorem dX9_claimOf_26 : decode cX9_claimOf 26 = .ok (.istore_n 2, 1) := by decide +kernel
theorem dX9_claimOf_27 : decode cX9_claimOf 27 = .ok (.iinc 3 1, 3) := by decide +kernel
theorem dX9_claimOf_30 : decode cX9_claimOf 30 = .ok (.goto (-26), 3) := by decide +kernel
theorem dX9_claimOf_33 : decode cX9_claimOf 33 = .ok (.iload_n 2, 1) := by decide +kernel
theorem dX9_claimOf_34 : decode cX9_claimOf 34 = .ok (.aload_n 0, 1) := by decide +kernel
theorem dX9_claimOf_35 : decode cX9_claimOf 35 = .ok (.getfield 31, 3) := by decide +kernel
theorem dX9_claimOf_38 : decode cX9_claimOf 38 = .ok (.iload_n 1, 1) := by decide +kernel
theorem dX9_claimOf_39 : decode cX9_claimOf 39 = .ok (.iaload, 1) := by decide +kernel
theorem dX9_claimOf_40 : decode cX9_claimOf 40 = .ok (.isub, 1) := by decide +kernel
theorem dX9_claimOf_41 : decode cX9_claimOf 41 = .ok (.ireturn, 1) := by decide +kernel
set_option maxRecDepth 20000 in
theorem ggX9_garnishes_X9_least : GoodIn wsX9_garnishes wsX9_least := goodIn_r _ [10] (by decide +kernel) (by decide +kernel)
set_option maxRecDepth 20000 in
theorem gX9_garnishes_X9_least : GoodIn wsX9_garnishes (va_wsS RX9 119 yX9_least wsX9_least) := goodIn_app (goodIn_of _ (by decide +kernel)) ggX9_garnishes_X9_least
theorem dX9_garnishes_0 : decode cX9_garnishes 0 = .ok (.iload_n 2, 1) := by decide +kernel
theorem dX9_garnishes_1 : decode cX9_garnishes 1 = .ok (.istore_n 3, 1) := by decide +kernel
theorem dX9_garnishes_2 : decode cX9_garnishes 2 = .ok (.iconst 0, 1) := by decide +kernel
theorem dX9_garnishes_3 : decode cX9_garnishes 3 = .ok (.istore 4, 2) := by decide +kernel
theorem dX9_garnishes_5 : decode cX9_garnishes 5 = .ok (.iload 4, 2) := by decide +kernel
theorem dX9_garnishes_7 : decode cX9_garnishes 7 = .ok (.iconst 3, 1) := by decide +kernel
theorem dX9_garnishes_8 : decode cX9_garnishes 8 = .ok (.aload_n 0, 1) := by decide +kernel
theorem dX9_garnishes_9 : decode cX9_garnishes 9 = .ok (.getfield 110, 3) := by decide +kernel
theorem dX9_garnishes_12 : decode cX9_garnishes 12 = .ok (.imul, 1) := by decide +kernel
theorem dX9_garnishes_13 : decode cX9_garnishes 13 = .ok (.if_icmp .ge 123, 3) := by decide +kernel
theorem dX9_garnishes_16 : decode cX9_garnishes 16 = .ok (.iload 4, 2) := by decide +kernel
theorem dX9_garnishes_18 : decode cX9_garnishes 18 = .ok (.aload_n 0, 1) := by decide +kernel
theorem dX9_garnishes_19 : decode cX9_garnishes 19 = .ok (.getfield 110, 3) := by decide +kernel
theorem dX9_garnishes_22 : decode cX9_garnishes 22 = .ok (.irem, 1) := by decide +kernel
theorem dX9_garnishes_23 : decode cX9_garnishes 23 = .ok (.istore 5, 2) := by decide +kernel
theorem dX9_garnishes_25 : decode cX9_garnishes 25 = .ok (.aload_n 0, 1) := by decide +kernel
theorem dX9_garnishes_26 : decode cX9_garnishes 26 = .ok (.getfield 40, 3) := by decide +kernel
theorem dX9_garnishes_29 : decode cX9_garnishes 29 = .ok (.iload 5, 2) := by decide +kernel
theorem dX9_garnishes_31 : decode cX9_garnishes 31 = .ok (.iaload, 1) := by decide +kernel
theorem dX9_garnishes_32 : decode cX9_garnishes 32 = .ok (.iload_n 1, 1) := by decide +kernel
theorem dX9_garnishes_33 : decode cX9_garnishes 33 = .ok (.if_icmp .ne 24, 3) := by decide +kernel
theorem dX9_garnishes_36 : decode cX9_garnishes 36 = .ok (.aload_n 0, 1) := by decide +kernel
theorem dX9_garnishes_37 : decode cX9_garnishes 37 = .ok (.getfield 43, 3) := by decide +kernel
theorem dX9_garnishes_40 : decode cX9_garnishes 40 = .ok (.iload 5, 2) := by decide +kernel
theorem dX9_garnishes_42 : decode cX9_garnishes 42 = .ok (.iaload, 1) := by decide +kernel
theorem dX9_garnishes_43 : decode cX9_garnishes 43 = .ok (.iload 4, 2) := by decide +kernel
theorem dX9_garnishes_45 : decode cX9_garnishes 45 = .ok (.aload_n 0, 1) := by decide +kernel
theorem dX9_garnishes_46 : decode cX9_garnishes 46 = .ok (.getfield 110, 3) := by decide +kernel
theorem dX9_garnishes_49 : decode cX9_garnishes 49 = .ok (.idiv, 1) := by decide +kernel
theorem dX9_garnishes_50 : decode cX9_garnishes 50 = .ok (.if_icmp .ne 7, 3) := by decide +kernel
theorem dX9_garnishes_53 : decode cX9_garnishes 53 = .ok (.iconst 1, 1) := by decide +kernel
theorem dX9_garnishes_54 : decode cX9_garnishes 54 = .ok (.goto 4, 3) := by decide +kernel
theorem dX9_garnishes_57 : decode cX9_garnishes 57 = .ok (.iconst 0, 1) := by decide +kernel
theorem dX9_garnishes_58 : decode cX9_garnishes 58 = .ok (.istore 6, 2) := by decide +kernel
theorem dX9_garnishes_60 : decode cX9_garnishes 60 = .ok (.iload_n 3, 1) := by decide +kernel
theorem dX9_garnishes_61 : decode cX9_garnishes 61 = .ok (.aload_n 0, 1) := by decide +kernel
theorem dX9_garnishes_62 : decode cX9_garnishes 62 = .ok (.getfield 52, 3) := by decide +kernel
theorem dX9_garnishes_65 : decode cX9_garnishes 65 = .ok (.if_icmp .le 12, 3) := by decide +kernel
theorem dX9_garnishes_68 : decode cX9_garnishes 68 = .ok (.iload_n 3, 1) := by decide +kernel
theorem dX9_garnishes_69 : decode cX9_garnishes 69 = .ok (.aload_n 0, 1) := by decide +kernel
theorem dX9_garnishes_70 : decode cX9_garnishes 70 = .ok (.getfield 52, 3) := by decide +kernel
theorem dX9_garnishes_73 : decode cX9_garnishes 73 = .ok (.isub, 1) := by decide +kernel
theorem dX9_garnishes_74 : decode cX9_garnishes 74 = .ok (.goto 4, 3) := by decide +kernel
theorem dX9_garnishes_77 : decode cX9_garnishes 77 = .ok (.iconst 0, 1) := by decide +kernel
theorem dX9_garnishes_78 : decode cX9_garnishes 78 = .ok (.istore 7, 2) := by decide +kernel
theorem dX9_garnishes_80 : decode cX9_garnishes 80 = .ok (.iload 6, 2) := by decide +kernel
theorem dX9_garnishes_82 : decode cX9_garnishes 82 = .ok (.ifCond .eq 28, 3) := by decide +kernel
theorem dX9_garnishes_85 : decode cX9_garnishes 85 = .ok (.aload_n 0, 1) := by decide +kernel
theorem dX9_garnishes_86 : decode cX9_garnishes 86 = .ok (.getfield 46, 3) := by decide +kernel
theorem dX9_garnishes_89 : decode cX9_garnishes 89 = .ok (.iload 5, 2) := by decide +kernel
theorem dX9_garnishes_91 : decode cX9_garnishes 91 = .ok (.iaload, 1) := by decide +kernel
theorem dX9_garnishes_92 : decode cX9_garnishes 92 = .ok (.aload_n 0, 1) := by decide +kernel
theorem dX9_garnishes_93 : decode cX9_garnishes 93 = .ok (.getfield 49, 3) := by decide +kernel
theorem dX9_garnishes_96 : decode cX9_garnishes 96 = .ok (.iload 5, 2) := by decide +kernel
theorem dX9_garnishes_98 : decode cX9_garnishes 98 = .ok (.iaload, 1) := by decide +kernel
theorem dX9_garnishes_99 : decode cX9_garnishes 99 = .ok (.invokestatic 119, 3) := by decide +kernel
theorem dX9_garnishes_102 : decode cX9_garnishes 102 = .ok (.iload 7, 2) := by decide +kernel
theorem dX9_garnishes_104 : decode cX9_garnishes 104 = .ok (.invokestatic 119, 3) := by decide +kernel
theorem dX9_garnishes_107 : decode cX9_garnishes 107 = .ok (.goto 4, 3) := by decide +kernel
theorem dX9_garnishes_110 : decode cX9_garnishes 110 = .ok (.iconst 0, 1) := by decide +kernel
theorem dX9_garnishes_111 : decode cX9_garnishes 111 = .ok (.istore 8, 2) := by decide +kernel
theorem dX9_garnishes_113 : decode cX9_garnishes 113 = .ok (.aload_n 0, 1) := by decide +kernel
theorem dX9_garnishes_114 : decode cX9_garnishes 114 = .ok (.getfield 46, 3) := by decide +kernel
theorem dX9_garnishes_117 : decode cX9_garnishes 117 = .ok (.iload 5, 2) := by decide +kernel
theorem dX9_garnishes_119 : decode cX9_garnishes 119 = .ok (.dup2, 1) := by decide +kernel
theorem dX9_garnishes_120 : decode cX9_garnishes 120 = .ok (.iaload, 1) := by decide +kernel
theorem dX9_garnishes_121 : decode cX9_garnishes 121 = .ok (.iload 8, 2) := by decide +kernel
theorem dX9_garnishes_123 : decode cX9_garnishes 123 = .ok (.isub, 1) := by decide +kernel
theorem dX9_garnishes_124 : decode cX9_garnishes 124 = .ok (.iastore, 1) := by decide +kernel
theorem dX9_garnishes_125 : decode cX9_garnishes 125 = .ok (.iload_n 3, 1) := by decide +kernel
theorem dX9_garnishes_126 : decode cX9_garnishes 126 = .ok (.iload 8, 2) := by decide +kernel
theorem dX9_garnishes_128 : decode cX9_garnishes 128 = .ok (.isub, 1) := by decide +kernel
theorem dX9_garnishes_129 : decode cX9_garnishes 129 = .ok (.istore_n 3, 1) := by decide +kernel
theorem dX9_garnishes_130 : decode cX9_garnishes 130 = .ok (.iinc 4 1, 3) := by decide +kernel
theorem dX9_garnishes_133 : decode cX9_garnishes 133 = .ok (.goto (-128), 3) := by decide +kernel
theorem dX9_garnishes_136 : decode cX9_garnishes 136 = .ok (.iload_n 2, 1) := by decide +kernel
theorem dX9_garnishes_137 : decode cX9_garnishes 137 = .ok (.iload_n 3, 1) := by decide +kernel
theorem dX9_garnishes_138 : decode cX9_garnishes 138 = .ok (.isub, 1) := by decide +kernel
theorem dX9_garnishes_139 : decode cX9_garnishes 139 = .ok (.ireturn, 1) := by decide +kernel
set_option maxRecDepth 20000 in
theorem ggX9_pays_X9_least : GoodIn wsX9_pays wsX9_least := goodIn_r _ [10] (by decide +kernel) (by decide +kernel)
set_option maxRecDepth 20000 in
theorem gX9_pays_X9_least : GoodIn wsX9_pays (va_wsS RX9 119 yX9_least wsX9_least) := goodIn_app (goodIn_of _ (by decide +kernel)) ggX9_pays_X9_least
set_option maxRecDepth 20000 in
theorem ggX9_pays_X9_garnishes : GoodIn wsX9_pays wsX9_garnishes := goodIn_r _ [14, 15, 16, 17, 18, 19, 20, 7, 8, 9, 10, 21, 22, 23, 24, 25, 26, 27, 28, 29, 30, 31, 32, 33, 34, 35, 36, 37, 38, 39, 40, 41, 42, 43, 44, 45] (by decide +kernel) (by decide +kernel)
set_option maxRecDepth 20000 in
theorem gX9_pays_X9_garnishes : GoodIn wsX9_pays (wsV RX9 125 RX9 yX9_garnishes wsX9_garnishes) := goodIn_app (goodIn_of _ (by decide +kernel)) ggX9_pays_X9_garnishes
theorem dX9_pays_0 : decode cX9_pays 0 = .ok (.aload_n 0, 1) := by decide +kernel
theorem dX9_pays_1 : decode cX9_pays 1 = .ok (.getfield 7, 3) := by decide +kernel
theorem dX9_pays_4 : decode cX9_pays 4 = .ok (.iload_n 1, 1) := by decide +kernel
theorem dX9_pays_5 : decode cX9_pays 5 = .ok (.iaload, 1) := by decide +kernel
theorem dX9_pays_6 : decode cX9_pays 6 = .ok (.istore_n 3, 1) := by decide +kernel
theorem dX9_pays_7 : decode cX9_pays 7 = .ok (.iconst 4, 1) := by decide +kernel
theorem dX9_pays_8 : decode cX9_pays 8 = .ok (.bipush 31, 2) := by decide +kernel
theorem dX9_pays_10 : decode cX9_pays 10 = .ok (.iload_n 1, 1) := by decide +kernel
theorem dX9_pays_11 : decode cX9_pays 11 = .ok (.imul, 1) := by decide +kernel
theorem dX9_pays_12 : decode cX9_pays 12 = .ok (.aload_n 0, 1) := by decide +kernel
theorem dX9_pays_13 : decode cX9_pays 13 = .ok (.getfield 122, 3) := by decide +kernel
theorem dX9_pays_16 : decode cX9_pays 16 = .ok (.iadd, 1) := by decide +kernel
theorem dX9_pays_17 : decode cX9_pays 17 = .ok (.imul, 1) := by decide +kernel
theorem dX9_pays_18 : decode cX9_pays 18 = .ok (.istore 4, 2) := by decide +kernel
theorem dX9_pays_20 : decode cX9_pays 20 = .ok (.aload_n 0, 1) := by decide +kernel
theorem dX9_pays_21 : decode cX9_pays 21 = .ok (.getfield 34, 3) := by decide +kernel
theorem dX9_pays_24 : decode cX9_pays 24 = .ok (.iload_n 1, 1) := by decide +kernel
theorem dX9_pays_25 : decode cX9_pays 25 = .ok (.iaload, 1) := by decide +kernel
theorem dX9_pays_26 : decode cX9_pays 26 = .ok (.iload_n 2, 1) := by decide +kernel
theorem dX9_pays_27 : decode cX9_pays 27 = .ok (.bipush 10, 2) := by decide +kernel
theorem dX9_pays_29 : decode cX9_pays 29 = .ok (.idiv, 1) := by decide +kernel
theorem dX9_pays_30 : decode cX9_pays 30 = .ok (.invokestatic 119, 3) := by decide +kernel
theorem dX9_pays_33 : decode cX9_pays 33 = .ok (.istore 5, 2) := by decide +kernel
theorem dX9_pays_35 : decode cX9_pays 35 = .ok (.aload_n 0, 1) := by decide +kernel
theorem dX9_pays_36 : decode cX9_pays 36 = .ok (.getfield 31, 3) := by decide +kernel
theorem dX9_pays_39 : decode cX9_pays 39 = .ok (.iload_n 1, 1) := by decide +kernel
theorem dX9_pays_40 : decode cX9_pays 40 = .ok (.dup2, 1) := by decide +kernel
theorem dX9_pays_41 : decode cX9_pays 41 = .ok (.iaload, 1) := by decide +kernel
theorem dX9_pays_42 : decode cX9_pays 42 = .ok (.iload_n 2, 1) := by decide +kernel
theorem dX9_pays_43 : decode cX9_pays 43 = .ok (.iadd, 1) := by decide +kernel
theorem dX9_pays_44 : decode cX9_pays 44 = .ok (.iastore, 1) := by decide +kernel
theorem dX9_pays_45 : decode cX9_pays 45 = .ok (.aload_n 0, 1) := by decide +kernel
theorem dX9_pays_46 : decode cX9_pays 46 = .ok (.getfield 34, 3) := by decide +kernel
theorem dX9_pays_49 : decode cX9_pays 49 = .ok (.iload_n 1, 1) := by decide +kernel
theorem dX9_pays_50 : decode cX9_pays 50 = .ok (.dup2, 1) := by decide +kernel
theorem dX9_pays_51 : decode cX9_pays 51 = .ok (.iaload, 1) := by decide +kernel
theorem dX9_pays_52 : decode cX9_pays 52 = .ok (.iload 5, 2) := by decide +kernel
theorem dX9_pays_54 : decode cX9_pays 54 = .ok (.isub, 1) := by decide +kernel
theorem dX9_pays_55 : decode cX9_pays 55 = .ok (.iastore, 1) := by decide +kernel
theorem dX9_pays_56 : decode cX9_pays 56 = .ok (.aload_n 0, 1) := by decide +kernel
theorem dX9_pays_57 : decode cX9_pays 57 = .ok (.getfield 56, 3) := by decide +kernel
theorem dX9_pays_60 : decode cX9_pays 60 = .ok (.iload_n 3, 1) := by decide +kernel
theorem dX9_pays_61 : decode cX9_pays 61 = .ok (.dup2, 1) := by decide +kernel
theorem dX9_pays_62 : decode cX9_pays 62 = .ok (.iaload, 1) := by decide +kernel
theorem dX9_pays_63 : decode cX9_pays 63 = .ok (.iload 5, 2) := by decide +kernel
theorem dX9_pays_65 : decode cX9_pays 65 = .ok (.iload_n 2, 1) := by decide +kernel
theorem dX9_pays_66 : decode cX9_pays 66 = .ok (.isub, 1) := by decide +kernel
theorem dX9_pays_67 : decode cX9_pays 67 = .ok (.iadd, 1) := by decide +kernel
theorem dX9_pays_68 : decode cX9_pays 68 = .ok (.iastore, 1) := by decide +kernel
theorem dX9_pays_69 : decode cX9_pays 69 = .ok (.aload_n 0, 1) := by decide +kernel
theorem dX9_pays_70 : decode cX9_pays 70 = .ok (.getfield 37, 3) := by decide +kernel
theorem dX9_pays_73 : decode cX9_pays 73 = .ok (.iload 4, 2) := by decide +kernel
theorem dX9_pays_75 : decode cX9_pays 75 = .ok (.iconst 0, 1) := by decide +kernel
theorem dX9_pays_76 : decode cX9_pays 76 = .ok (.iadd, 1) := by decide +kernel
theorem dX9_pays_77 : decode cX9_pays 77 = .ok (.iload_n 2, 1) := by decide +kernel
theorem dX9_pays_78 : decode cX9_pays 78 = .ok (.iastore, 1) := by decide +kernel
theorem dX9_pays_79 : decode cX9_pays 79 = .ok (.aload_n 0, 1) := by decide +kernel
theorem dX9_pays_80 : decode cX9_pays 80 = .ok (.getfield 37, 3) := by decide +kernel
theorem dX9_pays_83 : decode cX9_pays 83 = .ok (.iload 4, 2) := by decide +kernel
theorem dX9_pays_85 : decode cX9_pays 85 = .ok (.iconst 1, 1) := by decide +kernel
theorem dX9_pays_86 : decode cX9_pays 86 = .ok (.iadd, 1) := by decide +kernel
theorem dX9_pays_87 : decode cX9_pays 87 = .ok (.iload 5, 2) := by decide +kernel
theorem dX9_pays_89 : decode cX9_pays 89 = .ok (.iastore, 1) := by decide +kernel
theorem dX9_pays_90 : decode cX9_pays 90 = .ok (.aload_n 0, 1) := by decide +kernel
theorem dX9_pays_91 : decode cX9_pays 91 = .ok (.getfield 37, 3) := by decide +kernel
theorem dX9_pays_94 : decode cX9_pays 94 = .ok (.iload 4, 2) := by decide +kernel
theorem dX9_pays_96 : decode cX9_pays 96 = .ok (.iconst 2, 1) := by decide +kernel
theorem dX9_pays_97 : decode cX9_pays 97 = .ok (.iadd, 1) := by decide +kernel
theorem dX9_pays_98 : decode cX9_pays 98 = .ok (.aload_n 0, 1) := by decide +kernel
theorem dX9_pays_99 : decode cX9_pays 99 = .ok (.iload_n 1, 1) := by decide +kernel
theorem dX9_pays_100 : decode cX9_pays 100 = .ok (.iload_n 2, 1) := by decide +kernel
theorem dX9_pays_101 : decode cX9_pays 101 = .ok (.iload 5, 2) := by decide +kernel
theorem dX9_pays_103 : decode cX9_pays 103 = .ok (.isub, 1) := by decide +kernel
theorem dX9_pays_104 : decode cX9_pays 104 = .ok (.invokevirtual 125, 3) := by decide +kernel
theorem dX9_pays_107 : decode cX9_pays 107 = .ok (.iastore, 1) := by decide +kernel
theorem dX9_pays_108 : decode cX9_pays 108 = .ok (.aload_n 0, 1) := by decide +kernel
theorem dX9_pays_109 : decode cX9_pays 109 = .ok (.getfield 37, 3) := by decide +kernel
theorem dX9_pays_112 : decode cX9_pays 112 = .ok (.iload 4, 2) := by decide +kernel
theorem dX9_pays_114 : decode cX9_pays 114 = .ok (.iconst 3, 1) := by decide +kernel
theorem dX9_pays_115 : decode cX9_pays 115 = .ok (.iadd, 1) := by decide +kernel
theorem dX9_pays_116 : decode cX9_pays 116 = .ok (.iload_n 2, 1) := by decide +kernel
theorem dX9_pays_117 : decode cX9_pays 117 = .ok (.iload 5, 2) := by decide +kernel
theorem dX9_pays_119 : decode cX9_pays 119 = .ok (.isub, 1) := by decide +kernel
theorem dX9_pays_120 : decode cX9_pays 120 = .ok (.aload_n 0, 1) := by decide +kernel
theorem dX9_pays_121 : decode cX9_pays 121 = .ok (.getfield 37, 3) := by decide +kernel
theorem dX9_pays_124 : decode cX9_pays 124 = .ok (.iload 4, 2) := by decide +kernel
theorem dX9_pays_126 : decode cX9_pays 126 = .ok (.iconst 2, 1) := by decide +kernel
theorem dX9_pays_127 : decode cX9_pays 127 = .ok (.iadd, 1) := by decide +kernel
theorem dX9_pays_128 : decode cX9_pays 128 = .ok (.iaload, 1) := by decide +kernel
theorem dX9_pays_129 : decode cX9_pays 129 = .ok (.isub, 1) := by decide +kernel
theorem dX9_pays_130 : decode cX9_pays 130 = .ok (.iastore, 1) := by decide +kernel
theorem dX9_pays_131 : decode cX9_pays 131 = .ok (.return_, 1) := by decide +kernel
set_option maxRecDepth 20000 in
theorem ggX9_close_X9_holds : GoodIn wsX9_close wsX9_holds := goodIn_r _ [11, 12, 52, 53, 54, 55, 56, 57, 58, 59, 60, 61, 62, 63, 64, 65, 66, 67, 68, 69, 70, 71, 72, 73, 74, 75, 76] (by decide +kernel) (by decide +kernel)
set_option maxRecDepth 20000 in
theorem gX9_close_X9_holds : GoodIn wsX9_close (wsV RX9 82 RX9 yX9_holds wsX9_holds) := goodIn_app (goodIn_of _ (by decide +kernel)) ggX9_close_X9_holds
set_option maxRecDepth 20000 in
theorem ggX9_close_X9_claimOf : GoodIn wsX9_close wsX9_claimOf := goodIn_r _ [16, 1, 4, 17, 18, 19, 10, 20, 21, 22, 23, 24, 25, 26, 27, 28, 29, 30, 31, 32, 33, 52, 53, 54, 55, 56, 57, 58, 59, 60, 61, 62, 63, 64, 65, 66, 67, 68, 69, 70, 71, 72, 73, 74, 75, 76] (by decide +kernel) (by decide +kernel)
set_option maxRecDepth 20000 in
theorem gX9_close_X9_claimOf : GoodIn wsX9_close (wsV RX9 128 RX9 yX9_claimOf wsX9_claimOf) := goodIn_app (goodIn_of _ (by decide +kernel)) ggX9_close_X9_claimOf
set_option maxRecDepth 20000 in
theorem ggX9_close_X9_pays : GoodIn wsX9_close wsX9_pays := goodIn_r _ [37, 6, 1, 3, 4, 5, 38, 39, 40, 10, 41, 42, 43, 44, 45, 46, 47, 48, 49, 50, 51, 52, 53, 54, 55, 56, 57, 58, 59, 60, 61, 62, 63, 64, 65, 66, 67, 68, 69, 70, 71, 72, 73, 74, 75, 76] (by decide +kernel) (by decide +kernel)
set_option maxRecDepth 20000 in
theorem gX9_close_X9_pays : GoodIn wsX9_close (wsV RX9 131 RX9 yX9_pays wsX9_pays) := goodIn_app (goodIn_of _ (by decide +kernel)) ggX9_close_X9_pays
theorem dX9_close_0 : decode cX9_close 0 = .ok (.aload_n 0, 1) := by decide +kernel
theorem dX9_close_1 : decode cX9_close 1 = .ok (.aload_n 0, 1) := by decide +kernel
theorem dX9_close_2 : decode cX9_close 2 = .ok (.getfield 122, 3) := by decide +kernel
theorem dX9_close_5 : decode cX9_close 5 = .ok (.bipush 31, 2) := by decide +kernel
theorem dX9_close_7 : decode cX9_close 7 = .ok (.if_icmp .ne 7, 3) := by decide +kernel
theorem dX9_close_10 : decode cX9_close 10 = .ok (.iconst 1, 1) := by decide +kernel
theorem dX9_close_11 : decode cX9_close 11 = .ok (.goto 4, 3) := by decide +kernel
theorem dX9_close_14 : decode cX9_close 14 = .ok (.iconst 0, 1) := by decide +kernel
theorem dX9_close_15 : decode cX9_close 15 = .ok (.invokevirtual 82, 3) := by decide +kernel
theorem dX9_close_18 : decode cX9_close 18 = .ok (.ifCond .ne 5, 3) := by decide +kernel
theorem dX9_close_21 : decode cX9_close 21 = .ok (.iconst 0, 1) := by decide +kernel
theorem dX9_close_22 : decode cX9_close 22 = .ok (.ireturn, 1) := by decide +kernel
theorem dX9_close_23 : decode cX9_close 23 = .ok (.iconst 0, 1) := by decide +kernel
theorem dX9_close_24 : decode cX9_close 24 = .ok (.istore_n 1, 1) := by decide +kernel
theorem dX9_close_25 : decode cX9_close 25 = .ok (.iconst 0, 1) := by decide +kernel
theorem dX9_close_26 : decode cX9_close 26 = .ok (.istore_n 2, 1) := by decide +kernel
theorem dX9_close_27 : decode cX9_close 27 = .ok (.iload_n 2, 1) := by decide +kernel
theorem dX9_close_28 : decode cX9_close 28 = .ok (.aload_n 0, 1) := by decide +kernel
theorem dX9_close_29 : decode cX9_close 29 = .ok (.getfield 75, 3) := by decide +kernel
theorem dX9_close_32 : decode cX9_close 32 = .ok (.if_icmp .ge 70, 3) := by decide +kernel
theorem dX9_close_35 : decode cX9_close 35 = .ok (.aload_n 0, 1) := by decide +kernel
theorem dX9_close_36 : decode cX9_close 36 = .ok (.iload_n 2, 1) := by decide +kernel
theorem dX9_close_37 : decode cX9_close 37 = .ok (.invokevirtual 128, 3) := by decide +kernel
theorem dX9_close_40 : decode cX9_close 40 = .ok (.istore_n 3, 1) := by decide +kernel
theorem dX9_close_41 : decode cX9_close 41 = .ok (.iload_n 3, 1) := by decide +kernel
theorem dX9_close_42 : decode cX9_close 42 = .ok (.ifCond .ge 26, 3) := by decide +kernel
theorem dX9_close_45 : decode cX9_close 45 = .ok (.aload_n 0, 1) := by decide +kernel
theorem dX9_close_46 : decode cX9_close 46 = .ok (.getfield 34, 3) := by decide +kernel
theorem dX9_close_49 : decode cX9_close 49 = .ok (.iload_n 2, 1) := by decide +kernel
theorem dX9_close_50 : decode cX9_close 50 = .ok (.dup2, 1) := by decide +kernel
theorem dX9_close_51 : decode cX9_close 51 = .ok (.iaload, 1) := by decide +kernel
theorem dX9_close_52 : decode cX9_close 52 = .ok (.iload_n 3, 1) := by decide +kernel
theorem dX9_close_53 : decode cX9_close 53 = .ok (.isub, 1) := by decide +kernel
theorem dX9_close_54 : decode cX9_close 54 = .ok (.iastore, 1) := by decide +kernel
theorem dX9_close_55 : decode cX9_close 55 = .ok (.aload_n 0, 1) := by decide +kernel
theorem dX9_close_56 : decode cX9_close 56 = .ok (.getfield 31, 3) := by decide +kernel
theorem dX9_close_59 : decode cX9_close 59 = .ok (.iload_n 2, 1) := by decide +kernel
theorem dX9_close_60 : decode cX9_close 60 = .ok (.dup2, 1) := by decide +kernel
theorem dX9_close_61 : decode cX9_close 61 = .ok (.iaload, 1) := by decide +kernel
theorem dX9_close_62 : decode cX9_close 62 = .ok (.iload_n 3, 1) := by decide +kernel
theorem dX9_close_63 : decode cX9_close 63 = .ok (.iadd, 1) := by decide +kernel
theorem dX9_close_64 : decode cX9_close 64 = .ok (.iastore, 1) := by decide +kernel
theorem dX9_close_65 : decode cX9_close 65 = .ok (.goto 31, 3) := by decide +kernel
theorem dX9_close_68 : decode cX9_close 68 = .ok (.iload_n 3, 1) := by decide +kernel
theorem dX9_close_69 : decode cX9_close 69 = .ok (.ifCond .le 27, 3) := by decide +kernel
theorem dX9_close_72 : decode cX9_close 72 = .ok (.aload_n 0, 1) := by decide +kernel
theorem dX9_close_73 : decode cX9_close 73 = .ok (.getfield 56, 3) := by decide +kernel
theorem dX9_close_76 : decode cX9_close 76 = .ok (.aload_n 0, 1) := by decide +kernel
theorem dX9_close_77 : decode cX9_close 77 = .ok (.getfield 7, 3) := by decide +kernel
theorem dX9_close_80 : decode cX9_close 80 = .ok (.iload_n 2, 1) := by decide +kernel
theorem dX9_close_81 : decode cX9_close 81 = .ok (.iaload, 1) := by decide +kernel
theorem dX9_close_82 : decode cX9_close 82 = .ok (.iaload, 1) := by decide +kernel
theorem dX9_close_83 : decode cX9_close 83 = .ok (.iload_n 3, 1) := by decide +kernel
theorem dX9_close_84 : decode cX9_close 84 = .ok (.if_icmp .lt 12, 3) := by decide +kernel
theorem dX9_close_87 : decode cX9_close 87 = .ok (.aload_n 0, 1) := by decide +kernel
theorem dX9_close_88 : decode cX9_close 88 = .ok (.iload_n 2, 1) := by decide +kernel
theorem dX9_close_89 : decode cX9_close 89 = .ok (.iload_n 3, 1) := by decide +kernel
theorem dX9_close_90 : decode cX9_close 90 = .ok (.invokevirtual 131, 3) := by decide +kernel
theorem dX9_close_93 : decode cX9_close 93 = .ok (.iinc 1 1, 3) := by decide +kernel
theorem dX9_close_96 : decode cX9_close 96 = .ok (.iinc 2 1, 3) := by decide +kernel
theorem dX9_close_99 : decode cX9_close 99 = .ok (.goto (-72), 3) := by decide +kernel
theorem dX9_close_102 : decode cX9_close 102 = .ok (.aload_n 0, 1) := by decide +kernel
theorem dX9_close_103 : decode cX9_close 103 = .ok (.dup, 1) := by decide +kernel
theorem dX9_close_104 : decode cX9_close 104 = .ok (.getfield 122, 3) := by decide +kernel
theorem dX9_close_107 : decode cX9_close 107 = .ok (.iconst 1, 1) := by decide +kernel
theorem dX9_close_108 : decode cX9_close 108 = .ok (.iadd, 1) := by decide +kernel
theorem dX9_close_109 : decode cX9_close 109 = .ok (.putfield 122, 3) := by decide +kernel
theorem dX9_close_112 : decode cX9_close 112 = .ok (.iload_n 1, 1) := by decide +kernel
theorem dX9_close_113 : decode cX9_close 113 = .ok (.ireturn, 1) := by decide +kernel
theorem dX9_week_0 : decode cX9_week 0 = .ok (.aload_n 0, 1) := by decide +kernel
theorem dX9_week_1 : decode cX9_week 1 = .ok (.iconst 0, 1) := by decide +kernel
theorem dX9_week_2 : decode cX9_week 2 = .ok (.putfield 72, 3) := by decide +kernel
theorem dX9_week_5 : decode cX9_week 5 = .ok (.aload_n 0, 1) := by decide +kernel
theorem dX9_week_6 : decode cX9_week 6 = .ok (.getfield 122, 3) := by decide +kernel
theorem dX9_week_9 : decode cX9_week 9 = .ok (.ireturn, 1) := by decide +kernel
set_option maxRecDepth 20000 in
theorem ggX9_slip_X9_isWorker : GoodIn wsX9_slip wsX9_isWorker := goodIn_r _ [6, 7, 8, 9, 5, 10, 19, 20, 21, 22, 23, 24, 25, 26, 27, 28, 29, 30, 31, 32, 33, 34, 35, 36, 37, 38, 39, 40, 41, 42, 43] (by decide +kernel) (by decide +kernel)
set_option maxRecDepth 20000 in
theorem gX9_slip_X9_isWorker : GoodIn wsX9_slip (wsV RX9 86 RX9 yX9_isWorker wsX9_isWorker) := goodIn_app (goodIn_of _ (by decide +kernel)) ggX9_slip_X9_isWorker
set_option maxRecDepth 20000 in
theorem ggX9_slip_X9_isWeek : GoodIn wsX9_slip wsX9_isWeek := goodIn_r _ [13, 8, 9, 5, 10] (by decide +kernel) (by decide +kernel)
set_option maxRecDepth 20000 in
theorem gX9_slip_X9_isWeek : GoodIn wsX9_slip (va_wsS RX9 89 yX9_isWeek wsX9_isWeek) := goodIn_app (goodIn_of _ (by decide +kernel)) ggX9_slip_X9_isWeek
set_option maxRecDepth 20000 in
theorem ggX9_slip_X9_in : GoodIn wsX9_slip wsX9_in := goodIn_r _ [10] (by decide +kernel) (by decide +kernel)
set_option maxRecDepth 20000 in
theorem gX9_slip_X9_in : GoodIn wsX9_slip (va_wsS RX9 78 yX9_in wsX9_in) := goodIn_app (goodIn_of _ (by decide +kernel)) ggX9_slip_X9_in
set_option maxRecDepth 20000 in
theorem ggX9_slip_X9_holds : GoodIn wsX9_slip wsX9_holds := goodIn_r _ [17, 18, 19, 20, 21, 22, 23, 24, 25, 26, 27, 28, 29, 30, 31, 32, 33, 34, 35, 36, 37, 38, 39, 40, 41, 42, 43] (by decide +kernel) (by decide +kernel)
set_option maxRecDepth 20000 in
theorem gX9_slip_X9_holds : GoodIn wsX9_slip (wsV RX9 82 RX9 yX9_holds wsX9_holds) := goodIn_app (goodIn_of _ (by decide +kernel)) ggX9_slip_X9_holds
theorem dX9_slip_0 : decode cX9_slip 0 = .ok (.aload_n 0, 1) := by decide +kernel
theorem dX9_slip_1 : decode cX9_slip 1 = .ok (.aload_n 0, 1) := by decide +kernel
theorem dX9_slip_2 : decode cX9_slip 2 = .ok (.iload_n 1, 1) := by decide +kernel
theorem dX9_slip_3 : decode cX9_slip 3 = .ok (.invokevirtual 86, 3) := by decide +kernel
theorem dX9_slip_6 : decode cX9_slip 6 = .ok (.ifCond .ne 7, 3) := by decide +kernel
theorem dX9_slip_9 : decode cX9_slip 9 = .ok (.iconst 1, 1) := by decide +kernel
theorem dX9_slip_10 : decode cX9_slip 10 = .ok (.goto 24, 3) := by decide +kernel
theorem dX9_slip_13 : decode cX9_slip 13 = .ok (.iload_n 2, 1) := by decide +kernel
theorem dX9_slip_14 : decode cX9_slip 14 = .ok (.invokestatic 89, 3) := by decide +kernel
theorem dX9_slip_17 : decode cX9_slip 17 = .ok (.ifCond .eq 16, 3) := by decide +kernel
theorem dX9_slip_20 : decode cX9_slip 20 = .ok (.iload_n 3, 1) := by decide +kernel
theorem dX9_slip_21 : decode cX9_slip 21 = .ok (.iconst 0, 1) := by decide +kernel
theorem dX9_slip_22 : decode cX9_slip 22 = .ok (.iconst 3, 1) := by decide +kernel
theorem dX9_slip_23 : decode cX9_slip 23 = .ok (.invokestatic 78, 3) := by decide +kernel
theorem dX9_slip_26 : decode cX9_slip 26 = .ok (.ifCond .eq 7, 3) := by decide +kernel
theorem dX9_slip_29 : decode cX9_slip 29 = .ok (.iconst 0, 1) := by decide +kernel
theorem dX9_slip_30 : decode cX9_slip 30 = .ok (.goto 4, 3) := by decide +kernel
theorem dX9_slip_33 : decode cX9_slip 33 = .ok (.iconst 2, 1) := by decide +kernel
theorem dX9_slip_34 : decode cX9_slip 34 = .ok (.invokevirtual 82, 3) := by decide +kernel
theorem dX9_slip_37 : decode cX9_slip 37 = .ok (.ifCond .ne 5, 3) := by decide +kernel
theorem dX9_slip_40 : decode cX9_slip 40 = .ok (.iconst 0, 1) := by decide +kernel
theorem dX9_slip_41 : decode cX9_slip 41 = .ok (.ireturn, 1) := by decide +kernel
theorem dX9_slip_42 : decode cX9_slip 42 = .ok (.aload_n 0, 1) := by decide +kernel
theorem dX9_slip_43 : decode cX9_slip 43 = .ok (.getfield 37, 3) := by decide +kernel
theorem dX9_slip_46 : decode cX9_slip 46 = .ok (.iconst 4, 1) := by decide +kernel
theorem dX9_slip_47 : decode cX9_slip 47 = .ok (.bipush 31, 2) := by decide +kernel
theorem dX9_slip_49 : decode cX9_slip 49 = .ok (.iload_n 1, 1) := by decide +kernel
theorem dX9_slip_50 : decode cX9_slip 50 = .ok (.imul, 1) := by decide +kernel
theorem dX9_slip_51 : decode cX9_slip 51 = .ok (.iload_n 2, 1) := by decide +kernel
theorem dX9_slip_52 : decode cX9_slip 52 = .ok (.iadd, 1) := by decide +kernel
theorem dX9_slip_53 : decode cX9_slip 53 = .ok (.imul, 1) := by decide +kernel
theorem dX9_slip_54 : decode cX9_slip 54 = .ok (.iload_n 3, 1) := by decide +kernel
theorem dX9_slip_55 : decode cX9_slip 55 = .ok (.iadd, 1) := by decide +kernel
theorem dX9_slip_56 : decode cX9_slip 56 = .ok (.iaload, 1) := by decide +kernel
theorem dX9_slip_57 : decode cX9_slip 57 = .ok (.ireturn, 1) := by decide +kernel
set_option maxRecDepth 20000 in
theorem ggX9_toTakeBack_X9_isWorker : GoodIn wsX9_toTakeBack wsX9_isWorker := goodIn_r _ [6, 7, 8, 9, 5, 10, 16, 17, 18, 19, 20, 21, 22, 23, 24, 25, 26, 27, 28, 29, 30, 31, 32, 33, 34, 35, 36, 37, 38, 39, 40] (by decide +kernel) (by decide +kernel)
set_option maxRecDepth 20000 in
theorem gX9_toTakeBack_X9_isWorker : GoodIn wsX9_toTakeBack (wsV RX9 86 RX9 yX9_isWorker wsX9_isWorker) := goodIn_app (goodIn_of _ (by decide +kernel)) ggX9_toTakeBack_X9_isWorker
set_option maxRecDepth 20000 in
theorem ggX9_toTakeBack_X9_holds : GoodIn wsX9_toTakeBack wsX9_holds := goodIn_r _ [14, 15, 16, 17, 18, 19, 20, 21, 22, 23, 24, 25, 26, 27, 28, 29, 30, 31, 32, 33, 34, 35, 36, 37, 38, 39, 40] (by decide +kernel) (by decide +kernel)
set_option maxRecDepth 20000 in
theorem gX9_toTakeBack_X9_holds : GoodIn wsX9_toTakeBack (wsV RX9 82 RX9 yX9_holds wsX9_holds) := goodIn_app (goodIn_of _ (by decide +kernel)) ggX9_toTakeBack_X9_holds
theorem dX9_toTakeBack_0 : decode cX9_toTakeBack 0 = .ok (.aload_n 0, 1) := by decide +kernel
theorem dX9_toTakeBack_1 : decode cX9_toTakeBack 1 = .ok (.aload_n 0, 1) := by decide +kernel
theorem dX9_toTakeBack_2 : decode cX9_toTakeBack 2 = .ok (.iload_n 1, 1) := by decide +kernel
theorem dX9_toTakeBack_3 : decode cX9_toTakeBack 3 = .ok (.invokevirtual 86, 3) := by decide +kernel
theorem dX9_toTakeBack_6 : decode cX9_toTakeBack 6 = .ok (.ifCond .eq 7, 3) := by decide +kernel
theorem dX9_toTakeBack_9 : decode cX9_toTakeBack 9 = .ok (.iconst 0, 1) := by decide +kernel
theorem dX9_toTakeBack_10 : decode cX9_toTakeBack 10 = .ok (.goto 4, 3) := by decide +kernel
theorem dX9_toTakeBack_13 : decode cX9_toTakeBack 13 = .ok (.iconst 1, 1) := by decide +kernel
theorem dX9_toTakeBack_14 : decode cX9_toTakeBack 14 = .ok (.invokevirtual 82, 3) := by decide +kernel
theorem dX9_toTakeBack_17 : decode cX9_toTakeBack 17 = .ok (.ifCond .eq 12, 3) := by decide +kernel
theorem dX9_toTakeBack_20 : decode cX9_toTakeBack 20 = .ok (.aload_n 0, 1) := by decide +kernel
theorem dX9_toTakeBack_21 : decode cX9_toTakeBack 21 = .ok (.getfield 34, 3) := by decide +kernel
theorem dX9_toTakeBack_24 : decode cX9_toTakeBack 24 = .ok (.iload_n 1, 1) := by decide +kernel
theorem dX9_toTakeBack_25 : decode cX9_toTakeBack 25 = .ok (.iaload, 1) := by decide +kernel
theorem dX9_toTakeBack_26 : decode cX9_toTakeBack 26 = .ok (.goto 4, 3) := by decide +kernel
theorem dX9_toTakeBack_29 : decode cX9_toTakeBack 29 = .ok (.iconst 0, 1) := by decide +kernel
theorem dX9_toTakeBack_30 : decode cX9_toTakeBack 30 = .ok (.ireturn, 1) := by decide +kernel
set_option maxRecDepth 20000 in
theorem ggX9_claim_X9_isWorker : GoodIn wsX9_claim wsX9_isWorker := goodIn_r _ [5, 6, 7, 8, 4, 9, 38, 39, 40, 41, 42, 43, 44, 45, 46, 47, 48, 49, 50, 51, 52, 53, 54, 55, 56, 57, 58, 59, 60, 61, 62] (by decide +kernel) (by decide +kernel)
set_option maxRecDepth 20000 in
theorem gX9_claim_X9_isWorker : GoodIn wsX9_claim (wsV RX9 86 RX9 yX9_isWorker wsX9_isWorker) := goodIn_app (goodIn_of _ (by decide +kernel)) ggX9_claim_X9_isWorker
set_option maxRecDepth 20000 in
theorem ggX9_claim_X9_holds : GoodIn wsX9_claim wsX9_holds := goodIn_r _ [13, 14, 38, 39, 40, 41, 42, 43, 44, 45, 46, 47, 48, 49, 50, 51, 52, 53, 54, 55, 56, 57, 58, 59, 60, 61, 62] (by decide +kernel) (by decide +kernel)
set_option maxRecDepth 20000 in
theorem gX9_claim_X9_holds : GoodIn wsX9_claim (wsV RX9 82 RX9 yX9_holds wsX9_holds) := goodIn_app (goodIn_of _ (by decide +kernel)) ggX9_claim_X9_holds
set_option maxRecDepth 20000 in
theorem ggX9_claim_X9_claimOf : GoodIn wsX9_claim wsX9_claimOf := goodIn_r _ [18, 19, 20, 21, 22, 23, 4, 24, 25, 26, 27, 28, 29, 30, 31, 32, 33, 34, 35, 36, 37, 38, 39, 40, 41, 42, 43, 44, 45, 46, 47, 48, 49, 50, 51, 52, 53, 54, 55, 56, 57, 58, 59, 60, 61, 62] (by decide +kernel) (by decide +kernel)
set_option maxRecDepth 20000 in
theorem gX9_claim_X9_claimOf : GoodIn wsX9_claim (wsV RX9 128 RX9 yX9_claimOf wsX9_claimOf) := goodIn_app (goodIn_of _ (by decide +kernel)) ggX9_claim_X9_claimOf
theorem dX9_claim_0 : decode cX9_claim 0 = .ok (.aload_n 0, 1) := by decide +kernel
theorem dX9_claim_1 : decode cX9_claim 1 = .ok (.aload_n 0, 1) := by decide +kernel
theorem dX9_claim_2 : decode cX9_claim 2 = .ok (.iload_n 1, 1) := by decide +kernel
theorem dX9_claim_3 : decode cX9_claim 3 = .ok (.invokevirtual 86, 3) := by decide +kernel
theorem dX9_claim_6 : decode cX9_claim 6 = .ok (.ifCond .eq 7, 3) := by decide +kernel
theorem dX9_claim_9 : decode cX9_claim 9 = .ok (.iconst 0, 1) := by decide +kernel
theorem dX9_claim_10 : decode cX9_claim 10 = .ok (.goto 4, 3) := by decide +kernel
theorem dX9_claim_13 : decode cX9_claim 13 = .ok (.iconst 1, 1) := by decide +kernel
theorem dX9_claim_14 : decode cX9_claim 14 = .ok (.invokevirtual 82, 3) := by decide +kernel
theorem dX9_claim_17 : decode cX9_claim 17 = .ok (.ifCond .eq 11, 3) := by decide +kernel
theorem dX9_claim_20 : decode cX9_claim 20 = .ok (.aload_n 0, 1) := by decide +kernel
theorem dX9_claim_21 : decode cX9_claim 21 = .ok (.iload_n 1, 1) := by decide +kernel
theorem dX9_claim_22 : decode cX9_claim 22 = .ok (.invokevirtual 128, 3) := by decide +kernel
theorem dX9_claim_25 : decode cX9_claim 25 = .ok (.goto 4, 3) := by decide +kernel
theorem dX9_claim_28 : decode cX9_claim 28 = .ok (.iconst 0, 1) := by decide +kernel
theorem dX9_claim_29 : decode cX9_claim 29 = .ok (.ireturn, 1) := by decide +kernel
set_option maxRecDepth 20000 in
theorem ggX9_claimBySlips_X9_isWorker : GoodIn wsX9_claimBySlips wsX9_isWorker := goodIn_r _ [5, 6, 7, 8, 4, 9, 38, 39, 40, 41, 42, 43, 44, 45, 46, 47, 48, 49, 50, 51, 52, 53, 54, 55, 56, 57, 58, 59, 60, 61, 62] (by decide +kernel) (by decide +kernel)
set_option maxRecDepth 20000 in
theorem gX9_claimBySlips_X9_isWorker : GoodIn wsX9_claimBySlips (wsV RX9 86 RX9 yX9_isWorker wsX9_isWorker) := goodIn_app (goodIn_of _ (by decide +kernel)) ggX9_claimBySlips_X9_isWorker
set_option maxRecDepth 20000 in
theorem ggX9_claimBySlips_X9_holds : GoodIn wsX9_claimBySlips wsX9_holds := goodIn_r _ [13, 14, 38, 39, 40, 41, 42, 43, 44, 45, 46, 47, 48, 49, 50, 51, 52, 53, 54, 55, 56, 57, 58, 59, 60, 61, 62] (by decide +kernel) (by decide +kernel)
set_option maxRecDepth 20000 in
theorem gX9_claimBySlips_X9_holds : GoodIn wsX9_claimBySlips (wsV RX9 82 RX9 yX9_holds wsX9_holds) := goodIn_app (goodIn_of _ (by decide +kernel)) ggX9_claimBySlips_X9_holds
set_option maxRecDepth 20000 in
theorem ggX9_claimBySlips_X9_claimOf : GoodIn wsX9_claimBySlips wsX9_claimOf := goodIn_r _ [18, 19, 20, 21, 22, 23, 4, 24, 25, 26, 27, 28, 29, 30, 31, 32, 33, 34, 35, 36, 37, 38, 39, 40, 41, 42, 43, 44, 45, 46, 47, 48, 49, 50, 51, 52, 53, 54, 55, 56, 57, 58, 59, 60, 61, 62] (by decide +kernel) (by decide +kernel)
set_option maxRecDepth 20000 in
theorem gX9_claimBySlips_X9_claimOf : GoodIn wsX9_claimBySlips (wsV RX9 128 RX9 yX9_claimOf wsX9_claimOf) := goodIn_app (goodIn_of _ (by decide +kernel)) ggX9_claimBySlips_X9_claimOf
theorem dX9_claimBySlips_0 : decode cX9_claimBySlips 0 = .ok (.aload_n 0, 1) := by decide +kernel
theorem dX9_claimBySlips_1 : decode cX9_claimBySlips 1 = .ok (.aload_n 0, 1) := by decide +kernel
theorem dX9_claimBySlips_2 : decode cX9_claimBySlips 2 = .ok (.iload_n 1, 1) := by decide +kernel
theorem dX9_claimBySlips_3 : decode cX9_claimBySlips 3 = .ok (.invokevirtual 86, 3) := by decide +kernel
theorem dX9_claimBySlips_6 : decode cX9_claimBySlips 6 = .ok (.ifCond .eq 7, 3) := by decide +kernel
theorem dX9_claimBySlips_9 : decode cX9_claimBySlips 9 = .ok (.iconst 0, 1) := by decide +kernel
theorem dX9_claimBySlips_10 : decode cX9_claimBySlips 10 = .ok (.goto 4, 3) := by decide +kernel
theorem dX9_claimBySlips_13 : decode cX9_claimBySlips 13 = .ok (.iconst 1, 1) := by decide +kernel
theorem dX9_claimBySlips_14 : decode cX9_claimBySlips 14 = .ok (.invokevirtual 82, 3) := by decide +kernel
theorem dX9_claimBySlips_17 : decode cX9_claimBySlips 17 = .ok (.ifCond .eq 11, 3) := by decide +kernel
theorem dX9_claimBySlips_20 : decode cX9_claimBySlips 20 = .ok (.aload_n 0, 1) := by decide +kernel
theorem dX9_claimBySlips_21 : decode cX9_claimBySlips 21 = .ok (.iload_n 1, 1) := by decide +kernel
theorem dX9_claimBySlips_22 : decode cX9_claimBySlips 22 = .ok (.invokevirtual 128, 3) := by decide +kernel
theorem dX9_claimBySlips_25 : decode cX9_claimBySlips 25 = .ok (.goto 4, 3) := by decide +kernel
theorem dX9_claimBySlips_28 : decode cX9_claimBySlips 28 = .ok (.iconst 0, 1) := by decide +kernel
theorem dX9_claimBySlips_29 : decode cX9_claimBySlips 29 = .ok (.ireturn, 1) := by decide +kernel
theorem dJ9_max_7cf53_0 : decode cJ9_max_7cf53 0 = .ok (.iload_n 0, 1) := by decide +kernel
theorem dJ9_max_7cf53_1 : decode cJ9_max_7cf53 1 = .ok (.iload_n 1, 1) := by decide +kernel
theorem dJ9_max_7cf53_2 : decode cJ9_max_7cf53 2 = .ok (.if_icmp .lt 7, 3) := by decide +kernel
theorem dJ9_max_7cf53_5 : decode cJ9_max_7cf53 5 = .ok (.iload_n 0, 1) := by decide +kernel
theorem dJ9_max_7cf53_6 : decode cJ9_max_7cf53 6 = .ok (.goto 4, 3) := by decide +kernel
theorem dJ9_max_7cf53_9 : decode cJ9_max_7cf53 9 = .ok (.iload_n 1, 1) := by decide +kernel
theorem dJ9_max_7cf53_10 : decode cJ9_max_7cf53 10 = .ok (.ireturn, 1) := by decide +kernel
theorem dJ9_min_7cf53_0 : decode cJ9_min_7cf53 0 = .ok (.iload_n 0, 1) := by decide +kernel
theorem dJ9_min_7cf53_1 : decode cJ9_min_7cf53 1 = .ok (.iload_n 1, 1) := by decide +kernel
theorem dJ9_min_7cf53_2 : decode cJ9_min_7cf53 2 = .ok (.if_icmp .gt 7, 3) := by decide +kernel
theorem dJ9_min_7cf53_5 : decode cJ9_min_7cf53 5 = .ok (.iload_n 0, 1) := by decide +kernel
theorem dJ9_min_7cf53_6 : decode cJ9_min_7cf53 6 = .ok (.goto 4, 3) := by decide +kernel
theorem dJ9_min_7cf53_9 : decode cJ9_min_7cf53 9 = .ok (.iload_n 1, 1) := by decide +kernel
theorem dJ9_min_7cf53_10 : decode cJ9_min_7cf53 10 = .ok (.ireturn, 1) := by decide +kernel
set_option maxRecDepth 20000 in
theorem ggL_addWorker_X8_addWorker : GoodIn wsL_addWorker wsX8_addWorker := goodIn_ca (goodIn_ca (goodIn_r _ [7, 8, 9, 10, 11, 12, 13, 14, 15, 16, 17, 6, 18, 19, 20, 21, 22, 23, 24, 25, 26, 27, 28, 29, 30, 31, 32, 33, 34, 35, 36, 37, 38, 39, 40, 41, 42, 43, 44, 45, 46, 47, 48, 49, 50, 51, 52, 53, 54, 55, 56, 57, 58, 59, 60, 61, 62, 63, 64, 65, 66, 67, 68] (by decide +kernel) (by decide +kernel)) (goodIn_sub (fun _ h => List.mem_cons_of_mem _ (List.mem_append_left _ (List.mem_append_right _ h))) (by decide +kernel))) (goodIn_sub (fun _ h => List.mem_cons_of_mem _ (List.mem_append_right _ h)) (by decide +kernel))
set_option maxRecDepth 20000 in
theorem gL_addWorker_X8_addWorker : GoodIn wsL_addWorker (wsV RL 7 RX8 yX8_addWorker wsX8_addWorker) := goodIn_app (goodIn_of _ (by decide +kernel)) ggL_addWorker_X8_addWorker
