set_option maxRecDepth 20000 in
theorem ggL_law_X8_init : GoodIn wsL_law wsX8_init := goodIn_r _ [7, 8, 9, 10, 11, 12, 13, 14, 15, 16, 17, 18, 19, 20, 21, 22, 23, 24, 25, 26, 27, 28, 29, 30, 31, 32, 33, 34, 35, 36, 37, 38, 39, 40, 41, 42, 43, 44, 45, 46, 47, 48, 49, 50, 358, 359, 360, 361, 362, 363, 364, 365, 366, 367, 368, 369, 370, 371, 372, 373] (by decide +kernel) (by decide +kernel)
set_option maxRecDepth 20000 in
theorem gL_law_X8_init : GoodIn wsL_law (wsX8_init) := ggL_law_X8_init
set_option maxRecDepth 20000 in
theorem ggL_law_L_cell : GoodIn wsL_law wsL_cell := goodIn_r _ [54] (by decide +kernel) (by decide +kernel)
set_option maxRecDepth 20000 in
theorem gL_law_L_cell : GoodIn wsL_law (va_wsS RL 104 yL_cell wsL_cell) := goodIn_app (goodIn_of _ (by decide +kernel)) ggL_law_L_cell
set_option maxRecDepth 20000 in
theorem ggL_law_L_low : GoodIn wsL_law wsL_low := goodIn_r _ [57, 58] (by decide +kernel) (by decide +kernel)
set_option maxRecDepth 20000 in
theorem gL_law_L_low : GoodIn wsL_law (va_wsS RL 65 yL_low wsL_low) := goodIn_app (goodIn_of _ (by decide +kernel)) ggL_law_L_low
set_option maxRecDepth 20000 in
theorem gp_does_1 : GoodIn wsL_law (.codeWith yL_does cL_does 7 (some .int) [(0, 128, 129, 42), (0, 128, 134, 45), (0, 128, 139, 47)] :: wsL_does_r1) := goodIn_r _ [61, 62, 63, 64, 3, 65, 66, 67, 2, 68, 69, 70, 21, 16, 15, 71, 72, 73, 74, 75, 76, 77, 78, 12, 79] (by decide +kernel) (by decide +kernel)
set_option maxRecDepth 20000 in
theorem gp_does_2 : GoodIn wsL_law wsL_does_r2 := goodIn_r _ [80, 81, 82, 9, 10, 83, 39, 40, 84, 85, 86, 87, 88, 89, 90, 91, 92, 93, 94, 44, 45, 46, 47, 48] (by decide +kernel) (by decide +kernel)
set_option maxRecDepth 20000 in
theorem gp_does_3 : GoodIn wsL_law wsL_does_r3 := goodIn_r _ [49, 50, 95, 96, 97, 98, 99, 100, 101, 102, 103, 104, 105, 106, 107, 108, 109, 110, 111, 14, 112, 113, 114, 115] (by decide +kernel) (by decide +kernel)
set_option maxRecDepth 20000 in
theorem gp_does_4 : GoodIn wsL_law wsL_does_r4 := goodIn_r _ [116, 117, 118, 119, 120, 121, 122, 123, 124, 125, 126, 127, 128, 129, 130, 131, 132, 133, 134, 135, 136, 137, 138, 139] (by decide +kernel) (by decide +kernel)
set_option maxRecDepth 20000 in
theorem gp_does_5 : GoodIn wsL_law wsL_does_r5 := goodIn_r _ [140, 141, 142, 143, 144, 145, 146, 147, 148, 149, 150, 151, 152, 22, 18, 17, 153, 154, 155, 156, 157, 158, 159, 160] (by decide +kernel) (by decide +kernel)
set_option maxRecDepth 20000 in
theorem gp_does_6 : GoodIn wsL_law wsL_does_r6 := goodIn_r _ [161, 162, 163, 164, 165, 166, 24, 167, 168, 169, 170, 23, 20, 19, 171, 172, 173, 174, 175, 176, 177, 178, 179, 180] (by decide +kernel) (by decide +kernel)
set_option maxRecDepth 20000 in
theorem gp_does_7 : GoodIn wsL_law wsL_does_r7 := goodIn_r _ [181, 182, 27, 183, 34, 184, 185, 186, 187, 33, 188, 189, 190, 191, 192, 193, 194, 195, 196, 197, 198, 199, 200, 201] (by decide +kernel) (by decide +kernel)
set_option maxRecDepth 20000 in
theorem gp_does_8 : GoodIn wsL_law wsL_does_r8 := goodIn_r _ [202, 203, 25, 204, 205, 206, 207, 208, 209, 210, 211, 212, 213, 214, 215, 216, 217, 218, 219, 220, 221, 222, 223, 224] (by decide +kernel) (by decide +kernel)
set_option maxRecDepth 20000 in
theorem gp_does_9 : GoodIn wsL_law wsL_does_r9 := goodIn_r _ [225, 226, 227, 228, 229, 230, 231, 232, 233, 234, 235, 236, 237, 238, 239, 240, 241, 242, 243, 244, 245, 246, 247, 248] (by decide +kernel) (by decide +kernel)
set_option maxRecDepth 20000 in
theorem gp_does_10 : GoodIn wsL_law wsL_does_r10 := goodIn_r _ [249, 250, 251, 252, 253, 254, 255, 256, 257, 258, 259, 260, 261, 262] (by decide +kernel) (by decide +kernel)
theorem ggL_law_L_does : GoodIn wsL_law wsL_does := goodIn_ca (goodIn_ca (goodIn_ca (goodIn_ca (goodIn_ca (goodIn_ca (goodIn_ca (goodIn_ca (goodIn_ca (goodIn_ca (goodIn_ca (goodIn_ca (goodIn_ca gp_does_1 (goodIn_app gp_does_2 (goodIn_app gp_does_3 (goodIn_app gp_does_4 (goodIn_app gp_does_5 (goodIn_app gp_does_6 (goodIn_app gp_does_7 (goodIn_app gp_does_8 (goodIn_app gp_does_9 (gp_does_10)))))))))) (goodIn_sub inlX8 (by decide +kernel))) (goodIn_sub inlX7 (by decide +kernel))) (goodIn_sub inlX3 (by decide +kernel))) (goodIn_sub inlX2 (by decide +kernel))) (goodIn_sub inlX4 (by decide +kernel))) (goodIn_sub inlX0 (by decide +kernel))) (goodIn_sub inlX6 (by decide +kernel))) (goodIn_sub inlX1 (by decide +kernel))) (goodIn_sub inlX5 (by decide +kernel))) (goodIn_sub (fun _ h => List.mem_append_left _ (List.mem_append_left _ (List.mem_append_right _ h))) (by decide +kernel))) (goodIn_sub (fun _ h => List.mem_append_left _ (List.mem_append_right _ h)) (by decide +kernel))) (goodIn_sub (fun _ h => List.mem_append_right _ h) (by decide +kernel))
set_option maxRecDepth 20000 in
theorem gL_law_L_does : GoodIn wsL_law (va_wsS RL 73 yL_does wsL_does) := goodIn_app (goodIn_of _ (by decide +kernel)) ggL_law_L_does
set_option maxRecDepth 20000 in
theorem gp_act_1 : GoodIn wsL_law (.code yL_act cL_act 10 (some .int) :: wsL_act_r1) := goodIn_r _ [265, 266, 267, 268, 269, 270, 55, 56, 53, 57, 58, 271, 272, 273, 62, 63, 3, 274, 275, 276, 2, 277, 278, 279, 280] (by decide +kernel) (by decide +kernel)
set_option maxRecDepth 20000 in
theorem gp_act_2 : GoodIn wsL_law wsL_act_r2 := goodIn_r _ [219, 100, 101, 102, 103, 77, 78, 16, 115, 116, 117, 118, 119, 112, 113, 114, 144, 145, 146, 140, 141, 142, 72, 143] (by decide +kernel) (by decide +kernel)
set_option maxRecDepth 20000 in
theorem gp_act_3 : GoodIn wsL_law wsL_act_r3 := goodIn_r _ [90, 281, 282, 283, 284, 9, 10, 285, 286, 287, 288, 289, 290, 291, 85, 292, 59, 60, 61, 64, 65, 66, 67, 68] (by decide +kernel) (by decide +kernel)
set_option maxRecDepth 20000 in
theorem gp_act_4 : GoodIn wsL_law wsL_act_r4 := goodIn_r _ [69, 70, 21, 15, 71, 73, 74, 75, 76, 12, 79, 80, 81, 82, 83, 39, 40, 84, 86, 87, 88, 89, 91, 92] (by decide +kernel) (by decide +kernel)
set_option maxRecDepth 20000 in
theorem gp_act_5 : GoodIn wsL_law wsL_act_r5 := goodIn_r _ [93, 94, 44, 45, 46, 47, 48, 49, 50, 95, 96, 97, 98, 99, 104, 105, 106, 107, 108, 109, 110, 111, 14, 120] (by decide +kernel) (by decide +kernel)
set_option maxRecDepth 20000 in
theorem gp_act_6 : GoodIn wsL_law wsL_act_r6 := goodIn_r _ [121, 122, 123, 124, 125, 126, 127, 128, 129, 130, 131, 132, 133, 134, 135, 136, 137, 138, 139, 147, 148, 149, 150, 151] (by decide +kernel) (by decide +kernel)
set_option maxRecDepth 20000 in
theorem gp_act_7 : GoodIn wsL_law wsL_act_r7 := goodIn_r _ [152, 22, 18, 17, 153, 154, 155, 156, 157, 158, 159, 160, 161, 162, 163, 164, 165, 166, 24, 167, 168, 169, 170, 23] (by decide +kernel) (by decide +kernel)
set_option maxRecDepth 20000 in
theorem gp_act_8 : GoodIn wsL_law wsL_act_r8 := goodIn_r _ [20, 19, 171, 172, 173, 174, 175, 176, 177, 178, 179, 180, 181, 182, 27, 183, 34, 184, 185, 186, 187, 33, 188, 189] (by decide +kernel) (by decide +kernel)
set_option maxRecDepth 20000 in
theorem gp_act_9 : GoodIn wsL_law wsL_act_r9 := goodIn_r _ [190, 191, 192, 193, 194, 195, 196, 197, 198, 199, 200, 201, 202, 203, 25, 204, 205, 206, 207, 208, 209, 210, 211, 212] (by decide +kernel) (by decide +kernel)
set_option maxRecDepth 20000 in
theorem gp_act_10 : GoodIn wsL_law wsL_act_r10 := goodIn_r _ [213, 214, 215, 216, 217, 218, 220, 221, 222, 223, 224, 225, 226, 227, 228, 229, 230, 231, 232, 233, 234, 235, 236, 237] (by decide +kernel) (by decide +kernel)
set_option maxRecDepth 20000 in
theorem gp_act_11 : GoodIn wsL_law wsL_act_r11 := goodIn_r _ [238, 239, 240, 241, 242, 243, 244, 245, 246, 247, 248, 249, 250, 251, 252, 253, 254, 255, 256, 257, 258, 259, 260, 261] (by decide +kernel) (by decide +kernel)
set_option maxRecDepth 20000 in
theorem gp_act_12 : GoodIn wsL_law wsL_act_r12 := goodIn_r _ [262] (by decide +kernel) (by decide +kernel)
theorem ggL_law_L_act : GoodIn wsL_law wsL_act := goodIn_ca (goodIn_ca (goodIn_ca (goodIn_ca (goodIn_ca (goodIn_ca (goodIn_ca (goodIn_ca (goodIn_ca (goodIn_ca (goodIn_ca (goodIn_ca (goodIn_ca gp_act_1 (goodIn_app gp_act_2 (goodIn_app gp_act_3 (goodIn_app gp_act_4 (goodIn_app gp_act_5 (goodIn_app gp_act_6 (goodIn_app gp_act_7 (goodIn_app gp_act_8 (goodIn_app gp_act_9 (goodIn_app gp_act_10 (goodIn_app gp_act_11 (gp_act_12)))))))))))) (goodIn_sub inlX4 (by decide +kernel))) (goodIn_sub inlX7 (by decide +kernel))) (goodIn_sub inlX8 (by decide +kernel))) (goodIn_sub inlX3 (by decide +kernel))) (goodIn_sub inlX2 (by decide +kernel))) (goodIn_sub inlX0 (by decide +kernel))) (goodIn_sub inlX6 (by decide +kernel))) (goodIn_sub inlX1 (by decide +kernel))) (goodIn_sub inlX5 (by decide +kernel))) (goodIn_sub (fun _ h => List.mem_append_left _ (List.mem_append_right _ h)) (by decide +kernel))) (goodIn_sub (fun _ h => List.mem_append_right _ h) (by decide +kernel))) (goodIn_sub (fun _ h => List.mem_append_left _ (List.mem_append_left _ (List.mem_append_right _ h))) (by decide +kernel))
set_option maxRecDepth 20000 in
theorem gL_law_L_act : GoodIn wsL_law (va_wsS RL 108 yL_act wsL_act) := goodIn_app (goodIn_of _ (by decide +kernel)) ggL_law_L_act
set_option maxRecDepth 20000 in
theorem gp_areAlike_1 : GoodIn wsL_law (.code yL_areAlike cL_areAlike 5 (some .boolean) :: wsL_areAlike_r1) := goodIn_r _ [295, 296, 297, 298, 2, 299, 25, 300, 301, 302, 303, 209, 73, 74, 75, 76, 77, 78, 12, 304, 305, 306, 307, 195, 308] (by decide +kernel) (by decide +kernel)
set_option maxRecDepth 20000 in
theorem gp_areAlike_2 : GoodIn wsL_law wsL_areAlike_r2 := goodIn_r _ [309, 310, 311, 100, 101, 102, 103, 16, 210, 211, 212, 213, 214, 215, 216, 217, 218, 219, 220, 99, 140, 141, 142, 72] (by decide +kernel) (by decide +kernel)
set_option maxRecDepth 20000 in
theorem gp_areAlike_3 : GoodIn wsL_law wsL_areAlike_r3 := goodIn_r _ [143, 90, 120, 121, 122, 40, 123, 48, 108, 109, 110, 111, 14, 221, 222, 223, 138, 132, 139, 133, 312, 313, 314, 315] (by decide +kernel) (by decide +kernel)
set_option maxRecDepth 20000 in
theorem gp_areAlike_4 : GoodIn wsL_law wsL_areAlike_r4 := goodIn_r _ [232, 316, 317, 318, 319, 320, 321, 322, 323, 112, 113, 114, 115, 116, 117, 118, 119, 324, 325, 326, 327, 328, 329, 330] (by decide +kernel) (by decide +kernel)
set_option maxRecDepth 20000 in
theorem gp_areAlike_5 : GoodIn wsL_law wsL_areAlike_r5 := goodIn_r _ [331, 92, 332, 333, 334, 236, 335, 255, 256, 257, 258, 336, 337, 53, 338, 62, 3, 339, 340, 341, 342, 18, 343] (by decide +kernel) (by decide +kernel)
theorem ggL_law_L_areAlike : GoodIn wsL_law wsL_areAlike := goodIn_ca (goodIn_ca (goodIn_ca (goodIn_ca (goodIn_ca (goodIn_ca (goodIn_ca (goodIn_ca (goodIn_ca (goodIn_ca (goodIn_ca gp_areAlike_1 (goodIn_app gp_areAlike_2 (goodIn_app gp_areAlike_3 (goodIn_app gp_areAlike_4 (gp_areAlike_5))))) (goodIn_sub inlX8 (by decide +kernel))) (goodIn_sub inlX1 (by decide +kernel))) (goodIn_sub inlX7 (by decide +kernel))) (goodIn_sub inlX4 (by decide +kernel))) (goodIn_sub inlX3 (by decide +kernel))) (goodIn_sub inlX2 (by decide +kernel))) (goodIn_sub inlX5 (by decide +kernel))) (goodIn_sub inlX0 (by decide +kernel))) (goodIn_sub (fun _ h => List.mem_append_left _ (List.mem_append_right _ h)) (by decide +kernel))) (goodIn_sub (fun _ h => List.mem_append_right _ h) (by decide +kernel))
set_option maxRecDepth 20000 in
theorem gL_law_L_areAlike : GoodIn wsL_law (va_wsS RL 112 yL_areAlike wsL_areAlike) := goodIn_app (goodIn_of _ (by decide +kernel)) ggL_law_L_areAlike
set_option maxRecDepth 20000 in
theorem gp_isWorkerSo_1 : GoodIn wsL_law (.code yL_isWorkerSo cL_isWorkerSo 8 (some .boolean) :: wsL_isWorkerSo_r1) := goodIn_r _ [346, 308, 309, 310, 2, 311, 100, 101, 102, 103, 77, 78, 16, 210, 211, 212, 213, 25, 214, 215, 216, 217, 218, 219, 220] (by decide +kernel) (by decide +kernel)
set_option maxRecDepth 20000 in
theorem gp_isWorkerSo_2 : GoodIn wsL_law wsL_isWorkerSo_r2 := goodIn_r _ [99, 140, 141, 142, 72, 143, 90, 120, 121, 122, 40, 123, 48, 108, 109, 110, 111, 14, 221, 222, 223, 138, 132, 139] (by decide +kernel) (by decide +kernel)
set_option maxRecDepth 20000 in
theorem gp_isWorkerSo_3 : GoodIn wsL_law wsL_isWorkerSo_r3 := goodIn_r _ [133, 347, 348, 349, 350, 351, 328, 329, 330, 331, 92, 332, 333, 334, 236, 335, 255, 256, 257, 258, 312, 313, 314, 315] (by decide +kernel) (by decide +kernel)
set_option maxRecDepth 20000 in
theorem gp_isWorkerSo_4 : GoodIn wsL_law wsL_isWorkerSo_r4 := goodIn_r _ [232, 316, 317, 318, 319, 324, 325, 326, 327, 112, 113, 114, 115, 116, 117, 118, 119, 296, 297, 298, 299, 320, 321, 322] (by decide +kernel) (by decide +kernel)
set_option maxRecDepth 20000 in
theorem gp_isWorkerSo_5 : GoodIn wsL_law wsL_isWorkerSo_r5 := goodIn_r _ [323] (by decide +kernel) (by decide +kernel)
theorem ggL_law_L_isWorkerSo : GoodIn wsL_law wsL_isWorkerSo := goodIn_ca (goodIn_ca (goodIn_ca (goodIn_ca (goodIn_ca (goodIn_ca (goodIn_ca (goodIn_ca (goodIn_ca gp_isWorkerSo_1 (goodIn_app gp_isWorkerSo_2 (goodIn_app gp_isWorkerSo_3 (goodIn_app gp_isWorkerSo_4 (gp_isWorkerSo_5))))) (goodIn_sub inlX8 (by decide +kernel))) (goodIn_sub inlX7 (by decide +kernel))) (goodIn_sub inlX4 (by decide +kernel))) (goodIn_sub inlX3 (by decide +kernel))) (goodIn_sub inlX2 (by decide +kernel))) (goodIn_sub inlX5 (by decide +kernel))) (goodIn_sub (fun _ h => List.mem_append_left _ (List.mem_append_right _ h)) (by decide +kernel))) (goodIn_sub (fun _ h => List.mem_append_right _ h) (by decide +kernel))
set_option maxRecDepth 20000 in
theorem gL_law_L_isWorkerSo : GoodIn wsL_law (va_wsS RL 116 yL_isWorkerSo wsL_isWorkerSo) := goodIn_app (goodIn_of _ (by decide +kernel)) ggL_law_L_isWorkerSo
set_option maxRecDepth 20000 in
theorem gp_isClosedSo_1 : GoodIn wsL_law (.code yL_isClosedSo cL_isClosedSo 9 (some .boolean) :: wsL_isClosedSo_r1) := goodIn_r _ [354, 3, 296, 297, 298, 2, 299, 25, 300, 301, 302, 303, 209, 73, 74, 75, 76, 77, 78, 12, 336, 337, 53, 338, 62] (by decide +kernel) (by decide +kernel)
set_option maxRecDepth 20000 in
theorem gp_isClosedSo_2 : GoodIn wsL_law wsL_isClosedSo_r2 := goodIn_r _ [316, 317, 318, 319, 219, 100, 101, 102, 103, 16, 339, 340, 341, 342, 18, 343, 308, 309, 310, 311, 210, 211, 212, 213] (by decide +kernel) (by decide +kernel)
set_option maxRecDepth 20000 in
theorem gp_isClosedSo_3 : GoodIn wsL_law wsL_isClosedSo_r3 := goodIn_r _ [214, 215, 216, 217, 218, 220, 99, 140, 141, 142, 72, 143, 90, 120, 121, 122, 40, 123, 48, 108, 109, 110, 111, 14] (by decide +kernel) (by decide +kernel)
set_option maxRecDepth 20000 in
theorem gp_isClosedSo_4 : GoodIn wsL_law wsL_isClosedSo_r4 := goodIn_r _ [221, 222, 223, 138, 132, 139, 133, 312, 313, 314, 315, 232, 59, 60, 61, 63, 64, 65, 66, 67, 68, 69, 70, 21] (by decide +kernel) (by decide +kernel)
set_option maxRecDepth 20000 in
theorem gp_isClosedSo_5 : GoodIn wsL_law wsL_isClosedSo_r5 := goodIn_r _ [15, 71, 79, 80, 81, 82, 9, 10, 83, 39, 84, 85, 86, 87, 88, 89, 91, 92, 93, 94, 44, 45, 46, 47] (by decide +kernel) (by decide +kernel)
set_option maxRecDepth 20000 in
theorem gp_isClosedSo_6 : GoodIn wsL_law wsL_isClosedSo_r6 := goodIn_r _ [49, 50, 95, 96, 97, 98, 104, 105, 106, 107, 112, 113, 114, 115, 116, 117, 118, 119, 124, 125, 126, 127, 128, 129] (by decide +kernel) (by decide +kernel)
set_option maxRecDepth 20000 in
theorem gp_isClosedSo_7 : GoodIn wsL_law wsL_isClosedSo_r7 := goodIn_r _ [130, 131, 134, 135, 136, 137, 144, 145, 146, 147, 148, 149, 150, 151, 152, 22, 17, 153, 154, 155, 156, 157, 158, 159] (by decide +kernel) (by decide +kernel)
set_option maxRecDepth 20000 in
theorem gp_isClosedSo_8 : GoodIn wsL_law wsL_isClosedSo_r8 := goodIn_r _ [160, 161, 162, 163, 164, 165, 166, 24, 167, 168, 169, 170, 23, 20, 19, 171, 172, 173, 174, 175, 176, 177, 178, 179] (by decide +kernel) (by decide +kernel)
set_option maxRecDepth 20000 in
theorem gp_isClosedSo_9 : GoodIn wsL_law wsL_isClosedSo_r9 := goodIn_r _ [180, 181, 182, 27, 183, 34, 184, 185, 186, 187, 33, 188, 189, 190, 191, 192, 193, 194, 195, 196, 197, 198, 199, 200] (by decide +kernel) (by decide +kernel)
set_option maxRecDepth 20000 in
theorem gp_isClosedSo_10 : GoodIn wsL_law wsL_isClosedSo_r10 := goodIn_r _ [201, 202, 203, 204, 205, 206, 207, 208, 224, 225, 226, 227, 228, 229, 230, 231, 233, 234, 235, 236, 237, 238, 239, 240] (by decide +kernel) (by decide +kernel)
set_option maxRecDepth 20000 in
theorem gp_isClosedSo_11 : GoodIn wsL_law wsL_isClosedSo_r11 := goodIn_r _ [241, 242, 243, 244, 245, 246, 247, 248, 249, 250, 251, 252, 253, 254, 255, 256, 257, 258, 259, 260, 261, 262, 324, 325] (by decide +kernel) (by decide +kernel)
set_option maxRecDepth 20000 in
theorem gp_isClosedSo_12 : GoodIn wsL_law wsL_isClosedSo_r12 := goodIn_r _ [326, 327, 328, 329, 330, 331, 332, 333, 334, 335] (by decide +kernel) (by decide +kernel)
theorem ggL_law_L_isClosedSo : GoodIn wsL_law wsL_isClosedSo := goodIn_ca (goodIn_ca (goodIn_ca (goodIn_ca (goodIn_ca (goodIn_ca (goodIn_ca (goodIn_ca (goodIn_ca (goodIn_ca (goodIn_ca (goodIn_ca (goodIn_ca gp_isClosedSo_1 (goodIn_app gp_isClosedSo_2 (goodIn_app gp_isClosedSo_3 (goodIn_app gp_isClosedSo_4 (goodIn_app gp_isClosedSo_5 (goodIn_app gp_isClosedSo_6 (goodIn_app gp_isClosedSo_7 (goodIn_app gp_isClosedSo_8 (goodIn_app gp_isClosedSo_9 (goodIn_app gp_isClosedSo_10 (goodIn_app gp_isClosedSo_11 (gp_isClosedSo_12)))))))))))) (goodIn_sub inlX8 (by decide +kernel))) (goodIn_sub inlX1 (by decide +kernel))) (goodIn_sub inlX7 (by decide +kernel))) (goodIn_sub inlX0 (by decide +kernel))) (goodIn_sub inlX4 (by decide +kernel))) (goodIn_sub inlX3 (by decide +kernel))) (goodIn_sub inlX2 (by decide +kernel))) (goodIn_sub inlX6 (by decide +kernel))) (goodIn_sub inlX5 (by decide +kernel))) (goodIn_sub (fun _ h => List.mem_append_left _ (List.mem_append_right _ h)) (by decide +kernel))) (goodIn_sub (fun _ h => List.mem_append_left _ (List.mem_append_left _ (List.mem_append_right _ h))) (by decide +kernel))) (goodIn_sub (fun _ h => List.mem_append_right _ h) (by decide +kernel))
set_option maxRecDepth 20000 in
theorem gL_law_L_isClosedSo : GoodIn wsL_law (va_wsS RL 120 yL_isClosedSo wsL_isClosedSo) := goodIn_app (goodIn_of _ (by decide +kernel)) ggL_law_L_isClosedSo
set_option maxRecDepth 20000 in
theorem gp_isBouncedSo_1 : GoodIn wsL_law (.code yL_isBouncedSo cL_isBouncedSo 9 (some .boolean) :: wsL_isBouncedSo_r1) := goodIn_r _ [357, 3, 300, 301, 302, 2, 303, 209, 73, 74, 75, 76, 77, 78, 12, 304, 305, 306, 307, 195, 59, 60, 53, 61, 62] (by decide +kernel) (by decide +kernel)
set_option maxRecDepth 20000 in
theorem gp_isBouncedSo_2 : GoodIn wsL_law wsL_isBouncedSo_r2 := goodIn_r _ [63, 64, 65, 66, 67, 68, 69, 70, 21, 16, 15, 71, 72, 79, 80, 81, 82, 9, 10, 83, 39, 40, 84, 85] (by decide +kernel) (by decide +kernel)
set_option maxRecDepth 20000 in
theorem gp_isBouncedSo_3 : GoodIn wsL_law wsL_isBouncedSo_r3 := goodIn_r _ [86, 87, 88, 89, 90, 91, 92, 93, 94, 44, 45, 46, 47, 48, 49, 50, 95, 96, 97, 98, 99, 100, 101, 102] (by decide +kernel) (by decide +kernel)
set_option maxRecDepth 20000 in
theorem gp_isBouncedSo_4 : GoodIn wsL_law wsL_isBouncedSo_r4 := goodIn_r _ [103, 104, 105, 106, 107, 108, 109, 110, 111, 14, 112, 113, 114, 115, 116, 117, 118, 119, 120, 121, 122, 123, 124, 125] (by decide +kernel) (by decide +kernel)
set_option maxRecDepth 20000 in
theorem gp_isBouncedSo_5 : GoodIn wsL_law wsL_isBouncedSo_r5 := goodIn_r _ [126, 127, 128, 129, 130, 131, 132, 133, 134, 135, 136, 137, 138, 139, 140, 141, 142, 143, 144, 145, 146, 147, 148, 149] (by decide +kernel) (by decide +kernel)
set_option maxRecDepth 20000 in
theorem gp_isBouncedSo_6 : GoodIn wsL_law wsL_isBouncedSo_r6 := goodIn_r _ [150, 151, 152, 22, 18, 17, 153, 154, 155, 156, 157, 158, 159, 160, 161, 162, 163, 164, 165, 166, 24, 167, 168, 169] (by decide +kernel) (by decide +kernel)
set_option maxRecDepth 20000 in
theorem gp_isBouncedSo_7 : GoodIn wsL_law wsL_isBouncedSo_r7 := goodIn_r _ [170, 23, 20, 19, 171, 172, 173, 174, 175, 176, 177, 178, 179, 180, 181, 182, 27, 183, 34, 184, 185, 186, 187, 33] (by decide +kernel) (by decide +kernel)
set_option maxRecDepth 20000 in
theorem gp_isBouncedSo_8 : GoodIn wsL_law wsL_isBouncedSo_r8 := goodIn_r _ [188, 189, 190, 191, 192, 193, 194, 196, 197, 198, 199, 200, 201, 202, 203, 25, 204, 205, 206, 207, 208, 210, 211, 212] (by decide +kernel) (by decide +kernel)
set_option maxRecDepth 20000 in
theorem gp_isBouncedSo_9 : GoodIn wsL_law wsL_isBouncedSo_r9 := goodIn_r _ [213, 214, 215, 216, 217, 218, 219, 220, 221, 222, 223, 224, 225, 226, 227, 228, 229, 230, 231, 232, 233, 234, 235, 236] (by decide +kernel) (by decide +kernel)
set_option maxRecDepth 20000 in
theorem gp_isBouncedSo_10 : GoodIn wsL_law wsL_isBouncedSo_r10 := goodIn_r _ [237, 238, 239, 240, 241, 242, 243, 244, 245, 246, 247, 248, 249, 250, 251, 252, 253, 254, 255, 256, 257, 258, 259, 260] (by decide +kernel) (by decide +kernel)
set_option maxRecDepth 20000 in
theorem gp_isBouncedSo_11 : GoodIn wsL_law wsL_isBouncedSo_r11 := goodIn_r _ [261, 262] (by decide +kernel) (by decide +kernel)
theorem ggL_law_L_isBouncedSo : GoodIn wsL_law wsL_isBouncedSo := goodIn_ca (goodIn_ca (goodIn_ca (goodIn_ca (goodIn_ca (goodIn_ca (goodIn_ca (goodIn_ca (goodIn_ca (goodIn_ca (goodIn_ca (goodIn_ca (goodIn_ca gp_isBouncedSo_1 (goodIn_app gp_isBouncedSo_2 (goodIn_app gp_isBouncedSo_3 (goodIn_app gp_isBouncedSo_4 (goodIn_app gp_isBouncedSo_5 (goodIn_app gp_isBouncedSo_6 (goodIn_app gp_isBouncedSo_7 (goodIn_app gp_isBouncedSo_8 (goodIn_app gp_isBouncedSo_9 (goodIn_app gp_isBouncedSo_10 (gp_isBouncedSo_11))))))))))) (goodIn_sub inlX1 (by decide +kernel))) (goodIn_sub inlX8 (by decide +kernel))) (goodIn_sub inlX7 (by decide +kernel))) (goodIn_sub inlX3 (by decide +kernel))) (goodIn_sub inlX2 (by decide +kernel))) (goodIn_sub inlX4 (by decide +kernel))) (goodIn_sub inlX0 (by decide +kernel))) (goodIn_sub inlX6 (by decide +kernel))) (goodIn_sub inlX5 (by decide +kernel))) (goodIn_sub (fun _ h => List.mem_append_left _ (List.mem_append_right _ h)) (by decide +kernel))) (goodIn_sub (fun _ h => List.mem_append_left _ (List.mem_append_left _ (List.mem_append_right _ h))) (by decide +kernel))) (goodIn_sub (fun _ h => List.mem_append_right _ h) (by decide +kernel))
set_option maxRecDepth 20000 in
theorem gL_law_L_isBouncedSo : GoodIn wsL_law (va_wsS RL 125 yL_isBouncedSo wsL_isBouncedSo) := goodIn_app (goodIn_of _ (by decide +kernel)) ggL_law_L_isBouncedSo
theorem dL_law_0 : decode cL_law 0 = .ok (.new 9, 3) := by decide +kernel
theorem dL_law_3 : decode cL_law 3 = .ok (.dup, 1) := by decide +kernel
theorem dL_law_4 : decode cL_law 4 = .ok (.invokespecial 103, 3) := by decide +kernel
theorem dL_law_7 : decode cL_law 7 = .ok (.astore_n 1, 1) := by decide +kernel
theorem dL_law_8 : decode cL_law 8 = .ok (.new 9, 3) := by decide +kernel
theorem dL_law_11 : decode cL_law 11 = .ok (.dup, 1) := by decide +kernel
theorem dL_law_12 : decode cL_law 12 = .ok (.invokespecial 103, 3) := by decide +kernel
theorem dL_law_15 : decode cL_law 15 = .ok (.astore_n 2, 1) := by decide +kernel
theorem dL_law_16 : decode cL_law 16 = .ok (.iconst 1, 1) := by decide +kernel
theorem dL_law_17 : decode cL_law 17 = .ok (.istore_n 3, 1) := by decide +kernel
theorem dL_law_18 : decode cL_law 18 = .ok (.iconst 0, 1) := by decide +kernel
theorem dL_law_19 : decode cL_law 19 = .ok (.istore 4, 2) := by decide +kernel
theorem dL_law_21 : decode cL_law 21 = .ok (.iload 4, 2) := by decide +kernel
theorem dL_law_23 : decode cL_law 23 = .ok (.iconst 3, 1) := by decide +kernel
theorem dL_law_24 : decode cL_law 24 = .ok (.if_icmp .ge 61, 3) := by decide +kernel
theorem dL_law_27 : decode cL_law 27 = .ok (.aload_n 0, 1) := by decide +kernel
theorem dL_law_28 : decode cL_law 28 = .ok (.iload 4, 2) := by decide +kernel
theorem dL_law_30 : decode cL_law 30 = .ok (.invokestatic 104, 3) := by decide +kernel
theorem dL_law_33 : decode cL_law 33 = .ok (.iconst 3, 1) := by decide +kernel
theorem dL_law_34 : decode cL_law 34 = .ok (.invokestatic 65, 3) := by decide +kernel
theorem dL_law_37 : decode cL_law 37 = .ok (.istore 5, 2) := by decide +kernel
theorem dL_law_39 : decode cL_law 39 = .ok (.iload_n 3, 1) := by decide +kernel
theorem dL_law_40 : decode cL_law 40 = .ok (.ifCond .eq 37, 3) := by decide +kernel
theorem dL_law_43 : decode cL_law 43 = .ok (.aload_n 1, 1) := by decide +kernel
theorem dL_law_44 : decode cL_law 44 = .ok (.iconst 0, 1) := by decide +kernel
theorem dL_law_45 : decode cL_law 45 = .ok (.iload 5, 2) := by decide +kernel
theorem dL_law_47 : decode cL_law 47 = .ok (.iconst 0, 1) := by decide +kernel
theorem dL_law_48 : decode cL_law 48 = .ok (.iconst 0, 1) := by decide +kernel
theorem dL_law_49 : decode cL_law 49 = .ok (.iconst 0, 1) := by decide +kernel
theorem dL_law_50 : decode cL_law 50 = .ok (.invokestatic 73, 3) := by decide +kernel
theorem dL_law_53 : decode cL_law 53 = .ok (.iload 4, 2) := by decide +kernel
theorem dL_law_55 : decode cL_law 55 = .ok (.if_icmp .ne 22, 3) := by decide +kernel
theorem dL_law_58 : decode cL_law 58 = .ok (.aload_n 2, 1) := by decide +kernel
theorem dL_law_59 : decode cL_law 59 = .ok (.iconst 0, 1) := by decide +kernel
theorem dL_law_60 : decode cL_law 60 = .ok (.iload 5, 2) := by decide +kernel
theorem dL_law_62 : decode cL_law 62 = .ok (.iconst 0, 1) := by decide +kernel
theorem dL_law_63 : decode cL_law 63 = .ok (.iconst 0, 1) := by decide +kernel
theorem dL_law_64 : decode cL_law 64 = .ok (.iconst 0, 1) := by decide +kernel
theorem dL_law_65 : decode cL_law 65 = .ok (.invokestatic 73, 3) := by decide +kernel
theorem dL_law_68 : decode cL_law 68 = .ok (.iload 4, 2) := by decide +kernel
theorem dL_law_70 : decode cL_law 70 = .ok (.if_icmp .ne 7, 3) := by decide +kernel
theorem dL_law_73 : decode cL_law 73 = .ok (.iconst 1, 1) := by decide +kernel
theorem dL_law_74 : decode cL_law 74 = .ok (.goto 4, 3) := by decide +kernel
theorem dL_law_77 : decode cL_law 77 = .ok (.iconst 0, 1) := by decide +kernel
theorem dL_law_78 : decode cL_law 78 = .ok (.istore_n 3, 1) := by decide +kernel
theorem dL_law_79 : decode cL_law 79 = .ok (.iinc 4 1, 3) := by decide +kernel
theorem dL_law_82 : decode cL_law 82 = .ok (.goto (-61), 3) := by decide +kernel
theorem dL_law_85 : decode cL_law 85 = .ok (.iconst 3, 1) := by decide +kernel
theorem dL_law_86 : decode cL_law 86 = .ok (.istore 4, 2) := by decide +kernel
theorem dL_law_88 : decode cL_law 88 = .ok (.iload 4, 2) := by decide +kernel
theorem dL_law_90 : decode cL_law 90 = .ok (.bipush 110, 2) := by decide +kernel
theorem dL_law_92 : decode cL_law 92 = .ok (.if_icmp .ge 179, 3) := by decide +kernel
theorem dL_law_95 : decode cL_law 95 = .ok (.iload_n 3, 1) := by decide +kernel
theorem dL_law_96 : decode cL_law 96 = .ok (.ifCond .eq 175, 3) := by decide +kernel
theorem dL_law_99 : decode cL_law 99 = .ok (.aload_n 0, 1) := by decide +kernel
theorem dL_law_100 : decode cL_law 100 = .ok (.iload 4, 2) := by decide +kernel
theorem dL_law_102 : decode cL_law 102 = .ok (.bipush 61, 2) := by decide +kernel
theorem dL_law_104 : decode cL_law 104 = .ok (.irem, 1) := by decide +kernel
theorem dL_law_105 : decode cL_law 105 = .ok (.invokestatic 104, 3) := by decide +kernel
theorem dL_law_108 : decode cL_law 108 = .ok (.sipush 1163, 3) := by decide +kernel
theorem dL_law_111 : decode cL_law 111 = .ok (.iload 4, 2) := by decide +kernel
theorem dL_law_113 : decode cL_law 113 = .ok (.bipush 61, 2) := by decide +kernel
theorem dL_law_115 : decode cL_law 115 = .ok (.idiv, 1) := by decide +kernel
theorem dL_law_116 : decode cL_law 116 = .ok (.imul, 1) := by decide +kernel
theorem dL_law_117 : decode cL_law 117 = .ok (.iadd, 1) := by decide +kernel
theorem dL_law_118 : decode cL_law 118 = .ok (.istore 5, 2) := by decide +kernel
theorem dL_law_120 : decode cL_law 120 = .ok (.aload_n 1, 1) := by decide +kernel
theorem dL_law_121 : decode cL_law 121 = .ok (.iload 5, 2) := by decide +kernel
theorem dL_law_123 : decode cL_law 123 = .ok (.invokestatic 108, 3) := by decide +kernel
theorem dL_law_126 : decode cL_law 126 = .ok (.istore 6, 2) := by decide +kernel
theorem dL_law_128 : decode cL_law 128 = .ok (.iload 6, 2) := by decide +kernel
theorem dL_law_130 : decode cL_law 130 = .ok (.ldc 44, 2) := by decide +kernel
theorem dL_law_132 : decode cL_law 132 = .ok (.if_icmp .eq 14, 3) := by decide +kernel
theorem dL_law_135 : decode cL_law 135 = .ok (.aload_n 2, 1) := by decide +kernel
theorem dL_law_136 : decode cL_law 136 = .ok (.iload 5, 2) := by decide +kernel
theorem dL_law_138 : decode cL_law 138 = .ok (.invokestatic 108, 3) := by decide +kernel
theorem dL_law_141 : decode cL_law 141 = .ok (.iload 6, 2) := by decide +kernel
theorem dL_law_143 : decode cL_law 143 = .ok (.if_icmp .ne 44, 3) := by decide +kernel
theorem dL_law_146 : decode cL_law 146 = .ok (.iload 4, 2) := by decide +kernel
theorem dL_law_148 : decode cL_law 148 = .ok (.bipush 6, 2) := by decide +kernel
theorem dL_law_150 : decode cL_law 150 = .ok (.irem, 1) := by decide +kernel
theorem dL_law_151 : decode cL_law 151 = .ok (.iconst 3, 1) := by decide +kernel
theorem dL_law_152 : decode cL_law 152 = .ok (.if_icmp .ne 20, 3) := by decide +kernel
theorem dL_law_155 : decode cL_law 155 = .ok (.aload_n 1, 1) := by decide +kernel
theorem dL_law_156 : decode cL_law 156 = .ok (.aload_n 2, 1) := by decide +kernel
theorem dL_law_157 : decode cL_law 157 = .ok (.iload 5, 2) := by decide +kernel
theorem dL_law_159 : decode cL_law 159 = .ok (.iconst 5, 1) := by decide +kernel
theorem dL_law_160 : decode cL_law 160 = .ok (.ishr, 1) := by decide +kernel
theorem dL_law_161 : decode cL_law 161 = .ok (.bipush 31, 2) := by decide +kernel
theorem dL_law_163 : decode cL_law 163 = .ok (.invokestatic 65, 3) := by decide +kernel
theorem dL_law_166 : decode cL_law 166 = .ok (.invokestatic 112, 3) := by decide +kernel
theorem dL_law_169 : decode cL_law 169 = .ok (.ifCond .eq 18, 3) := by decide +kernel
theorem dL_law_172 : decode cL_law 172 = .ok (.aload_n 1, 1) := by decide +kernel
theorem dL_law_173 : decode cL_law 173 = .ok (.iload 4, 2) := by decide +kernel
theorem dL_law_175 : decode cL_law 175 = .ok (.iconst 3, 1) := by decide +kernel
theorem dL_law_176 : decode cL_law 176 = .ok (.irem, 1) := by decide +kernel
theorem dL_law_177 : decode cL_law 177 = .ok (.invokestatic 116, 3) := by decide +kernel
theorem dL_law_180 : decode cL_law 180 = .ok (.ifCond .eq 7, 3) := by decide +kernel
theorem dL_law_183 : decode cL_law 183 = .ok (.iconst 1, 1) := by decide +kernel
theorem dL_law_184 : decode cL_law 184 = .ok (.goto 4, 3) := by decide +kernel
theorem dL_law_187 : decode cL_law 187 = .ok (.iconst 0, 1) := by decide +kernel
theorem dL_law_188 : decode cL_law 188 = .ok (.istore_n 3, 1) := by decide +kernel
theorem dL_law_189 : decode cL_law 189 = .ok (.iload 4, 2) := by decide +kernel
theorem dL_law_191 : decode cL_law 191 = .ok (.bipush 9, 2) := by decide +kernel
theorem dL_law_193 : decode cL_law 193 = .ok (.irem, 1) := by decide +kernel
theorem dL_law_194 : decode cL_law 194 = .ok (.iconst 5, 1) := by decide +kernel
theorem dL_law_195 : decode cL_law 195 = .ok (.if_icmp .ne 21, 3) := by decide +kernel
theorem dL_law_198 : decode cL_law 198 = .ok (.iload_n 3, 1) := by decide +kernel
theorem dL_law_199 : decode cL_law 199 = .ok (.ifCond .eq 15, 3) := by decide +kernel
theorem dL_law_202 : decode cL_law 202 = .ok (.aload_n 1, 1) := by decide +kernel
theorem dL_law_203 : decode cL_law 203 = .ok (.aload_n 2, 1) := by decide +kernel
theorem dL_law_204 : decode cL_law 204 = .ok (.invokestatic 120, 3) := by decide +kernel
theorem dL_law_207 : decode cL_law 207 = .ok (.ifCond .eq 7, 3) := by decide +kernel
theorem dL_law_210 : decode cL_law 210 = .ok (.iconst 1, 1) := by decide +kernel
theorem dL_law_211 : decode cL_law 211 = .ok (.goto 4, 3) := by decide +kernel
theorem dL_law_214 : decode cL_law 214 = .ok (.iconst 0, 1) := by decide +kernel
theorem dL_law_215 : decode cL_law 215 = .ok (.istore_n 3, 1) := by decide +kernel
theorem dL_law_216 : decode cL_law 216 = .ok (.iload 4, 2) := by decide +kernel
theorem dL_law_218 : decode cL_law 218 = .ok (.bipush 13, 2) := by decide +kernel
theorem dL_law_220 : decode cL_law 220 = .ok (.irem, 1) := by decide +kernel
theorem dL_law_221 : decode cL_law 221 = .ok (.bipush 8, 2) := by decide +kernel
theorem dL_law_223 : decode cL_law 223 = .ok (.if_icmp .ne 42, 3) := by decide +kernel
theorem dL_law_226 : decode cL_law 226 = .ok (.iload_n 3, 1) := by decide +kernel
theorem dL_law_227 : decode cL_law 227 = .ok (.ifCond .eq 36, 3) := by decide +kernel
theorem dL_law_230 : decode cL_law 230 = .ok (.aload_n 1, 1) := by decide +kernel
theorem dL_law_231 : decode cL_law 231 = .ok (.aload_n 2, 1) := by decide +kernel
theorem dL_law_232 : decode cL_law 232 = .ok (.iload 5, 2) := by decide +kernel
theorem dL_law_234 : decode cL_law 234 = .ok (.bipush 6, 2) := by decide +kernel
theorem dL_law_236 : decode cL_law 236 = .ok (.ishr, 1) := by decide +kernel
theorem dL_law_237 : decode cL_law 237 = .ok (.iconst 3, 1) := by decide +kernel
theorem dL_law_238 : decode cL_law 238 = .ok (.invokestatic 65, 3) := by decide +kernel
theorem dL_law_241 : decode cL_law 241 = .ok (.iconst 1, 1) := by decide +kernel
theorem dL_law_242 : decode cL_law 242 = .ok (.iload 5, 2) := by decide +kernel
theorem dL_law_244 : decode cL_law 244 = .ok (.bipush 8, 2) := by decide +kernel
theorem dL_law_246 : decode cL_law 246 = .ok (.ishr, 1) := by decide +kernel
theorem dL_law_247 : decode cL_law 247 = .ok (.ldc 124, 2) := by decide +kernel
theorem dL_law_249 : decode cL_law 249 = .ok (.invokestatic 65, 3) := by decide +kernel
theorem dL_law_252 : decode cL_law 252 = .ok (.iadd, 1) := by decide +kernel
theorem dL_law_253 : decode cL_law 253 = .ok (.invokestatic 125, 3) := by decide +kernel
theorem dL_law_256 : decode cL_law 256 = .ok (.ifCond .eq 7, 3) := by decide +kernel
theorem dL_law_259 : decode cL_law 259 = .ok (.iconst 1, 1) := by decide +kernel
theorem dL_law_260 : decode cL_law 260 = .ok (.goto 4, 3) := by decide +kernel
theorem dL_law_263 : decode cL_law 263 = .ok (.iconst 0, 1) := by decide +kernel
theorem dL_law_264 : decode cL_law 264 = .ok (.istore_n 3, 1) := by decide +kernel
theorem dL_law_265 : decode cL_law 265 = .ok (.iinc 4 1, 3) := by decide +kernel
theorem dL_law_268 : decode cL_law 268 = .ok (.goto (-180), 3) := by decide +kernel
theorem dL_law_271 : decode cL_law 271 = .ok (.iload_n 3, 1) := by decide +kernel
theorem dL_law_272 : decode cL_law 272 = .ok (.ifCond .eq 24, 3) := by decide +kernel
theorem dL_law_275 : decode cL_law 275 = .ok (.aload_n 1, 1) := by decide +kernel
theorem dL_law_276 : decode cL_law 276 = .ok (.aload_n 2, 1) := by decide +kernel
theorem dL_law_277 : decode cL_law 277 = .ok (.iconst 0, 1) := by decide +kernel
theorem dL_law_278 : decode cL_law 278 = .ok (.invokestatic 112, 3) := by decide +kernel
theorem dL_law_281 : decode cL_law 281 = .ok (.ifCond .eq 15, 3) := by decide +kernel
theorem dL_law_284 : decode cL_law 284 = .ok (.aload_n 2, 1) := by decide +kernel
theorem dL_law_285 : decode cL_law 285 = .ok (.iconst 0, 1) := by decide +kernel
theorem dL_law_286 : decode cL_law 286 = .ok (.invokestatic 116, 3) := by decide +kernel
theorem dL_law_289 : decode cL_law 289 = .ok (.ifCond .eq 7, 3) := by decide +kernel
theorem dL_law_292 : decode cL_law 292 = .ok (.iconst 1, 1) := by decide +kernel
theorem dL_law_293 : decode cL_law 293 = .ok (.goto 4, 3) := by decide +kernel
theorem dL_law_296 : decode cL_law 296 = .ok (.iconst 0, 1) := by decide +kernel
theorem dL_law_297 : decode cL_law 297 = .ok (.ireturn, 1) := by decide +kernel
