set_option maxRecDepth 20000 in
theorem ggL_law_X8_isAhead : GoodIn wsL_law wsX8_isAhead := goodIn_ca (goodIn_r _ [355, 35, 12, 255, 256, 257, 2, 258, 259, 260, 261, 200, 201, 11, 202, 44, 356, 357, 358, 34, 359, 101, 99, 303, 304, 312, 306, 307, 187, 188, 83, 189, 88, 190, 90, 89, 191, 192, 193, 194, 195, 196, 197, 198, 50, 199, 203, 204, 205, 206, 207, 314, 497, 498, 499, 500, 501, 502, 503, 504, 505, 506, 507, 508, 509, 510, 511, 512, 526, 527, 528, 529, 530, 535, 536, 537] (by decide +kernel) (by decide +kernel)) (goodIn_sub (fun _ h => List.mem_append_left _ (List.mem_append_right _ h)) (by decide +kernel))
set_option maxRecDepth 20000 in
theorem gL_law_X8_isAhead : GoodIn wsL_law (wsV RL 112 RX8 yX8_isAhead wsX8_isAhead) := goodIn_app (goodIn_of _ (by decide +kernel)) ggL_law_X8_isAhead
set_option maxRecDepth 20000 in
theorem gp_L_depend_h : GoodIn wsL_law [.codeWith yL_depend cL_depend 5 (some .int) [(0, 7, 8, 15)]] := goodIn_r _ [362] (by decide +kernel) (by decide +kernel)
set_option maxRecDepth 20000 in
theorem gp_L_depend_1 : GoodIn wsL_law wsL_depend_r1 := goodIn_r _ [131, 363, 364, 365, 2, 366, 143, 144, 136, 137, 12, 340, 35, 18, 26, 255, 256, 257, 258, 259, 260, 261, 200, 201] (by decide +kernel) (by decide +kernel)
set_option maxRecDepth 20000 in
theorem gp_L_depend_2 : GoodIn wsL_law wsL_depend_r2 := goodIn_r _ [11, 202, 44, 139, 140, 141, 142, 281, 196, 197, 198, 50, 199, 356, 357, 358, 34, 359, 101, 99, 303, 304, 312, 306] (by decide +kernel) (by decide +kernel)
set_option maxRecDepth 20000 in
theorem gp_L_depend_3 : GoodIn wsL_law wsL_depend_r3 := goodIn_r _ [307, 187, 188, 83, 189, 88, 190, 90, 89, 191, 192, 193, 194, 195, 203, 204, 205, 206, 207, 314, 145, 146, 147, 17] (by decide +kernel) (by decide +kernel)
set_option maxRecDepth 20000 in
theorem gp_L_depend_4 : GoodIn wsL_law wsL_depend_r4 := goodIn_r _ [148, 59, 60, 62, 149, 150, 151, 152, 46, 153, 154, 155, 156, 45, 48, 157, 158, 159, 160, 49, 367, 368, 369, 370] (by decide +kernel) (by decide +kernel)
set_option maxRecDepth 20000 in
theorem gp_L_depend_5 : GoodIn wsL_law wsL_depend_r5 := goodIn_r _ [176, 177, 178, 25, 179, 180, 80, 181, 182, 183, 184, 185, 84, 79, 186, 208, 209, 210, 211, 77, 212, 213, 214, 215] (by decide +kernel) (by decide +kernel)
set_option maxRecDepth 20000 in
theorem gp_L_depend_6 : GoodIn wsL_law wsL_depend_r6 := goodIn_r _ [216, 217, 218, 219, 52, 53, 54, 220, 221, 222, 223, 224, 78, 225, 226, 227] (by decide +kernel) (by decide +kernel)
set_option maxRecDepth 20000 in
theorem gp_L_depend_7 : GoodIn wsL_law wsX80 := goodIn_r _ [497, 498, 499, 500, 501, 502, 503, 504, 505, 506] (by decide +kernel) (by decide +kernel)
set_option maxRecDepth 20000 in
theorem gp_L_depend_8 : GoodIn wsL_law wsX70 := goodIn_r _ [507, 508, 509, 510, 511, 512] (by decide +kernel) (by decide +kernel)
set_option maxRecDepth 20000 in
theorem gp_L_depend_9 : GoodIn wsL_law wsX00 := goodIn_r _ [526, 527, 528, 529, 530] (by decide +kernel) (by decide +kernel)
set_option maxRecDepth 20000 in
theorem gp_L_depend_10 : GoodIn wsL_law wsX30 := goodIn_r _ [535, 536, 537] (by decide +kernel) (by decide +kernel)
set_option maxRecDepth 20000 in
theorem gp_L_depend_11 : GoodIn wsL_law wsX20 := goodIn_r _ [513, 514, 515] (by decide +kernel) (by decide +kernel)
set_option maxRecDepth 20000 in
theorem gp_L_depend_12 : GoodIn wsL_law wsX10 := goodIn_r _ [520, 521, 522, 523, 524] (by decide +kernel) (by decide +kernel)
set_option maxRecDepth 20000 in
theorem ggL_law_L_depend : GoodIn wsL_law wsL_depend := goodIn_ca (goodIn_ca (goodIn_ca (goodIn_cons gp_L_depend_h (goodIn_app (goodIn_app (goodIn_app (goodIn_app (goodIn_app (goodIn_app (goodIn_app gp_L_depend_1 (goodIn_app gp_L_depend_2 (goodIn_app gp_L_depend_3 (goodIn_app gp_L_depend_4 (goodIn_app gp_L_depend_5 gp_L_depend_6))))) gp_L_depend_7) gp_L_depend_8) gp_L_depend_9) gp_L_depend_10) gp_L_depend_11) gp_L_depend_12)) (goodIn_sub (fun _ h => List.mem_append_left _ (List.mem_append_left _ (List.mem_append_right _ h))) (by decide +kernel))) (goodIn_sub (fun _ h => List.mem_append_left _ (List.mem_append_left _ (List.mem_append_left _ (List.mem_append_right _ h)))) (by decide +kernel))) (goodIn_sub (fun _ h => List.mem_append_left _ (List.mem_append_right _ h)) (by decide +kernel))
set_option maxRecDepth 20000 in
theorem gL_law_L_depend : GoodIn wsL_law (va_wsS RL 116 yL_depend wsL_depend) := goodIn_app (goodIn_of _ (by decide +kernel)) ggL_law_L_depend
set_option maxRecDepth 20000 in
theorem ggL_law_X8_dependencyCount : GoodIn wsL_law wsX8_dependencyCount := goodIn_r _ [339, 12, 340, 497, 498, 499, 500, 501, 502, 503, 504, 505, 506, 507, 508, 509, 510, 511, 512] (by decide +kernel) (by decide +kernel)
set_option maxRecDepth 20000 in
theorem gL_law_X8_dependencyCount : GoodIn wsL_law (wsV RL 82 RX8 yX8_dependencyCount wsX8_dependencyCount) := goodIn_app (goodIn_of _ (by decide +kernel)) ggL_law_X8_dependencyCount
set_option maxRecDepth 20000 in
theorem ggL_law_L_release : GoodIn wsL_law wsL_release := goodIn_ca (goodIn_ca (goodIn_r _ [373, 270, 374, 375, 376, 2, 377, 18, 12, 275, 276, 277, 278, 279, 280, 255, 256, 257, 258, 259, 260, 261, 200, 201, 11, 202, 44, 281, 196, 197, 198, 50, 199, 145, 146, 147, 17, 148, 59, 60, 62, 149, 150, 151, 152, 46, 153, 154, 155, 156, 45, 48, 157, 158, 159, 160, 49, 378, 379, 380, 381, 195, 497, 498, 499, 500, 501, 502, 503, 504, 505, 506, 507, 508, 509, 510, 511, 512, 513, 514, 515] (by decide +kernel) (by decide +kernel)) (goodIn_sub (fun _ h => List.mem_append_right _ h) (by decide +kernel))) (goodIn_sub (fun _ h => List.mem_append_left _ (List.mem_append_right _ h)) (by decide +kernel))
set_option maxRecDepth 20000 in
theorem gL_law_L_release : GoodIn wsL_law (va_wsS RL 119 yL_release wsL_release) := goodIn_app (goodIn_of _ (by decide +kernel)) ggL_law_L_release
set_option maxRecDepth 20000 in
theorem ggL_law_X8_longestHarmless : GoodIn wsL_law wsX8_longestHarmless := goodIn_ca (goodIn_r _ [331, 26, 12, 266, 255, 256, 257, 2, 258, 259, 260, 261, 200, 201, 11, 202, 44, 176, 177, 178, 25, 179, 180, 80, 181, 158, 159, 160, 182, 183, 184, 185, 84, 79, 186, 187, 188, 83, 189, 88, 190, 90, 89, 191, 192, 193, 194, 195, 196, 197, 198, 50, 199, 203, 204, 205, 206, 207, 208, 209, 210, 211, 77, 212, 213, 214, 215, 216, 217, 218, 219, 52, 53, 54, 220, 221, 222, 223, 224, 78, 225, 226, 227, 291, 292, 293, 294, 497, 498, 499, 500, 501, 502, 503, 504, 505, 506, 507, 508, 509, 510, 511, 512, 520, 521, 522, 523, 524, 535, 536, 537] (by decide +kernel) (by decide +kernel)) (goodIn_sub (fun _ h => List.mem_append_left _ (List.mem_append_right _ h)) (by decide +kernel))
set_option maxRecDepth 20000 in
theorem gL_law_X8_longestHarmless : GoodIn wsL_law (wsV RL 76 RX8 yX8_longestHarmless wsX8_longestHarmless) := goodIn_app (goodIn_of _ (by decide +kernel)) ggL_law_X8_longestHarmless
set_option maxRecDepth 20000 in
theorem ggL_law_X8_setLength : GoodIn wsL_law wsX8_setLength := goodIn_ca (goodIn_ca (goodIn_r _ [385, 18, 12, 266, 26, 255, 256, 257, 2, 258, 259, 260, 261, 200, 201, 11, 202, 44, 139, 140, 141, 142, 143, 144, 145, 146, 147, 17, 148, 59, 60, 62, 149, 150, 151, 152, 46, 153, 154, 155, 156, 45, 48, 157, 158, 159, 160, 49, 50, 176, 177, 178, 25, 179, 180, 80, 181, 182, 183, 184, 185, 84, 79, 186, 187, 188, 83, 189, 88, 190, 90, 89, 191, 192, 193, 194, 195, 196, 197, 198, 199, 203, 204, 205, 206, 207, 208, 209, 210, 211, 77, 212, 213, 214, 215, 216, 217, 218, 219, 52, 53, 54, 220, 221, 222, 223, 224, 78, 225, 226, 227, 497, 498, 499, 500, 501, 502, 503, 504, 505, 506, 507, 508, 509, 510, 511, 512, 513, 514, 515, 520, 521, 522, 523, 524, 535, 536, 537] (by decide +kernel) (by decide +kernel)) (goodIn_sub (fun _ h => List.mem_append_left _ (List.mem_append_right _ h)) (by decide +kernel))) (goodIn_sub (fun _ h => List.mem_append_left _ (List.mem_append_left _ (List.mem_append_right _ h))) (by decide +kernel))
set_option maxRecDepth 20000 in
theorem gL_law_X8_setLength : GoodIn wsL_law (wsV RL 121 RX8 yX8_setLength wsX8_setLength) := goodIn_app (goodIn_of _ (by decide +kernel)) ggL_law_X8_setLength
set_option maxRecDepth 20000 in
theorem ggL_law_X8_slack : GoodIn wsL_law wsX8_slack := goodIn_ca (goodIn_r _ [290, 26, 12, 255, 256, 257, 2, 258, 259, 260, 261, 200, 201, 11, 202, 44, 176, 177, 178, 25, 179, 180, 80, 181, 158, 159, 160, 182, 183, 184, 185, 84, 79, 186, 187, 188, 83, 189, 88, 190, 90, 89, 191, 192, 193, 194, 195, 196, 197, 198, 50, 199, 203, 204, 205, 206, 207, 208, 209, 210, 211, 77, 212, 213, 214, 215, 216, 217, 218, 219, 52, 53, 54, 220, 221, 222, 223, 224, 78, 225, 226, 227, 291, 292, 293, 294, 497, 498, 499, 500, 501, 502, 503, 504, 505, 506, 507, 508, 509, 510, 511, 512, 520, 521, 522, 523, 524, 535, 536, 537] (by decide +kernel) (by decide +kernel)) (goodIn_sub (fun _ h => List.mem_append_left _ (List.mem_append_right _ h)) (by decide +kernel))
set_option maxRecDepth 20000 in
theorem gL_law_X8_slack : GoodIn wsL_law (wsV RL 67 RX8 yX8_slack wsX8_slack) := goodIn_app (goodIn_of _ (by decide +kernel)) ggL_law_X8_slack
set_option maxRecDepth 20000 in
theorem ggL_law_X8_delayOfPlan : GoodIn wsL_law wsX8_delayOfPlan := goodIn_ca (goodIn_ca (goodIn_r _ [389, 27, 12, 26, 255, 256, 257, 2, 258, 259, 260, 261, 200, 201, 11, 202, 44, 139, 140, 141, 142, 143, 144, 390, 391, 392, 25, 393, 180, 80, 181, 158, 159, 160, 327, 182, 183, 184, 185, 84, 79, 186, 187, 188, 83, 189, 88, 190, 90, 89, 191, 192, 193, 194, 195, 196, 197, 198, 50, 199, 203, 204, 205, 206, 207, 208, 209, 210, 211, 77, 212, 213, 214, 215, 216, 217, 218, 219, 52, 53, 54, 220, 221, 222, 223, 224, 78, 225, 226, 227, 176, 177, 178, 179, 497, 498, 499, 500, 501, 502, 503, 504, 505, 506, 507, 508, 509, 510, 511, 512, 520, 521, 522, 523, 524, 535, 536, 537] (by decide +kernel) (by decide +kernel)) (goodIn_sub (fun _ h => List.mem_append_left _ (List.mem_append_right _ h)) (by decide +kernel))) (goodIn_sub (fun _ h => List.mem_append_left _ (List.mem_append_left _ (List.mem_append_right _ h))) (by decide +kernel))
set_option maxRecDepth 20000 in
theorem gL_law_X8_delayOfPlan : GoodIn wsL_law (wsV RL 124 RX8 yX8_delayOfPlan wsX8_delayOfPlan) := goodIn_app (goodIn_of _ (by decide +kernel)) ggL_law_X8_delayOfPlan
set_option maxRecDepth 20000 in
theorem ggL_law_X8_delayBySlack : GoodIn wsL_law wsX8_delayBySlack := goodIn_ca (goodIn_ca (goodIn_r _ [397, 26, 12, 398, 215, 216, 217, 255, 256, 257, 2, 258, 259, 260, 261, 200, 201, 11, 202, 44, 139, 140, 141, 142, 143, 144, 176, 177, 178, 25, 179, 180, 80, 181, 158, 159, 160, 182, 183, 184, 185, 84, 79, 186, 187, 188, 83, 189, 88, 190, 90, 89, 191, 192, 193, 194, 195, 196, 197, 198, 50, 199, 203, 204, 205, 206, 207, 208, 209, 210, 211, 77, 212, 213, 214, 218, 219, 52, 53, 54, 220, 221, 222, 223, 224, 78, 225, 226, 227, 291, 292, 293, 294, 497, 498, 499, 500, 501, 502, 503, 504, 505, 506, 507, 508, 509, 510, 511, 512, 520, 521, 522, 523, 524, 535, 536, 537] (by decide +kernel) (by decide +kernel)) (goodIn_sub (fun _ h => List.mem_append_left _ (List.mem_append_right _ h)) (by decide +kernel))) (goodIn_sub (fun _ h => List.mem_append_left _ (List.mem_append_left _ (List.mem_append_right _ h))) (by decide +kernel))
set_option maxRecDepth 20000 in
theorem gL_law_X8_delayBySlack : GoodIn wsL_law (wsV RL 127 RX8 yX8_delayBySlack wsX8_delayBySlack) := goodIn_app (goodIn_of _ (by decide +kernel)) ggL_law_X8_delayBySlack
set_option maxRecDepth 20000 in
theorem ggL_law_X8_tasksMoved : GoodIn wsL_law wsX8_tasksMoved := goodIn_ca (goodIn_ca (goodIn_r _ [402, 26, 12, 27, 138, 254, 255, 256, 257, 2, 258, 259, 260, 261, 200, 201, 11, 202, 44, 139, 140, 141, 142, 143, 144, 176, 177, 178, 25, 179, 180, 80, 181, 158, 159, 160, 182, 183, 184, 185, 84, 79, 186, 187, 188, 83, 189, 88, 190, 90, 89, 191, 192, 193, 194, 195, 196, 197, 198, 50, 199, 203, 204, 205, 206, 207, 208, 209, 210, 211, 77, 212, 213, 214, 215, 216, 217, 218, 219, 52, 53, 54, 220, 221, 222, 223, 224, 78, 225, 226, 227, 390, 391, 392, 393, 327, 497, 498, 499, 500, 501, 502, 503, 504, 505, 506, 507, 508, 509, 510, 511, 512, 520, 521, 522, 523, 524, 535, 536, 537] (by decide +kernel) (by decide +kernel)) (goodIn_sub (fun _ h => List.mem_append_left _ (List.mem_append_right _ h)) (by decide +kernel))) (goodIn_sub (fun _ h => List.mem_append_left _ (List.mem_append_left _ (List.mem_append_right _ h))) (by decide +kernel))
set_option maxRecDepth 20000 in
theorem gL_law_X8_tasksMoved : GoodIn wsL_law (wsV RL 130 RX8 yX8_tasksMoved wsX8_tasksMoved) := goodIn_app (goodIn_of _ (by decide +kernel)) ggL_law_X8_tasksMoved
