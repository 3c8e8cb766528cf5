theorem goodIn_cons {big a : List Cond} {c : Cond} (h1 : GoodIn big [c]) (h2 : GoodIn big a) : GoodIn big (c :: a) := fun w h => (List.mem_cons.mp h).elim (fun e => h1 w (List.mem_cons.mpr (Or.inl e))) (h2 w)
set_option maxRecDepth 20000 in
theorem ggL_law_X8_init : GoodIn wsL_law wsX8_init := goodIn_r _ [5, 6, 7, 8, 9, 10, 11, 12, 13, 14, 15, 16, 17, 18, 19, 20, 21, 22, 23, 24, 25, 26, 27, 28, 29, 30, 31, 32, 33, 34, 35, 36, 37, 38, 39, 40, 41, 42, 43, 44, 45, 46, 47, 48, 49, 50, 51, 52, 53, 54, 55, 56, 57, 58, 59, 60, 61, 62, 63, 64, 65, 66, 67, 68, 69, 70, 71, 72, 73, 74, 75, 76, 77, 78, 79, 80, 81, 82, 83, 84, 85, 86, 87, 88, 89, 90, 91, 92, 93, 94, 95, 96, 97, 98, 99, 100, 101, 102, 103, 104, 105, 106, 107, 108, 109, 110, 111, 112, 507, 508, 509, 510, 511, 512, 497, 498, 499, 500, 501, 502, 503, 504, 505, 506, 513, 514, 515, 516, 517, 518, 519, 520, 521, 522, 523, 524, 525, 526, 527, 528, 529, 530, 531, 532, 533, 534, 535, 536, 537] (by decide +kernel) (by decide +kernel)
set_option maxRecDepth 20000 in
theorem gL_law_X8_init : GoodIn wsL_law (wsX8_init) := ggL_law_X8_init
set_option maxRecDepth 20000 in
theorem ggL_law_L_cell : GoodIn wsL_law wsL_cell := goodIn_r _ [116, 117] (by decide +kernel) (by decide +kernel)
set_option maxRecDepth 20000 in
theorem gL_law_L_cell : GoodIn wsL_law (va_wsS RL 96 yL_cell wsL_cell) := goodIn_app (goodIn_of _ (by decide +kernel)) ggL_law_L_cell
set_option maxRecDepth 20000 in
theorem ggL_law_L_low : GoodIn wsL_law wsL_low := goodIn_r _ [120, 121] (by decide +kernel) (by decide +kernel)
set_option maxRecDepth 20000 in
theorem gL_law_L_low : GoodIn wsL_law (va_wsS RL 36 yL_low wsL_low) := goodIn_app (goodIn_of _ (by decide +kernel)) ggL_law_L_low
set_option maxRecDepth 20000 in
theorem ggL_law_L_length : GoodIn wsL_law wsL_length := goodIn_r _ [124, 118, 119, 115, 120, 121] (by decide +kernel) (by decide +kernel)
set_option maxRecDepth 20000 in
theorem gL_law_L_length : GoodIn wsL_law (va_wsS RL 100 yL_length wsL_length) := goodIn_app (goodIn_of _ (by decide +kernel)) ggL_law_L_length
set_option maxRecDepth 20000 in
theorem ggL_law_L_crews : GoodIn wsL_law wsL_crews := goodIn_r _ [127, 118, 119, 115, 120, 121] (by decide +kernel) (by decide +kernel)
set_option maxRecDepth 20000 in
theorem gL_law_L_crews : GoodIn wsL_law (va_wsS RL 103 yL_crews wsL_crews) := goodIn_app (goodIn_of _ (by decide +kernel)) ggL_law_L_crews
set_option maxRecDepth 20000 in
theorem ggL_law_L_addTask : GoodIn wsL_law wsL_addTask := goodIn_ca (goodIn_ca (goodIn_r _ [130, 131, 132, 133, 134, 2, 135, 136, 137, 12, 138, 18, 139, 140, 141, 142, 143, 144, 145, 146, 147, 17, 148, 59, 60, 62, 149, 150, 151, 11, 152, 46, 153, 154, 155, 156, 44, 45, 48, 157, 158, 159, 160, 49, 50, 161, 162, 163, 164, 497, 498, 499, 500, 501, 502, 503, 504, 505, 506, 507, 508, 509, 510, 511, 512, 513, 514, 515] (by decide +kernel) (by decide +kernel)) (goodIn_sub (fun _ h => List.mem_append_left _ (List.mem_append_left _ (List.mem_append_left _ (List.mem_append_right _ h)))) (by decide +kernel))) (goodIn_sub (fun _ h => List.mem_append_left _ (List.mem_append_left _ (List.mem_append_right _ h))) (by decide +kernel))
set_option maxRecDepth 20000 in
theorem gL_law_L_addTask : GoodIn wsL_law (va_wsS RL 106 yL_addTask wsL_addTask) := goodIn_app (goodIn_of _ (by decide +kernel)) ggL_law_L_addTask
set_option maxRecDepth 20000 in
theorem gp_L_days_h : GoodIn wsL_law [.code yL_days cL_days 19 (some .boolean)] := goodIn_r _ [167] (by decide +kernel) (by decide +kernel)
set_option maxRecDepth 20000 in
theorem gp_L_days_1 : GoodIn wsL_law wsL_days_r1 := goodIn_r _ [168, 169, 170, 2, 171, 12, 138, 172, 173, 174, 175, 26, 176, 177, 178, 25, 179, 180, 80, 181, 158, 159, 160, 182] (by decide +kernel) (by decide +kernel)
set_option maxRecDepth 20000 in
theorem gp_L_days_2 : GoodIn wsL_law wsL_days_r2 := goodIn_r _ [183, 184, 185, 84, 79, 186, 187, 188, 83, 189, 88, 190, 90, 89, 191, 192, 193, 11, 194, 44, 195, 196, 197, 198] (by decide +kernel) (by decide +kernel)
set_option maxRecDepth 20000 in
theorem gp_L_days_3 : GoodIn wsL_law wsL_days_r3 := goodIn_r _ [50, 199, 200, 201, 202, 203, 204, 205, 206, 207, 208, 209, 210, 211, 77, 212, 213, 214, 215, 216, 217, 218, 219, 52] (by decide +kernel) (by decide +kernel)
set_option maxRecDepth 20000 in
theorem gp_L_days_4 : GoodIn wsL_law wsL_days_r4 := goodIn_r _ [53, 54, 220, 221, 222, 223, 224, 78, 225, 226, 227, 228, 229, 230, 231, 31, 232, 233, 234, 30, 235, 94, 236, 237] (by decide +kernel) (by decide +kernel)
set_option maxRecDepth 20000 in
theorem gp_L_days_5 : GoodIn wsL_law wsL_days_r5 := goodIn_r _ [238, 239, 240, 241, 242, 243, 244, 245, 246, 247, 248, 18, 249, 250, 251, 252, 253, 254, 255, 256, 257, 258, 259, 260] (by decide +kernel) (by decide +kernel)
set_option maxRecDepth 20000 in
theorem gp_L_days_6 : GoodIn wsL_law wsL_days_r6 := goodIn_r _ [261, 262, 263, 264, 265, 266, 267, 268, 115, 269, 270, 271, 272, 273, 274, 275, 276, 277, 278, 279, 280, 281, 282, 283] (by decide +kernel) (by decide +kernel)
set_option maxRecDepth 20000 in
theorem gp_L_days_7 : GoodIn wsL_law wsL_days_r7 := goodIn_r _ [284, 285, 286, 287, 288, 289, 290, 291, 292, 293, 294, 295, 296, 297, 298, 35, 299, 300, 301, 34, 302, 99, 303, 304] (by decide +kernel) (by decide +kernel)
set_option maxRecDepth 20000 in
theorem gp_L_days_8 : GoodIn wsL_law wsL_days_r8 := goodIn_r _ [102, 305, 103, 306, 307, 308, 309, 310, 311, 312, 313, 314, 315, 316, 317, 318, 319, 320, 321, 322, 323, 324, 325, 326] (by decide +kernel) (by decide +kernel)
set_option maxRecDepth 20000 in
theorem gp_L_days_9 : GoodIn wsL_law wsL_days_r9 := goodIn_r _ [327, 328, 329, 330, 331, 332, 333, 334, 335, 336, 337, 338, 339, 340, 341, 342, 343, 344, 345, 346, 347, 348, 105, 349] (by decide +kernel) (by decide +kernel)
set_option maxRecDepth 20000 in
theorem gp_L_days_10 : GoodIn wsL_law wsL_days_r10 := goodIn_r _ [350, 351] (by decide +kernel) (by decide +kernel)
set_option maxRecDepth 20000 in
theorem gp_L_days_11 : GoodIn wsL_law wsX80 := goodIn_r _ [497, 498, 499, 500, 501, 502, 503, 504, 505, 506] (by decide +kernel) (by decide +kernel)
set_option maxRecDepth 20000 in
theorem gp_L_days_12 : GoodIn wsL_law wsX70 := goodIn_r _ [507, 508, 509, 510, 511, 512] (by decide +kernel) (by decide +kernel)
set_option maxRecDepth 20000 in
theorem gp_L_days_13 : GoodIn wsL_law wsX10 := goodIn_r _ [520, 521, 522, 523, 524] (by decide +kernel) (by decide +kernel)
set_option maxRecDepth 20000 in
theorem gp_L_days_14 : GoodIn wsL_law wsX30 := goodIn_r _ [535, 536, 537] (by decide +kernel) (by decide +kernel)
set_option maxRecDepth 20000 in
theorem gp_L_days_15 : GoodIn wsL_law wsX50 := goodIn_r _ [525] (by decide +kernel) (by decide +kernel)
set_option maxRecDepth 20000 in
theorem gp_L_days_16 : GoodIn wsL_law wsX20 := goodIn_r _ [513, 514, 515] (by decide +kernel) (by decide +kernel)
set_option maxRecDepth 20000 in
theorem gp_L_days_17 : GoodIn wsL_law wsX00 := goodIn_r _ [526, 527, 528, 529, 530] (by decide +kernel) (by decide +kernel)
set_option maxRecDepth 20000 in
theorem ggL_law_L_days : GoodIn wsL_law wsL_days := goodIn_ca (goodIn_ca (goodIn_cons gp_L_days_h (goodIn_app (goodIn_app (goodIn_app (goodIn_app (goodIn_app (goodIn_app (goodIn_app (goodIn_app gp_L_days_1 (goodIn_app gp_L_days_2 (goodIn_app gp_L_days_3 (goodIn_app gp_L_days_4 (goodIn_app gp_L_days_5 (goodIn_app gp_L_days_6 (goodIn_app gp_L_days_7 (goodIn_app gp_L_days_8 (goodIn_app gp_L_days_9 gp_L_days_10))))))))) gp_L_days_11) gp_L_days_12) gp_L_days_13) gp_L_days_14) gp_L_days_15) gp_L_days_16) gp_L_days_17)) (goodIn_sub (fun _ h => List.mem_append_left _ (List.mem_append_right _ h)) (by decide +kernel))) (goodIn_sub (fun _ h => List.mem_append_right _ h) (by decide +kernel))
set_option maxRecDepth 20000 in
theorem gL_law_L_days : GoodIn wsL_law (va_wsS RL 108 yL_days wsL_days) := goodIn_app (goodIn_of _ (by decide +kernel)) ggL_law_L_days
set_option maxRecDepth 20000 in
theorem ggL_law_X8_taskCount : GoodIn wsL_law wsX8_taskCount := goodIn_r _ [171, 12, 138, 497, 498, 499, 500, 501, 502, 503, 504, 505, 506, 507, 508, 509, 510, 511, 512] (by decide +kernel) (by decide +kernel)
set_option maxRecDepth 20000 in
theorem gL_law_X8_taskCount : GoodIn wsL_law (wsV RL 41 RX8 yX8_taskCount wsX8_taskCount) := goodIn_app (goodIn_of _ (by decide +kernel)) ggL_law_X8_taskCount
set_option maxRecDepth 20000 in
theorem ggL_law_X8_planLength : GoodIn wsL_law wsX8_planLength := goodIn_r _ [175, 26, 12, 176, 177, 178, 25, 179, 180, 80, 181, 158, 159, 160, 182, 183, 184, 185, 84, 79, 186, 187, 188, 83, 189, 88, 190, 90, 89, 191, 192, 193, 11, 194, 44, 195, 196, 197, 198, 50, 199, 200, 201, 202, 203, 204, 205, 206, 207, 208, 209, 210, 211, 77, 212, 213, 214, 215, 216, 217, 218, 219, 52, 53, 54, 220, 221, 222, 223, 224, 78, 225, 226, 227, 497, 498, 499, 500, 501, 502, 503, 504, 505, 506, 507, 508, 509, 510, 511, 512, 520, 521, 522, 523, 524, 535, 536, 537] (by decide +kernel) (by decide +kernel)
set_option maxRecDepth 20000 in
theorem gL_law_X8_planLength : GoodIn wsL_law (wsV RL 44 RX8 yX8_planLength wsX8_planLength) := goodIn_app (goodIn_of _ (by decide +kernel)) ggL_law_X8_planLength
set_option maxRecDepth 20000 in
theorem ggL_law_L_lag : GoodIn wsL_law wsL_lag := goodIn_ca (goodIn_ca (goodIn_r _ [269, 270, 271, 272, 273, 2, 274, 275, 276, 277, 278, 279, 280, 12, 255, 256, 257, 258, 259, 260, 261, 200, 201, 11, 202, 44, 281, 196, 197, 198, 50, 199, 497, 498, 499, 500, 501, 502, 503, 504, 505, 506, 507, 508, 509, 510, 511, 512] (by decide +kernel) (by decide +kernel)) (goodIn_sub (fun _ h => List.mem_append_right _ h) (by decide +kernel))) (goodIn_sub (fun _ h => List.mem_append_left _ (List.mem_append_right _ h)) (by decide +kernel))
set_option maxRecDepth 20000 in
theorem gL_law_L_lag : GoodIn wsL_law (va_wsS RL 60 yL_lag wsL_lag) := goodIn_app (goodIn_of _ (by decide +kernel)) ggL_law_L_lag
