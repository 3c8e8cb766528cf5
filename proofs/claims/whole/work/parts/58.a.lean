set_option maxRecDepth 20000 in
theorem ggL_law_X8_init : GoodIn wsL_law wsX8_init := goodIn_r _ [10, 11, 12, 13, 14, 15, 16, 17, 18, 19, 20, 21, 22, 23, 24, 25, 26, 27, 28, 29, 30, 31, 32, 33, 34, 35, 36, 37, 38, 39, 40, 41, 42, 43, 44, 45, 46, 47, 48, 49, 50, 51, 52, 53, 54, 55, 56, 57, 58, 59, 60, 61, 62, 63, 64, 65, 66, 67, 68, 69, 70, 71, 72, 73, 74, 75, 76, 77, 78, 79, 80, 81, 82, 83, 84, 85, 86, 87, 88, 89, 90, 91, 92, 93, 94, 95, 96, 97, 98, 99, 100, 101, 102, 103, 104, 105, 106, 107, 108, 6, 109, 110, 111, 112, 113, 114, 115, 116, 954, 955, 956, 957, 958, 959, 928, 929, 930, 931, 932, 933, 934, 935, 936, 937, 960, 961, 962, 963, 964, 965, 966, 967, 968, 969, 970, 971, 972, 973, 974, 975, 976, 977, 978, 979, 980, 981, 982, 983, 984] (by decide +kernel) (by decide +kernel)
set_option maxRecDepth 20000 in
theorem gL_law_X8_init : GoodIn wsL_law (wsX8_init) := ggL_law_X8_init
set_option maxRecDepth 20000 in
theorem ggL_law_X9_init : GoodIn wsL_law wsX9_init := goodIn_r _ [119, 120, 12, 13, 52, 121, 122, 123, 124, 125, 126, 127, 128, 129, 6, 130, 131, 938, 939, 940, 941, 942, 943, 944, 945, 946, 947, 948, 949, 950, 951, 952, 953] (by decide +kernel) (by decide +kernel)
set_option maxRecDepth 20000 in
theorem gL_law_X9_init : GoodIn wsL_law (wsX9_init) := ggL_law_X9_init
set_option maxRecDepth 20000 in
theorem ggL_law_L_addTask : GoodIn wsL_law wsL_addTask := goodIn_ca (goodIn_ca (goodIn_r _ [135, 136, 137, 138, 139, 140, 2, 141, 142, 143, 17, 144, 23, 145, 146, 147, 148, 149, 150, 151, 152, 153, 22, 154, 64, 65, 67, 155, 156, 157, 16, 158, 51, 159, 160, 161, 162, 49, 50, 53, 163, 164, 165, 166, 54, 55, 167, 168, 169, 170, 928, 929, 930, 931, 932, 933, 934, 935, 936, 937, 954, 955, 956, 957, 958, 959, 960, 961, 962] (by decide +kernel) (by decide +kernel)) (goodIn_sub (fun _ h => List.mem_append_left _ (List.mem_append_left _ (List.mem_append_left _ (List.mem_append_right _ h)))) (by decide +kernel))) (goodIn_sub (fun _ h => List.mem_append_left _ (List.mem_append_left _ (List.mem_append_right _ h))) (by decide +kernel))
set_option maxRecDepth 20000 in
theorem gL_law_L_addTask : GoodIn wsL_law (va_wsS RL 118 yL_addTask wsL_addTask) := goodIn_app (goodIn_of _ (by decide +kernel)) ggL_law_L_addTask
set_option maxRecDepth 20000 in
theorem ggL_law_X9_addTask : GoodIn wsL_law wsX9_addTask := goodIn_r _ [174, 175, 121, 176, 177, 5, 178, 179, 180, 181, 182, 183, 184, 185, 186, 187, 123, 188, 189, 190, 191, 192, 193, 938, 939, 940, 941, 942, 943, 944, 945, 946, 947, 948, 949, 950, 951, 952, 953] (by decide +kernel) (by decide +kernel)
set_option maxRecDepth 20000 in
theorem gL_law_X9_addTask : GoodIn wsL_law (wsV RL 123 RX9 yX9_addTask wsX9_addTask) := goodIn_app (goodIn_of _ (by decide +kernel)) ggL_law_X9_addTask
set_option maxRecDepth 20000 in
theorem ggL_law_X9_thrown : GoodIn wsL_law wsX9_thrown := goodIn_r _ [197, 175, 938, 939, 940, 941, 942, 943, 944, 945, 946, 947, 948, 949, 950, 951, 952, 953] (by decide +kernel) (by decide +kernel)
set_option maxRecDepth 20000 in
theorem gL_law_X9_thrown : GoodIn wsL_law (wsV RL 124 RX9 yX9_thrown wsX9_thrown) := goodIn_app (goodIn_of _ (by decide +kernel)) ggL_law_X9_thrown
set_option maxRecDepth 20000 in
theorem ggL_law_L_removeTask : GoodIn wsL_law wsL_removeTask := goodIn_ca (goodIn_r _ [200, 137, 201, 202, 203, 2, 204, 142, 143, 17, 144, 23, 205, 151, 152, 153, 22, 154, 64, 65, 67, 155, 156, 157, 16, 158, 51, 159, 160, 161, 162, 49, 50, 53, 163, 164, 165, 166, 54, 55, 206, 207, 208, 209, 210, 211, 212, 213, 214, 215, 216, 217, 218, 219, 220, 221, 222, 223, 224, 225, 928, 929, 930, 931, 932, 933, 934, 935, 936, 937, 954, 955, 956, 957, 958, 959, 960, 961, 962] (by decide +kernel) (by decide +kernel)) (goodIn_sub (fun _ h => List.mem_append_left _ (List.mem_append_left _ (List.mem_append_left _ (List.mem_append_right _ h)))) (by decide +kernel))
set_option maxRecDepth 20000 in
theorem gL_law_L_removeTask : GoodIn wsL_law (va_wsS RL 127 yL_removeTask wsL_removeTask) := goodIn_app (goodIn_of _ (by decide +kernel)) ggL_law_L_removeTask
set_option maxRecDepth 20000 in
theorem ggL_law_X9_removeTask : GoodIn wsL_law wsX9_removeTask := goodIn_r _ [229, 175, 121, 179, 180, 181, 5, 182, 183, 184, 185, 186, 187, 123, 188, 189, 190, 230, 231, 232, 938, 939, 940, 941, 942, 943, 944, 945, 946, 947, 948, 949, 950, 951, 952, 953] (by decide +kernel) (by decide +kernel)
set_option maxRecDepth 20000 in
theorem gL_law_X9_removeTask : GoodIn wsL_law (wsV RL 130 RX9 yX9_removeTask wsX9_removeTask) := goodIn_app (goodIn_of _ (by decide +kernel)) ggL_law_X9_removeTask
set_option maxRecDepth 20000 in
theorem ggL_law_L_setLength : GoodIn wsL_law wsL_setLength := goodIn_ca (goodIn_ca (goodIn_r _ [235, 236, 136, 237, 238, 239, 2, 240, 23, 17, 241, 31, 242, 243, 244, 245, 246, 247, 248, 223, 224, 16, 225, 49, 145, 146, 147, 148, 149, 150, 151, 152, 153, 22, 154, 64, 65, 67, 155, 156, 157, 158, 51, 159, 160, 161, 162, 50, 53, 163, 164, 165, 166, 54, 55, 249, 250, 251, 30, 252, 253, 85, 254, 255, 256, 257, 258, 89, 84, 259, 260, 261, 88, 262, 93, 263, 95, 94, 264, 265, 266, 267, 218, 219, 220, 221, 222, 268, 269, 270, 271, 272, 273, 274, 275, 276, 82, 277, 278, 279, 211, 212, 213, 280, 281, 57, 58, 59, 282, 283, 284, 285, 286, 83, 287, 288, 289, 928, 929, 930, 931, 932, 933, 934, 935, 936, 937, 954, 955, 956, 957, 958, 959, 960, 961, 962, 967, 968, 969, 970, 971, 982, 983, 984] (by decide +kernel) (by decide +kernel)) (goodIn_sub (fun _ h => List.mem_append_left _ (List.mem_append_right _ h)) (by decide +kernel))) (goodIn_sub (fun _ h => List.mem_append_left _ (List.mem_append_left _ (List.mem_append_right _ h))) (by decide +kernel))
set_option maxRecDepth 20000 in
theorem gL_law_L_setLength : GoodIn wsL_law (va_wsS RL 131 yL_setLength wsL_setLength) := goodIn_app (goodIn_of _ (by decide +kernel)) ggL_law_L_setLength
set_option maxRecDepth 20000 in
theorem ggL_law_X9_setLength : GoodIn wsL_law wsX9_setLength := goodIn_r _ [293, 121, 294, 295, 296, 5, 297, 175, 176, 177, 178, 179, 180, 181, 182, 183, 184, 185, 186, 187, 123, 188, 189, 190, 298, 299, 300, 301, 126, 938, 939, 940, 941, 942, 943, 944, 945, 946, 947, 948, 949, 950, 951, 952, 953] (by decide +kernel) (by decide +kernel)
set_option maxRecDepth 20000 in
theorem gL_law_X9_setLength : GoodIn wsL_law (wsV RL 133 RX9 yX9_setLength wsX9_setLength) := goodIn_app (goodIn_of _ (by decide +kernel)) ggL_law_X9_setLength
set_option maxRecDepth 20000 in
theorem ggL_law_L_depend : GoodIn wsL_law wsL_depend := goodIn_ca (goodIn_ca (goodIn_ca (goodIn_r _ [304, 236, 136, 137, 305, 306, 307, 2, 308, 149, 150, 142, 143, 17, 205, 40, 23, 31, 242, 243, 244, 245, 246, 247, 248, 223, 224, 16, 225, 49, 145, 146, 147, 148, 309, 219, 220, 221, 55, 222, 310, 311, 312, 39, 313, 106, 104, 314, 315, 316, 317, 318, 260, 261, 88, 262, 93, 263, 95, 94, 264, 265, 266, 267, 218, 268, 269, 270, 271, 272, 319, 151, 152, 153, 22, 154, 64, 65, 67, 155, 156, 157, 158, 51, 159, 160, 161, 162, 50, 53, 163, 164, 165, 166, 54, 320, 321, 322, 323, 249, 250, 251, 30, 252, 253, 85, 254, 255, 256, 257, 258, 89, 84, 259, 273, 274, 275, 276, 82, 277, 278, 279, 211, 212, 213, 280, 281, 57, 58, 59, 282, 283, 284, 285, 286, 83, 287, 288, 289, 928, 929, 930, 931, 932, 933, 934, 935, 936, 937, 954, 955, 956, 957, 958, 959, 973, 974, 975, 976, 977, 982, 983, 984, 960, 961, 962, 967, 968, 969, 970, 971] (by decide +kernel) (by decide +kernel)) (goodIn_sub (fun _ h => List.mem_append_left _ (List.mem_append_left _ (List.mem_append_right _ h))) (by decide +kernel))) (goodIn_sub (fun _ h => List.mem_append_left _ (List.mem_append_left _ (List.mem_append_left _ (List.mem_append_right _ h)))) (by decide +kernel))) (goodIn_sub (fun _ h => List.mem_append_left _ (List.mem_append_right _ h)) (by decide +kernel))
set_option maxRecDepth 20000 in
theorem gL_law_L_depend : GoodIn wsL_law (va_wsS RL 134 yL_depend wsL_depend) := goodIn_app (goodIn_of _ (by decide +kernel)) ggL_law_L_depend
