set_option maxRecDepth 20000 in
theorem ggL_law_X9_depend : GoodIn wsL_law wsX9_depend := goodIn_r _ [327, 121, 328, 329, 330, 5, 331, 175, 176, 177, 178, 179, 180, 181, 182, 230, 231, 232, 332, 333, 334, 335, 336, 337, 183, 184, 185, 186, 187, 123, 188, 189, 190, 298, 299, 300, 301, 126, 938, 939, 940, 941, 942, 943, 944, 945, 946, 947, 948, 949, 950, 951, 952, 953] (by decide +kernel) (by decide +kernel)
set_option maxRecDepth 20000 in
theorem gL_law_X9_depend : GoodIn wsL_law (wsV RL 137 RX9 yX9_depend wsX9_depend) := goodIn_app (goodIn_of _ (by decide +kernel)) ggL_law_X9_depend
set_option maxRecDepth 20000 in
theorem ggL_law_L_release : GoodIn wsL_law wsL_release := goodIn_ca (goodIn_ca (goodIn_r _ [340, 236, 341, 342, 343, 344, 2, 345, 23, 17, 346, 347, 348, 349, 350, 351, 242, 243, 244, 245, 246, 247, 248, 223, 224, 16, 225, 49, 309, 219, 220, 221, 55, 222, 151, 152, 153, 22, 154, 64, 65, 67, 155, 156, 157, 158, 51, 159, 160, 161, 162, 50, 53, 163, 164, 165, 166, 54, 352, 215, 216, 217, 218, 928, 929, 930, 931, 932, 933, 934, 935, 936, 937, 954, 955, 956, 957, 958, 959, 960, 961, 962] (by decide +kernel) (by decide +kernel)) (goodIn_sub (fun _ h => List.mem_append_right _ h) (by decide +kernel))) (goodIn_sub (fun _ h => List.mem_append_left _ (List.mem_append_right _ h)) (by decide +kernel))
set_option maxRecDepth 20000 in
theorem gL_law_L_release : GoodIn wsL_law (va_wsS RL 138 yL_release wsL_release) := goodIn_app (goodIn_of _ (by decide +kernel)) ggL_law_L_release
set_option maxRecDepth 20000 in
theorem ggL_law_X9_release : GoodIn wsL_law wsX9_release := goodIn_r _ [356, 121, 328, 329, 330, 5, 331, 175, 176, 177, 178, 332, 333, 334, 179, 180, 181, 182, 183, 184, 185, 186, 187, 123, 188, 189, 190, 938, 939, 940, 941, 942, 943, 944, 945, 946, 947, 948, 949, 950, 951, 952, 953] (by decide +kernel) (by decide +kernel)
set_option maxRecDepth 20000 in
theorem gL_law_X9_release : GoodIn wsL_law (wsV RL 140 RX9 yX9_release wsX9_release) := goodIn_app (goodIn_of _ (by decide +kernel)) ggL_law_X9_release
set_option maxRecDepth 20000 in
theorem ggL_law_L_setCrews : GoodIn wsL_law wsL_setCrews := goodIn_ca (goodIn_r _ [359, 136, 360, 361, 362, 2, 363, 23, 17, 364, 145, 146, 147, 148, 149, 150, 151, 152, 153, 22, 154, 64, 65, 67, 155, 156, 157, 16, 158, 51, 159, 160, 161, 162, 49, 50, 53, 163, 164, 165, 166, 54, 55, 928, 929, 930, 931, 932, 933, 934, 935, 936, 937, 954, 955, 956, 957, 958, 959, 960, 961, 962] (by decide +kernel) (by decide +kernel)) (goodIn_sub (fun _ h => List.mem_append_left _ (List.mem_append_left _ (List.mem_append_right _ h))) (by decide +kernel))
set_option maxRecDepth 20000 in
theorem gL_law_L_setCrews : GoodIn wsL_law (va_wsS RL 141 yL_setCrews wsL_setCrews) := goodIn_app (goodIn_of _ (by decide +kernel)) ggL_law_L_setCrews
set_option maxRecDepth 20000 in
theorem ggL_law_X9_setCrews : GoodIn wsL_law wsX9_setCrews := goodIn_r _ [368, 175, 121, 176, 177, 5, 178, 179, 180, 181, 182, 183, 184, 185, 186, 187, 123, 188, 189, 190, 938, 939, 940, 941, 942, 943, 944, 945, 946, 947, 948, 949, 950, 951, 952, 953] (by decide +kernel) (by decide +kernel)
set_option maxRecDepth 20000 in
theorem gL_law_X9_setCrews : GoodIn wsL_law (wsV RL 144 RX9 yX9_setCrews wsX9_setCrews) := goodIn_app (goodIn_of _ (by decide +kernel)) ggL_law_X9_setCrews
set_option maxRecDepth 20000 in
theorem ggL_law_L_readPlan : GoodIn wsL_law wsL_readPlan := goodIn_ca (goodIn_r _ [371, 136, 372, 373, 374, 2, 375, 149, 150, 27, 23, 17, 376, 144, 377, 378, 379, 26, 380, 73, 75, 72, 381, 382, 383, 16, 384, 49, 50, 55, 56, 57, 58, 59, 385, 386, 387, 388, 389, 390, 391, 392, 393, 394, 395, 396, 77, 397, 398, 399, 400, 401, 168, 169, 170, 53, 54, 402, 403, 404, 405, 406, 211, 212, 213, 407, 321, 322, 323, 222, 223, 224, 225, 218, 219, 220, 221, 151, 152, 153, 22, 154, 64, 65, 67, 155, 156, 157, 158, 51, 159, 160, 161, 162, 163, 164, 165, 166, 408, 928, 929, 930, 931, 932, 933, 934, 935, 936, 937, 963, 964, 965, 966, 954, 955, 956, 957, 958, 959, 960, 961, 962] (by decide +kernel) (by decide +kernel)) (goodIn_sub (fun _ h => List.mem_append_left _ (List.mem_append_left _ (List.mem_append_right _ h))) (by decide +kernel))
set_option maxRecDepth 20000 in
theorem gL_law_L_readPlan : GoodIn wsL_law (va_wsS RL 145 yL_readPlan wsL_readPlan) := goodIn_app (goodIn_of _ (by decide +kernel)) ggL_law_L_readPlan
set_option maxRecDepth 20000 in
theorem ggL_law_X9_readPlan : GoodIn wsL_law wsX9_readPlan := goodIn_r _ [412, 175, 122, 121, 413, 414, 415, 5, 416, 417, 418, 419, 420, 421, 422, 423, 424, 425, 426, 125, 176, 177, 178, 427, 428, 429, 430, 191, 192, 193, 431, 432, 433, 434, 179, 180, 181, 182, 183, 184, 185, 186, 187, 123, 188, 189, 190, 938, 939, 940, 941, 942, 943, 944, 945, 946, 947, 948, 949, 950, 951, 952, 953] (by decide +kernel) (by decide +kernel)
set_option maxRecDepth 20000 in
theorem gL_law_X9_readPlan : GoodIn wsL_law (wsV RL 147 RX9 yX9_readPlan wsX9_readPlan) := goodIn_app (goodIn_of _ (by decide +kernel)) ggL_law_X9_readPlan
set_option maxRecDepth 20000 in
theorem ggL_law_L_append : GoodIn wsL_law wsL_append := goodIn_ca (goodIn_r _ [437, 137, 438, 439, 440, 2, 441, 142, 143, 27, 442, 443, 444, 445, 26, 446, 72, 77, 928, 929, 930, 931, 932, 933, 934, 935, 936, 937, 963, 964, 965, 966] (by decide +kernel) (by decide +kernel)) (goodIn_sub (fun _ h => List.mem_append_left _ (List.mem_append_left _ (List.mem_append_left _ (List.mem_append_right _ h)))) (by decide +kernel))
set_option maxRecDepth 20000 in
theorem gL_law_L_append : GoodIn wsL_law (va_wsS RL 148 yL_append wsL_append) := goodIn_app (goodIn_of _ (by decide +kernel)) ggL_law_L_append
set_option maxRecDepth 20000 in
theorem ggL_law_X9_append : GoodIn wsL_law wsX9_append := goodIn_r _ [450, 175, 418, 125, 179, 180, 181, 5, 182, 938, 939, 940, 941, 942, 943, 944, 945, 946, 947, 948, 949, 950, 951, 952, 953] (by decide +kernel) (by decide +kernel)
set_option maxRecDepth 20000 in
theorem gL_law_X9_append : GoodIn wsL_law (wsV RL 151 RX9 yX9_append wsX9_append) := goodIn_app (goodIn_of _ (by decide +kernel)) ggL_law_X9_append
set_option maxRecDepth 20000 in
theorem ggL_law_X8_clearText : GoodIn wsL_law wsX8_clearText := goodIn_r _ [454, 27, 442, 928, 929, 930, 931, 932, 933, 934, 935, 936, 937, 963, 964, 965, 966] (by decide +kernel) (by decide +kernel)
set_option maxRecDepth 20000 in
theorem gL_law_X8_clearText : GoodIn wsL_law (wsV RL 152 RX8 yX8_clearText wsX8_clearText) := goodIn_app (goodIn_of _ (by decide +kernel)) ggL_law_X8_clearText
