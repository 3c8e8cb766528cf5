set_option maxRecDepth 20000 in
theorem ggL_law_X9_clearText : GoodIn wsL_law wsX9_clearText := goodIn_r _ [458, 175, 418, 938, 939, 940, 941, 942, 943, 944, 945, 946, 947, 948, 949, 950, 951, 952, 953] (by decide +kernel) (by decide +kernel)
set_option maxRecDepth 20000 in
theorem gL_law_X9_clearText : GoodIn wsL_law (wsV RL 155 RX9 yX9_clearText wsX9_clearText) := goodIn_app (goodIn_of _ (by decide +kernel)) ggL_law_X9_clearText
set_option maxRecDepth 20000 in
theorem ggL_law_X8_isValid : GoodIn wsL_law wsX8_isValid := goodIn_r _ [462, 27, 377, 378, 379, 26, 380, 73, 75, 72, 381, 382, 383, 16, 384, 49, 50, 55, 56, 57, 58, 59, 385, 386, 387, 388, 389, 390, 391, 392, 393, 394, 395, 396, 77, 397, 398, 399, 400, 401, 168, 169, 170, 53, 54, 402, 403, 404, 405, 406, 211, 212, 213, 407, 321, 322, 323, 222, 223, 224, 225, 218, 219, 220, 221, 928, 929, 930, 931, 932, 933, 934, 935, 936, 937, 963, 964, 965, 966, 954, 955, 956, 957, 958, 959] (by decide +kernel) (by decide +kernel)
set_option maxRecDepth 20000 in
theorem gL_law_X8_isValid : GoodIn wsL_law (wsV RL 156 RX8 yX8_isValid wsX8_isValid) := goodIn_app (goodIn_of _ (by decide +kernel)) ggL_law_X8_isValid
set_option maxRecDepth 20000 in
theorem ggL_law_X9_isValid : GoodIn wsL_law wsX9_isValid := goodIn_r _ [466, 175, 413, 414, 415, 5, 416, 122, 121, 417, 418, 419, 420, 421, 422, 423, 424, 425, 426, 125, 176, 177, 178, 427, 428, 429, 430, 191, 192, 193, 431, 432, 433, 434, 938, 939, 940, 941, 942, 943, 944, 945, 946, 947, 948, 949, 950, 951, 952, 953] (by decide +kernel) (by decide +kernel)
set_option maxRecDepth 20000 in
theorem gL_law_X9_isValid : GoodIn wsL_law (wsV RL 160 RX9 yX9_isValid wsX9_isValid) := goodIn_app (goodIn_of _ (by decide +kernel)) ggL_law_X9_isValid
set_option maxRecDepth 20000 in
theorem ggL_law_L_firstError : GoodIn wsL_law wsL_firstError := goodIn_ca (goodIn_r _ [469, 137, 470, 471, 472, 2, 473, 142, 143, 27, 474, 377, 378, 379, 26, 380, 73, 75, 72, 381, 382, 383, 16, 384, 49, 50, 55, 56, 57, 58, 59, 385, 386, 387, 388, 389, 390, 391, 392, 393, 394, 395, 396, 77, 397, 398, 399, 400, 401, 168, 169, 170, 53, 54, 402, 403, 404, 405, 406, 211, 212, 213, 407, 321, 322, 323, 222, 223, 224, 225, 218, 219, 220, 221, 928, 929, 930, 931, 932, 933, 934, 935, 936, 937, 963, 964, 965, 966, 954, 955, 956, 957, 958, 959] (by decide +kernel) (by decide +kernel)) (goodIn_sub (fun _ h => List.mem_append_left _ (List.mem_append_left _ (List.mem_append_left _ (List.mem_append_right _ h)))) (by decide +kernel))
set_option maxRecDepth 20000 in
theorem gL_law_L_firstError : GoodIn wsL_law (va_wsS RL 161 yL_firstError wsL_firstError) := goodIn_app (goodIn_of _ (by decide +kernel)) ggL_law_L_firstError
set_option maxRecDepth 20000 in
theorem ggL_law_X9_firstError : GoodIn wsL_law wsX9_firstError := goodIn_r _ [478, 175, 417, 413, 414, 415, 5, 416, 122, 121, 418, 419, 420, 421, 422, 423, 424, 425, 426, 125, 176, 177, 178, 427, 428, 429, 430, 191, 192, 193, 431, 432, 433, 434, 179, 180, 181, 182, 938, 939, 940, 941, 942, 943, 944, 945, 946, 947, 948, 949, 950, 951, 952, 953] (by decide +kernel) (by decide +kernel)
set_option maxRecDepth 20000 in
theorem gL_law_X9_firstError : GoodIn wsL_law (wsV RL 163 RX9 yX9_firstError wsX9_firstError) := goodIn_app (goodIn_of _ (by decide +kernel)) ggL_law_X9_firstError
set_option maxRecDepth 20000 in
theorem ggL_law_L_undo : GoodIn wsL_law wsL_undo := goodIn_ca (goodIn_r _ [481, 137, 482, 483, 484, 2, 485, 142, 143, 23, 486, 17, 487, 488, 489, 22, 490, 64, 67, 65, 155, 156, 157, 16, 158, 51, 159, 160, 161, 162, 49, 50, 53, 163, 164, 165, 166, 54, 55, 928, 929, 930, 931, 932, 933, 934, 935, 936, 937, 960, 961, 962, 954, 955, 956, 957, 958, 959] (by decide +kernel) (by decide +kernel)) (goodIn_sub (fun _ h => List.mem_append_left _ (List.mem_append_left _ (List.mem_append_left _ (List.mem_append_right _ h)))) (by decide +kernel))
set_option maxRecDepth 20000 in
theorem gL_law_L_undo : GoodIn wsL_law (va_wsS RL 164 yL_undo wsL_undo) := goodIn_app (goodIn_of _ (by decide +kernel)) ggL_law_L_undo
set_option maxRecDepth 20000 in
theorem ggL_law_X9_undo : GoodIn wsL_law wsX9_undo := goodIn_r _ [494, 175, 187, 123, 121, 179, 180, 181, 5, 182, 188, 189, 190, 938, 939, 940, 941, 942, 943, 944, 945, 946, 947, 948, 949, 950, 951, 952, 953] (by decide +kernel) (by decide +kernel)
set_option maxRecDepth 20000 in
theorem gL_law_X9_undo : GoodIn wsL_law (wsV RL 166 RX9 yX9_undo wsX9_undo) := goodIn_app (goodIn_of _ (by decide +kernel)) ggL_law_X9_undo
set_option maxRecDepth 20000 in
theorem ggL_law_X8_takeSnapshot : GoodIn wsL_law wsX8_takeSnapshot := goodIn_r _ [498, 18, 17, 19, 144, 499, 156, 157, 16, 158, 51, 159, 160, 161, 162, 49, 50, 53, 163, 164, 165, 166, 54, 55, 928, 929, 930, 931, 932, 933, 934, 935, 936, 937, 954, 955, 956, 957, 958, 959] (by decide +kernel) (by decide +kernel)
set_option maxRecDepth 20000 in
theorem gL_law_X8_takeSnapshot : GoodIn wsL_law (wsV RL 167 RX8 yX8_takeSnapshot wsX8_takeSnapshot) := goodIn_app (goodIn_of _ (by decide +kernel)) ggL_law_X8_takeSnapshot
set_option maxRecDepth 20000 in
theorem ggL_law_X9_takeSnapshot : GoodIn wsL_law wsX9_takeSnapshot := goodIn_r _ [503, 175, 121, 124, 504, 188, 189, 5, 190, 938, 939, 940, 941, 942, 943, 944, 945, 946, 947, 948, 949, 950, 951, 952, 953] (by decide +kernel) (by decide +kernel)
set_option maxRecDepth 20000 in
theorem gL_law_X9_takeSnapshot : GoodIn wsL_law (wsV RL 170 RX9 yX9_takeSnapshot wsX9_takeSnapshot) := goodIn_app (goodIn_of _ (by decide +kernel)) ggL_law_X9_takeSnapshot
set_option maxRecDepth 20000 in
theorem ggL_law_L_restoreSnapshot : GoodIn wsL_law wsL_restoreSnapshot := goodIn_ca (goodIn_r _ [507, 137, 508, 509, 510, 2, 511, 142, 143, 19, 23, 17, 18, 144, 151, 152, 153, 22, 154, 64, 65, 67, 155, 156, 157, 16, 158, 51, 159, 160, 161, 162, 49, 50, 53, 163, 164, 165, 166, 54, 55, 499, 928, 929, 930, 931, 932, 933, 934, 935, 936, 937, 954, 955, 956, 957, 958, 959, 960, 961, 962] (by decide +kernel) (by decide +kernel)) (goodIn_sub (fun _ h => List.mem_append_left _ (List.mem_append_left _ (List.mem_append_left _ (List.mem_append_right _ h)))) (by decide +kernel))
set_option maxRecDepth 20000 in
theorem gL_law_L_restoreSnapshot : GoodIn wsL_law (va_wsS RL 171 yL_restoreSnapshot wsL_restoreSnapshot) := goodIn_app (goodIn_of _ (by decide +kernel)) ggL_law_L_restoreSnapshot
