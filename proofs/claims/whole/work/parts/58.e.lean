set_option maxRecDepth 20000 in
theorem ggL_law_X9_lagOf : GoodIn wsL_law wsX9_lagOf := goodIn_r _ [565, 121, 328, 329, 330, 5, 331, 175, 176, 177, 178, 332, 333, 334, 179, 180, 181, 182, 938, 939, 940, 941, 942, 943, 944, 945, 946, 947, 948, 949, 950, 951, 952, 953] (by decide +kernel) (by decide +kernel)
set_option maxRecDepth 20000 in
theorem gL_law_X9_lagOf : GoodIn wsL_law (wsV RL 190 RX9 yX9_lagOf wsX9_lagOf) := goodIn_app (goodIn_of _ (by decide +kernel)) ggL_law_X9_lagOf
set_option maxRecDepth 20000 in
theorem ggL_law_L_isAhead : GoodIn wsL_law wsL_isAhead := goodIn_ca (goodIn_r _ [568, 236, 569, 570, 571, 2, 572, 40, 17, 242, 243, 244, 245, 246, 247, 248, 223, 224, 16, 225, 49, 310, 311, 312, 39, 313, 106, 104, 314, 315, 316, 317, 318, 260, 261, 88, 262, 93, 263, 95, 94, 264, 265, 266, 267, 218, 219, 220, 221, 55, 222, 268, 269, 270, 271, 272, 319, 928, 929, 930, 931, 932, 933, 934, 935, 936, 937, 954, 955, 956, 957, 958, 959, 973, 974, 975, 976, 977, 982, 983, 984] (by decide +kernel) (by decide +kernel)) (goodIn_sub (fun _ h => List.mem_append_left _ (List.mem_append_right _ h)) (by decide +kernel))
set_option maxRecDepth 20000 in
theorem gL_law_L_isAhead : GoodIn wsL_law (va_wsS RL 191 yL_isAhead wsL_isAhead) := goodIn_app (goodIn_of _ (by decide +kernel)) ggL_law_L_isAhead
set_option maxRecDepth 20000 in
theorem ggL_law_X9_isAhead : GoodIn wsL_law wsX9_isAhead := goodIn_r _ [576, 121, 328, 329, 330, 5, 331, 175, 176, 177, 178, 335, 336, 337, 938, 939, 940, 941, 942, 943, 944, 945, 946, 947, 948, 949, 950, 951, 952, 953] (by decide +kernel) (by decide +kernel)
set_option maxRecDepth 20000 in
theorem gL_law_X9_isAhead : GoodIn wsL_law (wsV RL 193 RX9 yX9_isAhead wsX9_isAhead) := goodIn_app (goodIn_of _ (by decide +kernel)) ggL_law_X9_isAhead
set_option maxRecDepth 20000 in
theorem ggL_law_L_earliestStart : GoodIn wsL_law wsL_earliestStart := goodIn_ca (goodIn_r _ [579, 236, 580, 581, 582, 2, 583, 31, 17, 584, 242, 243, 244, 245, 246, 247, 248, 223, 224, 16, 225, 49, 249, 250, 251, 30, 252, 253, 85, 254, 164, 165, 166, 255, 256, 257, 258, 89, 84, 259, 260, 261, 88, 262, 93, 263, 95, 94, 264, 265, 266, 267, 218, 219, 220, 221, 55, 222, 268, 269, 270, 271, 272, 273, 274, 275, 276, 82, 277, 278, 279, 211, 212, 213, 280, 281, 57, 58, 59, 282, 283, 284, 285, 286, 83, 287, 288, 289, 928, 929, 930, 931, 932, 933, 934, 935, 936, 937, 967, 968, 969, 970, 971, 954, 955, 956, 957, 958, 959, 982, 983, 984] (by decide +kernel) (by decide +kernel)) (goodIn_sub (fun _ h => List.mem_append_left _ (List.mem_append_right _ h)) (by decide +kernel))
set_option maxRecDepth 20000 in
theorem gL_law_L_earliestStart : GoodIn wsL_law (va_wsS RL 194 yL_earliestStart wsL_earliestStart) := goodIn_app (goodIn_of _ (by decide +kernel)) ggL_law_L_earliestStart
set_option maxRecDepth 20000 in
theorem ggL_law_X9_earliestStart : GoodIn wsL_law wsX9_earliestStart := goodIn_r _ [588, 121, 126, 294, 295, 296, 5, 297, 175, 176, 177, 178, 298, 299, 300, 301, 938, 939, 940, 941, 942, 943, 944, 945, 946, 947, 948, 949, 950, 951, 952, 953] (by decide +kernel) (by decide +kernel)
set_option maxRecDepth 20000 in
theorem gL_law_X9_earliestStart : GoodIn wsL_law (wsV RL 196 RX9 yX9_earliestStart wsX9_earliestStart) := goodIn_app (goodIn_of _ (by decide +kernel)) ggL_law_X9_earliestStart
set_option maxRecDepth 20000 in
theorem ggL_law_L_latestStart : GoodIn wsL_law wsL_latestStart := goodIn_ca (goodIn_r _ [591, 236, 592, 593, 594, 2, 595, 31, 17, 596, 242, 243, 244, 245, 246, 247, 248, 223, 224, 16, 225, 49, 249, 250, 251, 30, 252, 253, 85, 254, 164, 165, 166, 255, 256, 257, 258, 89, 84, 259, 260, 261, 88, 262, 93, 263, 95, 94, 264, 265, 266, 267, 218, 219, 220, 221, 55, 222, 268, 269, 270, 271, 272, 273, 274, 275, 276, 82, 277, 278, 279, 211, 212, 213, 280, 281, 57, 58, 59, 282, 283, 284, 285, 286, 83, 287, 288, 289, 928, 929, 930, 931, 932, 933, 934, 935, 936, 937, 967, 968, 969, 970, 971, 954, 955, 956, 957, 958, 959, 982, 983, 984] (by decide +kernel) (by decide +kernel)) (goodIn_sub (fun _ h => List.mem_append_left _ (List.mem_append_right _ h)) (by decide +kernel))
set_option maxRecDepth 20000 in
theorem gL_law_L_latestStart : GoodIn wsL_law (va_wsS RL 197 yL_latestStart wsL_latestStart) := goodIn_app (goodIn_of _ (by decide +kernel)) ggL_law_L_latestStart
set_option maxRecDepth 20000 in
theorem ggL_law_X9_latestStart : GoodIn wsL_law wsX9_latestStart := goodIn_r _ [600, 121, 127, 294, 295, 296, 5, 297, 175, 176, 177, 178, 601, 602, 603, 604, 298, 299, 300, 301, 126, 938, 939, 940, 941, 942, 943, 944, 945, 946, 947, 948, 949, 950, 951, 952, 953] (by decide +kernel) (by decide +kernel)
set_option maxRecDepth 20000 in
theorem gL_law_X9_latestStart : GoodIn wsL_law (wsV RL 199 RX9 yX9_latestStart wsX9_latestStart) := goodIn_app (goodIn_of _ (by decide +kernel)) ggL_law_X9_latestStart
set_option maxRecDepth 20000 in
theorem ggL_law_X8_planLength : GoodIn wsL_law wsX8_planLength := goodIn_r _ [608, 31, 17, 249, 250, 251, 30, 252, 253, 85, 254, 164, 165, 166, 255, 256, 257, 258, 89, 84, 259, 260, 261, 88, 262, 93, 263, 95, 94, 264, 265, 266, 16, 267, 49, 218, 219, 220, 221, 55, 222, 223, 224, 225, 268, 269, 270, 271, 272, 273, 274, 275, 276, 82, 277, 278, 279, 211, 212, 213, 280, 281, 57, 58, 59, 282, 283, 284, 285, 286, 83, 287, 288, 289, 928, 929, 930, 931, 932, 933, 934, 935, 936, 937, 954, 955, 956, 957, 958, 959, 967, 968, 969, 970, 971, 982, 983, 984] (by decide +kernel) (by decide +kernel)
set_option maxRecDepth 20000 in
theorem gL_law_X8_planLength : GoodIn wsL_law (wsV RL 200 RX8 yX8_planLength wsX8_planLength) := goodIn_app (goodIn_of _ (by decide +kernel)) ggL_law_X8_planLength
set_option maxRecDepth 20000 in
theorem ggL_law_X9_planLength : GoodIn wsL_law wsX9_planLength := goodIn_r _ [612, 175, 121, 298, 299, 300, 5, 301, 126, 938, 939, 940, 941, 942, 943, 944, 945, 946, 947, 948, 949, 950, 951, 952, 953] (by decide +kernel) (by decide +kernel)
set_option maxRecDepth 20000 in
theorem gL_law_X9_planLength : GoodIn wsL_law (wsV RL 203 RX9 yX9_planLength wsX9_planLength) := goodIn_app (goodIn_of _ (by decide +kernel)) ggL_law_X9_planLength
set_option maxRecDepth 20000 in
theorem ggL_law_X8_planLengthByRounds : GoodIn wsL_law wsX8_planLengthByRounds := goodIn_r _ [616, 36, 17, 617, 618, 619, 35, 620, 99, 621, 622, 623, 211, 212, 213, 624, 57, 58, 59, 625, 626, 627, 628, 629, 219, 220, 16, 221, 55, 222, 223, 224, 225, 49, 928, 929, 930, 931, 932, 933, 934, 935, 936, 937, 972, 954, 955, 956, 957, 958, 959] (by decide +kernel) (by decide +kernel)
set_option maxRecDepth 20000 in
theorem gL_law_X8_planLengthByRounds : GoodIn wsL_law (wsV RL 204 RX8 yX8_planLengthByRounds wsX8_planLengthByRounds) := goodIn_app (goodIn_of _ (by decide +kernel)) ggL_law_X8_planLengthByRounds
