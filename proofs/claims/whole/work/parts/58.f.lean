set_option maxRecDepth 20000 in
theorem ggL_law_X9_planLengthByRounds : GoodIn wsL_law wsX9_planLengthByRounds := goodIn_r _ [633, 175, 121, 298, 299, 300, 5, 301, 126, 938, 939, 940, 941, 942, 943, 944, 945, 946, 947, 948, 949, 950, 951, 952, 953] (by decide +kernel) (by decide +kernel)
set_option maxRecDepth 20000 in
theorem gL_law_X9_planLengthByRounds : GoodIn wsL_law (wsV RL 207 RX9 yX9_planLengthByRounds wsX9_planLengthByRounds) := goodIn_app (goodIn_of _ (by decide +kernel)) ggL_law_X9_planLengthByRounds
set_option maxRecDepth 20000 in
theorem ggL_law_L_slack : GoodIn wsL_law wsL_slack := goodIn_ca (goodIn_r _ [636, 236, 637, 638, 639, 2, 640, 31, 17, 242, 243, 244, 245, 246, 247, 248, 223, 224, 16, 225, 49, 249, 250, 251, 30, 252, 253, 85, 254, 164, 165, 166, 255, 256, 257, 258, 89, 84, 259, 260, 261, 88, 262, 93, 263, 95, 94, 264, 265, 266, 267, 218, 219, 220, 221, 55, 222, 268, 269, 270, 271, 272, 273, 274, 275, 276, 82, 277, 278, 279, 211, 212, 213, 280, 281, 57, 58, 59, 282, 283, 284, 285, 286, 83, 287, 288, 289, 641, 642, 643, 644, 928, 929, 930, 931, 932, 933, 934, 935, 936, 937, 954, 955, 956, 957, 958, 959, 967, 968, 969, 970, 971, 982, 983, 984] (by decide +kernel) (by decide +kernel)) (goodIn_sub (fun _ h => List.mem_append_left _ (List.mem_append_right _ h)) (by decide +kernel))
set_option maxRecDepth 20000 in
theorem gL_law_L_slack : GoodIn wsL_law (va_wsS RL 208 yL_slack wsL_slack) := goodIn_app (goodIn_of _ (by decide +kernel)) ggL_law_L_slack
set_option maxRecDepth 20000 in
theorem ggL_law_X9_slack : GoodIn wsL_law wsX9_slack := goodIn_r _ [648, 649, 650, 651, 5, 652, 121, 127, 126, 294, 295, 296, 297, 175, 176, 177, 178, 601, 602, 603, 604, 298, 299, 300, 301, 938, 939, 940, 941, 942, 943, 944, 945, 946, 947, 948, 949, 950, 951, 952, 953] (by decide +kernel) (by decide +kernel)
set_option maxRecDepth 20000 in
theorem gL_law_X9_slack : GoodIn wsL_law (wsV RL 210 RX9 yX9_slack wsX9_slack) := goodIn_app (goodIn_of _ (by decide +kernel)) ggL_law_X9_slack
set_option maxRecDepth 20000 in
theorem ggL_law_L_slackByChain : GoodIn wsL_law wsL_slackByChain := goodIn_ca (goodIn_r _ [655, 236, 656, 657, 658, 2, 659, 31, 17, 40, 242, 243, 244, 245, 246, 247, 248, 223, 224, 16, 225, 49, 249, 250, 251, 30, 252, 253, 85, 254, 164, 165, 166, 255, 256, 257, 258, 89, 84, 259, 260, 261, 88, 262, 93, 263, 95, 94, 264, 265, 266, 267, 218, 219, 220, 221, 55, 222, 268, 269, 270, 271, 272, 273, 274, 275, 276, 82, 277, 278, 279, 211, 212, 213, 280, 281, 57, 58, 59, 282, 283, 284, 285, 286, 83, 287, 288, 289, 660, 661, 662, 39, 663, 104, 314, 315, 107, 664, 108, 317, 318, 665, 666, 667, 668, 316, 669, 319, 670, 671, 672, 673, 928, 929, 930, 931, 932, 933, 934, 935, 936, 937, 954, 955, 956, 957, 958, 959, 967, 968, 969, 970, 971, 982, 983, 984, 973, 974, 975, 976, 977] (by decide +kernel) (by decide +kernel)) (goodIn_sub (fun _ h => List.mem_append_left _ (List.mem_append_right _ h)) (by decide +kernel))
set_option maxRecDepth 20000 in
theorem gL_law_L_slackByChain : GoodIn wsL_law (va_wsS RL 211 yL_slackByChain wsL_slackByChain) := goodIn_app (goodIn_of _ (by decide +kernel)) ggL_law_L_slackByChain
set_option maxRecDepth 20000 in
theorem ggL_law_X9_slackByChain : GoodIn wsL_law wsX9_slackByChain := goodIn_r _ [677, 649, 650, 651, 5, 652, 121, 127, 126, 294, 295, 296, 297, 175, 176, 177, 178, 601, 602, 603, 604, 298, 299, 300, 301, 938, 939, 940, 941, 942, 943, 944, 945, 946, 947, 948, 949, 950, 951, 952, 953] (by decide +kernel) (by decide +kernel)
set_option maxRecDepth 20000 in
theorem gL_law_X9_slackByChain : GoodIn wsL_law (wsV RL 213 RX9 yX9_slackByChain wsX9_slackByChain) := goodIn_app (goodIn_of _ (by decide +kernel)) ggL_law_X9_slackByChain
set_option maxRecDepth 20000 in
theorem ggL_law_L_freeSlack : GoodIn wsL_law wsL_freeSlack := goodIn_ca (goodIn_r _ [680, 236, 681, 682, 683, 2, 684, 31, 17, 242, 243, 244, 245, 246, 247, 248, 223, 224, 16, 225, 49, 249, 250, 251, 30, 252, 253, 85, 254, 164, 165, 166, 255, 256, 257, 258, 89, 84, 259, 260, 261, 88, 262, 93, 263, 95, 94, 264, 265, 266, 267, 218, 219, 220, 221, 55, 222, 268, 269, 270, 271, 272, 273, 274, 275, 276, 82, 277, 278, 279, 211, 212, 213, 280, 281, 57, 58, 59, 282, 283, 284, 285, 286, 83, 287, 288, 289, 685, 686, 687, 688, 689, 928, 929, 930, 931, 932, 933, 934, 935, 936, 937, 954, 955, 956, 957, 958, 959, 967, 968, 969, 970, 971, 982, 983, 984] (by decide +kernel) (by decide +kernel)) (goodIn_sub (fun _ h => List.mem_append_left _ (List.mem_append_right _ h)) (by decide +kernel))
set_option maxRecDepth 20000 in
theorem gL_law_L_freeSlack : GoodIn wsL_law (va_wsS RL 214 yL_freeSlack wsL_freeSlack) := goodIn_app (goodIn_of _ (by decide +kernel)) ggL_law_L_freeSlack
set_option maxRecDepth 20000 in
theorem ggL_law_X9_freeSlack : GoodIn wsL_law wsX9_freeSlack := goodIn_r _ [693, 121, 126, 294, 295, 296, 5, 297, 175, 176, 177, 178, 298, 299, 300, 301, 332, 333, 334, 938, 939, 940, 941, 942, 943, 944, 945, 946, 947, 948, 949, 950, 951, 952, 953] (by decide +kernel) (by decide +kernel)
set_option maxRecDepth 20000 in
theorem gL_law_X9_freeSlack : GoodIn wsL_law (wsV RL 216 RX9 yX9_freeSlack wsX9_freeSlack) := goodIn_app (goodIn_of _ (by decide +kernel)) ggL_law_X9_freeSlack
set_option maxRecDepth 20000 in
theorem ggL_law_X8_criticalTasks : GoodIn wsL_law wsX8_criticalTasks := goodIn_r _ [697, 31, 17, 144, 249, 250, 251, 30, 252, 253, 85, 254, 164, 165, 166, 255, 256, 257, 258, 89, 84, 259, 260, 261, 88, 262, 93, 263, 95, 94, 264, 265, 266, 16, 267, 49, 218, 219, 220, 221, 55, 222, 223, 224, 225, 268, 269, 270, 271, 272, 273, 274, 275, 276, 82, 277, 278, 279, 211, 212, 213, 280, 281, 57, 58, 59, 282, 283, 284, 285, 286, 83, 287, 288, 289, 641, 642, 643, 644, 928, 929, 930, 931, 932, 933, 934, 935, 936, 937, 954, 955, 956, 957, 958, 959, 967, 968, 969, 970, 971, 982, 983, 984] (by decide +kernel) (by decide +kernel)
set_option maxRecDepth 20000 in
theorem gL_law_X8_criticalTasks : GoodIn wsL_law (wsV RL 217 RX8 yX8_criticalTasks wsX8_criticalTasks) := goodIn_app (goodIn_of _ (by decide +kernel)) ggL_law_X8_criticalTasks
set_option maxRecDepth 20000 in
theorem ggL_law_X9_criticalTasks : GoodIn wsL_law wsX9_criticalTasks := goodIn_r _ [701, 175, 121, 127, 126, 601, 602, 603, 5, 604, 298, 299, 300, 301, 938, 939, 940, 941, 942, 943, 944, 945, 946, 947, 948, 949, 950, 951, 952, 953] (by decide +kernel) (by decide +kernel)
set_option maxRecDepth 20000 in
theorem gL_law_X9_criticalTasks : GoodIn wsL_law (wsV RL 220 RX9 yX9_criticalTasks wsX9_criticalTasks) := goodIn_app (goodIn_of _ (by decide +kernel)) ggL_law_X9_criticalTasks
set_option maxRecDepth 20000 in
theorem ggL_law_X8_criticalChains : GoodIn wsL_law wsX8_criticalChains := goodIn_r _ [705, 31, 17, 40, 249, 250, 251, 30, 252, 253, 85, 254, 164, 165, 166, 255, 256, 257, 258, 89, 84, 259, 260, 261, 88, 262, 93, 263, 95, 94, 264, 265, 266, 16, 267, 49, 218, 219, 220, 221, 55, 222, 223, 224, 225, 268, 269, 270, 271, 272, 273, 274, 275, 276, 82, 277, 278, 279, 211, 212, 213, 280, 281, 57, 58, 59, 282, 283, 284, 285, 286, 83, 287, 288, 289, 706, 707, 708, 39, 709, 316, 109, 104, 314, 315, 710, 664, 711, 712, 318, 319, 928, 929, 930, 931, 932, 933, 934, 935, 936, 937, 954, 955, 956, 957, 958, 959, 967, 968, 969, 970, 971, 982, 983, 984, 973, 974, 975, 976, 977] (by decide +kernel) (by decide +kernel)
set_option maxRecDepth 20000 in
theorem gL_law_X8_criticalChains : GoodIn wsL_law (wsV RL 221 RX8 yX8_criticalChains wsX8_criticalChains) := goodIn_app (goodIn_of _ (by decide +kernel)) ggL_law_X8_criticalChains
