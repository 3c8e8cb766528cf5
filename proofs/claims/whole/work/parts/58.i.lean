set_option maxRecDepth 20000 in
theorem ggL_law_X9_leastCrews : GoodIn wsL_law wsX9_leastCrews := goodIn_r _ [908, 175, 121, 122, 298, 299, 300, 5, 301, 126, 188, 189, 190, 827, 828, 829, 830, 128, 601, 602, 603, 604, 127, 831, 832, 833, 834, 332, 333, 334, 835, 836, 837, 838, 839, 840, 841, 842, 179, 180, 181, 182, 938, 939, 940, 941, 942, 943, 944, 945, 946, 947, 948, 949, 950, 951, 952, 953] (by decide +kernel) (by decide +kernel)
set_option maxRecDepth 20000 in
theorem gL_law_X9_leastCrews : GoodIn wsL_law (wsV RL 256 RX9 yX9_leastCrews wsX9_leastCrews) := goodIn_app (goodIn_of _ (by decide +kernel)) ggL_law_X9_leastCrews
set_option maxRecDepth 20000 in
theorem ggL_law_L_usage : GoodIn wsL_law wsL_usage := goodIn_ca (goodIn_r _ [911, 137, 912, 913, 914, 2, 915, 44, 862, 17, 364, 790, 791, 792, 793, 142, 143, 31, 249, 250, 251, 30, 252, 253, 85, 254, 164, 165, 166, 255, 256, 257, 258, 89, 84, 259, 260, 261, 88, 262, 93, 263, 95, 94, 264, 265, 266, 16, 267, 49, 218, 219, 220, 221, 55, 222, 223, 224, 225, 268, 269, 270, 271, 272, 273, 274, 275, 276, 82, 277, 278, 279, 211, 212, 213, 280, 281, 57, 58, 59, 282, 283, 284, 285, 286, 83, 287, 288, 289, 794, 795, 796, 43, 797, 798, 799, 800, 801, 802, 803, 113, 114, 115, 116, 804, 805, 806, 807, 808, 809, 810, 811, 812, 813, 814, 815, 816, 817, 818, 819, 820, 821, 822, 871, 872, 873, 874, 53, 54, 928, 929, 930, 931, 932, 933, 934, 935, 936, 937, 978, 979, 980, 981, 954, 955, 956, 957, 958, 959, 967, 968, 969, 970, 971, 982, 983, 984] (by decide +kernel) (by decide +kernel)) (goodIn_sub (fun _ h => List.mem_append_left _ (List.mem_append_left _ (List.mem_append_left _ (List.mem_append_right _ h)))) (by decide +kernel))
set_option maxRecDepth 20000 in
theorem gL_law_L_usage : GoodIn wsL_law (va_wsS RL 257 yL_usage wsL_usage) := goodIn_app (goodIn_of _ (by decide +kernel)) ggL_law_L_usage
set_option maxRecDepth 20000 in
theorem ggL_law_X9_usage : GoodIn wsL_law wsX9_usage := goodIn_r _ [919, 175, 121, 827, 828, 829, 5, 830, 128, 601, 602, 603, 604, 127, 298, 299, 300, 301, 126, 831, 832, 833, 834, 332, 333, 334, 835, 836, 837, 838, 839, 840, 841, 842, 179, 180, 181, 182, 879, 880, 881, 882, 938, 939, 940, 941, 942, 943, 944, 945, 946, 947, 948, 949, 950, 951, 952, 953] (by decide +kernel) (by decide +kernel)
set_option maxRecDepth 20000 in
theorem gL_law_X9_usage : GoodIn wsL_law (wsV RL 260 RX9 yX9_usage wsX9_usage) := goodIn_app (goodIn_of _ (by decide +kernel)) ggL_law_X9_usage
set_option maxRecDepth 20000 in
theorem ggL_law_X8_historySize : GoodIn wsL_law wsX8_historySize := goodIn_r _ [923, 23, 486, 928, 929, 930, 931, 932, 933, 934, 935, 936, 937, 960, 961, 962] (by decide +kernel) (by decide +kernel)
set_option maxRecDepth 20000 in
theorem gL_law_X8_historySize : GoodIn wsL_law (wsV RL 261 RX8 yX8_historySize wsX8_historySize) := goodIn_app (goodIn_of _ (by decide +kernel)) ggL_law_X8_historySize
set_option maxRecDepth 20000 in
theorem ggL_law_X9_historySize : GoodIn wsL_law wsX9_historySize := goodIn_r _ [927, 175, 187, 938, 939, 940, 941, 942, 943, 944, 945, 946, 947, 948, 949, 950, 951, 952, 953] (by decide +kernel) (by decide +kernel)
set_option maxRecDepth 20000 in
theorem gL_law_X9_historySize : GoodIn wsL_law (wsV RL 264 RX9 yX9_historySize wsX9_historySize) := goodIn_app (goodIn_of _ (by decide +kernel)) ggL_law_X9_historySize
