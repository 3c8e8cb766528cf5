set_option maxRecDepth 20000 in
theorem ggL_law_X9_restoreSnapshot : GoodIn wsL_law wsX9_restoreSnapshot := goodIn_r _ [515, 175, 504, 124, 121, 179, 180, 181, 5, 182, 183, 184, 185, 186, 187, 123, 188, 189, 190, 938, 939, 940, 941, 942, 943, 944, 945, 946, 947, 948, 949, 950, 951, 952, 953] (by decide +kernel) (by decide +kernel)
set_option maxRecDepth 20000 in
theorem gL_law_X9_restoreSnapshot : GoodIn wsL_law (wsV RL 173 RX9 yX9_restoreSnapshot wsX9_restoreSnapshot) := goodIn_app (goodIn_of _ (by decide +kernel)) ggL_law_X9_restoreSnapshot
set_option maxRecDepth 20000 in
theorem ggL_law_X8_taskCount : GoodIn wsL_law wsX8_taskCount := goodIn_r _ [519, 17, 144, 928, 929, 930, 931, 932, 933, 934, 935, 936, 937, 954, 955, 956, 957, 958, 959] (by decide +kernel) (by decide +kernel)
set_option maxRecDepth 20000 in
theorem gL_law_X8_taskCount : GoodIn wsL_law (wsV RL 174 RX8 yX8_taskCount wsX8_taskCount) := goodIn_app (goodIn_of _ (by decide +kernel)) ggL_law_X8_taskCount
set_option maxRecDepth 20000 in
theorem ggL_law_X9_taskCount : GoodIn wsL_law wsX9_taskCount := goodIn_r _ [523, 175, 121, 938, 939, 940, 941, 942, 943, 944, 945, 946, 947, 948, 949, 950, 951, 952, 953] (by decide +kernel) (by decide +kernel)
set_option maxRecDepth 20000 in
theorem gL_law_X9_taskCount : GoodIn wsL_law (wsV RL 177 RX9 yX9_taskCount wsX9_taskCount) := goodIn_app (goodIn_of _ (by decide +kernel)) ggL_law_X9_taskCount
set_option maxRecDepth 20000 in
theorem ggL_law_X8_dependencyCount : GoodIn wsL_law wsX8_dependencyCount := goodIn_r _ [527, 17, 205, 928, 929, 930, 931, 932, 933, 934, 935, 936, 937, 954, 955, 956, 957, 958, 959] (by decide +kernel) (by decide +kernel)
set_option maxRecDepth 20000 in
theorem gL_law_X8_dependencyCount : GoodIn wsL_law (wsV RL 178 RX8 yX8_dependencyCount wsX8_dependencyCount) := goodIn_app (goodIn_of _ (by decide +kernel)) ggL_law_X8_dependencyCount
set_option maxRecDepth 20000 in
theorem ggL_law_X9_dependencyCount : GoodIn wsL_law wsX9_dependencyCount := goodIn_r _ [531, 175, 121, 230, 231, 5, 232, 938, 939, 940, 941, 942, 943, 944, 945, 946, 947, 948, 949, 950, 951, 952, 953] (by decide +kernel) (by decide +kernel)
set_option maxRecDepth 20000 in
theorem gL_law_X9_dependencyCount : GoodIn wsL_law (wsV RL 181 RX9 yX9_dependencyCount wsX9_dependencyCount) := goodIn_app (goodIn_of _ (by decide +kernel)) ggL_law_X9_dependencyCount
set_option maxRecDepth 20000 in
theorem ggL_law_L_lengthOf : GoodIn wsL_law wsL_lengthOf := goodIn_ca (goodIn_r _ [534, 236, 535, 536, 537, 2, 538, 17, 241, 242, 243, 244, 245, 246, 247, 248, 223, 224, 16, 225, 49, 928, 929, 930, 931, 932, 933, 934, 935, 936, 937, 954, 955, 956, 957, 958, 959] (by decide +kernel) (by decide +kernel)) (goodIn_sub (fun _ h => List.mem_append_left _ (List.mem_append_right _ h)) (by decide +kernel))
set_option maxRecDepth 20000 in
theorem gL_law_L_lengthOf : GoodIn wsL_law (va_wsS RL 182 yL_lengthOf wsL_lengthOf) := goodIn_app (goodIn_of _ (by decide +kernel)) ggL_law_L_lengthOf
set_option maxRecDepth 20000 in
theorem ggL_law_X9_lengthOf : GoodIn wsL_law wsX9_lengthOf := goodIn_r _ [542, 121, 294, 295, 296, 5, 297, 175, 176, 177, 178, 938, 939, 940, 941, 942, 943, 944, 945, 946, 947, 948, 949, 950, 951, 952, 953] (by decide +kernel) (by decide +kernel)
set_option maxRecDepth 20000 in
theorem gL_law_X9_lengthOf : GoodIn wsL_law (wsV RL 184 RX9 yX9_lengthOf wsX9_lengthOf) := goodIn_app (goodIn_of _ (by decide +kernel)) ggL_law_X9_lengthOf
set_option maxRecDepth 20000 in
theorem ggL_law_L_crewsOf : GoodIn wsL_law wsL_crewsOf := goodIn_ca (goodIn_r _ [545, 236, 546, 547, 548, 2, 549, 17, 550, 242, 243, 244, 245, 246, 247, 248, 223, 224, 16, 225, 49, 928, 929, 930, 931, 932, 933, 934, 935, 936, 937, 954, 955, 956, 957, 958, 959] (by decide +kernel) (by decide +kernel)) (goodIn_sub (fun _ h => List.mem_append_left _ (List.mem_append_right _ h)) (by decide +kernel))
set_option maxRecDepth 20000 in
theorem gL_law_L_crewsOf : GoodIn wsL_law (va_wsS RL 185 yL_crewsOf wsL_crewsOf) := goodIn_app (goodIn_of _ (by decide +kernel)) ggL_law_L_crewsOf
set_option maxRecDepth 20000 in
theorem ggL_law_X9_crewsOf : GoodIn wsL_law wsX9_crewsOf := goodIn_r _ [554, 121, 294, 295, 296, 5, 297, 175, 176, 177, 178, 938, 939, 940, 941, 942, 943, 944, 945, 946, 947, 948, 949, 950, 951, 952, 953] (by decide +kernel) (by decide +kernel)
set_option maxRecDepth 20000 in
theorem gL_law_X9_crewsOf : GoodIn wsL_law (wsV RL 187 RX9 yX9_crewsOf wsX9_crewsOf) := goodIn_app (goodIn_of _ (by decide +kernel)) ggL_law_X9_crewsOf
set_option maxRecDepth 20000 in
theorem ggL_law_L_lagOf : GoodIn wsL_law wsL_lagOf := goodIn_ca (goodIn_ca (goodIn_r _ [557, 236, 341, 558, 559, 560, 2, 561, 346, 347, 348, 349, 350, 351, 17, 242, 243, 244, 245, 246, 247, 248, 223, 224, 16, 225, 49, 309, 219, 220, 221, 55, 222, 928, 929, 930, 931, 932, 933, 934, 935, 936, 937, 954, 955, 956, 957, 958, 959] (by decide +kernel) (by decide +kernel)) (goodIn_sub (fun _ h => List.mem_append_right _ h) (by decide +kernel))) (goodIn_sub (fun _ h => List.mem_append_left _ (List.mem_append_right _ h)) (by decide +kernel))
set_option maxRecDepth 20000 in
theorem gL_law_L_lagOf : GoodIn wsL_law (va_wsS RL 188 yL_lagOf wsL_lagOf) := goodIn_app (goodIn_of _ (by decide +kernel)) ggL_law_L_lagOf
