set_option maxRecDepth 20000 in
theorem ggL_days_X8_taskCount : GoodIn wsL_days wsX8_taskCount := goodIn_r _ [5, 6, 7, 219, 220, 221, 222, 223, 224, 225, 226, 227, 228, 229, 230, 231, 232, 233, 234] (by decide +kernel) (by decide +kernel)
set_option maxRecDepth 20000 in
theorem gL_days_X8_taskCount : GoodIn wsL_days (wsV RL 41 RX8 yX8_taskCount wsX8_taskCount) := goodIn_app (goodIn_of _ (by decide +kernel)) ggL_days_X8_taskCount
set_option maxRecDepth 20000 in
theorem ggL_days_X8_planLength : GoodIn wsL_days wsX8_planLength := goodIn_r _ [11, 12, 6, 13, 14, 15, 16, 17, 18, 19, 20, 21, 22, 23, 24, 25, 26, 27, 28, 29, 30, 31, 32, 33, 34, 35, 36, 37, 38, 39, 40, 41, 42, 43, 44, 45, 46, 47, 48, 49, 50, 51, 52, 53, 54, 55, 56, 57, 58, 59, 60, 61, 62, 63, 64, 65, 66, 67, 68, 69, 70, 71, 72, 73, 74, 75, 76, 77, 78, 79, 80, 81, 82, 83, 219, 220, 221, 222, 223, 224, 225, 226, 227, 228, 229, 230, 231, 232, 233, 234, 235, 236, 237, 238, 239, 240, 241, 242] (by decide +kernel) (by decide +kernel)
set_option maxRecDepth 20000 in
theorem gL_days_X8_planLength : GoodIn wsL_days (wsV RL 44 RX8 yX8_planLength wsX8_planLength) := goodIn_app (goodIn_of _ (by decide +kernel)) ggL_days_X8_planLength
set_option maxRecDepth 20000 in
theorem ggL_days_X8_planLengthByRounds : GoodIn wsL_days wsX8_planLengthByRounds := goodIn_r _ [87, 88, 6, 89, 90, 91, 92, 93, 94, 95, 96, 97, 67, 68, 69, 98, 72, 73, 74, 99, 100, 101, 102, 103, 46, 47, 42, 48, 49, 50, 51, 52, 53, 44, 219, 220, 221, 222, 223, 224, 225, 226, 227, 228, 243, 229, 230, 231, 232, 233, 234] (by decide +kernel) (by decide +kernel)
set_option maxRecDepth 20000 in
theorem gL_days_X8_planLengthByRounds : GoodIn wsL_days (wsV RL 47 RX8 yX8_planLengthByRounds wsX8_planLengthByRounds) := goodIn_app (goodIn_of _ (by decide +kernel)) ggL_days_X8_planLengthByRounds
set_option maxRecDepth 20000 in
theorem ggL_days_X8_historySize : GoodIn wsL_days wsX8_historySize := goodIn_r _ [107, 108, 109, 219, 220, 221, 222, 223, 224, 225, 226, 227, 228, 244, 245, 246] (by decide +kernel) (by decide +kernel)
set_option maxRecDepth 20000 in
theorem gL_days_X8_historySize : GoodIn wsL_days (wsV RL 50 RX8 yX8_historySize wsX8_historySize) := goodIn_app (goodIn_of _ (by decide +kernel)) ggL_days_X8_historySize
set_option maxRecDepth 20000 in
theorem ggL_days_X8_earliestStart : GoodIn wsL_days wsX8_earliestStart := goodIn_ca (goodIn_r _ [113, 12, 6, 114, 115, 116, 117, 4, 118, 119, 120, 121, 51, 52, 42, 53, 44, 13, 14, 15, 16, 17, 18, 19, 20, 21, 22, 23, 24, 25, 26, 27, 28, 29, 30, 31, 32, 33, 34, 35, 36, 37, 38, 39, 40, 41, 43, 45, 46, 47, 48, 49, 50, 54, 55, 56, 57, 58, 59, 60, 61, 62, 63, 64, 65, 66, 67, 68, 69, 70, 71, 72, 73, 74, 75, 76, 77, 78, 79, 80, 81, 82, 83, 219, 220, 221, 222, 223, 224, 225, 226, 227, 228, 235, 236, 237, 238, 239, 229, 230, 231, 232, 233, 234, 240, 241, 242] (by decide +kernel) (by decide +kernel)) (goodIn_sub (fun _ h => List.mem_cons_of_mem _ (List.mem_append_left _ (List.mem_append_right _ h))) (by decide +kernel))
set_option maxRecDepth 20000 in
theorem gL_days_X8_earliestStart : GoodIn wsL_days (wsV RL 53 RX8 yX8_earliestStart wsX8_earliestStart) := goodIn_app (goodIn_of _ (by decide +kernel)) ggL_days_X8_earliestStart
set_option maxRecDepth 20000 in
theorem ggL_days_X8_lengthOf : GoodIn wsL_days wsX8_lengthOf := goodIn_ca (goodIn_r _ [125, 6, 126, 115, 116, 117, 4, 118, 119, 120, 121, 51, 52, 42, 53, 44, 219, 220, 221, 222, 223, 224, 225, 226, 227, 228, 229, 230, 231, 232, 233, 234] (by decide +kernel) (by decide +kernel)) (goodIn_sub (fun _ h => List.mem_cons_of_mem _ (List.mem_append_left _ (List.mem_append_right _ h))) (by decide +kernel))
set_option maxRecDepth 20000 in
theorem gL_days_X8_lengthOf : GoodIn wsL_days (wsV RL 57 RX8 yX8_lengthOf wsX8_lengthOf) := goodIn_app (goodIn_of _ (by decide +kernel)) ggL_days_X8_lengthOf
set_option maxRecDepth 20000 in
theorem ggL_days_L_lag : GoodIn wsL_days wsL_lag := goodIn_ca (goodIn_ca (goodIn_r _ [130, 131, 132, 133, 134, 4, 135, 136, 137, 138, 139, 140, 141, 6, 115, 116, 117, 118, 119, 120, 121, 51, 52, 42, 53, 44, 142, 46, 47, 48, 49, 50, 219, 220, 221, 222, 223, 224, 225, 226, 227, 228, 229, 230, 231, 232, 233, 234] (by decide +kernel) (by decide +kernel)) (goodIn_sub (fun _ h => List.mem_cons_of_mem _ (List.mem_append_right _ h)) (by decide +kernel))) (goodIn_sub (fun _ h => List.mem_cons_of_mem _ (List.mem_append_left _ (List.mem_append_right _ h))) (by decide +kernel))
set_option maxRecDepth 20000 in
theorem gL_days_L_lag : GoodIn wsL_days (va_wsS RL 60 yL_lag wsL_lag) := goodIn_app (goodIn_of _ (by decide +kernel)) ggL_days_L_lag
set_option maxRecDepth 20000 in
theorem ggL_days_X8_latestStart : GoodIn wsL_days wsX8_latestStart := goodIn_ca (goodIn_r _ [146, 12, 6, 147, 115, 116, 117, 4, 118, 119, 120, 121, 51, 52, 42, 53, 44, 13, 14, 15, 16, 17, 18, 19, 20, 21, 22, 23, 24, 25, 26, 27, 28, 29, 30, 31, 32, 33, 34, 35, 36, 37, 38, 39, 40, 41, 43, 45, 46, 47, 48, 49, 50, 54, 55, 56, 57, 58, 59, 60, 61, 62, 63, 64, 65, 66, 67, 68, 69, 70, 71, 72, 73, 74, 75, 76, 77, 78, 79, 80, 81, 82, 83, 219, 220, 221, 222, 223, 224, 225, 226, 227, 228, 235, 236, 237, 238, 239, 229, 230, 231, 232, 233, 234, 240, 241, 242] (by decide +kernel) (by decide +kernel)) (goodIn_sub (fun _ h => List.mem_cons_of_mem _ (List.mem_append_left _ (List.mem_append_right _ h))) (by decide +kernel))
set_option maxRecDepth 20000 in
theorem gL_days_X8_latestStart : GoodIn wsL_days (wsV RL 64 RX8 yX8_latestStart wsX8_latestStart) := goodIn_app (goodIn_of _ (by decide +kernel)) ggL_days_X8_latestStart
set_option maxRecDepth 20000 in
theorem ggL_days_X8_slack : GoodIn wsL_days wsX8_slack := goodIn_ca (goodIn_r _ [151, 12, 6, 115, 116, 117, 4, 118, 119, 120, 121, 51, 52, 42, 53, 44, 13, 14, 15, 16, 17, 18, 19, 20, 21, 22, 23, 24, 25, 26, 27, 28, 29, 30, 31, 32, 33, 34, 35, 36, 37, 38, 39, 40, 41, 43, 45, 46, 47, 48, 49, 50, 54, 55, 56, 57, 58, 59, 60, 61, 62, 63, 64, 65, 66, 67, 68, 69, 70, 71, 72, 73, 74, 75, 76, 77, 78, 79, 80, 81, 82, 83, 152, 153, 154, 155, 219, 220, 221, 222, 223, 224, 225, 226, 227, 228, 229, 230, 231, 232, 233, 234, 235, 236, 237, 238, 239, 240, 241, 242] (by decide +kernel) (by decide +kernel)) (goodIn_sub (fun _ h => List.mem_cons_of_mem _ (List.mem_append_left _ (List.mem_append_right _ h))) (by decide +kernel))
set_option maxRecDepth 20000 in
theorem gL_days_X8_slack : GoodIn wsL_days (wsV RL 67 RX8 yX8_slack wsX8_slack) := goodIn_app (goodIn_of _ (by decide +kernel)) ggL_days_X8_slack
set_option maxRecDepth 20000 in
theorem ggL_days_X8_slackByChain : GoodIn wsL_days wsX8_slackByChain := goodIn_ca (goodIn_r _ [159, 12, 6, 160, 115, 116, 117, 4, 118, 119, 120, 121, 51, 52, 42, 53, 44, 13, 14, 15, 16, 17, 18, 19, 20, 21, 22, 23, 24, 25, 26, 27, 28, 29, 30, 31, 32, 33, 34, 35, 36, 37, 38, 39, 40, 41, 43, 45, 46, 47, 48, 49, 50, 54, 55, 56, 57, 58, 59, 60, 61, 62, 63, 64, 65, 66, 67, 68, 69, 70, 71, 72, 73, 74, 75, 76, 77, 78, 79, 80, 81, 82, 83, 161, 162, 163, 164, 165, 166, 167, 168, 169, 170, 171, 172, 173, 174, 175, 176, 177, 178, 179, 180, 181, 182, 183, 184, 219, 220, 221, 222, 223, 224, 225, 226, 227, 228, 229, 230, 231, 232, 233, 234, 235, 236, 237, 238, 239, 240, 241, 242, 247, 248, 249, 250, 251] (by decide +kernel) (by decide +kernel)) (goodIn_sub (fun _ h => List.mem_cons_of_mem _ (List.mem_append_left _ (List.mem_append_right _ h))) (by decide +kernel))
set_option maxRecDepth 20000 in
theorem gL_days_X8_slackByChain : GoodIn wsL_days (wsV RL 70 RX8 yX8_slackByChain wsX8_slackByChain) := goodIn_app (goodIn_of _ (by decide +kernel)) ggL_days_X8_slackByChain
set_option maxRecDepth 20000 in
theorem ggL_days_X8_freeSlack : GoodIn wsL_days wsX8_freeSlack := goodIn_ca (goodIn_r _ [188, 12, 6, 115, 116, 117, 4, 118, 119, 120, 121, 51, 52, 42, 53, 44, 13, 14, 15, 16, 17, 18, 19, 20, 21, 22, 23, 24, 25, 26, 27, 28, 29, 30, 31, 32, 33, 34, 35, 36, 37, 38, 39, 40, 41, 43, 45, 46, 47, 48, 49, 50, 54, 55, 56, 57, 58, 59, 60, 61, 62, 63, 64, 65, 66, 67, 68, 69, 70, 71, 72, 73, 74, 75, 76, 77, 78, 79, 80, 81, 82, 83, 189, 190, 191, 192, 193, 219, 220, 221, 222, 223, 224, 225, 226, 227, 228, 229, 230, 231, 232, 233, 234, 235, 236, 237, 238, 239, 240, 241, 242] (by decide +kernel) (by decide +kernel)) (goodIn_sub (fun _ h => List.mem_cons_of_mem _ (List.mem_append_left _ (List.mem_append_right _ h))) (by decide +kernel))
set_option maxRecDepth 20000 in
theorem gL_days_X8_freeSlack : GoodIn wsL_days (wsV RL 73 RX8 yX8_freeSlack wsX8_freeSlack) := goodIn_app (goodIn_of _ (by decide +kernel)) ggL_days_X8_freeSlack
set_option maxRecDepth 20000 in
theorem ggL_days_X8_longestHarmless : GoodIn wsL_days wsX8_longestHarmless := goodIn_ca (goodIn_r _ [197, 12, 6, 126, 115, 116, 117, 4, 118, 119, 120, 121, 51, 52, 42, 53, 44, 13, 14, 15, 16, 17, 18, 19, 20, 21, 22, 23, 24, 25, 26, 27, 28, 29, 30, 31, 32, 33, 34, 35, 36, 37, 38, 39, 40, 41, 43, 45, 46, 47, 48, 49, 50, 54, 55, 56, 57, 58, 59, 60, 61, 62, 63, 64, 65, 66, 67, 68, 69, 70, 71, 72, 73, 74, 75, 76, 77, 78, 79, 80, 81, 82, 83, 152, 153, 154, 155, 219, 220, 221, 222, 223, 224, 225, 226, 227, 228, 229, 230, 231, 232, 233, 234, 235, 236, 237, 238, 239, 240, 241, 242] (by decide +kernel) (by decide +kernel)) (goodIn_sub (fun _ h => List.mem_cons_of_mem _ (List.mem_append_left _ (List.mem_append_right _ h))) (by decide +kernel))
set_option maxRecDepth 20000 in
theorem gL_days_X8_longestHarmless : GoodIn wsL_days (wsV RL 76 RX8 yX8_longestHarmless wsX8_longestHarmless) := goodIn_app (goodIn_of _ (by decide +kernel)) ggL_days_X8_longestHarmless
set_option maxRecDepth 20000 in
theorem ggL_days_X8_criticalTasks : GoodIn wsL_days wsX8_criticalTasks := goodIn_r _ [201, 12, 6, 7, 13, 14, 15, 16, 17, 18, 19, 20, 21, 22, 23, 24, 25, 26, 27, 28, 29, 30, 31, 32, 33, 34, 35, 36, 37, 38, 39, 40, 41, 42, 43, 44, 45, 46, 47, 48, 49, 50, 51, 52, 53, 54, 55, 56, 57, 58, 59, 60, 61, 62, 63, 64, 65, 66, 67, 68, 69, 70, 71, 72, 73, 74, 75, 76, 77, 78, 79, 80, 81, 82, 83, 152, 153, 154, 155, 219, 220, 221, 222, 223, 224, 225, 226, 227, 228, 229, 230, 231, 232, 233, 234, 235, 236, 237, 238, 239, 240, 241, 242] (by decide +kernel) (by decide +kernel)
set_option maxRecDepth 20000 in
theorem gL_days_X8_criticalTasks : GoodIn wsL_days (wsV RL 79 RX8 yX8_criticalTasks wsX8_criticalTasks) := goodIn_app (goodIn_of _ (by decide +kernel)) ggL_days_X8_criticalTasks
set_option maxRecDepth 20000 in
theorem ggL_days_X8_dependencyCount : GoodIn wsL_days wsX8_dependencyCount := goodIn_r _ [205, 6, 206, 219, 220, 221, 222, 223, 224, 225, 226, 227, 228, 229, 230, 231, 232, 233, 234] (by decide +kernel) (by decide +kernel)
set_option maxRecDepth 20000 in
theorem gL_days_X8_dependencyCount : GoodIn wsL_days (wsV RL 82 RX8 yX8_dependencyCount wsX8_dependencyCount) := goodIn_app (goodIn_of _ (by decide +kernel)) ggL_days_X8_dependencyCount
set_option maxRecDepth 20000 in
theorem ggL_days_X8_criticalChains : GoodIn wsL_days wsX8_criticalChains := goodIn_r _ [210, 12, 6, 160, 13, 14, 15, 16, 17, 18, 19, 20, 21, 22, 23, 24, 25, 26, 27, 28, 29, 30, 31, 32, 33, 34, 35, 36, 37, 38, 39, 40, 41, 42, 43, 44, 45, 46, 47, 48, 49, 50, 51, 52, 53, 54, 55, 56, 57, 58, 59, 60, 61, 62, 63, 64, 65, 66, 67, 68, 69, 70, 71, 72, 73, 74, 75, 76, 77, 78, 79, 80, 81, 82, 83, 211, 212, 213, 164, 214, 178, 215, 166, 167, 168, 216, 170, 217, 218, 173, 180, 219, 220, 221, 222, 223, 224, 225, 226, 227, 228, 229, 230, 231, 232, 233, 234, 235, 236, 237, 238, 239, 240, 241, 242, 247, 248, 249, 250, 251] (by decide +kernel) (by decide +kernel)
set_option maxRecDepth 20000 in
theorem gL_days_X8_criticalChains : GoodIn wsL_days (wsV RL 85 RX8 yX8_criticalChains wsX8_criticalChains) := goodIn_app (goodIn_of _ (by decide +kernel)) ggL_days_X8_criticalChains
