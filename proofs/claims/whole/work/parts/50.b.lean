set_option maxRecDepth 20000 in
theorem ggL_earliestStart_X8_earliestStart : GoodIn wsL_earliestStart wsX8_earliestStart := goodIn_ca (goodIn_r _ [6, 7, 8, 9, 10, 11, 12, 5, 13, 14, 15, 16, 17, 18, 19, 20, 21, 22, 23, 24, 25, 26, 27, 28, 29, 30, 31, 32, 33, 34, 35, 36, 37, 38, 39, 40, 41, 42, 43, 44, 45, 46, 47, 48, 49, 50, 51, 52, 53, 54, 55, 56, 57, 58, 59, 60, 61, 62, 63, 64, 65, 66, 67, 68, 69, 70, 71, 72, 73, 74, 75, 76, 77, 78, 79, 80, 81, 82, 83, 84, 85, 86, 87, 88, 89, 90, 91, 92, 93, 94, 95, 96, 97, 98, 99, 100, 101, 102, 103, 104, 105, 106, 107, 108, 109, 110, 111] (by decide +kernel) (by decide +kernel)) (goodIn_sub (fun _ h => List.mem_cons_of_mem _ (List.mem_append_right _ h)) (by decide +kernel))
set_option maxRecDepth 20000 in
theorem gL_earliestStart_X8_earliestStart : GoodIn wsL_earliestStart (wsV RL 68 RX8 yX8_earliestStart wsX8_earliestStart) := goodIn_app (goodIn_of _ (by decide +kernel)) ggL_earliestStart_X8_earliestStart
theorem dL_earliestStart_0 : decode cL_earliestStart 0 = .ok (.aload_n 2, 1) := by decide +kernel
theorem dL_earliestStart_1 : decode cL_earliestStart 1 = .ok (.iconst 0, 1) := by decide +kernel
theorem dL_earliestStart_2 : decode cL_earliestStart 2 = .ok (.aload_n 0, 1) := by decide +kernel
theorem dL_earliestStart_3 : decode cL_earliestStart 3 = .ok (.iload_n 1, 1) := by decide +kernel
theorem dL_earliestStart_4 : decode cL_earliestStart 4 = .ok (.invokevirtual 68, 3) := by decide +kernel
theorem dL_earliestStart_7 : decode cL_earliestStart 7 = .ok (.i2l, 1) := by decide +kernel
theorem dL_earliestStart_8 : decode cL_earliestStart 8 = .ok (.lastore, 1) := by decide +kernel
theorem dL_earliestStart_9 : decode cL_earliestStart 9 = .ok (.goto 6, 3) := by decide +kernel
theorem dL_earliestStart_12 : decode cL_earliestStart 12 = .ok (.astore_n 3, 1) := by decide +kernel
theorem dL_earliestStart_13 : decode cL_earliestStart 13 = .ok (.iconst 1, 1) := by decide +kernel
theorem dL_earliestStart_14 : decode cL_earliestStart 14 = .ok (.ireturn, 1) := by decide +kernel
theorem dL_earliestStart_15 : decode cL_earliestStart 15 = .ok (.iconst 0, 1) := by decide +kernel
theorem dL_earliestStart_16 : decode cL_earliestStart 16 = .ok (.ireturn, 1) := by decide +kernel
set_option maxRecDepth 20000 in
theorem ggL_latestStart_X8_latestStart : GoodIn wsL_latestStart wsX8_latestStart := goodIn_ca (goodIn_r _ [6, 7, 8, 9, 10, 11, 12, 5, 13, 14, 15, 16, 17, 18, 19, 20, 21, 22, 23, 24, 25, 26, 27, 28, 29, 30, 31, 32, 33, 34, 35, 36, 37, 38, 39, 40, 41, 42, 43, 44, 45, 46, 47, 48, 49, 50, 51, 52, 53, 54, 55, 56, 57, 58, 59, 60, 61, 62, 63, 64, 65, 66, 67, 68, 69, 70, 71, 72, 73, 74, 75, 76, 77, 78, 79, 80, 81, 82, 83, 84, 85, 86, 87, 88, 89, 90, 91, 92, 93, 94, 95, 96, 97, 98, 99, 100, 101, 102, 103, 104, 105, 106, 107, 108, 109, 110, 111] (by decide +kernel) (by decide +kernel)) (goodIn_sub (fun _ h => List.mem_cons_of_mem _ (List.mem_append_right _ h)) (by decide +kernel))
set_option maxRecDepth 20000 in
theorem gL_latestStart_X8_latestStart : GoodIn wsL_latestStart (wsV RL 71 RX8 yX8_latestStart wsX8_latestStart) := goodIn_app (goodIn_of _ (by decide +kernel)) ggL_latestStart_X8_latestStart
theorem dL_latestStart_0 : decode cL_latestStart 0 = .ok (.aload_n 2, 1) := by decide +kernel
theorem dL_latestStart_1 : decode cL_latestStart 1 = .ok (.iconst 0, 1) := by decide +kernel
theorem dL_latestStart_2 : decode cL_latestStart 2 = .ok (.aload_n 0, 1) := by decide +kernel
theorem dL_latestStart_3 : decode cL_latestStart 3 = .ok (.iload_n 1, 1) := by decide +kernel
theorem dL_latestStart_4 : decode cL_latestStart 4 = .ok (.invokevirtual 71, 3) := by decide +kernel
theorem dL_latestStart_7 : decode cL_latestStart 7 = .ok (.i2l, 1) := by decide +kernel
theorem dL_latestStart_8 : decode cL_latestStart 8 = .ok (.lastore, 1) := by decide +kernel
theorem dL_latestStart_9 : decode cL_latestStart 9 = .ok (.goto 6, 3) := by decide +kernel
theorem dL_latestStart_12 : decode cL_latestStart 12 = .ok (.astore_n 3, 1) := by decide +kernel
theorem dL_latestStart_13 : decode cL_latestStart 13 = .ok (.iconst 1, 1) := by decide +kernel
theorem dL_latestStart_14 : decode cL_latestStart 14 = .ok (.ireturn, 1) := by decide +kernel
theorem dL_latestStart_15 : decode cL_latestStart 15 = .ok (.iconst 0, 1) := by decide +kernel
theorem dL_latestStart_16 : decode cL_latestStart 16 = .ok (.ireturn, 1) := by decide +kernel
set_option maxRecDepth 20000 in
theorem ggL_slack_X8_slack : GoodIn wsL_slack wsX8_slack := goodIn_ca (goodIn_r _ [6, 7, 8, 9, 10, 11, 5, 12, 13, 14, 15, 16, 17, 18, 19, 20, 21, 22, 23, 24, 25, 26, 27, 28, 29, 30, 31, 32, 33, 34, 35, 36, 37, 38, 39, 40, 41, 42, 43, 44, 45, 46, 47, 48, 49, 50, 51, 52, 53, 54, 55, 56, 57, 58, 59, 60, 61, 62, 63, 64, 65, 66, 67, 68, 69, 70, 71, 72, 73, 74, 75, 76, 77, 78, 79, 80, 81, 82, 83, 84, 85, 86, 87, 88, 89, 90, 91, 92, 93, 94, 95, 96, 97, 98, 99, 100, 101, 102, 103, 104, 105, 106, 107, 108, 109, 110, 111, 112, 113, 114] (by decide +kernel) (by decide +kernel)) (goodIn_sub (fun _ h => List.mem_cons_of_mem _ (List.mem_append_right _ h)) (by decide +kernel))
set_option maxRecDepth 20000 in
theorem gL_slack_X8_slack : GoodIn wsL_slack (wsV RL 74 RX8 yX8_slack wsX8_slack) := goodIn_app (goodIn_of _ (by decide +kernel)) ggL_slack_X8_slack
theorem dL_slack_0 : decode cL_slack 0 = .ok (.aload_n 2, 1) := by decide +kernel
theorem dL_slack_1 : decode cL_slack 1 = .ok (.iconst 0, 1) := by decide +kernel
theorem dL_slack_2 : decode cL_slack 2 = .ok (.aload_n 0, 1) := by decide +kernel
theorem dL_slack_3 : decode cL_slack 3 = .ok (.iload_n 1, 1) := by decide +kernel
theorem dL_slack_4 : decode cL_slack 4 = .ok (.invokevirtual 74, 3) := by decide +kernel
theorem dL_slack_7 : decode cL_slack 7 = .ok (.i2l, 1) := by decide +kernel
theorem dL_slack_8 : decode cL_slack 8 = .ok (.lastore, 1) := by decide +kernel
theorem dL_slack_9 : decode cL_slack 9 = .ok (.goto 6, 3) := by decide +kernel
theorem dL_slack_12 : decode cL_slack 12 = .ok (.astore_n 3, 1) := by decide +kernel
theorem dL_slack_13 : decode cL_slack 13 = .ok (.iconst 1, 1) := by decide +kernel
theorem dL_slack_14 : decode cL_slack 14 = .ok (.ireturn, 1) := by decide +kernel
theorem dL_slack_15 : decode cL_slack 15 = .ok (.iconst 0, 1) := by decide +kernel
theorem dL_slack_16 : decode cL_slack 16 = .ok (.ireturn, 1) := by decide +kernel
set_option maxRecDepth 20000 in
theorem ggL_slackByChain_X8_slackByChain : GoodIn wsL_slackByChain wsX8_slackByChain := goodIn_ca (goodIn_r _ [6, 7, 8, 9, 10, 11, 12, 5, 13, 14, 15, 16, 17, 18, 19, 20, 21, 22, 23, 24, 25, 26, 27, 28, 29, 30, 31, 32, 33, 34, 35, 36, 37, 38, 39, 40, 41, 42, 43, 44, 45, 46, 47, 48, 49, 50, 51, 52, 53, 54, 55, 56, 57, 58, 59, 60, 61, 62, 63, 64, 65, 66, 67, 68, 69, 70, 71, 72, 73, 74, 75, 76, 77, 78, 79, 80, 81, 82, 83, 84, 85, 86, 87, 88, 89, 90, 91, 92, 93, 94, 95, 96, 97, 98, 99, 100, 101, 102, 103, 104, 105, 106, 107, 108, 109, 110, 111, 112, 113, 114, 115, 116, 117, 118, 119, 120, 121, 122, 123, 124, 125, 126, 127, 128, 129, 130, 131, 132, 133, 134, 135, 136, 137, 138, 139, 140] (by decide +kernel) (by decide +kernel)) (goodIn_sub (fun _ h => List.mem_cons_of_mem _ (List.mem_append_right _ h)) (by decide +kernel))
set_option maxRecDepth 20000 in
theorem gL_slackByChain_X8_slackByChain : GoodIn wsL_slackByChain (wsV RL 77 RX8 yX8_slackByChain wsX8_slackByChain) := goodIn_app (goodIn_of _ (by decide +kernel)) ggL_slackByChain_X8_slackByChain
theorem dL_slackByChain_0 : decode cL_slackByChain 0 = .ok (.aload_n 2, 1) := by decide +kernel
theorem dL_slackByChain_1 : decode cL_slackByChain 1 = .ok (.iconst 0, 1) := by decide +kernel
theorem dL_slackByChain_2 : decode cL_slackByChain 2 = .ok (.aload_n 0, 1) := by decide +kernel
theorem dL_slackByChain_3 : decode cL_slackByChain 3 = .ok (.iload_n 1, 1) := by decide +kernel
theorem dL_slackByChain_4 : decode cL_slackByChain 4 = .ok (.invokevirtual 77, 3) := by decide +kernel
theorem dL_slackByChain_7 : decode cL_slackByChain 7 = .ok (.i2l, 1) := by decide +kernel
theorem dL_slackByChain_8 : decode cL_slackByChain 8 = .ok (.lastore, 1) := by decide +kernel
theorem dL_slackByChain_9 : decode cL_slackByChain 9 = .ok (.goto 6, 3) := by decide +kernel
theorem dL_slackByChain_12 : decode cL_slackByChain 12 = .ok (.astore_n 3, 1) := by decide +kernel
theorem dL_slackByChain_13 : decode cL_slackByChain 13 = .ok (.iconst 1, 1) := by decide +kernel
theorem dL_slackByChain_14 : decode cL_slackByChain 14 = .ok (.ireturn, 1) := by decide +kernel
theorem dL_slackByChain_15 : decode cL_slackByChain 15 = .ok (.iconst 0, 1) := by decide +kernel
theorem dL_slackByChain_16 : decode cL_slackByChain 16 = .ok (.ireturn, 1) := by decide +kernel
set_option maxRecDepth 20000 in
theorem ggL_freeSlack_X8_freeSlack : GoodIn wsL_freeSlack wsX8_freeSlack := goodIn_ca (goodIn_r _ [6, 7, 8, 9, 10, 11, 5, 12, 13, 14, 15, 16, 17, 18, 19, 20, 21, 22, 23, 24, 25, 26, 27, 28, 29, 30, 31, 32, 33, 34, 35, 36, 37, 38, 39, 40, 41, 42, 43, 44, 45, 46, 47, 48, 49, 50, 51, 52, 53, 54, 55, 56, 57, 58, 59, 60, 61, 62, 63, 64, 65, 66, 67, 68, 69, 70, 71, 72, 73, 74, 75, 76, 77, 78, 79, 80, 81, 82, 83, 84, 85, 86, 87, 88, 89, 90, 91, 92, 93, 94, 95, 96, 97, 98, 99, 100, 101, 102, 103, 104, 105, 106, 107, 108, 109, 110, 111, 112, 113, 114, 115] (by decide +kernel) (by decide +kernel)) (goodIn_sub (fun _ h => List.mem_cons_of_mem _ (List.mem_append_right _ h)) (by decide +kernel))
set_option maxRecDepth 20000 in
theorem gL_freeSlack_X8_freeSlack : GoodIn wsL_freeSlack (wsV RL 80 RX8 yX8_freeSlack wsX8_freeSlack) := goodIn_app (goodIn_of _ (by decide +kernel)) ggL_freeSlack_X8_freeSlack
theorem dL_freeSlack_0 : decode cL_freeSlack 0 = .ok (.aload_n 2, 1) := by decide +kernel
theorem dL_freeSlack_1 : decode cL_freeSlack 1 = .ok (.iconst 0, 1) := by decide +kernel
theorem dL_freeSlack_2 : decode cL_freeSlack 2 = .ok (.aload_n 0, 1) := by decide +kernel
theorem dL_freeSlack_3 : decode cL_freeSlack 3 = .ok (.iload_n 1, 1) := by decide +kernel
theorem dL_freeSlack_4 : decode cL_freeSlack 4 = .ok (.invokevirtual 80, 3) := by decide +kernel
theorem dL_freeSlack_7 : decode cL_freeSlack 7 = .ok (.i2l, 1) := by decide +kernel
theorem dL_freeSlack_8 : decode cL_freeSlack 8 = .ok (.lastore, 1) := by decide +kernel
theorem dL_freeSlack_9 : decode cL_freeSlack 9 = .ok (.goto 6, 3) := by decide +kernel
theorem dL_freeSlack_12 : decode cL_freeSlack 12 = .ok (.astore_n 3, 1) := by decide +kernel
theorem dL_freeSlack_13 : decode cL_freeSlack 13 = .ok (.iconst 1, 1) := by decide +kernel
theorem dL_freeSlack_14 : decode cL_freeSlack 14 = .ok (.ireturn, 1) := by decide +kernel
theorem dL_freeSlack_15 : decode cL_freeSlack 15 = .ok (.iconst 0, 1) := by decide +kernel
theorem dL_freeSlack_16 : decode cL_freeSlack 16 = .ok (.ireturn, 1) := by decide +kernel
set_option maxRecDepth 20000 in
theorem ggL_longestHarmless_X8_longestHarmless : GoodIn wsL_longestHarmless wsX8_longestHarmless := goodIn_ca (goodIn_r _ [6, 7, 8, 9, 10, 11, 12, 5, 13, 14, 15, 16, 17, 18, 19, 20, 21, 22, 23, 24, 25, 26, 27, 28, 29, 30, 31, 32, 33, 34, 35, 36, 37, 38, 39, 40, 41, 42, 43, 44, 45, 46, 47, 48, 49, 50, 51, 52, 53, 54, 55, 56, 57, 58, 59, 60, 61, 62, 63, 64, 65, 66, 67, 68, 69, 70, 71, 72, 73, 74, 75, 76, 77, 78, 79, 80, 81, 82, 83, 84, 85, 86, 87, 88, 89, 90, 91, 92, 93, 94, 95, 96, 97, 98, 99, 100, 101, 102, 103, 104, 105, 106, 107, 108, 109, 110, 111, 112, 113, 114, 115] (by decide +kernel) (by decide +kernel)) (goodIn_sub (fun _ h => List.mem_cons_of_mem _ (List.mem_append_right _ h)) (by decide +kernel))
set_option maxRecDepth 20000 in
theorem gL_longestHarmless_X8_longestHarmless : GoodIn wsL_longestHarmless (wsV RL 83 RX8 yX8_longestHarmless wsX8_longestHarmless) := goodIn_app (goodIn_of _ (by decide +kernel)) ggL_longestHarmless_X8_longestHarmless
theorem dL_longestHarmless_0 : decode cL_longestHarmless 0 = .ok (.aload_n 2, 1) := by decide +kernel
theorem dL_longestHarmless_1 : decode cL_longestHarmless 1 = .ok (.iconst 0, 1) := by decide +kernel
theorem dL_longestHarmless_2 : decode cL_longestHarmless 2 = .ok (.aload_n 0, 1) := by decide +kernel
theorem dL_longestHarmless_3 : decode cL_longestHarmless 3 = .ok (.iload_n 1, 1) := by decide +kernel
theorem dL_longestHarmless_4 : decode cL_longestHarmless 4 = .ok (.invokevirtual 83, 3) := by decide +kernel
theorem dL_longestHarmless_7 : decode cL_longestHarmless 7 = .ok (.i2l, 1) := by decide +kernel
theorem dL_longestHarmless_8 : decode cL_longestHarmless 8 = .ok (.lastore, 1) := by decide +kernel
theorem dL_longestHarmless_9 : decode cL_longestHarmless 9 = .ok (.goto 6, 3) := by decide +kernel
theorem dL_longestHarmless_12 : decode cL_longestHarmless 12 = .ok (.astore_n 3, 1) := by decide +kernel
theorem dL_longestHarmless_13 : decode cL_longestHarmless 13 = .ok (.iconst 1, 1) := by decide +kernel
theorem dL_longestHarmless_14 : decode cL_longestHarmless 14 = .ok (.ireturn, 1) := by decide +kernel
theorem dL_longestHarmless_15 : decode cL_longestHarmless 15 = .ok (.iconst 0, 1) := by decide +kernel
theorem dL_longestHarmless_16 : decode cL_longestHarmless 16 = .ok (.ireturn, 1) := by decide +kernel
set_option maxRecDepth 20000 in
theorem ggL_delayOfPlan_X8_delayOfPlan : GoodIn wsL_delayOfPlan wsX8_delayOfPlan := goodIn_ca (goodIn_ca (goodIn_r _ [7, 8, 9, 10, 11, 12, 13, 6, 14, 15, 16, 17, 18, 19, 20, 21, 22, 23, 24, 25, 26, 27, 28, 29, 30, 31, 32, 33, 34, 35, 36, 37, 38, 39, 40, 41, 42, 43, 44, 45, 46, 47, 48, 49, 50, 51, 52, 53, 54, 55, 56, 57, 58, 59, 60, 61, 62, 63, 64, 65, 66, 67, 68, 69, 70, 71, 72, 73, 74, 75, 76, 77, 78, 79, 80, 81, 82, 83, 84, 85, 86, 87, 88, 89, 90, 91, 92, 93, 94, 95, 96, 97, 98, 99, 100, 101, 102, 103, 104, 105, 106, 107, 108, 109, 110, 111, 112, 113, 114, 115, 116, 117, 118, 119, 120, 121, 122, 123] (by decide +kernel) (by decide +kernel)) (goodIn_sub (fun _ h => List.mem_cons_of_mem _ (List.mem_append_left _ (List.mem_append_right _ h))) (by decide +kernel))) (goodIn_sub (fun _ h => List.mem_cons_of_mem _ (List.mem_append_right _ h)) (by decide +kernel))
set_option maxRecDepth 20000 in
theorem gL_delayOfPlan_X8_delayOfPlan : GoodIn wsL_delayOfPlan (wsV RL 86 RX8 yX8_delayOfPlan wsX8_delayOfPlan) := goodIn_app (goodIn_of _ (by decide +kernel)) ggL_delayOfPlan_X8_delayOfPlan
theorem dL_delayOfPlan_0 : decode cL_delayOfPlan 0 = .ok (.aload_n 3, 1) := by decide +kernel
theorem dL_delayOfPlan_1 : decode cL_delayOfPlan 1 = .ok (.iconst 0, 1) := by decide +kernel
theorem dL_delayOfPlan_2 : decode cL_delayOfPlan 2 = .ok (.aload_n 0, 1) := by decide +kernel
theorem dL_delayOfPlan_3 : decode cL_delayOfPlan 3 = .ok (.iload_n 1, 1) := by decide +kernel
theorem dL_delayOfPlan_4 : decode cL_delayOfPlan 4 = .ok (.iload_n 2, 1) := by decide +kernel
theorem dL_delayOfPlan_5 : decode cL_delayOfPlan 5 = .ok (.invokevirtual 86, 3) := by decide +kernel
theorem dL_delayOfPlan_8 : decode cL_delayOfPlan 8 = .ok (.i2l, 1) := by decide +kernel
theorem dL_delayOfPlan_9 : decode cL_delayOfPlan 9 = .ok (.lastore, 1) := by decide +kernel
theorem dL_delayOfPlan_10 : decode cL_delayOfPlan 10 = .ok (.goto 11, 3) := by decide +kernel
theorem dL_delayOfPlan_13 : decode cL_delayOfPlan 13 = .ok (.astore 4, 2) := by decide +kernel
theorem dL_delayOfPlan_15 : decode cL_delayOfPlan 15 = .ok (.iconst 1, 1) := by decide +kernel
theorem dL_delayOfPlan_16 : decode cL_delayOfPlan 16 = .ok (.ireturn, 1) := by decide +kernel
theorem dL_delayOfPlan_17 : decode cL_delayOfPlan 17 = .ok (.astore 4, 2) := by decide +kernel
theorem dL_delayOfPlan_19 : decode cL_delayOfPlan 19 = .ok (.iconst 2, 1) := by decide +kernel
theorem dL_delayOfPlan_20 : decode cL_delayOfPlan 20 = .ok (.ireturn, 1) := by decide +kernel
theorem dL_delayOfPlan_21 : decode cL_delayOfPlan 21 = .ok (.iconst 0, 1) := by decide +kernel
theorem dL_delayOfPlan_22 : decode cL_delayOfPlan 22 = .ok (.ireturn, 1) := by decide +kernel
set_option maxRecDepth 20000 in
theorem ggL_delayBySlack_X8_delayBySlack : GoodIn wsL_delayBySlack wsX8_delayBySlack := goodIn_ca (goodIn_ca (goodIn_r _ [7, 8, 9, 10, 11, 12, 13, 14, 15, 16, 6, 17, 18, 19, 20, 21, 22, 23, 24, 25, 26, 27, 28, 29, 30, 31, 32, 33, 34, 35, 36, 37, 38, 39, 40, 41, 42, 43, 44, 45, 46, 47, 48, 49, 50, 51, 52, 53, 54, 55, 56, 57, 58, 59, 60, 61, 62, 63, 64, 65, 66, 67, 68, 69, 70, 71, 72, 73, 74, 75, 76, 77, 78, 79, 80, 81, 82, 83, 84, 85, 86, 87, 88, 89, 90, 91, 92, 93, 94, 95, 96, 97, 98, 99, 100, 101, 102, 103, 104, 105, 106, 107, 108, 109, 110, 111, 112, 113, 114, 115, 116, 117, 118, 119, 120, 121, 122] (by decide +kernel) (by decide +kernel)) (goodIn_sub (fun _ h => List.mem_cons_of_mem _ (List.mem_append_left _ (List.mem_append_right _ h))) (by decide +kernel))) (goodIn_sub (fun _ h => List.mem_cons_of_mem _ (List.mem_append_right _ h)) (by decide +kernel))
set_option maxRecDepth 20000 in
theorem gL_delayBySlack_X8_delayBySlack : GoodIn wsL_delayBySlack (wsV RL 89 RX8 yX8_delayBySlack wsX8_delayBySlack) := goodIn_app (goodIn_of _ (by decide +kernel)) ggL_delayBySlack_X8_delayBySlack
theorem dL_delayBySlack_0 : decode cL_delayBySlack 0 = .ok (.aload_n 3, 1) := by decide +kernel
theorem dL_delayBySlack_1 : decode cL_delayBySlack 1 = .ok (.iconst 0, 1) := by decide +kernel
theorem dL_delayBySlack_2 : decode cL_delayBySlack 2 = .ok (.aload_n 0, 1) := by decide +kernel
theorem dL_delayBySlack_3 : decode cL_delayBySlack 3 = .ok (.iload_n 1, 1) := by decide +kernel
theorem dL_delayBySlack_4 : decode cL_delayBySlack 4 = .ok (.iload_n 2, 1) := by decide +kernel
theorem dL_delayBySlack_5 : decode cL_delayBySlack 5 = .ok (.invokevirtual 89, 3) := by decide +kernel
theorem dL_delayBySlack_8 : decode cL_delayBySlack 8 = .ok (.i2l, 1) := by decide +kernel
theorem dL_delayBySlack_9 : decode cL_delayBySlack 9 = .ok (.lastore, 1) := by decide +kernel
theorem dL_delayBySlack_10 : decode cL_delayBySlack 10 = .ok (.goto 11, 3) := by decide +kernel
theorem dL_delayBySlack_13 : decode cL_delayBySlack 13 = .ok (.astore 4, 2) := by decide +kernel
theorem dL_delayBySlack_15 : decode cL_delayBySlack 15 = .ok (.iconst 1, 1) := by decide +kernel
theorem dL_delayBySlack_16 : decode cL_delayBySlack 16 = .ok (.ireturn, 1) := by decide +kernel
theorem dL_delayBySlack_17 : decode cL_delayBySlack 17 = .ok (.astore 4, 2) := by decide +kernel
theorem dL_delayBySlack_19 : decode cL_delayBySlack 19 = .ok (.iconst 2, 1) := by decide +kernel
theorem dL_delayBySlack_20 : decode cL_delayBySlack 20 = .ok (.ireturn, 1) := by decide +kernel
theorem dL_delayBySlack_21 : decode cL_delayBySlack 21 = .ok (.iconst 0, 1) := by decide +kernel
theorem dL_delayBySlack_22 : decode cL_delayBySlack 22 = .ok (.ireturn, 1) := by decide +kernel
set_option maxRecDepth 20000 in
theorem ggL_tasksMoved_X8_tasksMoved : GoodIn wsL_tasksMoved wsX8_tasksMoved := goodIn_ca (goodIn_ca (goodIn_r _ [7, 8, 9, 10, 11, 12, 13, 14, 15, 6, 16, 17, 18, 19, 20, 21, 22, 23, 24, 25, 26, 27, 28, 29, 30, 31, 32, 33, 34, 35, 36, 37, 38, 39, 40, 41, 42, 43, 44, 45, 46, 47, 48, 49, 50, 51, 52, 53, 54, 55, 56, 57, 58, 59, 60, 61, 62, 63, 64, 65, 66, 67, 68, 69, 70, 71, 72, 73, 74, 75, 76, 77, 78, 79, 80, 81, 82, 83, 84, 85, 86, 87, 88, 89, 90, 91, 92, 93, 94, 95, 96, 97, 98, 99, 100, 101, 102, 103, 104, 105, 106, 107, 108, 109, 110, 111, 112, 113, 114, 115, 116, 117, 118, 119, 120, 121, 122, 123, 124, 125] (by decide +kernel) (by decide +kernel)) (goodIn_sub (fun _ h => List.mem_cons_of_mem _ (List.mem_append_left _ (List.mem_append_right _ h))) (by decide +kernel))) (goodIn_sub (fun _ h => List.mem_cons_of_mem _ (List.mem_append_right _ h)) (by decide +kernel))
set_option maxRecDepth 20000 in
theorem gL_tasksMoved_X8_tasksMoved : GoodIn wsL_tasksMoved (wsV RL 92 RX8 yX8_tasksMoved wsX8_tasksMoved) := goodIn_app (goodIn_of _ (by decide +kernel)) ggL_tasksMoved_X8_tasksMoved
theorem dL_tasksMoved_0 : decode cL_tasksMoved 0 = .ok (.aload_n 3, 1) := by decide +kernel
theorem dL_tasksMoved_1 : decode cL_tasksMoved 1 = .ok (.iconst 0, 1) := by decide +kernel
theorem dL_tasksMoved_2 : decode cL_tasksMoved 2 = .ok (.aload_n 0, 1) := by decide +kernel
theorem dL_tasksMoved_3 : decode cL_tasksMoved 3 = .ok (.iload_n 1, 1) := by decide +kernel
theorem dL_tasksMoved_4 : decode cL_tasksMoved 4 = .ok (.iload_n 2, 1) := by decide +kernel
theorem dL_tasksMoved_5 : decode cL_tasksMoved 5 = .ok (.invokevirtual 92, 3) := by decide +kernel
theorem dL_tasksMoved_8 : decode cL_tasksMoved 8 = .ok (.i2l, 1) := by decide +kernel
theorem dL_tasksMoved_9 : decode cL_tasksMoved 9 = .ok (.lastore, 1) := by decide +kernel
theorem dL_tasksMoved_10 : decode cL_tasksMoved 10 = .ok (.goto 11, 3) := by decide +kernel
theorem dL_tasksMoved_13 : decode cL_tasksMoved 13 = .ok (.astore 4, 2) := by decide +kernel
theorem dL_tasksMoved_15 : decode cL_tasksMoved 15 = .ok (.iconst 1, 1) := by decide +kernel
theorem dL_tasksMoved_16 : decode cL_tasksMoved 16 = .ok (.ireturn, 1) := by decide +kernel
theorem dL_tasksMoved_17 : decode cL_tasksMoved 17 = .ok (.astore 4, 2) := by decide +kernel
theorem dL_tasksMoved_19 : decode cL_tasksMoved 19 = .ok (.iconst 2, 1) := by decide +kernel
theorem dL_tasksMoved_20 : decode cL_tasksMoved 20 = .ok (.ireturn, 1) := by decide +kernel
theorem dL_tasksMoved_21 : decode cL_tasksMoved 21 = .ok (.iconst 0, 1) := by decide +kernel
theorem dL_tasksMoved_22 : decode cL_tasksMoved 22 = .ok (.ireturn, 1) := by decide +kernel
set_option maxRecDepth 20000 in
theorem ggL_scheduledStart_X8_scheduledStart : GoodIn wsL_scheduledStart wsX8_scheduledStart := goodIn_ca (goodIn_ca (goodIn_r _ [7, 8, 9, 10, 11, 12, 6, 13, 14, 15, 16, 17, 18, 19, 20, 21, 22, 23, 24, 25, 26, 27, 28, 29, 30, 31, 32, 33, 34, 35, 36, 37, 38, 39, 40, 41, 42, 43, 44, 45, 46, 47, 48, 49, 50, 51, 52, 53, 54, 55, 56, 57, 58, 59, 60, 61, 62, 63, 64, 65, 66, 67, 68, 69, 70, 71, 72, 73, 74, 75, 76, 77, 78, 79, 80, 81, 82, 83, 84, 85, 86, 87, 88, 89, 90, 91, 92, 93, 94, 95, 96, 97, 98, 99, 100, 101, 102, 103, 104, 105, 106, 107, 108, 109, 110, 111, 112, 113, 114, 115, 116, 117, 118, 119, 120, 121, 122, 123, 124, 125, 126, 127, 128, 129, 130, 131, 132, 133, 134, 135, 136, 137, 138, 139, 140, 141, 142, 143, 144, 145, 146, 147, 148, 149, 150, 151, 152, 153, 154, 155, 156, 157, 158] (by decide +kernel) (by decide +kernel)) (goodIn_sub (fun _ h => List.mem_cons_of_mem _ (List.mem_append_left _ (List.mem_append_right _ h))) (by decide +kernel))) (goodIn_sub (fun _ h => List.mem_cons_of_mem _ (List.mem_append_right _ h)) (by decide +kernel))
set_option maxRecDepth 20000 in
theorem gL_scheduledStart_X8_scheduledStart : GoodIn wsL_scheduledStart (wsV RL 95 RX8 yX8_scheduledStart wsX8_scheduledStart) := goodIn_app (goodIn_of _ (by decide +kernel)) ggL_scheduledStart_X8_scheduledStart
theorem dL_scheduledStart_0 : decode cL_scheduledStart 0 = .ok (.aload_n 2, 1) := by decide +kernel
theorem dL_scheduledStart_1 : decode cL_scheduledStart 1 = .ok (.iconst 0, 1) := by decide +kernel
theorem dL_scheduledStart_2 : decode cL_scheduledStart 2 = .ok (.aload_n 0, 1) := by decide +kernel
theorem dL_scheduledStart_3 : decode cL_scheduledStart 3 = .ok (.iload_n 1, 1) := by decide +kernel
theorem dL_scheduledStart_4 : decode cL_scheduledStart 4 = .ok (.invokevirtual 95, 3) := by decide +kernel
theorem dL_scheduledStart_7 : decode cL_scheduledStart 7 = .ok (.i2l, 1) := by decide +kernel
theorem dL_scheduledStart_8 : decode cL_scheduledStart 8 = .ok (.lastore, 1) := by decide +kernel
theorem dL_scheduledStart_9 : decode cL_scheduledStart 9 = .ok (.goto 9, 3) := by decide +kernel
theorem dL_scheduledStart_12 : decode cL_scheduledStart 12 = .ok (.astore_n 3, 1) := by decide +kernel
theorem dL_scheduledStart_13 : decode cL_scheduledStart 13 = .ok (.iconst 1, 1) := by decide +kernel
theorem dL_scheduledStart_14 : decode cL_scheduledStart 14 = .ok (.ireturn, 1) := by decide +kernel
theorem dL_scheduledStart_15 : decode cL_scheduledStart 15 = .ok (.astore_n 3, 1) := by decide +kernel
theorem dL_scheduledStart_16 : decode cL_scheduledStart 16 = .ok (.iconst 2, 1) := by decide +kernel
theorem dL_scheduledStart_17 : decode cL_scheduledStart 17 = .ok (.ireturn, 1) := by decide +kernel
theorem dL_scheduledStart_18 : decode cL_scheduledStart 18 = .ok (.iconst 0, 1) := by decide +kernel
theorem dL_scheduledStart_19 : decode cL_scheduledStart 19 = .ok (.ireturn, 1) := by decide +kernel
set_option maxRecDepth 20000 in
theorem ggL_crewsOn_X8_crewsOn : GoodIn wsL_crewsOn wsX8_crewsOn := goodIn_ca (goodIn_ca (goodIn_r _ [7, 8, 9, 10, 11, 12, 6, 13, 14, 15, 16, 17, 18, 19, 20, 21, 22, 23, 24, 25, 26, 27, 28, 29, 30, 31, 32, 33, 34, 35, 36, 37, 38, 39, 40, 41, 42, 43, 44, 45, 46, 47, 48, 49, 50, 51, 52, 53, 54, 55, 56, 57, 58, 59, 60, 61, 62, 63, 64, 65, 66, 67, 68, 69, 70, 71, 72, 73, 74, 75, 76, 77, 78, 79, 80, 81, 82, 83, 84, 85, 86, 87, 88, 89, 90, 91, 92, 93, 94, 95, 96, 97, 98, 99, 100, 101, 102, 103, 104, 105, 106, 107, 108, 109, 110, 111, 112, 113, 114, 115, 116, 117, 118, 119, 120, 121, 122, 123, 124, 125, 126, 127, 128, 129, 130, 131, 132, 133, 134, 135, 136, 137, 138, 139, 140, 141, 142, 143, 144, 145, 146, 147, 148, 149, 150, 151, 152, 153, 154, 155, 156, 157] (by decide +kernel) (by decide +kernel)) (goodIn_sub (fun _ h => List.mem_cons_of_mem _ (List.mem_append_left _ (List.mem_append_right _ h))) (by decide +kernel))) (goodIn_sub (fun _ h => List.mem_cons_of_mem _ (List.mem_append_right _ h)) (by decide +kernel))
set_option maxRecDepth 20000 in
theorem gL_crewsOn_X8_crewsOn : GoodIn wsL_crewsOn (wsV RL 98 RX8 yX8_crewsOn wsX8_crewsOn) := goodIn_app (goodIn_of _ (by decide +kernel)) ggL_crewsOn_X8_crewsOn
theorem dL_crewsOn_0 : decode cL_crewsOn 0 = .ok (.aload_n 2, 1) := by decide +kernel
theorem dL_crewsOn_1 : decode cL_crewsOn 1 = .ok (.iconst 0, 1) := by decide +kernel
theorem dL_crewsOn_2 : decode cL_crewsOn 2 = .ok (.aload_n 0, 1) := by decide +kernel
theorem dL_crewsOn_3 : decode cL_crewsOn 3 = .ok (.iload_n 1, 1) := by decide +kernel
theorem dL_crewsOn_4 : decode cL_crewsOn 4 = .ok (.invokevirtual 98, 3) := by decide +kernel
theorem dL_crewsOn_7 : decode cL_crewsOn 7 = .ok (.i2l, 1) := by decide +kernel
theorem dL_crewsOn_8 : decode cL_crewsOn 8 = .ok (.lastore, 1) := by decide +kernel
theorem dL_crewsOn_9 : decode cL_crewsOn 9 = .ok (.goto 9, 3) := by decide +kernel
theorem dL_crewsOn_12 : decode cL_crewsOn 12 = .ok (.astore_n 3, 1) := by decide +kernel
theorem dL_crewsOn_13 : decode cL_crewsOn 13 = .ok (.iconst 1, 1) := by decide +kernel
theorem dL_crewsOn_14 : decode cL_crewsOn 14 = .ok (.ireturn, 1) := by decide +kernel
theorem dL_crewsOn_15 : decode cL_crewsOn 15 = .ok (.astore_n 3, 1) := by decide +kernel
theorem dL_crewsOn_16 : decode cL_crewsOn 16 = .ok (.iconst 2, 1) := by decide +kernel
theorem dL_crewsOn_17 : decode cL_crewsOn 17 = .ok (.ireturn, 1) := by decide +kernel
theorem dL_crewsOn_18 : decode cL_crewsOn 18 = .ok (.iconst 0, 1) := by decide +kernel
theorem dL_crewsOn_19 : decode cL_crewsOn 19 = .ok (.ireturn, 1) := by decide +kernel
set_option maxRecDepth 20000 in
theorem ggL_scheduleLength_X8_scheduleLength : GoodIn wsL_scheduleLength wsX8_scheduleLength := goodIn_ca (goodIn_r _ [6, 7, 8, 9, 10, 11, 5, 12, 13, 14, 15, 16, 17, 18, 19, 20, 21, 22, 23, 24, 25, 26, 27, 28, 29, 30, 31, 32, 33, 34, 35, 36, 37, 38, 39, 40, 41, 42, 43, 44, 45, 46, 47, 48, 49, 50, 51, 52, 53, 54, 55, 56, 57, 58, 59, 60, 61, 62, 63, 64, 65, 66, 67, 68, 69, 70, 71, 72, 73, 74, 75, 76, 77, 78, 79, 80, 81, 82, 83, 84, 85, 86, 87, 88, 89, 90, 91, 92, 93, 94, 95, 96, 97, 98, 99, 100, 101, 102, 103, 104, 105, 106, 107, 108, 109, 110, 111, 112, 113, 114, 115, 116, 117, 118, 119, 120, 121, 122, 123, 124, 125, 126, 127, 128, 129, 130, 131, 132, 133, 134, 135, 136, 137, 138, 139, 140, 141, 142, 143, 144, 145, 146, 147, 148, 149, 150] (by decide +kernel) (by decide +kernel)) (goodIn_sub (fun _ h => List.mem_cons_of_mem _ (List.mem_append_right _ h)) (by decide +kernel))
set_option maxRecDepth 20000 in
theorem gL_scheduleLength_X8_scheduleLength : GoodIn wsL_scheduleLength (wsV RL 101 RX8 yX8_scheduleLength wsX8_scheduleLength) := goodIn_app (goodIn_of _ (by decide +kernel)) ggL_scheduleLength_X8_scheduleLength
theorem dL_scheduleLength_0 : decode cL_scheduleLength 0 = .ok (.aload_n 1, 1) := by decide +kernel
theorem dL_scheduleLength_1 : decode cL_scheduleLength 1 = .ok (.iconst 0, 1) := by decide +kernel
theorem dL_scheduleLength_2 : decode cL_scheduleLength 2 = .ok (.aload_n 0, 1) := by decide +kernel
theorem dL_scheduleLength_3 : decode cL_scheduleLength 3 = .ok (.invokevirtual 101, 3) := by decide +kernel
theorem dL_scheduleLength_6 : decode cL_scheduleLength 6 = .ok (.i2l, 1) := by decide +kernel
theorem dL_scheduleLength_7 : decode cL_scheduleLength 7 = .ok (.lastore, 1) := by decide +kernel
theorem dL_scheduleLength_8 : decode cL_scheduleLength 8 = .ok (.goto 6, 3) := by decide +kernel
theorem dL_scheduleLength_11 : decode cL_scheduleLength 11 = .ok (.astore_n 2, 1) := by decide +kernel
theorem dL_scheduleLength_12 : decode cL_scheduleLength 12 = .ok (.iconst 1, 1) := by decide +kernel
theorem dL_scheduleLength_13 : decode cL_scheduleLength 13 = .ok (.ireturn, 1) := by decide +kernel
theorem dL_scheduleLength_14 : decode cL_scheduleLength 14 = .ok (.iconst 0, 1) := by decide +kernel
theorem dL_scheduleLength_15 : decode cL_scheduleLength 15 = .ok (.ireturn, 1) := by decide +kernel
set_option maxRecDepth 20000 in
theorem ggL_workByDays_X8_workByDays : GoodIn wsL_workByDays wsX8_workByDays := goodIn_ca (goodIn_r _ [6, 7, 8, 9, 10, 5, 11, 12, 13, 14, 15, 16, 17, 18, 19, 20, 21, 22, 23, 24, 25, 26, 27, 28, 29, 30, 31, 32, 33, 34, 35, 36, 37, 38, 39, 40, 41, 42, 43, 44, 45, 46, 47, 48, 49, 50, 51, 52, 53, 54, 55, 56, 57, 58, 59, 60, 61, 62, 63, 64, 65, 66, 67, 68, 69, 70, 71, 72, 73, 74, 75, 76, 77, 78, 79, 80, 81, 82, 83, 84, 85, 86, 87, 88, 89, 90, 91, 92, 93, 94, 95, 96, 97, 98, 99, 100, 101, 102, 103, 104, 105, 106, 107, 108, 109, 110, 111, 112, 113, 114, 115, 116, 117, 118, 119, 120, 121, 122, 123, 124, 125, 126, 127, 128, 129, 130, 131, 132, 133, 134, 135, 136, 137, 138, 139, 140, 141, 142, 143, 144, 145, 146, 147, 148, 149, 150, 151, 152, 153] (by decide +kernel) (by decide +kernel)) (goodIn_sub (fun _ h => List.mem_cons_of_mem _ (List.mem_append_right _ h)) (by decide +kernel))
set_option maxRecDepth 20000 in
theorem gL_workByDays_X8_workByDays : GoodIn wsL_workByDays (wsV RL 104 RX8 yX8_workByDays wsX8_workByDays) := goodIn_app (goodIn_of _ (by decide +kernel)) ggL_workByDays_X8_workByDays
theorem dL_workByDays_0 : decode cL_workByDays 0 = .ok (.aload_n 1, 1) := by decide +kernel
theorem dL_workByDays_1 : decode cL_workByDays 1 = .ok (.iconst 0, 1) := by decide +kernel
theorem dL_workByDays_2 : decode cL_workByDays 2 = .ok (.aload_n 0, 1) := by decide +kernel
theorem dL_workByDays_3 : decode cL_workByDays 3 = .ok (.invokevirtual 104, 3) := by decide +kernel
theorem dL_workByDays_6 : decode cL_workByDays 6 = .ok (.i2l, 1) := by decide +kernel
theorem dL_workByDays_7 : decode cL_workByDays 7 = .ok (.lastore, 1) := by decide +kernel
theorem dL_workByDays_8 : decode cL_workByDays 8 = .ok (.goto 6, 3) := by decide +kernel
theorem dL_workByDays_11 : decode cL_workByDays 11 = .ok (.astore_n 2, 1) := by decide +kernel
theorem dL_workByDays_12 : decode cL_workByDays 12 = .ok (.iconst 1, 1) := by decide +kernel
theorem dL_workByDays_13 : decode cL_workByDays 13 = .ok (.ireturn, 1) := by decide +kernel
theorem dL_workByDays_14 : decode cL_workByDays 14 = .ok (.iconst 0, 1) := by decide +kernel
theorem dL_workByDays_15 : decode cL_workByDays 15 = .ok (.ireturn, 1) := by decide +kernel
set_option maxRecDepth 20000 in
theorem ggL_leastCrews_X8_leastCrews : GoodIn wsL_leastCrews wsX8_leastCrews := goodIn_ca (goodIn_r _ [6, 7, 8, 9, 10, 11, 12, 13, 14, 15, 16, 17, 18, 19, 20, 21, 22, 23, 24, 25, 26, 27, 28, 29, 30, 31, 32, 33, 34, 35, 36, 37, 38, 39, 40, 41, 42, 43, 44, 45, 46, 47, 48, 49, 50, 51, 52, 53, 54, 55, 56, 57, 58, 59, 60, 61, 62, 63, 64, 65, 66, 67, 68, 69, 70, 71, 72, 73, 74, 75, 76, 77, 78, 79, 80, 81, 82, 83, 84, 85, 86, 87, 88, 89, 90, 91, 92, 93, 94, 95, 96, 97, 98, 99, 100, 101, 102, 103, 104, 105, 106, 107, 108, 109, 110, 111, 112, 113, 114, 115, 116, 117, 118, 119, 120, 121, 122, 123, 124, 125, 126, 127, 128, 129, 130, 131, 132, 133, 134, 135, 136, 137, 138, 139, 140, 141, 142, 143, 144, 145] (by decide +kernel) (by decide +kernel)) (goodIn_sub (fun _ h => List.mem_cons_of_mem _ (List.mem_append_right _ h)) (by decide +kernel))
set_option maxRecDepth 20000 in
theorem gL_leastCrews_X8_leastCrews : GoodIn wsL_leastCrews (wsV RL 107 RX8 yX8_leastCrews wsX8_leastCrews) := goodIn_app (goodIn_of _ (by decide +kernel)) ggL_leastCrews_X8_leastCrews
theorem dL_leastCrews_0 : decode cL_leastCrews 0 = .ok (.aload_n 1, 1) := by decide +kernel
theorem dL_leastCrews_1 : decode cL_leastCrews 1 = .ok (.iconst 0, 1) := by decide +kernel
theorem dL_leastCrews_2 : decode cL_leastCrews 2 = .ok (.aload_n 0, 1) := by decide +kernel
theorem dL_leastCrews_3 : decode cL_leastCrews 3 = .ok (.invokevirtual 107, 3) := by decide +kernel
theorem dL_leastCrews_6 : decode cL_leastCrews 6 = .ok (.i2l, 1) := by decide +kernel
theorem dL_leastCrews_7 : decode cL_leastCrews 7 = .ok (.lastore, 1) := by decide +kernel
theorem dL_leastCrews_8 : decode cL_leastCrews 8 = .ok (.goto 6, 3) := by decide +kernel
theorem dL_leastCrews_11 : decode cL_leastCrews 11 = .ok (.astore_n 2, 1) := by decide +kernel
theorem dL_leastCrews_12 : decode cL_leastCrews 12 = .ok (.iconst 1, 1) := by decide +kernel
theorem dL_leastCrews_13 : decode cL_leastCrews 13 = .ok (.ireturn, 1) := by decide +kernel
theorem dL_leastCrews_14 : decode cL_leastCrews 14 = .ok (.iconst 0, 1) := by decide +kernel
theorem dL_leastCrews_15 : decode cL_leastCrews 15 = .ok (.ireturn, 1) := by decide +kernel
set_option maxRecDepth 20000 in
theorem ggL_usage_X8_usage : GoodIn wsL_usage wsX8_usage := goodIn_ca (goodIn_r _ [6, 7, 8, 9, 10, 11, 12, 13, 5, 14, 15, 16, 17, 18, 19, 20, 21, 22, 23, 24, 25, 26, 27, 28, 29, 30, 31, 32, 33, 34, 35, 36, 37, 38, 39, 40, 41, 42, 43, 44, 45, 46, 47, 48, 49, 50, 51, 52, 53, 54, 55, 56, 57, 58, 59, 60, 61, 62, 63, 64, 65, 66, 67, 68, 69, 70, 71, 72, 73, 74, 75, 76, 77, 78, 79, 80, 81, 82, 83, 84, 85, 86, 87, 88, 89, 90, 91, 92, 93, 94, 95, 96, 97, 98, 99, 100, 101, 102, 103, 104, 105, 106, 107, 108, 109, 110, 111, 112, 113, 114, 115, 116, 117, 118, 119, 120, 121, 122, 123, 124, 125, 126, 127, 128, 129, 130, 131, 132, 133, 134, 135, 136, 137, 138, 139, 140, 141, 142, 143, 144, 145, 146, 147, 148, 149, 150, 151, 152, 153, 154, 155, 156] (by decide +kernel) (by decide +kernel)) (goodIn_sub (fun _ h => List.mem_cons_of_mem _ (List.mem_append_right _ h)) (by decide +kernel))
set_option maxRecDepth 20000 in
theorem gL_usage_X8_usage : GoodIn wsL_usage (wsV RL 110 RX8 yX8_usage wsX8_usage) := goodIn_app (goodIn_of _ (by decide +kernel)) ggL_usage_X8_usage
theorem dL_usage_0 : decode cL_usage 0 = .ok (.aload_n 1, 1) := by decide +kernel
theorem dL_usage_1 : decode cL_usage 1 = .ok (.iconst 0, 1) := by decide +kernel
theorem dL_usage_2 : decode cL_usage 2 = .ok (.aload_n 0, 1) := by decide +kernel
theorem dL_usage_3 : decode cL_usage 3 = .ok (.invokevirtual 110, 3) := by decide +kernel
theorem dL_usage_6 : decode cL_usage 6 = .ok (.dastore, 1) := by decide +kernel
theorem dL_usage_7 : decode cL_usage 7 = .ok (.goto 6, 3) := by decide +kernel
theorem dL_usage_10 : decode cL_usage 10 = .ok (.astore_n 2, 1) := by decide +kernel
theorem dL_usage_11 : decode cL_usage 11 = .ok (.iconst 1, 1) := by decide +kernel
theorem dL_usage_12 : decode cL_usage 12 = .ok (.ireturn, 1) := by decide +kernel
theorem dL_usage_13 : decode cL_usage 13 = .ok (.iconst 0, 1) := by decide +kernel
theorem dL_usage_14 : decode cL_usage 14 = .ok (.ireturn, 1) := by decide +kernel
