set_option maxRecDepth 20000 in
theorem ggL_addTask_X8_addTask : GoodIn wsL_addTask wsX8_addTask := goodIn_ca (goodIn_ca (goodIn_r _ [7, 8, 9, 10, 11, 12, 13, 14, 15, 6, 16, 17, 18, 19, 20, 21, 22, 23, 24, 25, 26, 27, 28, 29, 30, 31, 32, 33, 34, 35, 36, 37, 38, 39, 40, 41, 42, 43, 44, 45, 46, 47, 48, 49, 50, 51, 52, 53, 54, 55, 56, 57, 58, 59, 60, 61, 62, 63, 64, 65, 66, 67, 68] (by decide +kernel) (by decide +kernel)) (goodIn_sub (fun _ h => List.mem_cons_of_mem _ (List.mem_append_left _ (List.mem_append_right _ h))) (by decide +kernel))) (goodIn_sub (fun _ h => List.mem_cons_of_mem _ (List.mem_append_right _ h)) (by decide +kernel))
set_option maxRecDepth 20000 in
theorem gL_addTask_X8_addTask : GoodIn wsL_addTask (wsV RL 7 RX8 yX8_addTask wsX8_addTask) := goodIn_app (goodIn_of _ (by decide +kernel)) ggL_addTask_X8_addTask
theorem dL_addTask_0 : decode cL_addTask 0 = .ok (.aload_n 3, 1) := by decide +kernel
theorem dL_addTask_1 : decode cL_addTask 1 = .ok (.iconst 0, 1) := by decide +kernel
theorem dL_addTask_2 : decode cL_addTask 2 = .ok (.aload_n 0, 1) := by decide +kernel
theorem dL_addTask_3 : decode cL_addTask 3 = .ok (.iload_n 1, 1) := by decide +kernel
theorem dL_addTask_4 : decode cL_addTask 4 = .ok (.iload_n 2, 1) := by decide +kernel
theorem dL_addTask_5 : decode cL_addTask 5 = .ok (.invokevirtual 7, 3) := by decide +kernel
theorem dL_addTask_8 : decode cL_addTask 8 = .ok (.i2l, 1) := by decide +kernel
theorem dL_addTask_9 : decode cL_addTask 9 = .ok (.lastore, 1) := by decide +kernel
theorem dL_addTask_10 : decode cL_addTask 10 = .ok (.goto 11, 3) := by decide +kernel
theorem dL_addTask_13 : decode cL_addTask 13 = .ok (.astore 4, 2) := by decide +kernel
theorem dL_addTask_15 : decode cL_addTask 15 = .ok (.iconst 1, 1) := by decide +kernel
theorem dL_addTask_16 : decode cL_addTask 16 = .ok (.ireturn, 1) := by decide +kernel
theorem dL_addTask_17 : decode cL_addTask 17 = .ok (.astore 4, 2) := by decide +kernel
theorem dL_addTask_19 : decode cL_addTask 19 = .ok (.iconst 2, 1) := by decide +kernel
theorem dL_addTask_20 : decode cL_addTask 20 = .ok (.ireturn, 1) := by decide +kernel
theorem dL_addTask_21 : decode cL_addTask 21 = .ok (.iconst 0, 1) := by decide +kernel
theorem dL_addTask_22 : decode cL_addTask 22 = .ok (.ireturn, 1) := by decide +kernel
set_option maxRecDepth 20000 in
theorem ggL_removeTask_X8_removeTask : GoodIn wsL_removeTask wsX8_removeTask := goodIn_ca (goodIn_r _ [6, 7, 8, 9, 10, 11, 12, 13, 14, 15, 16, 17, 18, 19, 20, 21, 22, 23, 24, 25, 26, 27, 28, 29, 30, 31, 32, 33, 34, 35, 36, 37, 38, 39, 40, 41, 42, 43, 44, 45, 46, 47, 48, 49, 50, 51, 52, 53, 54, 55, 56, 57, 58, 59, 60, 61, 62, 63, 64, 65, 66, 67, 68, 69, 70, 71, 72, 73, 74, 75, 76, 77, 78] (by decide +kernel) (by decide +kernel)) (goodIn_sub (fun _ h => List.mem_cons_of_mem _ (List.mem_append_right _ h)) (by decide +kernel))
set_option maxRecDepth 20000 in
theorem gL_removeTask_X8_removeTask : GoodIn wsL_removeTask (wsV RL 17 RX8 yX8_removeTask wsX8_removeTask) := goodIn_app (goodIn_of _ (by decide +kernel)) ggL_removeTask_X8_removeTask
theorem dL_removeTask_0 : decode cL_removeTask 0 = .ok (.aload_n 1, 1) := by decide +kernel
theorem dL_removeTask_1 : decode cL_removeTask 1 = .ok (.iconst 0, 1) := by decide +kernel
theorem dL_removeTask_2 : decode cL_removeTask 2 = .ok (.aload_n 0, 1) := by decide +kernel
theorem dL_removeTask_3 : decode cL_removeTask 3 = .ok (.invokevirtual 17, 3) := by decide +kernel
theorem dL_removeTask_6 : decode cL_removeTask 6 = .ok (.i2l, 1) := by decide +kernel
theorem dL_removeTask_7 : decode cL_removeTask 7 = .ok (.lastore, 1) := by decide +kernel
theorem dL_removeTask_8 : decode cL_removeTask 8 = .ok (.goto 6, 3) := by decide +kernel
theorem dL_removeTask_11 : decode cL_removeTask 11 = .ok (.astore_n 2, 1) := by decide +kernel
theorem dL_removeTask_12 : decode cL_removeTask 12 = .ok (.iconst 1, 1) := by decide +kernel
theorem dL_removeTask_13 : decode cL_removeTask 13 = .ok (.ireturn, 1) := by decide +kernel
theorem dL_removeTask_14 : decode cL_removeTask 14 = .ok (.iconst 0, 1) := by decide +kernel
theorem dL_removeTask_15 : decode cL_removeTask 15 = .ok (.ireturn, 1) := by decide +kernel
set_option maxRecDepth 20000 in
theorem ggL_setLength_X8_setLength : GoodIn wsL_setLength wsX8_setLength := goodIn_ca (goodIn_ca (goodIn_r _ [7, 8, 9, 10, 11, 12, 13, 14, 6, 15, 16, 17, 18, 19, 20, 21, 22, 23, 24, 25, 26, 27, 28, 29, 30, 31, 32, 33, 34, 35, 36, 37, 38, 39, 40, 41, 42, 43, 44, 45, 46, 47, 48, 49, 50, 51, 52, 53, 54, 55, 56, 57, 58, 59, 60, 61, 62, 63, 64, 65, 66, 67, 68, 69, 70, 71, 72, 73, 74, 75, 76, 77, 78, 79, 80, 81, 82, 83, 84, 85, 86, 87, 88, 89, 90, 91, 92, 93, 94, 95, 96, 97, 98, 99, 100, 101, 102, 103, 104, 105, 106, 107, 108, 109, 110, 111, 112, 113, 114, 115, 116, 117, 118, 119, 120, 121, 122, 123, 124, 125, 126, 127, 128, 129, 130, 131, 132, 133, 134, 135, 136, 137, 138, 139, 140, 141, 142, 143] (by decide +kernel) (by decide +kernel)) (goodIn_sub (fun _ h => List.mem_cons_of_mem _ (List.mem_append_left _ (List.mem_append_right _ h))) (by decide +kernel))) (goodIn_sub (fun _ h => List.mem_cons_of_mem _ (List.mem_append_right _ h)) (by decide +kernel))
set_option maxRecDepth 20000 in
theorem gL_setLength_X8_setLength : GoodIn wsL_setLength (wsV RL 21 RX8 yX8_setLength wsX8_setLength) := goodIn_app (goodIn_of _ (by decide +kernel)) ggL_setLength_X8_setLength
theorem dL_setLength_0 : decode cL_setLength 0 = .ok (.aload_n 3, 1) := by decide +kernel
theorem dL_setLength_1 : decode cL_setLength 1 = .ok (.iconst 0, 1) := by decide +kernel
theorem dL_setLength_2 : decode cL_setLength 2 = .ok (.aload_n 0, 1) := by decide +kernel
theorem dL_setLength_3 : decode cL_setLength 3 = .ok (.iload_n 1, 1) := by decide +kernel
theorem dL_setLength_4 : decode cL_setLength 4 = .ok (.iload_n 2, 1) := by decide +kernel
theorem dL_setLength_5 : decode cL_setLength 5 = .ok (.invokevirtual 21, 3) := by decide +kernel
theorem dL_setLength_8 : decode cL_setLength 8 = .ok (.i2l, 1) := by decide +kernel
theorem dL_setLength_9 : decode cL_setLength 9 = .ok (.lastore, 1) := by decide +kernel
theorem dL_setLength_10 : decode cL_setLength 10 = .ok (.goto 11, 3) := by decide +kernel
theorem dL_setLength_13 : decode cL_setLength 13 = .ok (.astore 4, 2) := by decide +kernel
theorem dL_setLength_15 : decode cL_setLength 15 = .ok (.iconst 1, 1) := by decide +kernel
theorem dL_setLength_16 : decode cL_setLength 16 = .ok (.ireturn, 1) := by decide +kernel
theorem dL_setLength_17 : decode cL_setLength 17 = .ok (.astore 4, 2) := by decide +kernel
theorem dL_setLength_19 : decode cL_setLength 19 = .ok (.iconst 2, 1) := by decide +kernel
theorem dL_setLength_20 : decode cL_setLength 20 = .ok (.ireturn, 1) := by decide +kernel
theorem dL_setLength_21 : decode cL_setLength 21 = .ok (.iconst 0, 1) := by decide +kernel
theorem dL_setLength_22 : decode cL_setLength 22 = .ok (.ireturn, 1) := by decide +kernel
set_option maxRecDepth 20000 in
theorem ggL_depend_X8_depend : GoodIn wsL_depend wsX8_depend := goodIn_ca (goodIn_ca (goodIn_ca (goodIn_r _ [8, 9, 10, 11, 12, 13, 14, 15, 16, 17, 18, 19, 20, 7, 21, 22, 23, 24, 25, 26, 27, 28, 29, 30, 31, 32, 33, 34, 35, 36, 37, 38, 39, 40, 41, 42, 43, 44, 45, 46, 47, 48, 49, 50, 51, 52, 53, 54, 55, 56, 57, 58, 59, 60, 61, 62, 63, 64, 65, 66, 67, 68, 69, 70, 71, 72, 73, 74, 75, 76, 77, 78, 79, 80, 81, 82, 83, 84, 85, 86, 87, 88, 89, 90, 91, 92, 93, 94, 95, 96, 97, 98, 99, 100, 101, 102, 103, 104, 105, 106, 107, 108, 109, 110, 111, 112, 113, 114, 115, 116, 117, 118, 119, 120, 121, 122, 123, 124, 125, 126, 127, 128, 129, 130, 131, 132, 133, 134, 135, 136, 137, 138, 139, 140, 141, 142, 143, 144, 145, 146, 147, 148, 149, 150, 151, 152, 153, 154, 155, 156, 157, 158, 159, 160, 161, 162, 163, 164, 165, 166, 167, 168, 169, 170] (by decide +kernel) (by decide +kernel)) (goodIn_sub (fun _ h => List.mem_cons_of_mem _ (List.mem_append_left _ (List.mem_append_left _ (List.mem_append_right _ h)))) (by decide +kernel))) (goodIn_sub (fun _ h => List.mem_cons_of_mem _ (List.mem_append_left _ (List.mem_append_right _ h))) (by decide +kernel))) (goodIn_sub (fun _ h => List.mem_cons_of_mem _ (List.mem_append_right _ h)) (by decide +kernel))
set_option maxRecDepth 20000 in
theorem gL_depend_X8_depend : GoodIn wsL_depend (wsV RL 26 RX8 yX8_depend wsX8_depend) := goodIn_app (goodIn_of _ (by decide +kernel)) ggL_depend_X8_depend
theorem dL_depend_0 : decode cL_depend 0 = .ok (.aload 4, 2) := by decide +kernel
theorem dL_depend_2 : decode cL_depend 2 = .ok (.iconst 0, 1) := by decide +kernel
theorem dL_depend_3 : decode cL_depend 3 = .ok (.aload_n 0, 1) := by decide +kernel
theorem dL_depend_4 : decode cL_depend 4 = .ok (.iload_n 1, 1) := by decide +kernel
theorem dL_depend_5 : decode cL_depend 5 = .ok (.iload_n 2, 1) := by decide +kernel
theorem dL_depend_6 : decode cL_depend 6 = .ok (.iload_n 3, 1) := by decide +kernel
theorem dL_depend_7 : decode cL_depend 7 = .ok (.invokevirtual 26, 3) := by decide +kernel
theorem dL_depend_10 : decode cL_depend 10 = .ok (.i2l, 1) := by decide +kernel
theorem dL_depend_11 : decode cL_depend 11 = .ok (.lastore, 1) := by decide +kernel
theorem dL_depend_12 : decode cL_depend 12 = .ok (.goto 15, 3) := by decide +kernel
theorem dL_depend_15 : decode cL_depend 15 = .ok (.astore 5, 2) := by decide +kernel
theorem dL_depend_17 : decode cL_depend 17 = .ok (.iconst 1, 1) := by decide +kernel
theorem dL_depend_18 : decode cL_depend 18 = .ok (.ireturn, 1) := by decide +kernel
theorem dL_depend_19 : decode cL_depend 19 = .ok (.astore 5, 2) := by decide +kernel
theorem dL_depend_21 : decode cL_depend 21 = .ok (.iconst 2, 1) := by decide +kernel
theorem dL_depend_22 : decode cL_depend 22 = .ok (.ireturn, 1) := by decide +kernel
theorem dL_depend_23 : decode cL_depend 23 = .ok (.astore 5, 2) := by decide +kernel
theorem dL_depend_25 : decode cL_depend 25 = .ok (.iconst 3, 1) := by decide +kernel
theorem dL_depend_26 : decode cL_depend 26 = .ok (.ireturn, 1) := by decide +kernel
theorem dL_depend_27 : decode cL_depend 27 = .ok (.iconst 0, 1) := by decide +kernel
theorem dL_depend_28 : decode cL_depend 28 = .ok (.ireturn, 1) := by decide +kernel
set_option maxRecDepth 20000 in
theorem ggL_release_X8_release : GoodIn wsL_release wsX8_release := goodIn_ca (goodIn_ca (goodIn_r _ [7, 8, 9, 10, 11, 12, 6, 13, 14, 15, 16, 17, 18, 19, 20, 21, 22, 23, 24, 25, 26, 27, 28, 29, 30, 31, 32, 33, 34, 35, 36, 37, 38, 39, 40, 41, 42, 43, 44, 45, 46, 47, 48, 49, 50, 51, 52, 53, 54, 55, 56, 57, 58, 59, 60, 61, 62, 63, 64, 65, 66, 67, 68, 69, 70, 71, 72, 73, 74, 75, 76, 77, 78, 79, 80, 81] (by decide +kernel) (by decide +kernel)) (goodIn_sub (fun _ h => List.mem_cons_of_mem _ (List.mem_append_left _ (List.mem_append_right _ h))) (by decide +kernel))) (goodIn_sub (fun _ h => List.mem_cons_of_mem _ (List.mem_append_right _ h)) (by decide +kernel))
set_option maxRecDepth 20000 in
theorem gL_release_X8_release : GoodIn wsL_release (wsV RL 30 RX8 yX8_release wsX8_release) := goodIn_app (goodIn_of _ (by decide +kernel)) ggL_release_X8_release
theorem dL_release_0 : decode cL_release 0 = .ok (.aload_n 3, 1) := by decide +kernel
theorem dL_release_1 : decode cL_release 1 = .ok (.iconst 0, 1) := by decide +kernel
theorem dL_release_2 : decode cL_release 2 = .ok (.aload_n 0, 1) := by decide +kernel
theorem dL_release_3 : decode cL_release 3 = .ok (.iload_n 1, 1) := by decide +kernel
theorem dL_release_4 : decode cL_release 4 = .ok (.iload_n 2, 1) := by decide +kernel
theorem dL_release_5 : decode cL_release 5 = .ok (.invokevirtual 30, 3) := by decide +kernel
theorem dL_release_8 : decode cL_release 8 = .ok (.i2l, 1) := by decide +kernel
theorem dL_release_9 : decode cL_release 9 = .ok (.lastore, 1) := by decide +kernel
theorem dL_release_10 : decode cL_release 10 = .ok (.goto 11, 3) := by decide +kernel
theorem dL_release_13 : decode cL_release 13 = .ok (.astore 4, 2) := by decide +kernel
theorem dL_release_15 : decode cL_release 15 = .ok (.iconst 1, 1) := by decide +kernel
theorem dL_release_16 : decode cL_release 16 = .ok (.ireturn, 1) := by decide +kernel
theorem dL_release_17 : decode cL_release 17 = .ok (.astore 4, 2) := by decide +kernel
theorem dL_release_19 : decode cL_release 19 = .ok (.iconst 2, 1) := by decide +kernel
theorem dL_release_20 : decode cL_release 20 = .ok (.ireturn, 1) := by decide +kernel
theorem dL_release_21 : decode cL_release 21 = .ok (.iconst 0, 1) := by decide +kernel
theorem dL_release_22 : decode cL_release 22 = .ok (.ireturn, 1) := by decide +kernel
set_option maxRecDepth 20000 in
theorem ggL_setCrews_X8_setCrews : GoodIn wsL_setCrews wsX8_setCrews := goodIn_ca (goodIn_r _ [6, 7, 8, 9, 10, 11, 12, 5, 13, 14, 15, 16, 17, 18, 19, 20, 21, 22, 23, 24, 25, 26, 27, 28, 29, 30, 31, 32, 33, 34, 35, 36, 37, 38, 39, 40, 41, 42, 43, 44, 45, 46, 47, 48, 49, 50, 51, 52, 53, 54, 55, 56, 57, 58, 59, 60, 61] (by decide +kernel) (by decide +kernel)) (goodIn_sub (fun _ h => List.mem_cons_of_mem _ (List.mem_append_right _ h)) (by decide +kernel))
set_option maxRecDepth 20000 in
theorem gL_setCrews_X8_setCrews : GoodIn wsL_setCrews (wsV RL 35 RX8 yX8_setCrews wsX8_setCrews) := goodIn_app (goodIn_of _ (by decide +kernel)) ggL_setCrews_X8_setCrews
theorem dL_setCrews_0 : decode cL_setCrews 0 = .ok (.aload_n 2, 1) := by decide +kernel
theorem dL_setCrews_1 : decode cL_setCrews 1 = .ok (.iconst 0, 1) := by decide +kernel
theorem dL_setCrews_2 : decode cL_setCrews 2 = .ok (.aload_n 0, 1) := by decide +kernel
theorem dL_setCrews_3 : decode cL_setCrews 3 = .ok (.iload_n 1, 1) := by decide +kernel
theorem dL_setCrews_4 : decode cL_setCrews 4 = .ok (.invokevirtual 35, 3) := by decide +kernel
theorem dL_setCrews_7 : decode cL_setCrews 7 = .ok (.i2l, 1) := by decide +kernel
theorem dL_setCrews_8 : decode cL_setCrews 8 = .ok (.lastore, 1) := by decide +kernel
theorem dL_setCrews_9 : decode cL_setCrews 9 = .ok (.goto 6, 3) := by decide +kernel
theorem dL_setCrews_12 : decode cL_setCrews 12 = .ok (.astore_n 3, 1) := by decide +kernel
theorem dL_setCrews_13 : decode cL_setCrews 13 = .ok (.iconst 1, 1) := by decide +kernel
theorem dL_setCrews_14 : decode cL_setCrews 14 = .ok (.ireturn, 1) := by decide +kernel
theorem dL_setCrews_15 : decode cL_setCrews 15 = .ok (.iconst 0, 1) := by decide +kernel
theorem dL_setCrews_16 : decode cL_setCrews 16 = .ok (.ireturn, 1) := by decide +kernel
set_option maxRecDepth 20000 in
theorem ggL_readPlan_X8_readPlan : GoodIn wsL_readPlan wsX8_readPlan := goodIn_ca (goodIn_r _ [6, 7, 8, 9, 10, 11, 12, 13, 14, 15, 16, 17, 18, 19, 20, 21, 22, 23, 24, 25, 26, 27, 28, 29, 30, 31, 32, 33, 34, 35, 36, 37, 38, 39, 40, 41, 42, 43, 44, 45, 46, 47, 48, 49, 50, 51, 52, 53, 54, 55, 56, 57, 58, 59, 60, 61, 62, 63, 64, 65, 66, 67, 68, 69, 70, 71, 72, 73, 74, 75, 76, 77, 78, 79, 80, 81, 82, 83, 84, 85, 86, 87, 88, 89, 90, 91, 92, 93, 94, 95, 96, 97, 98, 99, 100, 101, 102, 103, 104, 105, 106, 107, 108, 109, 110, 111, 112, 113, 114, 115, 116, 117, 118, 119, 120, 121] (by decide +kernel) (by decide +kernel)) (goodIn_sub (fun _ h => List.mem_cons_of_mem _ (List.mem_append_right _ h)) (by decide +kernel))
set_option maxRecDepth 20000 in
theorem gL_readPlan_X8_readPlan : GoodIn wsL_readPlan (wsV RL 39 RX8 yX8_readPlan wsX8_readPlan) := goodIn_app (goodIn_of _ (by decide +kernel)) ggL_readPlan_X8_readPlan
theorem dL_readPlan_0 : decode cL_readPlan 0 = .ok (.aload_n 1, 1) := by decide +kernel
theorem dL_readPlan_1 : decode cL_readPlan 1 = .ok (.iconst 0, 1) := by decide +kernel
theorem dL_readPlan_2 : decode cL_readPlan 2 = .ok (.aload_n 0, 1) := by decide +kernel
theorem dL_readPlan_3 : decode cL_readPlan 3 = .ok (.invokevirtual 39, 3) := by decide +kernel
theorem dL_readPlan_6 : decode cL_readPlan 6 = .ok (.i2l, 1) := by decide +kernel
theorem dL_readPlan_7 : decode cL_readPlan 7 = .ok (.lastore, 1) := by decide +kernel
theorem dL_readPlan_8 : decode cL_readPlan 8 = .ok (.goto 6, 3) := by decide +kernel
theorem dL_readPlan_11 : decode cL_readPlan 11 = .ok (.astore_n 2, 1) := by decide +kernel
theorem dL_readPlan_12 : decode cL_readPlan 12 = .ok (.iconst 1, 1) := by decide +kernel
theorem dL_readPlan_13 : decode cL_readPlan 13 = .ok (.ireturn, 1) := by decide +kernel
theorem dL_readPlan_14 : decode cL_readPlan 14 = .ok (.iconst 0, 1) := by decide +kernel
theorem dL_readPlan_15 : decode cL_readPlan 15 = .ok (.ireturn, 1) := by decide +kernel
set_option maxRecDepth 20000 in
theorem ggL_append_X8_append : GoodIn wsL_append wsX8_append := goodIn_ca (goodIn_r _ [6, 7, 8, 9, 10, 11, 12, 13, 14, 15, 16, 17, 18, 19, 20, 21, 22, 23, 24, 25, 26, 27, 28, 29, 30, 31] (by decide +kernel) (by decide +kernel)) (goodIn_sub (fun _ h => List.mem_cons_of_mem _ (List.mem_append_right _ h)) (by decide +kernel))
set_option maxRecDepth 20000 in
theorem gL_append_X8_append : GoodIn wsL_append (wsV RL 42 RX8 yX8_append wsX8_append) := goodIn_app (goodIn_of _ (by decide +kernel)) ggL_append_X8_append
theorem dL_append_0 : decode cL_append 0 = .ok (.aload_n 2, 1) := by decide +kernel
theorem dL_append_1 : decode cL_append 1 = .ok (.iconst 0, 1) := by decide +kernel
theorem dL_append_2 : decode cL_append 2 = .ok (.aload_n 0, 1) := by decide +kernel
theorem dL_append_3 : decode cL_append 3 = .ok (.iload_n 1, 1) := by decide +kernel
theorem dL_append_4 : decode cL_append 4 = .ok (.invokevirtual 42, 3) := by decide +kernel
theorem dL_append_7 : decode cL_append 7 = .ok (.i2l, 1) := by decide +kernel
theorem dL_append_8 : decode cL_append 8 = .ok (.lastore, 1) := by decide +kernel
theorem dL_append_9 : decode cL_append 9 = .ok (.goto 6, 3) := by decide +kernel
theorem dL_append_12 : decode cL_append 12 = .ok (.astore_n 3, 1) := by decide +kernel
theorem dL_append_13 : decode cL_append 13 = .ok (.iconst 1, 1) := by decide +kernel
theorem dL_append_14 : decode cL_append 14 = .ok (.ireturn, 1) := by decide +kernel
theorem dL_append_15 : decode cL_append 15 = .ok (.iconst 0, 1) := by decide +kernel
theorem dL_append_16 : decode cL_append 16 = .ok (.ireturn, 1) := by decide +kernel
set_option maxRecDepth 20000 in
theorem ggL_firstError_X8_firstError : GoodIn wsL_firstError wsX8_firstError := goodIn_ca (goodIn_r _ [6, 7, 8, 9, 10, 11, 12, 13, 14, 15, 16, 17, 18, 19, 20, 21, 22, 23, 24, 25, 26, 27, 28, 29, 30, 31, 32, 33, 34, 35, 36, 37, 38, 39, 40, 41, 42, 43, 44, 45, 46, 47, 48, 49, 50, 51, 52, 53, 54, 55, 56, 57, 58, 59, 60, 61, 62, 63, 64, 65, 66, 67, 68, 69, 70, 71, 72, 73, 74, 75, 76, 77, 78, 79, 80, 81, 82, 83, 84, 85, 86, 87, 88, 89, 90, 91, 92, 93] (by decide +kernel) (by decide +kernel)) (goodIn_sub (fun _ h => List.mem_cons_of_mem _ (List.mem_append_right _ h)) (by decide +kernel))
set_option maxRecDepth 20000 in
theorem gL_firstError_X8_firstError : GoodIn wsL_firstError (wsV RL 46 RX8 yX8_firstError wsX8_firstError) := goodIn_app (goodIn_of _ (by decide +kernel)) ggL_firstError_X8_firstError
theorem dL_firstError_0 : decode cL_firstError 0 = .ok (.aload_n 1, 1) := by decide +kernel
theorem dL_firstError_1 : decode cL_firstError 1 = .ok (.iconst 0, 1) := by decide +kernel
theorem dL_firstError_2 : decode cL_firstError 2 = .ok (.aload_n 0, 1) := by decide +kernel
theorem dL_firstError_3 : decode cL_firstError 3 = .ok (.invokevirtual 46, 3) := by decide +kernel
theorem dL_firstError_6 : decode cL_firstError 6 = .ok (.i2l, 1) := by decide +kernel
theorem dL_firstError_7 : decode cL_firstError 7 = .ok (.lastore, 1) := by decide +kernel
theorem dL_firstError_8 : decode cL_firstError 8 = .ok (.goto 6, 3) := by decide +kernel
theorem dL_firstError_11 : decode cL_firstError 11 = .ok (.astore_n 2, 1) := by decide +kernel
theorem dL_firstError_12 : decode cL_firstError 12 = .ok (.iconst 1, 1) := by decide +kernel
theorem dL_firstError_13 : decode cL_firstError 13 = .ok (.ireturn, 1) := by decide +kernel
theorem dL_firstError_14 : decode cL_firstError 14 = .ok (.iconst 0, 1) := by decide +kernel
theorem dL_firstError_15 : decode cL_firstError 15 = .ok (.ireturn, 1) := by decide +kernel
set_option maxRecDepth 20000 in
theorem ggL_undo_X8_undo : GoodIn wsL_undo wsX8_undo := goodIn_ca (goodIn_r _ [6, 7, 8, 9, 10, 11, 12, 13, 14, 15, 16, 17, 18, 19, 20, 21, 22, 23, 24, 25, 26, 27, 28, 29, 30, 31, 32, 33, 34, 35, 36, 37, 38, 39, 40, 41, 42, 43, 44, 45, 46, 47, 48, 49, 50, 51, 52, 53, 54, 55, 56, 57] (by decide +kernel) (by decide +kernel)) (goodIn_sub (fun _ h => List.mem_cons_of_mem _ (List.mem_append_right _ h)) (by decide +kernel))
set_option maxRecDepth 20000 in
theorem gL_undo_X8_undo : GoodIn wsL_undo (wsV RL 49 RX8 yX8_undo wsX8_undo) := goodIn_app (goodIn_of _ (by decide +kernel)) ggL_undo_X8_undo
theorem dL_undo_0 : decode cL_undo 0 = .ok (.aload_n 1, 1) := by decide +kernel
theorem dL_undo_1 : decode cL_undo 1 = .ok (.iconst 0, 1) := by decide +kernel
theorem dL_undo_2 : decode cL_undo 2 = .ok (.aload_n 0, 1) := by decide +kernel
theorem dL_undo_3 : decode cL_undo 3 = .ok (.invokevirtual 49, 3) := by decide +kernel
theorem dL_undo_6 : decode cL_undo 6 = .ok (.i2l, 1) := by decide +kernel
theorem dL_undo_7 : decode cL_undo 7 = .ok (.lastore, 1) := by decide +kernel
theorem dL_undo_8 : decode cL_undo 8 = .ok (.goto 6, 3) := by decide +kernel
theorem dL_undo_11 : decode cL_undo 11 = .ok (.astore_n 2, 1) := by decide +kernel
theorem dL_undo_12 : decode cL_undo 12 = .ok (.iconst 1, 1) := by decide +kernel
theorem dL_undo_13 : decode cL_undo 13 = .ok (.ireturn, 1) := by decide +kernel
theorem dL_undo_14 : decode cL_undo 14 = .ok (.iconst 0, 1) := by decide +kernel
theorem dL_undo_15 : decode cL_undo 15 = .ok (.ireturn, 1) := by decide +kernel
set_option maxRecDepth 20000 in
theorem ggL_restoreSnapshot_X8_restoreSnapshot : GoodIn wsL_restoreSnapshot wsX8_restoreSnapshot := goodIn_ca (goodIn_r _ [6, 7, 8, 9, 10, 11, 12, 13, 14, 15, 16, 17, 18, 19, 20, 21, 22, 23, 24, 25, 26, 27, 28, 29, 30, 31, 32, 33, 34, 35, 36, 37, 38, 39, 40, 41, 42, 43, 44, 45, 46, 47, 48, 49, 50, 51, 52, 53, 54, 55, 56, 57, 58, 59, 60] (by decide +kernel) (by decide +kernel)) (goodIn_sub (fun _ h => List.mem_cons_of_mem _ (List.mem_append_right _ h)) (by decide +kernel))
set_option maxRecDepth 20000 in
theorem gL_restoreSnapshot_X8_restoreSnapshot : GoodIn wsL_restoreSnapshot (wsV RL 52 RX8 yX8_restoreSnapshot wsX8_restoreSnapshot) := goodIn_app (goodIn_of _ (by decide +kernel)) ggL_restoreSnapshot_X8_restoreSnapshot
theorem dL_restoreSnapshot_0 : decode cL_restoreSnapshot 0 = .ok (.aload_n 1, 1) := by decide +kernel
theorem dL_restoreSnapshot_1 : decode cL_restoreSnapshot 1 = .ok (.iconst 0, 1) := by decide +kernel
theorem dL_restoreSnapshot_2 : decode cL_restoreSnapshot 2 = .ok (.aload_n 0, 1) := by decide +kernel
theorem dL_restoreSnapshot_3 : decode cL_restoreSnapshot 3 = .ok (.invokevirtual 52, 3) := by decide +kernel
theorem dL_restoreSnapshot_6 : decode cL_restoreSnapshot 6 = .ok (.i2l, 1) := by decide +kernel
theorem dL_restoreSnapshot_7 : decode cL_restoreSnapshot 7 = .ok (.lastore, 1) := by decide +kernel
theorem dL_restoreSnapshot_8 : decode cL_restoreSnapshot 8 = .ok (.goto 6, 3) := by decide +kernel
theorem dL_restoreSnapshot_11 : decode cL_restoreSnapshot 11 = .ok (.astore_n 2, 1) := by decide +kernel
theorem dL_restoreSnapshot_12 : decode cL_restoreSnapshot 12 = .ok (.iconst 1, 1) := by decide +kernel
theorem dL_restoreSnapshot_13 : decode cL_restoreSnapshot 13 = .ok (.ireturn, 1) := by decide +kernel
theorem dL_restoreSnapshot_14 : decode cL_restoreSnapshot 14 = .ok (.iconst 0, 1) := by decide +kernel
theorem dL_restoreSnapshot_15 : decode cL_restoreSnapshot 15 = .ok (.ireturn, 1) := by decide +kernel
set_option maxRecDepth 20000 in
theorem ggL_lengthOf_X8_lengthOf : GoodIn wsL_lengthOf wsX8_lengthOf := goodIn_ca (goodIn_r _ [6, 7, 8, 9, 10, 11, 5, 12, 13, 14, 15, 16, 17, 18, 19, 20, 21, 22, 23, 24, 25, 26, 27, 28, 29, 30, 31, 32, 33, 34, 35, 36] (by decide +kernel) (by decide +kernel)) (goodIn_sub (fun _ h => List.mem_cons_of_mem _ (List.mem_append_right _ h)) (by decide +kernel))
set_option maxRecDepth 20000 in
theorem gL_lengthOf_X8_lengthOf : GoodIn wsL_lengthOf (wsV RL 55 RX8 yX8_lengthOf wsX8_lengthOf) := goodIn_app (goodIn_of _ (by decide +kernel)) ggL_lengthOf_X8_lengthOf
theorem dL_lengthOf_0 : decode cL_lengthOf 0 = .ok (.aload_n 2, 1) := by decide +kernel
theorem dL_lengthOf_1 : decode cL_lengthOf 1 = .ok (.iconst 0, 1) := by decide +kernel
theorem dL_lengthOf_2 : decode cL_lengthOf 2 = .ok (.aload_n 0, 1) := by decide +kernel
theorem dL_lengthOf_3 : decode cL_lengthOf 3 = .ok (.iload_n 1, 1) := by decide +kernel
theorem dL_lengthOf_4 : decode cL_lengthOf 4 = .ok (.invokevirtual 55, 3) := by decide +kernel
theorem dL_lengthOf_7 : decode cL_lengthOf 7 = .ok (.i2l, 1) := by decide +kernel
theorem dL_lengthOf_8 : decode cL_lengthOf 8 = .ok (.lastore, 1) := by decide +kernel
theorem dL_lengthOf_9 : decode cL_lengthOf 9 = .ok (.goto 6, 3) := by decide +kernel
theorem dL_lengthOf_12 : decode cL_lengthOf 12 = .ok (.astore_n 3, 1) := by decide +kernel
theorem dL_lengthOf_13 : decode cL_lengthOf 13 = .ok (.iconst 1, 1) := by decide +kernel
theorem dL_lengthOf_14 : decode cL_lengthOf 14 = .ok (.ireturn, 1) := by decide +kernel
theorem dL_lengthOf_15 : decode cL_lengthOf 15 = .ok (.iconst 0, 1) := by decide +kernel
theorem dL_lengthOf_16 : decode cL_lengthOf 16 = .ok (.ireturn, 1) := by decide +kernel
set_option maxRecDepth 20000 in
theorem ggL_crewsOf_X8_crewsOf : GoodIn wsL_crewsOf wsX8_crewsOf := goodIn_ca (goodIn_r _ [6, 7, 8, 9, 10, 11, 5, 12, 13, 14, 15, 16, 17, 18, 19, 20, 21, 22, 23, 24, 25, 26, 27, 28, 29, 30, 31, 32, 33, 34, 35, 36] (by decide +kernel) (by decide +kernel)) (goodIn_sub (fun _ h => List.mem_cons_of_mem _ (List.mem_append_right _ h)) (by decide +kernel))
set_option maxRecDepth 20000 in
theorem gL_crewsOf_X8_crewsOf : GoodIn wsL_crewsOf (wsV RL 58 RX8 yX8_crewsOf wsX8_crewsOf) := goodIn_app (goodIn_of _ (by decide +kernel)) ggL_crewsOf_X8_crewsOf
theorem dL_crewsOf_0 : decode cL_crewsOf 0 = .ok (.aload_n 2, 1) := by decide +kernel
theorem dL_crewsOf_1 : decode cL_crewsOf 1 = .ok (.iconst 0, 1) := by decide +kernel
theorem dL_crewsOf_2 : decode cL_crewsOf 2 = .ok (.aload_n 0, 1) := by decide +kernel
theorem dL_crewsOf_3 : decode cL_crewsOf 3 = .ok (.iload_n 1, 1) := by decide +kernel
theorem dL_crewsOf_4 : decode cL_crewsOf 4 = .ok (.invokevirtual 58, 3) := by decide +kernel
theorem dL_crewsOf_7 : decode cL_crewsOf 7 = .ok (.i2l, 1) := by decide +kernel
theorem dL_crewsOf_8 : decode cL_crewsOf 8 = .ok (.lastore, 1) := by decide +kernel
theorem dL_crewsOf_9 : decode cL_crewsOf 9 = .ok (.goto 6, 3) := by decide +kernel
theorem dL_crewsOf_12 : decode cL_crewsOf 12 = .ok (.astore_n 3, 1) := by decide +kernel
theorem dL_crewsOf_13 : decode cL_crewsOf 13 = .ok (.iconst 1, 1) := by decide +kernel
theorem dL_crewsOf_14 : decode cL_crewsOf 14 = .ok (.ireturn, 1) := by decide +kernel
theorem dL_crewsOf_15 : decode cL_crewsOf 15 = .ok (.iconst 0, 1) := by decide +kernel
theorem dL_crewsOf_16 : decode cL_crewsOf 16 = .ok (.ireturn, 1) := by decide +kernel
set_option maxRecDepth 20000 in
theorem ggL_lagOf_X8_lagOf : GoodIn wsL_lagOf wsX8_lagOf := goodIn_ca (goodIn_ca (goodIn_r _ [7, 8, 9, 10, 6, 11, 12, 13, 14, 15, 16, 17, 18, 19, 20, 21, 22, 23, 24, 25, 26, 27, 28, 29, 30, 31, 32, 33, 34, 35, 36, 37, 38, 39, 40, 41, 42, 43, 44, 45, 46, 47, 48] (by decide +kernel) (by decide +kernel)) (goodIn_sub (fun _ h => List.mem_cons_of_mem _ (List.mem_append_left _ (List.mem_append_right _ h))) (by decide +kernel))) (goodIn_sub (fun _ h => List.mem_cons_of_mem _ (List.mem_append_right _ h)) (by decide +kernel))
set_option maxRecDepth 20000 in
theorem gL_lagOf_X8_lagOf : GoodIn wsL_lagOf (wsV RL 61 RX8 yX8_lagOf wsX8_lagOf) := goodIn_app (goodIn_of _ (by decide +kernel)) ggL_lagOf_X8_lagOf
theorem dL_lagOf_0 : decode cL_lagOf 0 = .ok (.aload_n 3, 1) := by decide +kernel
theorem dL_lagOf_1 : decode cL_lagOf 1 = .ok (.iconst 0, 1) := by decide +kernel
theorem dL_lagOf_2 : decode cL_lagOf 2 = .ok (.aload_n 0, 1) := by decide +kernel
theorem dL_lagOf_3 : decode cL_lagOf 3 = .ok (.iload_n 1, 1) := by decide +kernel
theorem dL_lagOf_4 : decode cL_lagOf 4 = .ok (.iload_n 2, 1) := by decide +kernel
theorem dL_lagOf_5 : decode cL_lagOf 5 = .ok (.invokevirtual 61, 3) := by decide +kernel
theorem dL_lagOf_8 : decode cL_lagOf 8 = .ok (.i2l, 1) := by decide +kernel
theorem dL_lagOf_9 : decode cL_lagOf 9 = .ok (.lastore, 1) := by decide +kernel
theorem dL_lagOf_10 : decode cL_lagOf 10 = .ok (.goto 11, 3) := by decide +kernel
theorem dL_lagOf_13 : decode cL_lagOf 13 = .ok (.astore 4, 2) := by decide +kernel
theorem dL_lagOf_15 : decode cL_lagOf 15 = .ok (.iconst 1, 1) := by decide +kernel
theorem dL_lagOf_16 : decode cL_lagOf 16 = .ok (.ireturn, 1) := by decide +kernel
theorem dL_lagOf_17 : decode cL_lagOf 17 = .ok (.astore 4, 2) := by decide +kernel
theorem dL_lagOf_19 : decode cL_lagOf 19 = .ok (.iconst 2, 1) := by decide +kernel
theorem dL_lagOf_20 : decode cL_lagOf 20 = .ok (.ireturn, 1) := by decide +kernel
theorem dL_lagOf_21 : decode cL_lagOf 21 = .ok (.iconst 0, 1) := by decide +kernel
theorem dL_lagOf_22 : decode cL_lagOf 22 = .ok (.ireturn, 1) := by decide +kernel
set_option maxRecDepth 20000 in
theorem ggL_isAhead_X8_isAhead : GoodIn wsL_isAhead wsX8_isAhead := goodIn_ca (goodIn_r _ [6, 7, 8, 9, 10, 11, 5, 12, 13, 14, 15, 16, 17, 18, 19, 20, 21, 22, 23, 24, 25, 26, 27, 28, 29, 30, 31, 32, 33, 34, 35, 36, 37, 38, 39, 40, 41, 42, 43, 44, 45, 46, 47, 48, 49, 50, 51, 52, 53, 54, 55, 56, 57, 58, 59, 60, 61, 62, 63, 64, 65, 66, 67, 68, 69, 70, 71, 72, 73, 74, 75, 76, 77, 78, 79, 80] (by decide +kernel) (by decide +kernel)) (goodIn_sub (fun _ h => List.mem_cons_of_mem _ (List.mem_append_right _ h)) (by decide +kernel))
set_option maxRecDepth 20000 in
theorem gL_isAhead_X8_isAhead : GoodIn wsL_isAhead (wsV RL 64 RX8 yX8_isAhead wsX8_isAhead) := goodIn_app (goodIn_of _ (by decide +kernel)) ggL_isAhead_X8_isAhead
theorem dL_isAhead_0 : decode cL_isAhead 0 = .ok (.aload_n 3, 1) := by decide +kernel
theorem dL_isAhead_1 : decode cL_isAhead 1 = .ok (.iconst 0, 1) := by decide +kernel
theorem dL_isAhead_2 : decode cL_isAhead 2 = .ok (.aload_n 0, 1) := by decide +kernel
theorem dL_isAhead_3 : decode cL_isAhead 3 = .ok (.iload_n 1, 1) := by decide +kernel
theorem dL_isAhead_4 : decode cL_isAhead 4 = .ok (.iload_n 2, 1) := by decide +kernel
theorem dL_isAhead_5 : decode cL_isAhead 5 = .ok (.invokevirtual 64, 3) := by decide +kernel
theorem dL_isAhead_8 : decode cL_isAhead 8 = .ok (.ifCond .eq 7, 3) := by decide +kernel
theorem dL_isAhead_11 : decode cL_isAhead 11 = .ok (.lconst 1, 1) := by decide +kernel
theorem dL_isAhead_12 : decode cL_isAhead 12 = .ok (.goto 4, 3) := by decide +kernel
theorem dL_isAhead_15 : decode cL_isAhead 15 = .ok (.lconst 0, 1) := by decide +kernel
theorem dL_isAhead_16 : decode cL_isAhead 16 = .ok (.lastore, 1) := by decide +kernel
theorem dL_isAhead_17 : decode cL_isAhead 17 = .ok (.goto 7, 3) := by decide +kernel
theorem dL_isAhead_20 : decode cL_isAhead 20 = .ok (.astore 4, 2) := by decide +kernel
theorem dL_isAhead_22 : decode cL_isAhead 22 = .ok (.iconst 1, 1) := by decide +kernel
theorem dL_isAhead_23 : decode cL_isAhead 23 = .ok (.ireturn, 1) := by decide +kernel
theorem dL_isAhead_24 : decode cL_isAhead 24 = .ok (.iconst 0, 1) := by decide +kernel
theorem dL_isAhead_25 : decode cL_isAhead 25 = .ok (.ireturn, 1) := by decide +kernel
