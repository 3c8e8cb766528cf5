set_option maxRecDepth 20000 in
theorem ggL_addTask_X8_addTask : GoodIn wsL_addTask wsX8_addTask := goodIn_ca (goodIn_ca (goodIn_r _ [7, 8, 9, 10, 11, 12, 13, 14, 15, 6, 16, 17, 18, 19, 20, 21, 22, 23, 24, 25, 26, 27, 28, 29, 30, 31, 32, 33, 34, 35, 36, 37, 38, 39, 40, 41, 42, 43, 44, 45, 46, 47, 48, 49, 50, 51, 52, 53, 54, 55, 56, 57, 58, 59, 60, 61, 62, 63, 64, 65, 66, 67, 68] (by decide +kernel) (by decide +kernel)) (goodIn_sub (fun _ h => List.mem_cons_of_mem _ (List.mem_append_left _ (List.mem_append_right _ h))) (by decide +kernel))) (goodIn_sub (fun _ h => List.mem_cons_of_mem _ (List.mem_append_right _ h)) (by decide +kernel))
set_option maxRecDepth 20000 in
theorem gL_addTask_X8_addTask : GoodIn wsL_addTask (wsV RL 7 RX8 yX8_addTask wsX8_addTask) := goodIn_app (goodIn_of _ (by decide +kernel)) ggL_addTask_X8_addTask
theorem dL_addTask_0 : decode cL_addTask 0 = .ok (.aload_n 3, 1) := by decide +kernel
theorem dL_addTask_1 : decode cL_addTask 1 = .ok (.iconst 0, 1) := by decide +kernel
theorem dL_addTask_2 : decode cL_addTask 2 = .ok (.aload_n 0, 1) := by decide +kernel
theorem dL_addTask_3 : decode cL_addTask 3 = .ok (.iload_n 1, 1) := by decide +kernel
theorem dL_addTask_4 : decode cL_addTask 4 = .ok (.iload_n 2, 1) := by decide +kernel
theorem dL_addTask_5 : decode cL_addTask 5 = .ok (.invokevirtual 7, 3) := by decide +kernel
theorem dL_addTask_8 : decode cL_addTask 8 = .ok (.i2l, 1) := by decide +kernel
theorem dL_addTask_9 : decode cL_addTask 9 = .ok (.lastore, 1) := by decide +kernel
theorem dL_addTask_10 : decode cL_addTask 10 = .ok (.goto 11, 3) := by decide +kernel
theorem dL_addTask_13 : decode cL_addTask 13 = .ok (.astore 4, 2) := by decide +kernel
theorem dL_addTask_15 : decode cL_addTask 15 = .ok (.iconst 1, 1) := by decide +kernel
theorem dL_addTask_16 : decode cL_addTask 16 = .ok (.ireturn, 1) := by decide +kernel
theorem dL_addTask_17 : decode cL_addTask 17 = .ok (.astore 4, 2) := by decide +kernel
theorem dL_addTask_19 : decode cL_addTask 19 = .ok (.iconst 2, 1) := by decide +kernel
theorem dL_addTask_20 : decode cL_addTask 20 = .ok (.ireturn, 1) := by decide +kernel
theorem dL_addTask_21 : decode cL_addTask 21 = .ok (.iconst 0, 1) := by decide +kernel
theorem dL_addTask_22 : decode cL_addTask 22 = .ok (.ireturn, 1) := by decide +kernel
set_option maxRecDepth 20000 in
theorem ggL_removeTask_X8_removeTask : GoodIn wsL_removeTask wsX8_removeTask := goodIn_ca (goodIn_r _ [6, 7, 8, 9, 10, 11, 12, 13, 14, 15, 16, 17, 18, 19, 20, 21, 22, 23, 24, 25, 26, 27, 28, 29, 30, 31, 32, 33, 34, 35, 36, 37, 38, 39, 40, 41, 42, 43, 44, 45, 46, 47, 48, 49, 50, 51, 52, 53, 54, 55, 56, 57, 58, 59, 60, 61, 62, 63, 64, 65, 66, 67, 68, 69, 70, 71, 72, 73, 74, 75, 76, 77, 78] (by decide +kernel) (by decide +kernel)) (goodIn_sub (fun _ h => List.mem_cons_of_mem _ (List.mem_append_right _ h)) (by decide +kernel))
set_option maxRecDepth 20000 in
theorem gL_removeTask_X8_removeTask : GoodIn wsL_removeTask (wsV RL 17 RX8 yX8_removeTask wsX8_removeTask) := goodIn_app (goodIn_of _ (by decide +kernel)) ggL_removeTask_X8_removeTask
theorem dL_removeTask_0 : decode cL_removeTask 0 = .ok (.aload_n 1, 1) := by decide +kernel
theorem dL_removeTask_1 : decode cL_removeTask 1 = .ok (.iconst 0, 1) := by decide +kernel
theorem dL_removeTask_2 : decode cL_removeTask 2 = .ok (.aload_n 0, 1) := by decide +kernel
theorem dL_removeTask_3 : decode cL_removeTask 3 = .ok (.invokevirtual 17, 3) := by decide +kernel
theorem dL_removeTask_6 : decode cL_removeTask 6 = .ok (.i2l, 1) := by decide +kernel
theorem dL_removeTask_7 : decode cL_removeTask 7 = .ok (.lastore, 1) := by decide +kernel
theorem dL_removeTask_8 : decode cL_removeTask 8 = .ok (.goto 6, 3) := by decide +kernel
theorem dL_removeTask_11 : decode cL_removeTask 11 = .ok (.astore_n 2, 1) := by decide +kernel
theorem dL_removeTask_12 : decode cL_removeTask 12 = .ok (.iconst 1, 1) := by decide +kernel
theorem dL_removeTask_13 : decode cL_removeTask 13 = .ok (.ireturn, 1) := by decide +kernel
theorem dL_removeTask_14 : decode cL_removeTask 14 = .ok (.iconst 0, 1) := by decide +kernel
theorem dL_removeTask_15 : decode cL_removeTask 15 = .ok (.ireturn, 1) := by decide +kernel
set_option maxRecDepth 20000 in
theorem ggL_setLength_X8_setLength : GoodIn wsL_setLength wsX8_setLength := goodIn_ca (goodIn_ca (goodIn_r _ [7, 8, 9, 10, 11, 12, 13, 14, 6, 15, 16, 17, 18, 19, 20, 21, 22, 23, 24, 25, 26, 27, 28, 29, 30, 31, 32, 33, 34, 35, 36, 37, 38, 39, 40, 41, 42, 43, 44, 45, 46, 47, 48, 49, 50, 51, 52, 53, 54, 55, 56, 57, 58, 59, 60, 61, 62, 63, 64, 65, 66, 67, 68, 69, 70, 71, 72, 73, 74, 75, 76, 77, 78, 79, 80, 81, 82, 83, 84, 85, 86, 87, 88, 89, 90, 91, 92, 93, 94, 95, 96, 97, 98, 99, 100, 101, 102, 103, 104, 105, 106, 107, 108, 109, 110, 111, 112, 113, 114, 115, 116, 117, 118, 119, 120, 121, 122, 123, 124, 125, 126, 127, 128, 129, 130, 131, 132, 133, 134, 135, 136, 137, 138, 139, 140, 141, 142, 143] (by decide +kernel) (by decide +kernel)) (goodIn_sub (fun _ h => List.mem_cons_of_mem _ (List.mem_append_left _ (List.mem_append_right _ h))) (by decide +kernel))) (goodIn_sub (fun _ h => List.mem_cons_of_mem _ (List.mem_append_right _ h)) (by decide +kernel))
set_option maxRecDepth 20000 in
theorem gL_setLength_X8_setLength : GoodIn wsL_setLength (wsV RL 21 RX8 yX8_setLength wsX8_setLength) := goodIn_app (goodIn_of _ (by decide +kernel)) ggL_setLength_X8_setLength
theorem dL_setLength_0 : decode cL_setLength 0 = .ok (.aload_n 3, 1) := by decide +kernel
theorem dL_setLength_1 : decode cL_setLength 1 = .ok (.iconst 0, 1) := by decide +kernel
theorem dL_setLength_2 : decode cL_setLength 2 = .ok (.aload_n 0, 1) := by decide +kernel
theorem dL_setLength_3 : decode cL_setLength 3 = .ok (.iload_n 1, 1) := by decide +kernel
theorem dL_setLength_4 : decode cL_setLength 4 = .ok (.iload_n 2, 1) := by decide +kernel
theorem dL_setLength_5 : decode cL_setLength 5 = .ok (.invokevirtual 21, 3) := by decide +kernel
theorem dL_setLength_8 : decode cL_setLength 8 = .ok (.i2l, 1) := by decide +kernel
theorem dL_setLength_9 : decode cL_setLength 9 = .ok (.lastore, 1) := by decide +kernel
theorem dL_setLength_10 : decode cL_setLength 10 = .ok (.goto 11, 3) := by decide +kernel
theorem dL_setLength_13 : decode cL_setLength 13 = .ok (.astore 4, 2) := by decide +kernel
theorem dL_setLength_15 : decode cL_setLength 15 = .ok (.iconst 1, 1) := by decide +kernel
theorem dL_setLength_16 : decode cL_setLength 16 = .ok (.ireturn, 1) := by decide +kernel
theorem dL_setLength_17 : decode cL_setLength 17 = .ok (.astore 4, 2) := by decide +kernel
theorem dL_setLength_19 : decode cL_setLength 19 = .ok (.iconst 2, 1) := by decide +kernel
theorem dL_setLength_20 : decode cL_setLength 20 = .ok (.ireturn, 1) := by decide +kernel
theorem dL_setLength_21 : decode cL_setLength 21 = .ok (.iconst 0, 1) := by decide +kernel
theorem dL_setLength_22 : decode cL_setLength 22 = .ok (.ireturn, 1) := by decide +kernel
set_option maxRecDepth 20000 in
theorem ggL_depend_X8_depend : GoodIn wsL_depend wsX8_depend := goodIn_ca (goodIn_ca (goodIn_ca (goodIn_r _ [8, 9, 10, 11, 12, 13, 14, 15, 16, 17, 18, 19, 20, 7, 21, 22, 23, 24, 25, 26, 27, 28, 29, 30, 31, 32, 33, 34, 35, 36, 37, 38, 39, 40, 41, 42, 43, 44, 45, 46, 47, 48, 49, 50, 51, 52, 53, 54, 55, 56, 57, 58, 59, 60, 61, 62, 63, 64, 65, 66, 67, 68, 69, 70, 71, 72, 73, 74, 75, 76, 77, 78, 79, 80, 81, 82, 83, 84, 85, 86, 87, 88, 89, 90, 91, 92, 93, 94, 95, 96, 97, 98, 99, 100, 101, 102, 103, 104, 105, 106, 107, 108, 109, 110, 111, 112, 113, 114, 115, 116, 117, 118, 119, 120, 121, 122, 123, 124, 125, 126, 127, 128, 129, 130, 131, 132, 133, 134, 135, 136, 137, 138, 139, 140, 141, 142, 143, 144, 145, 146, 147, 148, 149, 150, 151, 152, 153, 154, 155, 156, 157, 158, 159, 160, 161, 162, 163, 164, 165, 166, 167, 168, 169, 170] (by decide +kernel) (by decide +kernel)) (goodIn_sub (fun _ h => List.mem_cons_of_mem _ (List.mem_append_left _ (List.mem_append_left _ (List.mem_append_right _ h)))) (by decide +kernel))) (goodIn_sub (fun _ h => List.mem_cons_of_mem _ (List.mem_append_left _ (List.mem_append_right _ h))) (by decide +kernel))) (goodIn_sub (fun _ h => List.mem_cons_of_mem _ (List.mem_append_right _ h)) (by decide +kernel))
set_option maxRecDepth 20000 in
theorem gL_depend_X8_depend : GoodIn wsL_depend (wsV RL 26 RX8 yX8_depend wsX8_depend) := goodIn_app (goodIn_of _ (by decide +kernel)) ggL_depend_X8_depend
theorem dL_depend_0 : decode cL_depend 0 = .ok (.aload 4, 2) := by decide +kernel
theorem dL_depend_2 : decode cL_depend 2 = .ok (.iconst 0, 1) := by decide +kernel
theorem dL_depend_3 : decode cL_depend 3 = .ok (.aload_n 0, 1) := by decide +kernel
theorem dL_depend_4 : decode cL_depend 4 = .ok (.iload_n 1, 1) := by decide +kernel
theorem dL_depend_5 : decode cL_depend 5 = .ok (.iload_n 2, 1) := by decide +kernel
theorem dL_depend_6 : decode cL_depend 6 = .ok (.iload_n 3, 1) := by decide +kernel
theorem dL_depend_7 : decode cL_depend 7 = .ok (.invokevirtual 26, 3) := by decide +kernel
theorem dL_depend_10 : decode cL_depend 10 = .ok (.i2l, 1) := by decide +kernel
theorem dL_depend_11 : decode cL_depend 11 = .ok (.lastore, 1) := by decide +kernel
theorem dL_depend_12 : decode cL_depend 12 = .ok (.goto 15, 3) := by decide +kernel
theorem dL_depend_15 : decode cL_depend 15 = .ok (.astore 5, 2) := by decide +kernel
theorem dL_depend_17 : decode cL_depend 17 = .ok (.iconst 1, 1) := by decide +kernel
theorem dL_depend_18 : decode cL_depend 18 = .ok (.ireturn, 1) := by decide +kernel
theorem dL_depend_19 : decode cL_depend 19 = .ok (.astore 5, 2) := by decide +kernel
theorem dL_depend_21 : decode cL_depend 21 = .ok (.iconst 2, 1) := by decide +kernel
theorem dL_depend_22 : decode cL_depend 22 = .ok (.ireturn, 1) := by decide +kernel
theorem dL_depend_23 : decode cL_depend 23 = .ok (.astore 5, 2) := by decide +kernel
theorem dL_depend_25 : decode cL_depend 25 = .ok (.iconst 3, 1) := by decide +kernel
theorem dL_depend_26 : decode cL_depend 26 = .ok (.ireturn, 1) := by decide +kernel
theorem dL_depend_27 : decode cL_depend 27 = .ok (.iconst 0, 1) := by decide +kernel
theorem dL_depend_28 : decode cL_depend 28 = .ok (.ireturn, 1) := by decide +kernel
set_option maxRecDepth 20000 in
theorem ggL_release_X8_release : GoodIn wsL_release wsX8_release := goodIn_ca (goodIn_ca (goodIn_r _ [7, 8, 9, 10, 11, 12, 6, 13, 14, 15, 16, 17, 18, 19, 20, 21, 22, 23, 24, 25, 26, 27, 28, 29, 30, 31, 32, 33, 34, 35, 36, 37, 38, 39, 40, 41, 42, 43, 44, 45, 46, 47, 48, 49, 50, 51, 52, 53, 54, 55, 56, 57, 58, 59, 60, 61, 62, 63, 64, 65, 66, 67, 68, 69, 70, 71, 72, 73, 74, 75, 76, 77, 78, 79, 80, 81] (by decide +kernel) (by decide +kernel)) (goodIn_sub (fun _ h => List.mem_cons_of_mem _ (List.mem_append_left _ (List.mem_append_right _ h))) (by decide +kernel))) (goodIn_sub (fun _ h => List.mem_cons_of_mem _ (List.mem_append_right _ h)) (by decide +kernel))
set_option maxRecDepth 20000 in
theorem gL_release_X8_release : GoodIn wsL_release (wsV RL 30 RX8 yX8_release wsX8_release) := goodIn_app (goodIn_of _ (by decide +kernel)) ggL_release_X8_release
theorem dL_release_0 : decode cL_release 0 = .ok (.aload_n 3, 1) := by decide +kernel
theorem dL_release_1 : decode cL_release 1 = .ok (.iconst 0, 1) := by decide +kernel
theorem dL_release_2 : decode cL_release 2 = .ok (.aload_n 0, 1) := by decide +kernel
theorem dL_release_3 : decode cL_release 3 = .ok (.iload_n 1, 1) := by decide +kernel
theorem dL_release_4 : decode cL_release 4 = .ok (.iload_n 2, 1) := by decide +kernel
theorem dL_release_5 : decode cL_release 5 = .ok (.invokevirtual 30, 3) := by decide +kernel
theorem dL_release_8 : decode cL_release 8 = .ok (.i2l, 1) := by decide +kernel
theorem dL_release_9 : decode cL_release 9 = .ok (.lastore, 1) := by decide +kernel
theorem dL_release_10 : decode cL_release 10 = .ok (.goto 11, 3) := by decide +kernel
theorem dL_release_13 : decode cL_release 13 = .ok (.astore 4, 2) := by decide +kernel
theorem dL_release_15 : decode cL_release 15 = .ok (.iconst 1, 1) := by decide +kernel
theorem dL_release_16 : decode cL_release 16 = .ok (.ireturn, 1) := by decide +kernel
theorem dL_release_17 : decode cL_release 17 = .ok (.astore 4, 2) := by decide +kernel
theorem dL_release_19 : decode cL_release 19 = .ok (.iconst 2, 1) := by decide +kernel
theorem dL_release_20 : decode cL_release 20 = .ok (.ireturn, 1) := by decide +kernel
theorem dL_release_21 : decode cL_release 21 = .ok (.iconst 0, 1) := by decide +kernel
theorem dL_release_22 : decode cL_release 22 = .ok (.ireturn, 1) := by decide +kernel
set_option maxRecDepth 20000 in
theorem ggL_setCrews_X8_setCrews : GoodIn wsL_setCrews wsX8_setCrews := goodIn_ca (goodIn_r _ [6, 7, 8, 9, 10, 11, 12, 5, 13, 14, 15, 16, 17, 18, 19, 20, 21, 22, 23, 24, 25, 26, 27, 28, 29, 30, 31, 32, 33, 34, 35, 36, 37, 38, 39, 40, 41, 42, 43, 44, 45, 46, 47, 48, 49, 50, 51, 52, 53, 54, 55, 56, 57, 58, 59, 60, 61] (by decide +kernel) (by decide +kernel)) (goodIn_sub (fun _ h => List.mem_cons_of_mem _ (List.mem_append_right _ h)) (by decide +kernel))
set_option maxRecDepth 20000 in
theorem gL_setCrews_X8_setCrews : GoodIn wsL_setCrews (wsV RL 35 RX8 yX8_setCrews wsX8_setCrews) := goodIn_app (goodIn_of _ (by decide +kernel)) ggL_setCrews_X8_setCrews
theorem dL_setCrews_0 : decode cL_setCrews 0 = .ok (.aload_n 2, 1) := by decide +kernel
theorem dL_setCrews_1 : decode cL_setCrews 1 = .ok (.iconst 0, 1) := by decide +kernel
theorem dL_setCrews_2 : decode cL_setCrews 2 = .ok (.aload_n 0, 1) := by decide +kernel
theorem dL_setCrews_3 : decode cL_setCrews 3 = .ok (.iload_n 1, 1) := by decide +kernel
theorem dL_setCrews_4 : decode cL_setCrews 4 = .ok (.invokevirtual 35, 3) := by decide +kernel
theorem dL_setCrews_7 : decode cL_setCrews 7 = .ok (.i2l, 1) := by decide +kernel
theorem dL_setCrews_8 : decode cL_setCrews 8 = .ok (.lastore, 1) := by decide +kernel
theorem dL_setCrews_9 : decode cL_setCrews 9 = .ok (.goto 6, 3) := by decide +kernel
theorem dL_setCrews_12 : decode cL_setCrews 12 = .ok (.astore_n 3, 1) := by decide +kernel
theorem dL_setCrews_13 : decode cL_setCrews 13 = .ok (.iconst 1, 1) := by decide +kernel
theorem dL_setCrews_14 : decode cL_setCrews 14 = .ok (.ireturn, 1) := by decide +kernel
theorem dL_setCrews_15 : decode cL_setCrews 15 = .ok (.iconst 0, 1) := by decide +kernel
theorem dL_setCrews_16 : decode cL_setCrews 16 = .ok (.ireturn, 1) := by decide +kernel
set_option maxRecDepth 20000 in
theorem ggL_readPlan_X8_readPlan : GoodIn wsL_readPlan wsX8_readPlan := goodIn_ca (goodIn_r _ [6, 7, 8, 9, 10, 11, 12, 13, 14, 15, 16, 17, 18, 19, 20, 21, 22, 23, 24, 25, 26, 27, 28, 29, 30, 31, 32, 33, 34, 35, 36, 37, 38, 39, 40, 41, 42, 43, 44, 45, 46, 47, 48, 49, 50, 51, 52, 53, 54, 55, 56, 57, 58, 59, 60, 61, 62, 63, 64, 65, 66, 67, 68, 69, 70, 71, 72, 73, 74, 75, 76, 77, 78, 79, 80, 81, 82, 83, 84, 85, 86, 87, 88, 89, 90, 91, 92, 93, 94, 95, 96, 97, 98, 99, 100, 101, 102, 103, 104, 105, 106, 107, 108, 109, 110, 111, 112, 113, 114, 115, 116, 117, 118, 119, 120, 121] (by decide +kernel) (by decide +kernel)) (goodIn_sub (fun _ h => List.mem_cons_of_mem _ (List.mem_append_right _ h)) (by decide +kernel))
set_option maxRecDepth 20000 in
theorem gL_readPlan_X8_readPlan : GoodIn wsL_readPlan (wsV RL 39 RX8 yX8_readPlan wsX8_readPlan) := goodIn_app (goodIn_of _ (by decide +kernel)) ggL_readPlan_X8_readPlan
theorem dL_readPlan_0 : decode cL_readPlan 0 = .ok (.aload_n 1, 1) := by decide +kernel
theorem dL_readPlan_1 : decode cL_readPlan 1 = .ok (.iconst 0, 1) := by decide +kernel
theorem dL_readPlan_2 : decode cL_readPlan 2 = .ok (.aload_n 0, 1) := by decide +kernel
theorem dL_readPlan_3 : decode cL_readPlan 3 = .ok (.invokevirtual 39, 3) := by decide +kernel
theorem dL_readPlan_6 : decode cL_readPlan 6 = .ok (.i2l, 1) := by decide +kernel
theorem dL_readPlan_7 : decode cL_readPlan 7 = .ok (.lastore, 1) := by decide +kernel
theorem dL_readPlan_8 : decode cL_readPlan 8 = .ok (.goto 6, 3) := by decide +kernel
theorem dL_readPlan_11 : decode cL_readPlan 11 = .ok (.astore_n 2, 1) := by decide +kernel
theorem dL_readPlan_12 : decode cL_readPlan 12 = .ok (.iconst 1, 1) := by decide +kernel
theorem dL_readPlan_13 : decode cL_readPlan 13 = .ok (.ireturn, 1) := by decide +kernel
theorem dL_readPlan_14 : decode cL_readPlan 14 = .ok (.iconst 0, 1) := by decide +kernel
theorem dL_readPlan_15 : decode cL_readPlan 15 = .ok (.ireturn, 1) := by decide +kernel
set_option maxRecDepth 20000 in
theorem ggL_append_X8_append : GoodIn wsL_append wsX8_append := goodIn_ca (goodIn_r _ [6, 7, 8, 9, 10, 11, 12, 13, 14, 15, 16, 17, 18, 19, 20, 21, 22, 23, 24, 25, 26, 27, 28, 29, 30, 31] (by decide +kernel) (by decide +kernel)) (goodIn_sub (fun _ h => List.mem_cons_of_mem _ (List.mem_append_right _ h)) (by decide +kernel))
set_option maxRecDepth 20000 in
theorem gL_append_X8_append : GoodIn wsL_append (wsV RL 42 RX8 yX8_append wsX8_append) := goodIn_app (goodIn_of _ (by decide +kernel)) ggL_append_X8_append
theorem dL_append_0 : decode cL_append 0 = .ok (.aload_n 2, 1) := by decide +kernel
theorem dL_append_1 : decode cL_append 1 = .ok (.iconst 0, 1) := by decide +kernel
theorem dL_append_2 : decode cL_append 2 = .ok (.aload_n 0, 1) := by decide +kernel
theorem dL_append_3 : decode cL_append 3 = .ok (.iload_n 1, 1) := by decide +kernel
theorem dL_append_4 : decode cL_append 4 = .ok (.invokevirtual 42, 3) := by decide +kernel
theorem dL_append_7 : decode cL_append 7 = .ok (.i2l, 1) := by decide +kernel
theorem dL_append_8 : decode cL_append 8 = .ok (.lastore, 1) := by decide +kernel
theorem dL_append_9 : decode cL_append 9 = .ok (.goto 6, 3) := by decide +kernel
theorem dL_append_12 : decode cL_append 12 = .ok (.astore_n 3, 1) := by decide +kernel
theorem dL_append_13 : decode cL_append 13 = .ok (.iconst 1, 1) := by decide +kernel
theorem dL_append_14 : decode cL_append 14 = .ok (.ireturn, 1) := by decide +kernel
theorem dL_append_15 : decode cL_append 15 = .ok (.iconst 0, 1) := by decide +kernel
theorem dL_append_16 : decode cL_append 16 = .ok (.ireturn, 1) := by decide +kernel
set_option maxRecDepth 20000 in
theorem ggL_firstError_X8_firstError : GoodIn wsL_firstError wsX8_firstError := goodIn_ca (goodIn_r _ [6, 7, 8, 9, 10, 11, 12, 13, 14, 15, 16, 17, 18, 19, 20, 21, 22, 23, 24, 25, 26, 27, 28, 29, 30, 31, 32, 33, 34, 35, 36, 37, 38, 39, 40, 41, 42, 43, 44, 45, 46, 47, 48, 49, 50, 51, 52, 53, 54, 55, 56, 57, 58, 59, 60, 61, 62, 63, 64, 65, 66, 67, 68, 69, 70, 71, 72, 73, 74, 75, 76, 77, 78, 79, 80, 81, 82, 83, 84, 85, 86, 87, 88, 89, 90, 91, 92, 93] (by decide +kernel) (by decide +kernel)) (goodIn_sub (fun _ h => List.mem_cons_of_mem _ (List.mem_append_right _ h)) (by decide +kernel))
set_option maxRecDepth 20000 in
theorem gL_firstError_X8_firstError : GoodIn wsL_firstError (wsV RL 46 RX8 yX8_firstError wsX8_firstError) := goodIn_app (goodIn_of _ (by decide +kernel)) ggL_firstError_X8_firstError
theorem dL_firstError_0 : decode cL_firstError 0 = .ok (.aload_n 1, 1) := by decide +kernel
theorem dL_firstError_1 : decode cL_firstError 1 = .ok (.iconst 0, 1) := by decide +kernel
theorem dL_firstError_2 : decode cL_firstError 2 = .ok (.aload_n 0, 1) := by decide +kernel
theorem dL_firstError_3 : decode cL_firstError 3 = .ok (.invokevirtual 46, 3) := by decide +kernel
theorem dL_firstError_6 : decode cL_firstError 6 = .ok (.i2l, 1) := by decide +kernel
theorem dL_firstError_7 : decode cL_firstError 7 = .ok (.lastore, 1) := by decide +kernel
theorem dL_firstError_8 : decode cL_firstError 8 = .ok (.goto 6, 3) := by decide +kernel
theorem dL_firstError_11 : decode cL_firstError 11 = .ok (.astore_n 2, 1) := by decide +kernel
theorem dL_firstError_12 : decode cL_firstError 12 = .ok (.iconst 1, 1) := by decide +kernel
theorem dL_firstError_13 : decode cL_firstError 13 = .ok (.ireturn, 1) := by decide +kernel
theorem dL_firstError_14 : decode cL_firstError 14 = .ok (.iconst 0, 1) := by decide +kernel
theorem dL_firstError_15 : decode cL_firstError 15 = .ok (.ireturn, 1) := by decide +kernel
set_option maxRecDepth 20000 in
theorem ggL_undo_X8_undo : GoodIn wsL_undo wsX8_undo := goodIn_ca (goodIn_r _ [6, 7, 8, 9, 10, 11, 12, 13, 14, 15, 16, 17, 18, 19, 20, 21, 22, 23, 24, 25, 26, 27, 28, 29, 30, 31, 32, 33, 34, 35, 36, 37, 38, 39, 40, 41, 42, 43, 44, 45, 46, 47, 48, 49, 50, 51, 52, 53, 54, 55, 56, 57] (by decide +kernel) (by decide +kernel)) (goodIn_sub (fun _ h => List.mem_cons_of_mem _ (List.mem_append_right _ h)) (by decide +kernel))
set_option maxRecDepth 20000 in
theorem gL_undo_X8_undo : GoodIn wsL_undo (wsV RL 49 RX8 yX8_undo wsX8_undo) := goodIn_app (goodIn_of _ (by decide +kernel)) ggL_undo_X8_undo
theorem dL_undo_0 : decode cL_undo 0 = .ok (.aload_n 1, 1) := by decide +kernel
theorem dL_undo_1 : decode cL_undo 1 = .ok (.iconst 0, 1) := by decide +kernel
theorem dL_undo_2 : decode cL_undo 2 = .ok (.aload_n 0, 1) := by decide +kernel
theorem dL_undo_3 : decode cL_undo 3 = .ok (.invokevirtual 49, 3) := by decide +kernel
theorem dL_undo_6 : decode cL_undo 6 = .ok (.i2l, 1) := by decide +kernel
theorem dL_undo_7 : decode cL_undo 7 = .ok (.lastore, 1) := by decide +kernel
theorem dL_undo_8 : decode cL_undo 8 = .ok (.goto 6, 3) := by decide +kernel
theorem dL_undo_11 : decode cL_undo 11 = .ok (.astore_n 2, 1) := by decide +kernel
theorem dL_undo_12 : decode cL_undo 12 = .ok (.iconst 1, 1) := by decide +kernel
theorem dL_undo_13 : decode cL_undo 13 = .ok (.ireturn, 1) := by decide +kernel
theorem dL_undo_14 : decode cL_undo 14 = .ok (.iconst 0, 1) := by decide +kernel
theorem dL_undo_15 : decode cL_undo 15 = .ok (.ireturn, 1) := by decide +kernel
set_option maxRecDepth 20000 in
theorem ggL_restoreSnapshot_X8_restoreSnapshot : GoodIn wsL_restoreSnapshot wsX8_restoreSnapshot := goodIn_ca (goodIn_r _ [6, 7, 8, 9, 10, 11, 12, 13, 14, 15, 16, 17, 18, 19, 20, 21, 22, 23, 24, 25, 26, 27, 28, 29, 30, 31, 32, 33, 34, 35, 36, 37, 38, 39, 40, 41, 42, 43, 44, 45, 46, 47, 48, 49, 50, 51, 52, 53, 54, 55, 56, 57, 58, 59, 60] (by decide +kernel) (by decide +kernel)) (goodIn_sub (fun _ h => List.mem_cons_of_mem _ (List.mem_append_right _ h)) (by decide +kernel))
set_option maxRecDepth 20000 in
theorem gL_restoreSnapshot_X8_restoreSnapshot : GoodIn wsL_restoreSnapshot (wsV RL 52 RX8 yX8_restoreSnapshot wsX8_restoreSnapshot) := goodIn_app (goodIn_of _ (by decide +kernel)) ggL_restoreSnapshot_X8_restoreSnapshot
theorem dL_restoreSnapshot_0 : decode cL_restoreSnapshot 0 = .ok (.aload_n 1, 1) := by decide +kernel
theorem dL_restoreSnapshot_1 : decode cL_restoreSnapshot 1 = .ok (.iconst 0, 1) := by decide +kernel
theorem dL_restoreSnapshot_2 : decode cL_restoreSnapshot 2 = .ok (.aload_n 0, 1) := by decide +kernel
theorem dL_restoreSnapshot_3 : decode cL_restoreSnapshot 3 = .ok (.invokevirtual 52, 3) := by decide +kernel
theorem dL_restoreSnapshot_6 : decode cL_restoreSnapshot 6 = .ok (.i2l, 1) := by decide +kernel
theorem dL_restoreSnapshot_7 : decode cL_restoreSnapshot 7 = .ok (.lastore, 1) := by decide +kernel
theorem dL_restoreSnapshot_8 : decode cL_restoreSnapshot 8 = .ok (.goto 6, 3) := by decide +kernel
theorem dL_restoreSnapshot_11 : decode cL_restoreSnapshot 11 = .ok (.astore_n 2, 1) := by decide +kernel
theorem dL_restoreSnapshot_12 : decode cL_restoreSnapshot 12 = .ok (.iconst 1, 1) := by decide +kernel
theorem dL_restoreSnapshot_13 : decode cL_restoreSnapshot 13 = .ok (.ireturn, 1) := by decide +kernel
theorem dL_restoreSnapshot_14 : decode cL_restoreSnapshot 14 = .ok (.iconst 0, 1) := by decide +kernel
theorem dL_restoreSnapshot_15 : decode cL_restoreSnapshot 15 = .ok (.ireturn, 1) := by decide +kernel
set_option maxRecDepth 20000 in
theorem ggL_lengthOf_X8_lengthOf : GoodIn wsL_lengthOf wsX8_lengthOf := goodIn_ca (goodIn_r _ [6, 7, 8, 9, 10, 11, 5, 12, 13, 14, 15, 16, 17, 18, 19, 20, 21, 22, 23, 24, 25, 26, 27, 28, 29, 30, 31, 32, 33, 34, 35, 36] (by decide +kernel) (by decide +kernel)) (goodIn_sub (fun _ h => List.mem_cons_of_mem _ (List.mem_append_right _ h)) (by decide +kernel))
set_option maxRecDepth 20000 in
theorem gL_lengthOf_X8_lengthOf : GoodIn wsL_lengthOf (wsV RL 55 RX8 yX8_lengthOf wsX8_lengthOf) := goodIn_app (goodIn_of _ (by decide +kernel)) ggL_lengthOf_X8_lengthOf
theorem dL_lengthOf_0 : decode cL_lengthOf 0 = .ok (.aload_n 2, 1) := by decide +kernel
theorem dL_lengthOf_1 : decode cL_lengthOf 1 = .ok (.iconst 0, 1) := by decide +kernel
theorem dL_lengthOf_2 : decode cL_lengthOf 2 = .ok (.aload_n 0, 1) := by decide +kernel
theorem dL_lengthOf_3 : decode cL_lengthOf 3 = .ok (.iload_n 1, 1) := by decide +kernel
theorem dL_lengthOf_4 : decode cL_lengthOf 4 = .ok (.invokevirtual 55, 3) := by decide +kernel
theorem dL_lengthOf_7 : decode cL_lengthOf 7 = .ok (.i2l, 1) := by decide +kernel
theorem dL_lengthOf_8 : decode cL_lengthOf 8 = .ok (.lastore, 1) := by decide +kernel
theorem dL_lengthOf_9 : decode cL_lengthOf 9 = .ok (.goto 6, 3) := by decide +kernel
theorem dL_lengthOf_12 : decode cL_lengthOf 12 = .ok (.astore_n 3, 1) := by decide +kernel
theorem dL_lengthOf_13 : decode cL_lengthOf 13 = .ok (.iconst 1, 1) := by decide +kernel
theorem dL_lengthOf_14 : decode cL_lengthOf 14 = .ok (.ireturn, 1) := by decide +kernel
theorem dL_lengthOf_15 : decode cL_lengthOf 15 = .ok (.iconst 0, 1) := by decide +kernel
theorem dL_lengthOf_16 : decode cL_lengthOf 16 = .ok (.ireturn, 1) := by decide +kernel
set_option maxRecDepth 20000 in
theorem ggL_crewsOf_X8_crewsOf : GoodIn wsL_crewsOf wsX8_crewsOf := goodIn_ca (goodIn_r _ [6, 7, 8, 9, 10, 11, 5, 12, 13, 14, 15, 16, 17, 18, 19, 20, 21, 22, 23, 24, 25, 26, 27, 28, 29, 30, 31, 32, 33, 34, 35, 36] (by decide +kernel) (by decide +kernel)) (goodIn_sub (fun _ h => List.mem_cons_of_mem _ (List.mem_append_right _ h)) (by decide +kernel))
set_option maxRecDepth 20000 in
theorem gL_crewsOf_X8_crewsOf : GoodIn wsL_crewsOf (wsV RL 58 RX8 yX8_crewsOf wsX8_crewsOf) := goodIn_app (goodIn_of _ (by decide +kernel)) ggL_crewsOf_X8_crewsOf
theorem dL_crewsOf_0 : decode cL_crewsOf 0 = .ok (.aload_n 2, 1) := by decide +kernel
theorem dL_crewsOf_1 : decode cL_crewsOf 1 = .ok (.iconst 0, 1) := by decide +kernel
theorem dL_crewsOf_2 : decode cL_crewsOf 2 = .ok (.aload_n 0, 1) := by decide +kernel
theorem dL_crewsOf_3 : decode cL_crewsOf 3 = .ok (.iload_n 1, 1) := by decide +kernel
theorem dL_crewsOf_4 : decode cL_crewsOf 4 = .ok (.invokevirtual 58, 3) := by decide +kernel
theorem dL_crewsOf_7 : decode cL_crewsOf 7 = .ok (.i2l, 1) := by decide +kernel
theorem dL_crewsOf_8 : decode cL_crewsOf 8 = .ok (.lastore, 1) := by decide +kernel
theorem dL_crewsOf_9 : decode cL_crewsOf 9 = .ok (.goto 6, 3) := by decide +kernel
theorem dL_crewsOf_12 : decode cL_crewsOf 12 = .ok (.astore_n 3, 1) := by decide +kernel
theorem dL_crewsOf_13 : decode cL_crewsOf 13 = .ok (.iconst 1, 1) := by decide +kernel
theorem dL_crewsOf_14 : decode cL_crewsOf 14 = .ok (.ireturn, 1) := by decide +kernel
theorem dL_crewsOf_15 : decode cL_crewsOf 15 = .ok (.iconst 0, 1) := by decide +kernel
theorem dL_crewsOf_16 : decode cL_crewsOf 16 = .ok (.ireturn, 1) := by decide +kernel
set_option maxRecDepth 20000 in
theorem ggL_lagOf_X8_lagOf : GoodIn wsL_lagOf wsX8_lagOf := goodIn_ca (goodIn_ca (goodIn_r _ [7, 8, 9, 10, 6, 11, 12, 13, 14, 15, 16, 17, 18, 19, 20, 21, 22, 23, 24, 25, 26, 27, 28, 29, 30, 31, 32, 33, 34, 35, 36, 37, 38, 39, 40, 41, 42, 43, 44, 45, 46, 47, 48] (by decide +kernel) (by decide +kernel)) (goodIn_sub (fun _ h => List.mem_cons_of_mem _ (List.mem_append_left _ (List.mem_append_right _ h))) (by decide +kernel))) (goodIn_sub (fun _ h => List.mem_cons_of_mem _ (List.mem_append_right _ h)) (by decide +kernel))
set_option maxRecDepth 20000 in
theorem gL_lagOf_X8_lagOf : GoodIn wsL_lagOf (wsV RL 61 RX8 yX8_lagOf wsX8_lagOf) := goodIn_app (goodIn_of _ (by decide +kernel)) ggL_lagOf_X8_lagOf
theorem dL_lagOf_0 : decode cL_lagOf 0 = .ok (.aload_n 3, 1) := by decide +kernel
theorem dL_lagOf_1 : decode cL_lagOf 1 = .ok (.iconst 0, 1) := by decide +kernel
theorem dL_lagOf_2 : decode cL_lagOf 2 = .ok (.aload_n 0, 1) := by decide +kernel
theorem dL_lagOf_3 : decode cL_lagOf 3 = .ok (.iload_n 1, 1) := by decide +kernel
theorem dL_lagOf_4 : decode cL_lagOf 4 = .ok (.iload_n 2, 1) := by decide +kernel
theorem dL_lagOf_5 : decode cL_lagOf 5 = .ok (.invokevirtual 61, 3) := by decide +kernel
theorem dL_lagOf_8 : decode cL_lagOf 8 = .ok (.i2l, 1) := by decide +kernel
theorem dL_lagOf_9 : decode cL_lagOf 9 = .ok (.lastore, 1) := by decide +kernel
theorem dL_lagOf_10 : decode cL_lagOf 10 = .ok (.goto 11, 3) := by decide +kernel
theorem dL_lagOf_13 : decode cL_lagOf 13 = .ok (.astore 4, 2) := by decide +kernel
theorem dL_lagOf_15 : decode cL_lagOf 15 = .ok (.iconst 1, 1) := by decide +kernel
theorem dL_lagOf_16 : decode cL_lagOf 16 = .ok (.ireturn, 1) := by decide +kernel
theorem dL_lagOf_17 : decode cL_lagOf 17 = .ok (.astore 4, 2) := by decide +kernel
theorem dL_lagOf_19 : decode cL_lagOf 19 = .ok (.iconst 2, 1) := by decide +kernel
theorem dL_lagOf_20 : decode cL_lagOf 20 = .ok (.ireturn, 1) := by decide +kernel
theorem dL_lagOf_21 : decode cL_lagOf 21 = .ok (.iconst 0, 1) := by decide +kernel
theorem dL_lagOf_22 : decode cL_lagOf 22 = .ok (.ireturn, 1) := by decide +kernel
set_option maxRecDepth 20000 in
theorem ggL_isAhead_X8_isAhead : GoodIn wsL_isAhead wsX8_isAhead := goodIn_ca (goodIn_r _ [6, 7, 8, 9, 10, 11, 5, 12, 13, 14, 15, 16, 17, 18, 19, 20, 21, 22, 23, 24, 25, 26, 27, 28, 29, 30, 31, 32, 33, 34, 35, 36, 37, 38, 39, 40, 41, 42, 43, 44, 45, 46, 47, 48, 49, 50, 51, 52, 53, 54, 55, 56, 57, 58, 59, 60, 61, 62, 63, 64, 65, 66, 67, 68, 69, 70, 71, 72, 73, 74, 75, 76, 77, 78, 79, 80] (by decide +kernel) (by decide +kernel)) (goodIn_sub (fun _ h => List.mem_cons_of_mem _ (List.mem_append_right _ h)) (by decide +kernel))
set_option maxRecDepth 20000 in
theorem gL_isAhead_X8_isAhead : GoodIn wsL_isAhead (wsV RL 64 RX8 yX8_isAhead wsX8_isAhead) := goodIn_app (goodIn_of _ (by decide +kernel)) ggL_isAhead_X8_isAhead
theorem dL_isAhead_0 : decode cL_isAhead 0 = .ok (.aload_n 3, 1) := by decide +kernel
theorem dL_isAhead_1 : decode cL_isAhead 1 = .ok (.iconst 0, 1) := by decide +kernel
theorem dL_isAhead_2 : decode cL_isAhead 2 = .ok (.aload_n 0, 1) := by decide +kernel
theorem dL_isAhead_3 : decode cL_isAhead 3 = .ok (.iload_n 1, 1) := by decide +kernel
theorem dL_isAhead_4 : decode cL_isAhead 4 = .ok (.iload_n 2, 1) := by decide +kernel
theorem dL_isAhead_5 : decode cL_isAhead 5 = .ok (.invokevirtual 64, 3) := by decide +kernel
theorem dL_isAhead_8 : decode cL_isAhead 8 = .ok (.ifCond .eq 7, 3) := by decide +kernel
theorem dL_isAhead_11 : decode cL_isAhead 11 = .ok (.lconst 1, 1) := by decide +kernel
theorem dL_isAhead_12 : decode cL_isAhead 12 = .ok (.goto 4, 3) := by decide +kernel
theorem dL_isAhead_15 : decode cL_isAhead 15 = .ok (.lconst 0, 1) := by decide +kernel
theorem dL_isAhead_16 : decode cL_isAhead 16 = .ok (.lastore, 1) := by decide +kernel
theorem dL_isAhead_17 : decode cL_isAhead 17 = .ok (.goto 7, 3) := by decide +kernel
theorem dL_isAhead_20 : decode cL_isAhead 20 = .ok (.astore 4, 2) := by decide +kernel
theorem dL_isAhead_22 : decode cL_isAhead 22 = .ok (.iconst 1, 1) := by decide +kernel
theorem dL_isAhead_23 : decode cL_isAhead 23 = .ok (.ireturn, 1) := by decide +kernel
theorem dL_isAhead_24 : decode cL_isAhead 24 = .ok (.iconst 0, 1) := by decide +kernel
theorem dL_isAhead_25 : decode cL_isAhead 25 = .ok (.ireturn, 1) := by decide +kernel
set_option maxRecDepth 20000 in
theorem ggL_earliestStart_X8_earliestStart : GoodIn wsL_earliestStart wsX8_earliestStart := goodIn_ca (goodIn_r _ [6, 7, 8, 9, 10, 11, 12, 5, 13, 14, 15, 16, 17, 18, 19, 20, 21, 22, 23, 24, 25, 26, 27, 28, 29, 30, 31, 32, 33, 34, 35, 36, 37, 38, 39, 40, 41, 42, 43, 44, 45, 46, 47, 48, 49, 50, 51, 52, 53, 54, 55, 56, 57, 58, 59, 60, 61, 62, 63, 64, 65, 66, 67, 68, 69, 70, 71, 72, 73, 74, 75, 76, 77, 78, 79, 80, 81, 82, 83, 84, 85, 86, 87, 88, 89, 90, 91, 92, 93, 94, 95, 96, 97, 98, 99, 100, 101, 102, 103, 104, 105, 106, 107, 108, 109, 110, 111] (by decide +kernel) (by decide +kernel)) (goodIn_sub (fun _ h => List.mem_cons_of_mem _ (List.mem_append_right _ h)) (by decide +kernel))
set_option maxRecDepth 20000 in
theorem gL_earliestStart_X8_earliestStart : GoodIn wsL_earliestStart (wsV RL 68 RX8 yX8_earliestStart wsX8_earliestStart) := goodIn_app (goodIn_of _ (by decide +kernel)) ggL_earliestStart_X8_earliestStart
theorem dL_earliestStart_0 : decode cL_earliestStart 0 = .ok (.aload_n 2, 1) := by decide +kernel
theorem dL_earliestStart_1 : decode cL_earliestStart 1 = .ok (.iconst 0, 1) := by decide +kernel
theorem dL_earliestStart_2 : decode cL_earliestStart 2 = .ok (.aload_n 0, 1) := by decide +kernel
theorem dL_earliestStart_3 : decode cL_earliestStart 3 = .ok (.iload_n 1, 1) := by decide +kernel
theorem dL_earliestStart_4 : decode cL_earliestStart 4 = .ok (.invokevirtual 68, 3) := by decide +kernel
theorem dL_earliestStart_7 : decode cL_earliestStart 7 = .ok (.i2l, 1) := by decide +kernel
theorem dL_earliestStart_8 : decode cL_earliestStart 8 = .ok (.lastore, 1) := by decide +kernel
theorem dL_earliestStart_9 : decode cL_earliestStart 9 = .ok (.goto 6, 3) := by decide +kernel
theorem dL_earliestStart_12 : decode cL_earliestStart 12 = .ok (.astore_n 3, 1) := by decide +kernel
theorem dL_earliestStart_13 : decode cL_earliestStart 13 = .ok (.iconst 1, 1) := by decide +kernel
theorem dL_earliestStart_14 : decode cL_earliestStart 14 = .ok (.ireturn, 1) := by decide +kernel
theorem dL_earliestStart_15 : decode cL_earliestStart 15 = .ok (.iconst 0, 1) := by decide +kernel
theorem dL_earliestStart_16 : decode cL_earliestStart 16 = .ok (.ireturn, 1) := by decide +kernel
set_option maxRecDepth 20000 in
theorem ggL_latestStart_X8_latestStart : GoodIn wsL_latestStart wsX8_latestStart := goodIn_ca (goodIn_r _ [6, 7, 8, 9, 10, 11, 12, 5, 13, 14, 15, 16, 17, 18, 19, 20, 21, 22, 23, 24, 25, 26, 27, 28, 29, 30, 31, 32, 33, 34, 35, 36, 37, 38, 39, 40, 41, 42, 43, 44, 45, 46, 47, 48, 49, 50, 51, 52, 53, 54, 55, 56, 57, 58, 59, 60, 61, 62, 63, 64, 65, 66, 67, 68, 69, 70, 71, 72, 73, 74, 75, 76, 77, 78, 79, 80, 81, 82, 83, 84, 85, 86, 87, 88, 89, 90, 91, 92, 93, 94, 95, 96, 97, 98, 99, 100, 101, 102, 103, 104, 105, 106, 107, 108, 109, 110, 111] (by decide +kernel) (by decide +kernel)) (goodIn_sub (fun _ h => List.mem_cons_of_mem _ (List.mem_append_right _ h)) (by decide +kernel))
set_option maxRecDepth 20000 in
theorem gL_latestStart_X8_latestStart : GoodIn wsL_latestStart (wsV RL 71 RX8 yX8_latestStart wsX8_latestStart) := goodIn_app (goodIn_of _ (by decide +kernel)) ggL_latestStart_X8_latestStart
theorem dL_latestStart_0 : decode cL_latestStart 0 = .ok (.aload_n 2, 1) := by decide +kernel
theorem dL_latestStart_1 : decode cL_latestStart 1 = .ok (.iconst 0, 1) := by decide +kernel
theorem dL_latestStart_2 : decode cL_latestStart 2 = .ok (.aload_n 0, 1) := by decide +kernel
theorem dL_latestStart_3 : decode cL_latestStart 3 = .ok (.iload_n 1, 1) := by decide +kernel
theorem dL_latestStart_4 : decode cL_latestStart 4 = .ok (.invokevirtual 71, 3) := by decide +kernel
theorem dL_latestStart_7 : decode cL_latestStart 7 = .ok (.i2l, 1) := by decide +kernel
theorem dL_latestStart_8 : decode cL_latestStart 8 = .ok (.lastore, 1) := by decide +kernel
theorem dL_latestStart_9 : decode cL_latestStart 9 = .ok (.goto 6, 3) := by decide +kernel
theorem dL_latestStart_12 : decode cL_latestStart 12 = .ok (.astore_n 3, 1) := by decide +kernel
theorem dL_latestStart_13 : decode cL_latestStart 13 = .ok (.iconst 1, 1) := by decide +kernel
theorem dL_latestStart_14 : decode cL_latestStart 14 = .ok (.ireturn, 1) := by decide +kernel
theorem dL_latestStart_15 : decode cL_latestStart 15 = .ok (.iconst 0, 1) := by decide +kernel
theorem dL_latestStart_16 : decode cL_latestStart 16 = .ok (.ireturn, 1) := by decide +kernel
set_option maxRecDepth 20000 in
theorem ggL_slack_X8_slack : GoodIn wsL_slack wsX8_slack := goodIn_ca (goodIn_r _ [6, 7, 8, 9, 10, 11, 5, 12, 13, 14, 15, 16, 17, 18, 19, 20, 21, 22, 23, 24, 25, 26, 27, 28, 29, 30, 31, 32, 33, 34, 35, 36, 37, 38, 39, 40, 41, 42, 43, 44, 45, 46, 47, 48, 49, 50, 51, 52, 53, 54, 55, 56, 57, 58, 59, 60, 61, 62, 63, 64, 65, 66, 67, 68, 69, 70, 71, 72, 73, 74, 75, 76, 77, 78, 79, 80, 81, 82, 83, 84, 85, 86, 87, 88, 89, 90, 91, 92, 93, 94, 95, 96, 97, 98, 99, 100, 101, 102, 103, 104, 105, 106, 107, 108, 109, 110, 111, 112, 113, 114] (by decide +kernel) (by decide +kernel)) (goodIn_sub (fun _ h => List.mem_cons_of_mem _ (List.mem_append_right _ h)) (by decide +kernel))
set_option maxRecDepth 20000 in
theorem gL_slack_X8_slack : GoodIn wsL_slack (wsV RL 74 RX8 yX8_slack wsX8_slack) := goodIn_app (goodIn_of _ (by decide +kernel)) ggL_slack_X8_slack
theorem dL_slack_0 : decode cL_slack 0 = .ok (.aload_n 2, 1) := by decide +kernel
theorem dL_slack_1 : decode cL_slack 1 = .ok (.iconst 0, 1) := by decide +kernel
theorem dL_slack_2 : decode cL_slack 2 = .ok (.aload_n 0, 1) := by decide +kernel
theorem dL_slack_3 : decode cL_slack 3 = .ok (.iload_n 1, 1) := by decide +kernel
theorem dL_slack_4 : decode cL_slack 4 = .ok (.invokevirtual 74, 3) := by decide +kernel
theorem dL_slack_7 : decode cL_slack 7 = .ok (.i2l, 1) := by decide +kernel
theorem dL_slack_8 : decode cL_slack 8 = .ok (.lastore, 1) := by decide +kernel
theorem dL_slack_9 : decode cL_slack 9 = .ok (.goto 6, 3) := by decide +kernel
theorem dL_slack_12 : decode cL_slack 12 = .ok (.astore_n 3, 1) := by decide +kernel
theorem dL_slack_13 : decode cL_slack 13 = .ok (.iconst 1, 1) := by decide +kernel
theorem dL_slack_14 : decode cL_slack 14 = .ok (.ireturn, 1) := by decide +kernel
theorem dL_slack_15 : decode cL_slack 15 = .ok (.iconst 0, 1) := by decide +kernel
theorem dL_slack_16 : decode cL_slack 16 = .ok (.ireturn, 1) := by decide +kernel
set_option maxRecDepth 20000 in
theorem ggL_slackByChain_X8_slackByChain : GoodIn wsL_slackByChain wsX8_slackByChain := goodIn_ca (goodIn_r _ [6, 7, 8, 9, 10, 11, 12, 5, 13, 14, 15, 16, 17, 18, 19, 20, 21, 22, 23, 24, 25, 26, 27, 28, 29, 30, 31, 32, 33, 34, 35, 36, 37, 38, 39, 40, 41, 42, 43, 44, 45, 46, 47, 48, 49, 50, 51, 52, 53, 54, 55, 56, 57, 58, 59, 60, 61, 62, 63, 64, 65, 66, 67, 68, 69, 70, 71, 72, 73, 74, 75, 76, 77, 78, 79, 80, 81, 82, 83, 84, 85, 86, 87, 88, 89, 90, 91, 92, 93, 94, 95, 96, 97, 98, 99, 100, 101, 102, 103, 104, 105, 106, 107, 108, 109, 110, 111, 112, 113, 114, 115, 116, 117, 118, 119, 120, 121, 122, 123, 124, 125, 126, 127, 128, 129, 130, 131, 132, 133, 134, 135, 136, 137, 138, 139, 140] (by decide +kernel) (by decide +kernel)) (goodIn_sub (fun _ h => List.mem_cons_of_mem _ (List.mem_append_right _ h)) (by decide +kernel))
set_option maxRecDepth 20000 in
theorem gL_slackByChain_X8_slackByChain : GoodIn wsL_slackByChain (wsV RL 77 RX8 yX8_slackByChain wsX8_slackByChain) := goodIn_app (goodIn_of _ (by decide +kernel)) ggL_slackByChain_X8_slackByChain
theorem dL_slackByChain_0 : decode cL_slackByChain 0 = .ok (.aload_n 2, 1) := by decide +kernel
theorem dL_slackByChain_1 : decode cL_slackByChain 1 = .ok (.iconst 0, 1) := by decide +kernel
theorem dL_slackByChain_2 : decode cL_slackByChain 2 = .ok (.aload_n 0, 1) := by decide +kernel
theorem dL_slackByChain_3 : decode cL_slackByChain 3 = .ok (.iload_n 1, 1) := by decide +kernel
theorem dL_slackByChain_4 : decode cL_slackByChain 4 = .ok (.invokevirtual 77, 3) := by decide +kernel
theorem dL_slackByChain_7 : decode cL_slackByChain 7 = .ok (.i2l, 1) := by decide +kernel
theorem dL_slackByChain_8 : decode cL_slackByChain 8 = .ok (.lastore, 1) := by decide +kernel
theorem dL_slackByChain_9 : decode cL_slackByChain 9 = .ok (.goto 6, 3) := by decide +kernel
theorem dL_slackByChain_12 : decode cL_slackByChain 12 = .ok (.astore_n 3, 1) := by decide +kernel
theorem dL_slackByChain_13 : decode cL_slackByChain 13 = .ok (.iconst 1, 1) := by decide +kernel
theorem dL_slackByChain_14 : decode cL_slackByChain 14 = .ok (.ireturn, 1) := by decide +kernel
theorem dL_slackByChain_15 : decode cL_slackByChain 15 = .ok (.iconst 0, 1) := by decide +kernel
theorem dL_slackByChain_16 : decode cL_slackByChain 16 = .ok (.ireturn, 1) := by decide +kernel
set_option maxRecDepth 20000 in
theorem ggL_freeSlack_X8_freeSlack : GoodIn wsL_freeSlack wsX8_freeSlack := goodIn_ca (goodIn_r _ [6, 7, 8, 9, 10, 11, 5, 12, 13, 14, 15, 16, 17, 18, 19, 20, 21, 22, 23, 24, 25, 26, 27, 28, 29, 30, 31, 32, 33, 34, 35, 36, 37, 38, 39, 40, 41, 42, 43, 44, 45, 46, 47, 48, 49, 50, 51, 52, 53, 54, 55, 56, 57, 58, 59, 60, 61, 62, 63, 64, 65, 66, 67, 68, 69, 70, 71, 72, 73, 74, 75, 76, 77, 78, 79, 80, 81, 82, 83, 84, 85, 86, 87, 88, 89, 90, 91, 92, 93, 94, 95, 96, 97, 98, 99, 100, 101, 102, 103, 104, 105, 106, 107, 108, 109, 110, 111, 112, 113, 114, 115] (by decide +kernel) (by decide +kernel)) (goodIn_sub (fun _ h => List.mem_cons_of_mem _ (List.mem_append_right _ h)) (by decide +kernel))
set_option maxRecDepth 20000 in
theorem gL_freeSlack_X8_freeSlack : GoodIn wsL_freeSlack (wsV RL 80 RX8 yX8_freeSlack wsX8_freeSlack) := goodIn_app (goodIn_of _ (by decide +kernel)) ggL_freeSlack_X8_freeSlack
theorem dL_freeSlack_0 : decode cL_freeSlack 0 = .ok (.aload_n 2, 1) := by decide +kernel
theorem dL_freeSlack_1 : decode cL_freeSlack 1 = .ok (.iconst 0, 1) := by decide +kernel
theorem dL_freeSlack_2 : decode cL_freeSlack 2 = .ok (.aload_n 0, 1) := by decide +kernel
theorem dL_freeSlack_3 : decode cL_freeSlack 3 = .ok (.iload_n 1, 1) := by decide +kernel
theorem dL_freeSlack_4 : decode cL_freeSlack 4 = .ok (.invokevirtual 80, 3) := by decide +kernel
theorem dL_freeSlack_7 : decode cL_freeSlack 7 = .ok (.i2l, 1) := by decide +kernel
theorem dL_freeSlack_8 : decode cL_freeSlack 8 = .ok (.lastore, 1) := by decide +kernel
theorem dL_freeSlack_9 : decode cL_freeSlack 9 = .ok (.goto 6, 3) := by decide +kernel
theorem dL_freeSlack_12 : decode cL_freeSlack 12 = .ok (.astore_n 3, 1) := by decide +kernel
theorem dL_freeSlack_13 : decode cL_freeSlack 13 = .ok (.iconst 1, 1) := by decide +kernel
theorem dL_freeSlack_14 : decode cL_freeSlack 14 = .ok (.ireturn, 1) := by decide +kernel
theorem dL_freeSlack_15 : decode cL_freeSlack 15 = .ok (.iconst 0, 1) := by decide +kernel
theorem dL_freeSlack_16 : decode cL_freeSlack 16 = .ok (.ireturn, 1) := by decide +kernel
set_option maxRecDepth 20000 in
theorem ggL_longestHarmless_X8_longestHarmless : GoodIn wsL_longestHarmless wsX8_longestHarmless := goodIn_ca (goodIn_r _ [6, 7, 8, 9, 10, 11, 12, 5, 13, 14, 15, 16, 17, 18, 19, 20, 21, 22, 23, 24, 25, 26, 27, 28, 29, 30, 31, 32, 33, 34, 35, 36, 37, 38, 39, 40, 41, 42, 43, 44, 45, 46, 47, 48, 49, 50, 51, 52, 53, 54, 55, 56, 57, 58, 59, 60, 61, 62, 63, 64, 65, 66, 67, 68, 69, 70, 71, 72, 73, 74, 75, 76, 77, 78, 79, 80, 81, 82, 83, 84, 85, 86, 87, 88, 89, 90, 91, 92, 93, 94, 95, 96, 97, 98, 99, 100, 101, 102, 103, 104, 105, 106, 107, 108, 109, 110, 111, 112, 113, 114, 115] (by decide +kernel) (by decide +kernel)) (goodIn_sub (fun _ h => List.mem_cons_of_mem _ (List.mem_append_right _ h)) (by decide +kernel))
set_option maxRecDepth 20000 in
theorem gL_longestHarmless_X8_longestHarmless : GoodIn wsL_longestHarmless (wsV RL 83 RX8 yX8_longestHarmless wsX8_longestHarmless) := goodIn_app (goodIn_of _ (by decide +kernel)) ggL_longestHarmless_X8_longestHarmless
theorem dL_longestHarmless_0 : decode cL_longestHarmless 0 = .ok (.aload_n 2, 1) := by decide +kernel
theorem dL_longestHarmless_1 : decode cL_longestHarmless 1 = .ok (.iconst 0, 1) := by decide +kernel
theorem dL_longestHarmless_2 : decode cL_longestHarmless 2 = .ok (.aload_n 0, 1) := by decide +kernel
theorem dL_longestHarmless_3 : decode cL_longestHarmless 3 = .ok (.iload_n 1, 1) := by decide +kernel
theorem dL_longestHarmless_4 : decode cL_longestHarmless 4 = .ok (.invokevirtual 83, 3) := by decide +kernel
theorem dL_longestHarmless_7 : decode cL_longestHarmless 7 = .ok (.i2l, 1) := by decide +kernel
theorem dL_longestHarmless_8 : decode cL_longestHarmless 8 = .ok (.lastore, 1) := by decide +kernel
theorem dL_longestHarmless_9 : decode cL_longestHarmless 9 = .ok (.goto 6, 3) := by decide +kernel
theorem dL_longestHarmless_12 : decode cL_longestHarmless 12 = .ok (.astore_n 3, 1) := by decide +kernel
theorem dL_longestHarmless_13 : decode cL_longestHarmless 13 = .ok (.iconst 1, 1) := by decide +kernel
theorem dL_longestHarmless_14 : decode cL_longestHarmless 14 = .ok (.ireturn, 1) := by decide +kernel
theorem dL_longestHarmless_15 : decode cL_longestHarmless 15 = .ok (.iconst 0, 1) := by decide +kernel
theorem dL_longestHarmless_16 : decode cL_longestHarmless 16 = .ok (.ireturn, 1) := by decide +kernel
set_option maxRecDepth 20000 in
theorem ggL_delayOfPlan_X8_delayOfPlan : GoodIn wsL_delayOfPlan wsX8_delayOfPlan := goodIn_ca (goodIn_ca (goodIn_r _ [7, 8, 9, 10, 11, 12, 13, 6, 14, 15, 16, 17, 18, 19, 20, 21, 22, 23, 24, 25, 26, 27, 28, 29, 30, 31, 32, 33, 34, 35, 36, 37, 38, 39, 40, 41, 42, 43, 44, 45, 46, 47, 48, 49, 50, 51, 52, 53, 54, 55, 56, 57, 58, 59, 60, 61, 62, 63, 64, 65, 66, 67, 68, 69, 70, 71, 72, 73, 74, 75, 76, 77, 78, 79, 80, 81, 82, 83, 84, 85, 86, 87, 88, 89, 90, 91, 92, 93, 94, 95, 96, 97, 98, 99, 100, 101, 102, 103, 104, 105, 106, 107, 108, 109, 110, 111, 112, 113, 114, 115, 116, 117, 118, 119, 120, 121, 122, 123] (by decide +kernel) (by decide +kernel)) (goodIn_sub (fun _ h => List.mem_cons_of_mem _ (List.mem_append_left _ (List.mem_append_right _ h))) (by decide +kernel))) (goodIn_sub (fun _ h => List.mem_cons_of_mem _ (List.mem_append_right _ h)) (by decide +kernel))
set_option maxRecDepth 20000 in
theorem gL_delayOfPlan_X8_delayOfPlan : GoodIn wsL_delayOfPlan (wsV RL 86 RX8 yX8_delayOfPlan wsX8_delayOfPlan) := goodIn_app (goodIn_of _ (by decide +kernel)) ggL_delayOfPlan_X8_delayOfPlan
theorem dL_delayOfPlan_0 : decode cL_delayOfPlan 0 = .ok (.aload_n 3, 1) := by decide +kernel
theorem dL_delayOfPlan_1 : decode cL_delayOfPlan 1 = .ok (.iconst 0, 1) := by decide +kernel
theorem dL_delayOfPlan_2 : decode cL_delayOfPlan 2 = .ok (.aload_n 0, 1) := by decide +kernel
theorem dL_delayOfPlan_3 : decode cL_delayOfPlan 3 = .ok (.iload_n 1, 1) := by decide +kernel
theorem dL_delayOfPlan_4 : decode cL_delayOfPlan 4 = .ok (.iload_n 2, 1) := by decide +kernel
theorem dL_delayOfPlan_5 : decode cL_delayOfPlan 5 = .ok (.invokevirtual 86, 3) := by decide +kernel
theorem dL_delayOfPlan_8 : decode cL_delayOfPlan 8 = .ok (.i2l, 1) := by decide +kernel
theorem dL_delayOfPlan_9 : decode cL_delayOfPlan 9 = .ok (.lastore, 1) := by decide +kernel
theorem dL_delayOfPlan_10 : decode cL_delayOfPlan 10 = .ok (.goto 11, 3) := by decide +kernel
theorem dL_delayOfPlan_13 : decode cL_delayOfPlan 13 = .ok (.astore 4, 2) := by decide +kernel
theorem dL_delayOfPlan_15 : decode cL_delayOfPlan 15 = .ok (.iconst 1, 1) := by decide +kernel
theorem dL_delayOfPlan_16 : decode cL_delayOfPlan 16 = .ok (.ireturn, 1) := by decide +kernel
theorem dL_delayOfPlan_17 : decode cL_delayOfPlan 17 = .ok (.astore 4, 2) := by decide +kernel
theorem dL_delayOfPlan_19 : decode cL_delayOfPlan 19 = .ok (.iconst 2, 1) := by decide +kernel
theorem dL_delayOfPlan_20 : decode cL_delayOfPlan 20 = .ok (.ireturn, 1) := by decide +kernel
theorem dL_delayOfPlan_21 : decode cL_delayOfPlan 21 = .ok (.iconst 0, 1) := by decide +kernel
theorem dL_delayOfPlan_22 : decode cL_delayOfPlan 22 = .ok (.ireturn, 1) := by decide +kernel
set_option maxRecDepth 20000 in
theorem ggL_delayBySlack_X8_delayBySlack : GoodIn wsL_delayBySlack wsX8_delayBySlack := goodIn_ca (goodIn_ca (goodIn_r _ [7, 8, 9, 10, 11, 12, 13, 14, 15, 16, 6, 17, 18, 19, 20, 21, 22, 23, 24, 25, 26, 27, 28, 29, 30, 31, 32, 33, 34, 35, 36, 37, 38, 39, 40, 41, 42, 43, 44, 45, 46, 47, 48, 49, 50, 51, 52, 53, 54, 55, 56, 57, 58, 59, 60, 61, 62, 63, 64, 65, 66, 67, 68, 69, 70, 71, 72, 73, 74, 75, 76, 77, 78, 79, 80, 81, 82, 83, 84, 85, 86, 87, 88, 89, 90, 91, 92, 93, 94, 95, 96, 97, 98, 99, 100, 101, 102, 103, 104, 105, 106, 107, 108, 109, 110, 111, 112, 113, 114, 115, 116, 117, 118, 119, 120, 121, 122] (by decide +kernel) (by decide +kernel)) (goodIn_sub (fun _ h => List.mem_cons_of_mem _ (List.mem_append_left _ (List.mem_append_right _ h))) (by decide +kernel))) (goodIn_sub (fun _ h => List.mem_cons_of_mem _ (List.mem_append_right _ h)) (by decide +kernel))
set_option maxRecDepth 20000 in
theorem gL_delayBySlack_X8_delayBySlack : GoodIn wsL_delayBySlack (wsV RL 89 RX8 yX8_delayBySlack wsX8_delayBySlack) := goodIn_app (goodIn_of _ (by decide +kernel)) ggL_delayBySlack_X8_delayBySlack
theorem dL_delayBySlack_0 : decode cL_delayBySlack 0 = .ok (.aload_n 3, 1) := by decide +kernel
theorem dL_delayBySlack_1 : decode cL_delayBySlack 1 = .ok (.iconst 0, 1) := by decide +kernel
theorem dL_delayBySlack_2 : decode cL_delayBySlack 2 = .ok (.aload_n 0, 1) := by decide +kernel
theorem dL_delayBySlack_3 : decode cL_delayBySlack 3 = .ok (.iload_n 1, 1) := by decide +kernel
theorem dL_delayBySlack_4 : decode cL_delayBySlack 4 = .ok (.iload_n 2, 1) := by decide +kernel
theorem dL_delayBySlack_5 : decode cL_delayBySlack 5 = .ok (.invokevirtual 89, 3) := by decide +kernel
theorem dL_delayBySlack_8 : decode cL_delayBySlack 8 = .ok (.i2l, 1) := by decide +kernel
theorem dL_delayBySlack_9 : decode cL_delayBySlack 9 = .ok (.lastore, 1) := by decide +kernel
theorem dL_delayBySlack_10 : decode cL_delayBySlack 10 = .ok (.goto 11, 3) := by decide +kernel
theorem dL_delayBySlack_13 : decode cL_delayBySlack 13 = .ok (.astore 4, 2) := by decide +kernel
theorem dL_delayBySlack_15 : decode cL_delayBySlack 15 = .ok (.iconst 1, 1) := by decide +kernel
theorem dL_delayBySlack_16 : decode cL_delayBySlack 16 = .ok (.ireturn, 1) := by decide +kernel
theorem dL_delayBySlack_17 : decode cL_delayBySlack 17 = .ok (.astore 4, 2) := by decide +kernel
theorem dL_delayBySlack_19 : decode cL_delayBySlack 19 = .ok (.iconst 2, 1) := by decide +kernel
theorem dL_delayBySlack_20 : decode cL_delayBySlack 20 = .ok (.ireturn, 1) := by decide +kernel
theorem dL_delayBySlack_21 : decode cL_delayBySlack 21 = .ok (.iconst 0, 1) := by decide +kernel
theorem dL_delayBySlack_22 : decode cL_delayBySlack 22 = .ok (.ireturn, 1) := by decide +kernel
set_option maxRecDepth 20000 in
theorem ggL_tasksMoved_X8_tasksMoved : GoodIn wsL_tasksMoved wsX8_tasksMoved := goodIn_ca (goodIn_ca (goodIn_r _ [7, 8, 9, 10, 11, 12, 13, 14, 15, 6, 16, 17, 18, 19, 20, 21, 22, 23, 24, 25, 26, 27, 28, 29, 30, 31, 32, 33, 34, 35, 36, 37, 38, 39, 40, 41, 42, 43, 44, 45, 46, 47, 48, 49, 50, 51, 52, 53, 54, 55, 56, 57, 58, 59, 60, 61, 62, 63, 64, 65, 66, 67, 68, 69, 70, 71, 72, 73, 74, 75, 76, 77, 78, 79, 80, 81, 82, 83, 84, 85, 86, 87, 88, 89, 90, 91, 92, 93, 94, 95, 96, 97, 98, 99, 100, 101, 102, 103, 104, 105, 106, 107, 108, 109, 110, 111, 112, 113, 114, 115, 116, 117, 118, 119, 120, 121, 122, 123, 124, 125] (by decide +kernel) (by decide +kernel)) (goodIn_sub (fun _ h => List.mem_cons_of_mem _ (List.mem_append_left _ (List.mem_append_right _ h))) (by decide +kernel))) (goodIn_sub (fun _ h => List.mem_cons_of_mem _ (List.mem_append_right _ h)) (by decide +kernel))
set_option maxRecDepth 20000 in
theorem gL_tasksMoved_X8_tasksMoved : GoodIn wsL_tasksMoved (wsV RL 92 RX8 yX8_tasksMoved wsX8_tasksMoved) := goodIn_app (goodIn_of _ (by decide +kernel)) ggL_tasksMoved_X8_tasksMoved
theorem dL_tasksMoved_0 : decode cL_tasksMoved 0 = .ok (.aload_n 3, 1) := by decide +kernel
theorem dL_tasksMoved_1 : decode cL_tasksMoved 1 = .ok (.iconst 0, 1) := by decide +kernel
theorem dL_tasksMoved_2 : decode cL_tasksMoved 2 = .ok (.aload_n 0, 1) := by decide +kernel
theorem dL_tasksMoved_3 : decode cL_tasksMoved 3 = .ok (.iload_n 1, 1) := by decide +kernel
theorem dL_tasksMoved_4 : decode cL_tasksMoved 4 = .ok (.iload_n 2, 1) := by decide +kernel
theorem dL_tasksMoved_5 : decode cL_tasksMoved 5 = .ok (.invokevirtual 92, 3) := by decide +kernel
theorem dL_tasksMoved_8 : decode cL_tasksMoved 8 = .ok (.i2l, 1) := by decide +kernel
theorem dL_tasksMoved_9 : decode cL_tasksMoved 9 = .ok (.lastore, 1) := by decide +kernel
theorem dL_tasksMoved_10 : decode cL_tasksMoved 10 = .ok (.goto 11, 3) := by decide +kernel
theorem dL_tasksMoved_13 : decode cL_tasksMoved 13 = .ok (.astore 4, 2) := by decide +kernel
theorem dL_tasksMoved_15 : decode cL_tasksMoved 15 = .ok (.iconst 1, 1) := by decide +kernel
theorem dL_tasksMoved_16 : decode cL_tasksMoved 16 = .ok (.ireturn, 1) := by decide +kernel
theorem dL_tasksMoved_17 : decode cL_tasksMoved 17 = .ok (.astore 4, 2) := by decide +kernel
theorem dL_tasksMoved_19 : decode cL_tasksMoved 19 = .ok (.iconst 2, 1) := by decide +kernel
theorem dL_tasksMoved_20 : decode cL_tasksMoved 20 = .ok (.ireturn, 1) := by decide +kernel
theorem dL_tasksMoved_21 : decode cL_tasksMoved 21 = .ok (.iconst 0, 1) := by decide +kernel
theorem dL_tasksMoved_22 : decode cL_tasksMoved 22 = .ok (.ireturn, 1) := by decide +kernel
set_option maxRecDepth 20000 in
theorem ggL_scheduledStart_X8_scheduledStart : GoodIn wsL_scheduledStart wsX8_scheduledStart := goodIn_ca (goodIn_ca (goodIn_r _ [7, 8, 9, 10, 11, 12, 6, 13, 14, 15, 16, 17, 18, 19, 20, 21, 22, 23, 24, 25, 26, 27, 28, 29, 30, 31, 32, 33, 34, 35, 36, 37, 38, 39, 40, 41, 42, 43, 44, 45, 46, 47, 48, 49, 50, 51, 52, 53, 54, 55, 56, 57, 58, 59, 60, 61, 62, 63, 64, 65, 66, 67, 68, 69, 70, 71, 72, 73, 74, 75, 76, 77, 78, 79, 80, 81, 82, 83, 84, 85, 86, 87, 88, 89, 90, 91, 92, 93, 94, 95, 96, 97, 98, 99, 100, 101, 102, 103, 104, 105, 106, 107, 108, 109, 110, 111, 112, 113, 114, 115, 116, 117, 118, 119, 120, 121, 122, 123, 124, 125, 126, 127, 128, 129, 130, 131, 132, 133, 134, 135, 136, 137, 138, 139, 140, 141, 142, 143, 144, 145, 146, 147, 148, 149, 150, 151, 152, 153, 154, 155, 156, 157, 158] (by decide +kernel) (by decide +kernel)) (goodIn_sub (fun _ h => List.mem_cons_of_mem _ (List.mem_append_left _ (List.mem_append_right _ h))) (by decide +kernel))) (goodIn_sub (fun _ h => List.mem_cons_of_mem _ (List.mem_append_right _ h)) (by decide +kernel))
set_option maxRecDepth 20000 in
theorem gL_scheduledStart_X8_scheduledStart : GoodIn wsL_scheduledStart (wsV RL 95 RX8 yX8_scheduledStart wsX8_scheduledStart) := goodIn_app (goodIn_of _ (by decide +kernel)) ggL_scheduledStart_X8_scheduledStart
theorem dL_scheduledStart_0 : decode cL_scheduledStart 0 = .ok (.aload_n 2, 1) := by decide +kernel
theorem dL_scheduledStart_1 : decode cL_scheduledStart 1 = .ok (.iconst 0, 1) := by decide +kernel
theorem dL_scheduledStart_2 : decode cL_scheduledStart 2 = .ok (.aload_n 0, 1) := by decide +kernel
theorem dL_scheduledStart_3 : decode cL_scheduledStart 3 = .ok (.iload_n 1, 1) := by decide +kernel
theorem dL_scheduledStart_4 : decode cL_scheduledStart 4 = .ok (.invokevirtual 95, 3) := by decide +kernel
theorem dL_scheduledStart_7 : decode cL_scheduledStart 7 = .ok (.i2l, 1) := by decide +kernel
theorem dL_scheduledStart_8 : decode cL_scheduledStart 8 = .ok (.lastore, 1) := by decide +kernel
theorem dL_scheduledStart_9 : decode cL_scheduledStart 9 = .ok (.goto 9, 3) := by decide +kernel
theorem dL_scheduledStart_12 : decode cL_scheduledStart 12 = .ok (.astore_n 3, 1) := by decide +kernel
theorem dL_scheduledStart_13 : decode cL_scheduledStart 13 = .ok (.iconst 1, 1) := by decide +kernel
theorem dL_scheduledStart_14 : decode cL_scheduledStart 14 = .ok (.ireturn, 1) := by decide +kernel
theorem dL_scheduledStart_15 : decode cL_scheduledStart 15 = .ok (.astore_n 3, 1) := by decide +kernel
theorem dL_scheduledStart_16 : decode cL_scheduledStart 16 = .ok (.iconst 2, 1) := by decide +kernel
theorem dL_scheduledStart_17 : decode cL_scheduledStart 17 = .ok (.ireturn, 1) := by decide +kernel
theorem dL_scheduledStart_18 : decode cL_scheduledStart 18 = .ok (.iconst 0, 1) := by decide +kernel
theorem dL_scheduledStart_19 : decode cL_scheduledStart 19 = .ok (.ireturn, 1) := by decide +kernel
set_option maxRecDepth 20000 in
theorem ggL_crewsOn_X8_crewsOn : GoodIn wsL_crewsOn wsX8_crewsOn := goodIn_ca (goodIn_ca (goodIn_r _ [7, 8, 9, 10, 11, 12, 6, 13, 14, 15, 16, 17, 18, 19, 20, 21, 22, 23, 24, 25, 26, 27, 28, 29, 30, 31, 32, 33, 34, 35, 36, 37, 38, 39, 40, 41, 42, 43, 44, 45, 46, 47, 48, 49, 50, 51, 52, 53, 54, 55, 56, 57, 58, 59, 60, 61, 62, 63, 64, 65, 66, 67, 68, 69, 70, 71, 72, 73, 74, 75, 76, 77, 78, 79, 80, 81, 82, 83, 84, 85, 86, 87, 88, 89, 90, 91, 92, 93, 94, 95, 96, 97, 98, 99, 100, 101, 102, 103, 104, 105, 106, 107, 108, 109, 110, 111, 112, 113, 114, 115, 116, 117, 118, 119, 120, 121, 122, 123, 124, 125, 126, 127, 128, 129, 130, 131, 132, 133, 134, 135, 136, 137, 138, 139, 140, 141, 142, 143, 144, 145, 146, 147, 148, 149, 150, 151, 152, 153, 154, 155, 156, 157] (by decide +kernel) (by decide +kernel)) (goodIn_sub (fun _ h => List.mem_cons_of_mem _ (List.mem_append_left _ (List.mem_append_right _ h))) (by decide +kernel))) (goodIn_sub (fun _ h => List.mem_cons_of_mem _ (List.mem_append_right _ h)) (by decide +kernel))
set_option maxRecDepth 20000 in
theorem gL_crewsOn_X8_crewsOn : GoodIn wsL_crewsOn (wsV RL 98 RX8 yX8_crewsOn wsX8_crewsOn) := goodIn_app (goodIn_of _ (by decide +kernel)) ggL_crewsOn_X8_crewsOn
theorem dL_crewsOn_0 : decode cL_crewsOn 0 = .ok (.aload_n 2, 1) := by decide +kernel
theorem dL_crewsOn_1 : decode cL_crewsOn 1 = .ok (.iconst 0, 1) := by decide +kernel
theorem dL_crewsOn_2 : decode cL_crewsOn 2 = .ok (.aload_n 0, 1) := by decide +kernel
theorem dL_crewsOn_3 : decode cL_crewsOn 3 = .ok (.iload_n 1, 1) := by decide +kernel
theorem dL_crewsOn_4 : decode cL_crewsOn 4 = .ok (.invokevirtual 98, 3) := by decide +kernel
theorem dL_crewsOn_7 : decode cL_crewsOn 7 = .ok (.i2l, 1) := by decide +kernel
theorem dL_crewsOn_8 : decode cL_crewsOn 8 = .ok (.lastore, 1) := by decide +kernel
theorem dL_crewsOn_9 : decode cL_crewsOn 9 = .ok (.goto 9, 3) := by decide +kernel
theorem dL_crewsOn_12 : decode cL_crewsOn 12 = .ok (.astore_n 3, 1) := by decide +kernel
theorem dL_crewsOn_13 : decode cL_crewsOn 13 = .ok (.iconst 1, 1) := by decide +kernel
theorem dL_crewsOn_14 : decode cL_crewsOn 14 = .ok (.ireturn, 1) := by decide +kernel
theorem dL_crewsOn_15 : decode cL_crewsOn 15 = .ok (.astore_n 3, 1) := by decide +kernel
theorem dL_crewsOn_16 : decode cL_crewsOn 16 = .ok (.iconst 2, 1) := by decide +kernel
theorem dL_crewsOn_17 : decode cL_crewsOn 17 = .ok (.ireturn, 1) := by decide +kernel
theorem dL_crewsOn_18 : decode cL_crewsOn 18 = .ok (.iconst 0, 1) := by decide +kernel
theorem dL_crewsOn_19 : decode cL_crewsOn 19 = .ok (.ireturn, 1) := by decide +kernel
set_option maxRecDepth 20000 in
theorem ggL_scheduleLength_X8_scheduleLength : GoodIn wsL_scheduleLength wsX8_scheduleLength := goodIn_ca (goodIn_r _ [6, 7, 8, 9, 10, 11, 5, 12, 13, 14, 15, 16, 17, 18, 19, 20, 21, 22, 23, 24, 25, 26, 27, 28, 29, 30, 31, 32, 33, 34, 35, 36, 37, 38, 39, 40, 41, 42, 43, 44, 45, 46, 47, 48, 49, 50, 51, 52, 53, 54, 55, 56, 57, 58, 59, 60, 61, 62, 63, 64, 65, 66, 67, 68, 69, 70, 71, 72, 73, 74, 75, 76, 77, 78, 79, 80, 81, 82, 83, 84, 85, 86, 87, 88, 89, 90, 91, 92, 93, 94, 95, 96, 97, 98, 99, 100, 101, 102, 103, 104, 105, 106, 107, 108, 109, 110, 111, 112, 113, 114, 115, 116, 117, 118, 119, 120, 121, 122, 123, 124, 125, 126, 127, 128, 129, 130, 131, 132, 133, 134, 135, 136, 137, 138, 139, 140, 141, 142, 143, 144, 145, 146, 147, 148, 149, 150] (by decide +kernel) (by decide +kernel)) (goodIn_sub (fun _ h => List.mem_cons_of_mem _ (List.mem_append_right _ h)) (by decide +kernel))
set_option maxRecDepth 20000 in
theorem gL_scheduleLength_X8_scheduleLength : GoodIn wsL_scheduleLength (wsV RL 101 RX8 yX8_scheduleLength wsX8_scheduleLength) := goodIn_app (goodIn_of _ (by decide +kernel)) ggL_scheduleLength_X8_scheduleLength
theorem dL_scheduleLength_0 : decode cL_scheduleLength 0 = .ok (.aload_n 1, 1) := by decide +kernel
theorem dL_scheduleLength_1 : decode cL_scheduleLength 1 = .ok (.iconst 0, 1) := by decide +kernel
theorem dL_scheduleLength_2 : decode cL_scheduleLength 2 = .ok (.aload_n 0, 1) := by decide +kernel
theorem dL_scheduleLength_3 : decode cL_scheduleLength 3 = .ok (.invokevirtual 101, 3) := by decide +kernel
theorem dL_scheduleLength_6 : decode cL_scheduleLength 6 = .ok (.i2l, 1) := by decide +kernel
theorem dL_scheduleLength_7 : decode cL_scheduleLength 7 = .ok (.lastore, 1) := by decide +kernel
theorem dL_scheduleLength_8 : decode cL_scheduleLength 8 = .ok (.goto 6, 3) := by decide +kernel
theorem dL_scheduleLength_11 : decode cL_scheduleLength 11 = .ok (.astore_n 2, 1) := by decide +kernel
theorem dL_scheduleLength_12 : decode cL_scheduleLength 12 = .ok (.iconst 1, 1) := by decide +kernel
theorem dL_scheduleLength_13 : decode cL_scheduleLength 13 = .ok (.ireturn, 1) := by decide +kernel
theorem dL_scheduleLength_14 : decode cL_scheduleLength 14 = .ok (.iconst 0, 1) := by decide +kernel
theorem dL_scheduleLength_15 : decode cL_scheduleLength 15 = .ok (.ireturn, 1) := by decide +kernel
set_option maxRecDepth 20000 in
theorem ggL_workByDays_X8_workByDays : GoodIn wsL_workByDays wsX8_workByDays := goodIn_ca (goodIn_r _ [6, 7, 8, 9, 10, 5, 11, 12, 13, 14, 15, 16, 17, 18, 19, 20, 21, 22, 23, 24, 25, 26, 27, 28, 29, 30, 31, 32, 33, 34, 35, 36, 37, 38, 39, 40, 41, 42, 43, 44, 45, 46, 47, 48, 49, 50, 51, 52, 53, 54, 55, 56, 57, 58, 59, 60, 61, 62, 63, 64, 65, 66, 67, 68, 69, 70, 71, 72, 73, 74, 75, 76, 77, 78, 79, 80, 81, 82, 83, 84, 85, 86, 87, 88, 89, 90, 91, 92, 93, 94, 95, 96, 97, 98, 99, 100, 101, 102, 103, 104, 105, 106, 107, 108, 109, 110, 111, 112, 113, 114, 115, 116, 117, 118, 119, 120, 121, 122, 123, 124, 125, 126, 127, 128, 129, 130, 131, 132, 133, 134, 135, 136, 137, 138, 139, 140, 141, 142, 143, 144, 145, 146, 147, 148, 149, 150, 151, 152, 153] (by decide +kernel) (by decide +kernel)) (goodIn_sub (fun _ h => List.mem_cons_of_mem _ (List.mem_append_right _ h)) (by decide +kernel))
set_option maxRecDepth 20000 in
theorem gL_workByDays_X8_workByDays : GoodIn wsL_workByDays (wsV RL 104 RX8 yX8_workByDays wsX8_workByDays) := goodIn_app (goodIn_of _ (by decide +kernel)) ggL_workByDays_X8_workByDays
theorem dL_workByDays_0 : decode cL_workByDays 0 = .ok (.aload_n 1, 1) := by decide +kernel
theorem dL_workByDays_1 : decode cL_workByDays 1 = .ok (.iconst 0, 1) := by decide +kernel
theorem dL_workByDays_2 : decode cL_workByDays 2 = .ok (.aload_n 0, 1) := by decide +kernel
theorem dL_workByDays_3 : decode cL_workByDays 3 = .ok (.invokevirtual 104, 3) := by decide +kernel
theorem dL_workByDays_6 : decode cL_workByDays 6 = .ok (.i2l, 1) := by decide +kernel
theorem dL_workByDays_7 : decode cL_workByDays 7 = .ok (.lastore, 1) := by decide +kernel
theorem dL_workByDays_8 : decode cL_workByDays 8 = .ok (.goto 6, 3) := by decide +kernel
theorem dL_workByDays_11 : decode cL_workByDays 11 = .ok (.astore_n 2, 1) := by decide +kernel
theorem dL_workByDays_12 : decode cL_workByDays 12 = .ok (.iconst 1, 1) := by decide +kernel
theorem dL_workByDays_13 : decode cL_workByDays 13 = .ok (.ireturn, 1) := by decide +kernel
theorem dL_workByDays_14 : decode cL_workByDays 14 = .ok (.iconst 0, 1) := by decide +kernel
theorem dL_workByDays_15 : decode cL_workByDays 15 = .ok (.ireturn, 1) := by decide +kernel
set_option maxRecDepth 20000 in
theorem ggL_leastCrews_X8_leastCrews : GoodIn wsL_leastCrews wsX8_leastCrews := goodIn_ca (goodIn_r _ [6, 7, 8, 9, 10, 11, 12, 13, 14, 15, 16, 17, 18, 19, 20, 21, 22, 23, 24, 25, 26, 27, 28, 29, 30, 31, 32, 33, 34, 35, 36, 37, 38, 39, 40, 41, 42, 43, 44, 45, 46, 47, 48, 49, 50, 51, 52, 53, 54, 55, 56, 57, 58, 59, 60, 61, 62, 63, 64, 65, 66, 67, 68, 69, 70, 71, 72, 73, 74, 75, 76, 77, 78, 79, 80, 81, 82, 83, 84, 85, 86, 87, 88, 89, 90, 91, 92, 93, 94, 95, 96, 97, 98, 99, 100, 101, 102, 103, 104, 105, 106, 107, 108, 109, 110, 111, 112, 113, 114, 115, 116, 117, 118, 119, 120, 121, 122, 123, 124, 125, 126, 127, 128, 129, 130, 131, 132, 133, 134, 135, 136, 137, 138, 139, 140, 141, 142, 143, 144, 145] (by decide +kernel) (by decide +kernel)) (goodIn_sub (fun _ h => List.mem_cons_of_mem _ (List.mem_append_right _ h)) (by decide +kernel))
set_option maxRecDepth 20000 in
theorem gL_leastCrews_X8_leastCrews : GoodIn wsL_leastCrews (wsV RL 107 RX8 yX8_leastCrews wsX8_leastCrews) := goodIn_app (goodIn_of _ (by decide +kernel)) ggL_leastCrews_X8_leastCrews
theorem dL_leastCrews_0 : decode cL_leastCrews 0 = .ok (.aload_n 1, 1) := by decide +kernel
theorem dL_leastCrews_1 : decode cL_leastCrews 1 = .ok (.iconst 0, 1) := by decide +kernel
theorem dL_leastCrews_2 : decode cL_leastCrews 2 = .ok (.aload_n 0, 1) := by decide +kernel
theorem dL_leastCrews_3 : decode cL_leastCrews 3 = .ok (.invokevirtual 107, 3) := by decide +kernel
theorem dL_leastCrews_6 : decode cL_leastCrews 6 = .ok (.i2l, 1) := by decide +kernel
theorem dL_leastCrews_7 : decode cL_leastCrews 7 = .ok (.lastore, 1) := by decide +kernel
theorem dL_leastCrews_8 : decode cL_leastCrews 8 = .ok (.goto 6, 3) := by decide +kernel
theorem dL_leastCrews_11 : decode cL_leastCrews 11 = .ok (.astore_n 2, 1) := by decide +kernel
theorem dL_leastCrews_12 : decode cL_leastCrews 12 = .ok (.iconst 1, 1) := by decide +kernel
theorem dL_leastCrews_13 : decode cL_leastCrews 13 = .ok (.ireturn, 1) := by decide +kernel
theorem dL_leastCrews_14 : decode cL_leastCrews 14 = .ok (.iconst 0, 1) := by decide +kernel
theorem dL_leastCrews_15 : decode cL_leastCrews 15 = .ok (.ireturn, 1) := by decide +kernel
set_option maxRecDepth 20000 in
theorem ggL_usage_X8_usage : GoodIn wsL_usage wsX8_usage := goodIn_ca (goodIn_r _ [6, 7, 8, 9, 10, 11, 12, 13, 5, 14, 15, 16, 17, 18, 19, 20, 21, 22, 23, 24, 25, 26, 27, 28, 29, 30, 31, 32, 33, 34, 35, 36, 37, 38, 39, 40, 41, 42, 43, 44, 45, 46, 47, 48, 49, 50, 51, 52, 53, 54, 55, 56, 57, 58, 59, 60, 61, 62, 63, 64, 65, 66, 67, 68, 69, 70, 71, 72, 73, 74, 75, 76, 77, 78, 79, 80, 81, 82, 83, 84, 85, 86, 87, 88, 89, 90, 91, 92, 93, 94, 95, 96, 97, 98, 99, 100, 101, 102, 103, 104, 105, 106, 107, 108, 109, 110, 111, 112, 113, 114, 115, 116, 117, 118, 119, 120, 121, 122, 123, 124, 125, 126, 127, 128, 129, 130, 131, 132, 133, 134, 135, 136, 137, 138, 139, 140, 141, 142, 143, 144, 145, 146, 147, 148, 149, 150, 151, 152, 153, 154, 155, 156] (by decide +kernel) (by decide +kernel)) (goodIn_sub (fun _ h => List.mem_cons_of_mem _ (List.mem_append_right _ h)) (by decide +kernel))
set_option maxRecDepth 20000 in
theorem gL_usage_X8_usage : GoodIn wsL_usage (wsV RL 110 RX8 yX8_usage wsX8_usage) := goodIn_app (goodIn_of _ (by decide +kernel)) ggL_usage_X8_usage
theorem dL_usage_0 : decode cL_usage 0 = .ok (.aload_n 1, 1) := by decide +kernel
theorem dL_usage_1 : decode cL_usage 1 = .ok (.iconst 0, 1) := by decide +kernel
theorem dL_usage_2 : decode cL_usage 2 = .ok (.aload_n 0, 1) := by decide +kernel
theorem dL_usage_3 : decode cL_usage 3 = .ok (.invokevirtual 110, 3) := by decide +kernel
theorem dL_usage_6 : decode cL_usage 6 = .ok (.dastore, 1) := by decide +kernel
theorem dL_usage_7 : decode cL_usage 7 = .ok (.goto 6, 3) := by decide +kernel
theorem dL_usage_10 : decode cL_usage 10 = .ok (.astore_n 2, 1) := by decide +kernel
theorem dL_usage_11 : decode cL_usage 11 = .ok (.iconst 1, 1) := by decide +kernel
theorem dL_usage_12 : decode cL_usage 12 = .ok (.ireturn, 1) := by decide +kernel
theorem dL_usage_13 : decode cL_usage 13 = .ok (.iconst 0, 1) := by decide +kernel
theorem dL_usage_14 : decode cL_usage 14 = .ok (.ireturn, 1) := by decide +kernel
set_option maxRecDepth 20000 in
theorem ggL_law_X8_init : GoodIn wsL_law wsX8_init := goodIn_r _ [10, 11, 12, 13, 14, 15, 16, 17, 18, 19, 20, 21, 22, 23, 24, 25, 26, 27, 28, 29, 30, 31, 32, 33, 34, 35, 36, 37, 38, 39, 40, 41, 42, 43, 44, 45, 46, 47, 48, 49, 50, 51, 52, 53, 54, 55, 56, 57, 58, 59, 60, 61, 62, 63, 64, 65, 66, 67, 68, 69, 70, 71, 72, 73, 74, 75, 76, 77, 78, 79, 80, 81, 82, 83, 84, 85, 86, 87, 88, 89, 90, 91, 92, 93, 94, 95, 96, 97, 98, 99, 100, 101, 102, 103, 104, 105, 106, 107, 108, 6, 109, 110, 111, 112, 113, 114, 115, 116, 954, 955, 956, 957, 958, 959, 928, 929, 930, 931, 932, 933, 934, 935, 936, 937, 960, 961, 962, 963, 964, 965, 966, 967, 968, 969, 970, 971, 972, 973, 974, 975, 976, 977, 978, 979, 980, 981, 982, 983, 984] (by decide +kernel) (by decide +kernel)
set_option maxRecDepth 20000 in
theorem gL_law_X8_init : GoodIn wsL_law (wsX8_init) := ggL_law_X8_init
set_option maxRecDepth 20000 in
theorem ggL_law_X9_init : GoodIn wsL_law wsX9_init := goodIn_r _ [119, 120, 12, 13, 52, 121, 122, 123, 124, 125, 126, 127, 128, 129, 6, 130, 131, 938, 939, 940, 941, 942, 943, 944, 945, 946, 947, 948, 949, 950, 951, 952, 953] (by decide +kernel) (by decide +kernel)
set_option maxRecDepth 20000 in
theorem gL_law_X9_init : GoodIn wsL_law (wsX9_init) := ggL_law_X9_init
set_option maxRecDepth 20000 in
theorem ggL_law_L_addTask : GoodIn wsL_law wsL_addTask := goodIn_ca (goodIn_ca (goodIn_r _ [135, 136, 137, 138, 139, 140, 2, 141, 142, 143, 17, 144, 23, 145, 146, 147, 148, 149, 150, 151, 152, 153, 22, 154, 64, 65, 67, 155, 156, 157, 16, 158, 51, 159, 160, 161, 162, 49, 50, 53, 163, 164, 165, 166, 54, 55, 167, 168, 169, 170, 928, 929, 930, 931, 932, 933, 934, 935, 936, 937, 954, 955, 956, 957, 958, 959, 960, 961, 962] (by decide +kernel) (by decide +kernel)) (goodIn_sub (fun _ h => List.mem_append_left _ (List.mem_append_left _ (List.mem_append_left _ (List.mem_append_right _ h)))) (by decide +kernel))) (goodIn_sub (fun _ h => List.mem_append_left _ (List.mem_append_left _ (List.mem_append_right _ h))) (by decide +kernel))
set_option maxRecDepth 20000 in
theorem gL_law_L_addTask : GoodIn wsL_law (va_wsS RL 118 yL_addTask wsL_addTask) := goodIn_app (goodIn_of _ (by decide +kernel)) ggL_law_L_addTask
set_option maxRecDepth 20000 in
theorem ggL_law_X9_addTask : GoodIn wsL_law wsX9_addTask := goodIn_r _ [174, 175, 121, 176, 177, 5, 178, 179, 180, 181, 182, 183, 184, 185, 186, 187, 123, 188, 189, 190, 191, 192, 193, 938, 939, 940, 941, 942, 943, 944, 945, 946, 947, 948, 949, 950, 951, 952, 953] (by decide +kernel) (by decide +kernel)
set_option maxRecDepth 20000 in
theorem gL_law_X9_addTask : GoodIn wsL_law (wsV RL 123 RX9 yX9_addTask wsX9_addTask) := goodIn_app (goodIn_of _ (by decide +kernel)) ggL_law_X9_addTask
set_option maxRecDepth 20000 in
theorem ggL_law_X9_thrown : GoodIn wsL_law wsX9_thrown := goodIn_r _ [197, 175, 938, 939, 940, 941, 942, 943, 944, 945, 946, 947, 948, 949, 950, 951, 952, 953] (by decide +kernel) (by decide +kernel)
set_option maxRecDepth 20000 in
theorem gL_law_X9_thrown : GoodIn wsL_law (wsV RL 124 RX9 yX9_thrown wsX9_thrown) := goodIn_app (goodIn_of _ (by decide +kernel)) ggL_law_X9_thrown
set_option maxRecDepth 20000 in
theorem ggL_law_L_removeTask : GoodIn wsL_law wsL_removeTask := goodIn_ca (goodIn_r _ [200, 137, 201, 202, 203, 2, 204, 142, 143, 17, 144, 23, 205, 151, 152, 153, 22, 154, 64, 65, 67, 155, 156, 157, 16, 158, 51, 159, 160, 161, 162, 49, 50, 53, 163, 164, 165, 166, 54, 55, 206, 207, 208, 209, 210, 211, 212, 213, 214, 215, 216, 217, 218, 219, 220, 221, 222, 223, 224, 225, 928, 929, 930, 931, 932, 933, 934, 935, 936, 937, 954, 955, 956, 957, 958, 959, 960, 961, 962] (by decide +kernel) (by decide +kernel)) (goodIn_sub (fun _ h => List.mem_append_left _ (List.mem_append_left _ (List.mem_append_left _ (List.mem_append_right _ h)))) (by decide +kernel))
set_option maxRecDepth 20000 in
theorem gL_law_L_removeTask : GoodIn wsL_law (va_wsS RL 127 yL_removeTask wsL_removeTask) := goodIn_app (goodIn_of _ (by decide +kernel)) ggL_law_L_removeTask
set_option maxRecDepth 20000 in
theorem ggL_law_X9_removeTask : GoodIn wsL_law wsX9_removeTask := goodIn_r _ [229, 175, 121, 179, 180, 181, 5, 182, 183, 184, 185, 186, 187, 123, 188, 189, 190, 230, 231, 232, 938, 939, 940, 941, 942, 943, 944, 945, 946, 947, 948, 949, 950, 951, 952, 953] (by decide +kernel) (by decide +kernel)
set_option maxRecDepth 20000 in
theorem gL_law_X9_removeTask : GoodIn wsL_law (wsV RL 130 RX9 yX9_removeTask wsX9_removeTask) := goodIn_app (goodIn_of _ (by decide +kernel)) ggL_law_X9_removeTask
set_option maxRecDepth 20000 in
theorem ggL_law_L_setLength : GoodIn wsL_law wsL_setLength := goodIn_ca (goodIn_ca (goodIn_r _ [235, 236, 136, 237, 238, 239, 2, 240, 23, 17, 241, 31, 242, 243, 244, 245, 246, 247, 248, 223, 224, 16, 225, 49, 145, 146, 147, 148, 149, 150, 151, 152, 153, 22, 154, 64, 65, 67, 155, 156, 157, 158, 51, 159, 160, 161, 162, 50, 53, 163, 164, 165, 166, 54, 55, 249, 250, 251, 30, 252, 253, 85, 254, 255, 256, 257, 258, 89, 84, 259, 260, 261, 88, 262, 93, 263, 95, 94, 264, 265, 266, 267, 218, 219, 220, 221, 222, 268, 269, 270, 271, 272, 273, 274, 275, 276, 82, 277, 278, 279, 211, 212, 213, 280, 281, 57, 58, 59, 282, 283, 284, 285, 286, 83, 287, 288, 289, 928, 929, 930, 931, 932, 933, 934, 935, 936, 937, 954, 955, 956, 957, 958, 959, 960, 961, 962, 967, 968, 969, 970, 971, 982, 983, 984] (by decide +kernel) (by decide +kernel)) (goodIn_sub (fun _ h => List.mem_append_left _ (List.mem_append_right _ h)) (by decide +kernel))) (goodIn_sub (fun _ h => List.mem_append_left _ (List.mem_append_left _ (List.mem_append_right _ h))) (by decide +kernel))
set_option maxRecDepth 20000 in
theorem gL_law_L_setLength : GoodIn wsL_law (va_wsS RL 131 yL_setLength wsL_setLength) := goodIn_app (goodIn_of _ (by decide +kernel)) ggL_law_L_setLength
set_option maxRecDepth 20000 in
theorem ggL_law_X9_setLength : GoodIn wsL_law wsX9_setLength := goodIn_r _ [293, 121, 294, 295, 296, 5, 297, 175, 176, 177, 178, 179, 180, 181, 182, 183, 184, 185, 186, 187, 123, 188, 189, 190, 298, 299, 300, 301, 126, 938, 939, 940, 941, 942, 943, 944, 945, 946, 947, 948, 949, 950, 951, 952, 953] (by decide +kernel) (by decide +kernel)
set_option maxRecDepth 20000 in
theorem gL_law_X9_setLength : GoodIn wsL_law (wsV RL 133 RX9 yX9_setLength wsX9_setLength) := goodIn_app (goodIn_of _ (by decide +kernel)) ggL_law_X9_setLength
set_option maxRecDepth 20000 in
theorem ggL_law_L_depend : GoodIn wsL_law wsL_depend := goodIn_ca (goodIn_ca (goodIn_ca (goodIn_r _ [304, 236, 136, 137, 305, 306, 307, 2, 308, 149, 150, 142, 143, 17, 205, 40, 23, 31, 242, 243, 244, 245, 246, 247, 248, 223, 224, 16, 225, 49, 145, 146, 147, 148, 309, 219, 220, 221, 55, 222, 310, 311, 312, 39, 313, 106, 104, 314, 315, 316, 317, 318, 260, 261, 88, 262, 93, 263, 95, 94, 264, 265, 266, 267, 218, 268, 269, 270, 271, 272, 319, 151, 152, 153, 22, 154, 64, 65, 67, 155, 156, 157, 158, 51, 159, 160, 161, 162, 50, 53, 163, 164, 165, 166, 54, 320, 321, 322, 323, 249, 250, 251, 30, 252, 253, 85, 254, 255, 256, 257, 258, 89, 84, 259, 273, 274, 275, 276, 82, 277, 278, 279, 211, 212, 213, 280, 281, 57, 58, 59, 282, 283, 284, 285, 286, 83, 287, 288, 289, 928, 929, 930, 931, 932, 933, 934, 935, 936, 937, 954, 955, 956, 957, 958, 959, 973, 974, 975, 976, 977, 982, 983, 984, 960, 961, 962, 967, 968, 969, 970, 971] (by decide +kernel) (by decide +kernel)) (goodIn_sub (fun _ h => List.mem_append_left _ (List.mem_append_left _ (List.mem_append_right _ h))) (by decide +kernel))) (goodIn_sub (fun _ h => List.mem_append_left _ (List.mem_append_left _ (List.mem_append_left _ (List.mem_append_right _ h)))) (by decide +kernel))) (goodIn_sub (fun _ h => List.mem_append_left _ (List.mem_append_right _ h)) (by decide +kernel))
set_option maxRecDepth 20000 in
theorem gL_law_L_depend : GoodIn wsL_law (va_wsS RL 134 yL_depend wsL_depend) := goodIn_app (goodIn_of _ (by decide +kernel)) ggL_law_L_depend
set_option maxRecDepth 20000 in
theorem ggL_law_X9_depend : GoodIn wsL_law wsX9_depend := goodIn_r _ [327, 121, 328, 329, 330, 5, 331, 175, 176, 177, 178, 179, 180, 181, 182, 230, 231, 232, 332, 333, 334, 335, 336, 337, 183, 184, 185, 186, 187, 123, 188, 189, 190, 298, 299, 300, 301, 126, 938, 939, 940, 941, 942, 943, 944, 945, 946, 947, 948, 949, 950, 951, 952, 953] (by decide +kernel) (by decide +kernel)
set_option maxRecDepth 20000 in
theorem gL_law_X9_depend : GoodIn wsL_law (wsV RL 137 RX9 yX9_depend wsX9_depend) := goodIn_app (goodIn_of _ (by decide +kernel)) ggL_law_X9_depend
set_option maxRecDepth 20000 in
theorem ggL_law_L_release : GoodIn wsL_law wsL_release := goodIn_ca (goodIn_ca (goodIn_r _ [340, 236, 341, 342, 343, 344, 2, 345, 23, 17, 346, 347, 348, 349, 350, 351, 242, 243, 244, 245, 246, 247, 248, 223, 224, 16, 225, 49, 309, 219, 220, 221, 55, 222, 151, 152, 153, 22, 154, 64, 65, 67, 155, 156, 157, 158, 51, 159, 160, 161, 162, 50, 53, 163, 164, 165, 166, 54, 352, 215, 216, 217, 218, 928, 929, 930, 931, 932, 933, 934, 935, 936, 937, 954, 955, 956, 957, 958, 959, 960, 961, 962] (by decide +kernel) (by decide +kernel)) (goodIn_sub (fun _ h => List.mem_append_right _ h) (by decide +kernel))) (goodIn_sub (fun _ h => List.mem_append_left _ (List.mem_append_right _ h)) (by decide +kernel))
set_option maxRecDepth 20000 in
theorem gL_law_L_release : GoodIn wsL_law (va_wsS RL 138 yL_release wsL_release) := goodIn_app (goodIn_of _ (by decide +kernel)) ggL_law_L_release
set_option maxRecDepth 20000 in
theorem ggL_law_X9_release : GoodIn wsL_law wsX9_release := goodIn_r _ [356, 121, 328, 329, 330, 5, 331, 175, 176, 177, 178, 332, 333, 334, 179, 180, 181, 182, 183, 184, 185, 186, 187, 123, 188, 189, 190, 938, 939, 940, 941, 942, 943, 944, 945, 946, 947, 948, 949, 950, 951, 952, 953] (by decide +kernel) (by decide +kernel)
set_option maxRecDepth 20000 in
theorem gL_law_X9_release : GoodIn wsL_law (wsV RL 140 RX9 yX9_release wsX9_release) := goodIn_app (goodIn_of _ (by decide +kernel)) ggL_law_X9_release
set_option maxRecDepth 20000 in
theorem ggL_law_L_setCrews : GoodIn wsL_law wsL_setCrews := goodIn_ca (goodIn_r _ [359, 136, 360, 361, 362, 2, 363, 23, 17, 364, 145, 146, 147, 148, 149, 150, 151, 152, 153, 22, 154, 64, 65, 67, 155, 156, 157, 16, 158, 51, 159, 160, 161, 162, 49, 50, 53, 163, 164, 165, 166, 54, 55, 928, 929, 930, 931, 932, 933, 934, 935, 936, 937, 954, 955, 956, 957, 958, 959, 960, 961, 962] (by decide +kernel) (by decide +kernel)) (goodIn_sub (fun _ h => List.mem_append_left _ (List.mem_append_left _ (List.mem_append_right _ h))) (by decide +kernel))
set_option maxRecDepth 20000 in
theorem gL_law_L_setCrews : GoodIn wsL_law (va_wsS RL 141 yL_setCrews wsL_setCrews) := goodIn_app (goodIn_of _ (by decide +kernel)) ggL_law_L_setCrews
set_option maxRecDepth 20000 in
theorem ggL_law_X9_setCrews : GoodIn wsL_law wsX9_setCrews := goodIn_r _ [368, 175, 121, 176, 177, 5, 178, 179, 180, 181, 182, 183, 184, 185, 186, 187, 123, 188, 189, 190, 938, 939, 940, 941, 942, 943, 944, 945, 946, 947, 948, 949, 950, 951, 952, 953] (by decide +kernel) (by decide +kernel)
set_option maxRecDepth 20000 in
theorem gL_law_X9_setCrews : GoodIn wsL_law (wsV RL 144 RX9 yX9_setCrews wsX9_setCrews) := goodIn_app (goodIn_of _ (by decide +kernel)) ggL_law_X9_setCrews
set_option maxRecDepth 20000 in
theorem ggL_law_L_readPlan : GoodIn wsL_law wsL_readPlan := goodIn_ca (goodIn_r _ [371, 136, 372, 373, 374, 2, 375, 149, 150, 27, 23, 17, 376, 144, 377, 378, 379, 26, 380, 73, 75, 72, 381, 382, 383, 16, 384, 49, 50, 55, 56, 57, 58, 59, 385, 386, 387, 388, 389, 390, 391, 392, 393, 394, 395, 396, 77, 397, 398, 399, 400, 401, 168, 169, 170, 53, 54, 402, 403, 404, 405, 406, 211, 212, 213, 407, 321, 322, 323, 222, 223, 224, 225, 218, 219, 220, 221, 151, 152, 153, 22, 154, 64, 65, 67, 155, 156, 157, 158, 51, 159, 160, 161, 162, 163, 164, 165, 166, 408, 928, 929, 930, 931, 932, 933, 934, 935, 936, 937, 963, 964, 965, 966, 954, 955, 956, 957, 958, 959, 960, 961, 962] (by decide +kernel) (by decide +kernel)) (goodIn_sub (fun _ h => List.mem_append_left _ (List.mem_append_left _ (List.mem_append_right _ h))) (by decide +kernel))
set_option maxRecDepth 20000 in
theorem gL_law_L_readPlan : GoodIn wsL_law (va_wsS RL 145 yL_readPlan wsL_readPlan) := goodIn_app (goodIn_of _ (by decide +kernel)) ggL_law_L_readPlan
set_option maxRecDepth 20000 in
theorem ggL_law_X9_readPlan : GoodIn wsL_law wsX9_readPlan := goodIn_r _ [412, 175, 122, 121, 413, 414, 415, 5, 416, 417, 418, 419, 420, 421, 422, 423, 424, 425, 426, 125, 176, 177, 178, 427, 428, 429, 430, 191, 192, 193, 431, 432, 433, 434, 179, 180, 181, 182, 183, 184, 185, 186, 187, 123, 188, 189, 190, 938, 939, 940, 941, 942, 943, 944, 945, 946, 947, 948, 949, 950, 951, 952, 953] (by decide +kernel) (by decide +kernel)
set_option maxRecDepth 20000 in
theorem gL_law_X9_readPlan : GoodIn wsL_law (wsV RL 147 RX9 yX9_readPlan wsX9_readPlan) := goodIn_app (goodIn_of _ (by decide +kernel)) ggL_law_X9_readPlan
set_option maxRecDepth 20000 in
theorem ggL_law_L_append : GoodIn wsL_law wsL_append := goodIn_ca (goodIn_r _ [437, 137, 438, 439, 440, 2, 441, 142, 143, 27, 442, 443, 444, 445, 26, 446, 72, 77, 928, 929, 930, 931, 932, 933, 934, 935, 936, 937, 963, 964, 965, 966] (by decide +kernel) (by decide +kernel)) (goodIn_sub (fun _ h => List.mem_append_left _ (List.mem_append_left _ (List.mem_append_left _ (List.mem_append_right _ h)))) (by decide +kernel))
set_option maxRecDepth 20000 in
theorem gL_law_L_append : GoodIn wsL_law (va_wsS RL 148 yL_append wsL_append) := goodIn_app (goodIn_of _ (by decide +kernel)) ggL_law_L_append
set_option maxRecDepth 20000 in
theorem ggL_law_X9_append : GoodIn wsL_law wsX9_append := goodIn_r _ [450, 175, 418, 125, 179, 180, 181, 5, 182, 938, 939, 940, 941, 942, 943, 944, 945, 946, 947, 948, 949, 950, 951, 952, 953] (by decide +kernel) (by decide +kernel)
set_option maxRecDepth 20000 in
theorem gL_law_X9_append : GoodIn wsL_law (wsV RL 151 RX9 yX9_append wsX9_append) := goodIn_app (goodIn_of _ (by decide +kernel)) ggL_law_X9_append
set_option maxRecDepth 20000 in
theorem ggL_law_X8_clearText : GoodIn wsL_law wsX8_clearText := goodIn_r _ [454, 27, 442, 928, 929, 930, 931, 932, 933, 934, 935, 936, 937, 963, 964, 965, 966] (by decide +kernel) (by decide +kernel)
set_option maxRecDepth 20000 in
theorem gL_law_X8_clearText : GoodIn wsL_law (wsV RL 152 RX8 yX8_clearText wsX8_clearText) := goodIn_app (goodIn_of _ (by decide +kernel)) ggL_law_X8_clearText
set_option maxRecDepth 20000 in
theorem ggL_law_X9_clearText : GoodIn wsL_law wsX9_clearText := goodIn_r _ [458, 175, 418, 938, 939, 940, 941, 942, 943, 944, 945, 946, 947, 948, 949, 950, 951, 952, 953] (by decide +kernel) (by decide +kernel)
set_option maxRecDepth 20000 in
theorem gL_law_X9_clearText : GoodIn wsL_law (wsV RL 155 RX9 yX9_clearText wsX9_clearText) := goodIn_app (goodIn_of _ (by decide +kernel)) ggL_law_X9_clearText
set_option maxRecDepth 20000 in
theorem ggL_law_X8_isValid : GoodIn wsL_law wsX8_isValid := goodIn_r _ [462, 27, 377, 378, 379, 26, 380, 73, 75, 72, 381, 382, 383, 16, 384, 49, 50, 55, 56, 57, 58, 59, 385, 386, 387, 388, 389, 390, 391, 392, 393, 394, 395, 396, 77, 397, 398, 399, 400, 401, 168, 169, 170, 53, 54, 402, 403, 404, 405, 406, 211, 212, 213, 407, 321, 322, 323, 222, 223, 224, 225, 218, 219, 220, 221, 928, 929, 930, 931, 932, 933, 934, 935, 936, 937, 963, 964, 965, 966, 954, 955, 956, 957, 958, 959] (by decide +kernel) (by decide +kernel)
set_option maxRecDepth 20000 in
theorem gL_law_X8_isValid : GoodIn wsL_law (wsV RL 156 RX8 yX8_isValid wsX8_isValid) := goodIn_app (goodIn_of _ (by decide +kernel)) ggL_law_X8_isValid
set_option maxRecDepth 20000 in
theorem ggL_law_X9_isValid : GoodIn wsL_law wsX9_isValid := goodIn_r _ [466, 175, 413, 414, 415, 5, 416, 122, 121, 417, 418, 419, 420, 421, 422, 423, 424, 425, 426, 125, 176, 177, 178, 427, 428, 429, 430, 191, 192, 193, 431, 432, 433, 434, 938, 939, 940, 941, 942, 943, 944, 945, 946, 947, 948, 949, 950, 951, 952, 953] (by decide +kernel) (by decide +kernel)
set_option maxRecDepth 20000 in
theorem gL_law_X9_isValid : GoodIn wsL_law (wsV RL 160 RX9 yX9_isValid wsX9_isValid) := goodIn_app (goodIn_of _ (by decide +kernel)) ggL_law_X9_isValid
set_option maxRecDepth 20000 in
theorem ggL_law_L_firstError : GoodIn wsL_law wsL_firstError := goodIn_ca (goodIn_r _ [469, 137, 470, 471, 472, 2, 473, 142, 143, 27, 474, 377, 378, 379, 26, 380, 73, 75, 72, 381, 382, 383, 16, 384, 49, 50, 55, 56, 57, 58, 59, 385, 386, 387, 388, 389, 390, 391, 392, 393, 394, 395, 396, 77, 397, 398, 399, 400, 401, 168, 169, 170, 53, 54, 402, 403, 404, 405, 406, 211, 212, 213, 407, 321, 322, 323, 222, 223, 224, 225, 218, 219, 220, 221, 928, 929, 930, 931, 932, 933, 934, 935, 936, 937, 963, 964, 965, 966, 954, 955, 956, 957, 958, 959] (by decide +kernel) (by decide +kernel)) (goodIn_sub (fun _ h => List.mem_append_left _ (List.mem_append_left _ (List.mem_append_left _ (List.mem_append_right _ h)))) (by decide +kernel))
set_option maxRecDepth 20000 in
theorem gL_law_L_firstError : GoodIn wsL_law (va_wsS RL 161 yL_firstError wsL_firstError) := goodIn_app (goodIn_of _ (by decide +kernel)) ggL_law_L_firstError
set_option maxRecDepth 20000 in
theorem ggL_law_X9_firstError : GoodIn wsL_law wsX9_firstError := goodIn_r _ [478, 175, 417, 413, 414, 415, 5, 416, 122, 121, 418, 419, 420, 421, 422, 423, 424, 425, 426, 125, 176, 177, 178, 427, 428, 429, 430, 191, 192, 193, 431, 432, 433, 434, 179, 180, 181, 182, 938, 939, 940, 941, 942, 943, 944, 945, 946, 947, 948, 949, 950, 951, 952, 953] (by decide +kernel) (by decide +kernel)
set_option maxRecDepth 20000 in
theorem gL_law_X9_firstError : GoodIn wsL_law (wsV RL 163 RX9 yX9_firstError wsX9_firstError) := goodIn_app (goodIn_of _ (by decide +kernel)) ggL_law_X9_firstError
set_option maxRecDepth 20000 in
theorem ggL_law_L_undo : GoodIn wsL_law wsL_undo := goodIn_ca (goodIn_r _ [481, 137, 482, 483, 484, 2, 485, 142, 143, 23, 486, 17, 487, 488, 489, 22, 490, 64, 67, 65, 155, 156, 157, 16, 158, 51, 159, 160, 161, 162, 49, 50, 53, 163, 164, 165, 166, 54, 55, 928, 929, 930, 931, 932, 933, 934, 935, 936, 937, 960, 961, 962, 954, 955, 956, 957, 958, 959] (by decide +kernel) (by decide +kernel)) (goodIn_sub (fun _ h => List.mem_append_left _ (List.mem_append_left _ (List.mem_append_left _ (List.mem_append_right _ h)))) (by decide +kernel))
set_option maxRecDepth 20000 in
theorem gL_law_L_undo : GoodIn wsL_law (va_wsS RL 164 yL_undo wsL_undo) := goodIn_app (goodIn_of _ (by decide +kernel)) ggL_law_L_undo
set_option maxRecDepth 20000 in
theorem ggL_law_X9_undo : GoodIn wsL_law wsX9_undo := goodIn_r _ [494, 175, 187, 123, 121, 179, 180, 181, 5, 182, 188, 189, 190, 938, 939, 940, 941, 942, 943, 944, 945, 946, 947, 948, 949, 950, 951, 952, 953] (by decide +kernel) (by decide +kernel)
set_option maxRecDepth 20000 in
theorem gL_law_X9_undo : GoodIn wsL_law (wsV RL 166 RX9 yX9_undo wsX9_undo) := goodIn_app (goodIn_of _ (by decide +kernel)) ggL_law_X9_undo
set_option maxRecDepth 20000 in
theorem ggL_law_X8_takeSnapshot : GoodIn wsL_law wsX8_takeSnapshot := goodIn_r _ [498, 18, 17, 19, 144, 499, 156, 157, 16, 158, 51, 159, 160, 161, 162, 49, 50, 53, 163, 164, 165, 166, 54, 55, 928, 929, 930, 931, 932, 933, 934, 935, 936, 937, 954, 955, 956, 957, 958, 959] (by decide +kernel) (by decide +kernel)
set_option maxRecDepth 20000 in
theorem gL_law_X8_takeSnapshot : GoodIn wsL_law (wsV RL 167 RX8 yX8_takeSnapshot wsX8_takeSnapshot) := goodIn_app (goodIn_of _ (by decide +kernel)) ggL_law_X8_takeSnapshot
set_option maxRecDepth 20000 in
theorem ggL_law_X9_takeSnapshot : GoodIn wsL_law wsX9_takeSnapshot := goodIn_r _ [503, 175, 121, 124, 504, 188, 189, 5, 190, 938, 939, 940, 941, 942, 943, 944, 945, 946, 947, 948, 949, 950, 951, 952, 953] (by decide +kernel) (by decide +kernel)
set_option maxRecDepth 20000 in
theorem gL_law_X9_takeSnapshot : GoodIn wsL_law (wsV RL 170 RX9 yX9_takeSnapshot wsX9_takeSnapshot) := goodIn_app (goodIn_of _ (by decide +kernel)) ggL_law_X9_takeSnapshot
set_option maxRecDepth 20000 in
theorem ggL_law_L_restoreSnapshot : GoodIn wsL_law wsL_restoreSnapshot := goodIn_ca (goodIn_r _ [507, 137, 508, 509, 510, 2, 511, 142, 143, 19, 23, 17, 18, 144, 151, 152, 153, 22, 154, 64, 65, 67, 155, 156, 157, 16, 158, 51, 159, 160, 161, 162, 49, 50, 53, 163, 164, 165, 166, 54, 55, 499, 928, 929, 930, 931, 932, 933, 934, 935, 936, 937, 954, 955, 956, 957, 958, 959, 960, 961, 962] (by decide +kernel) (by decide +kernel)) (goodIn_sub (fun _ h => List.mem_append_left _ (List.mem_append_left _ (List.mem_append_left _ (List.mem_append_right _ h)))) (by decide +kernel))
set_option maxRecDepth 20000 in
theorem gL_law_L_restoreSnapshot : GoodIn wsL_law (va_wsS RL 171 yL_restoreSnapshot wsL_restoreSnapshot) := goodIn_app (goodIn_of _ (by decide +kernel)) ggL_law_L_restoreSnapshot
set_option maxRecDepth 20000 in
theorem ggL_law_X9_restoreSnapshot : GoodIn wsL_law wsX9_restoreSnapshot := goodIn_r _ [515, 175, 504, 124, 121, 179, 180, 181, 5, 182, 183, 184, 185, 186, 187, 123, 188, 189, 190, 938, 939, 940, 941, 942, 943, 944, 945, 946, 947, 948, 949, 950, 951, 952, 953] (by decide +kernel) (by decide +kernel)
set_option maxRecDepth 20000 in
theorem gL_law_X9_restoreSnapshot : GoodIn wsL_law (wsV RL 173 RX9 yX9_restoreSnapshot wsX9_restoreSnapshot) := goodIn_app (goodIn_of _ (by decide +kernel)) ggL_law_X9_restoreSnapshot
set_option maxRecDepth 20000 in
theorem ggL_law_X8_taskCount : GoodIn wsL_law wsX8_taskCount := goodIn_r _ [519, 17, 144, 928, 929, 930, 931, 932, 933, 934, 935, 936, 937, 954, 955, 956, 957, 958, 959] (by decide +kernel) (by decide +kernel)
set_option maxRecDepth 20000 in
theorem gL_law_X8_taskCount : GoodIn wsL_law (wsV RL 174 RX8 yX8_taskCount wsX8_taskCount) := goodIn_app (goodIn_of _ (by decide +kernel)) ggL_law_X8_taskCount
set_option maxRecDepth 20000 in
theorem ggL_law_X9_taskCount : GoodIn wsL_law wsX9_taskCount := goodIn_r _ [523, 175, 121, 938, 939, 940, 941, 942, 943, 944, 945, 946, 947, 948, 949, 950, 951, 952, 953] (by decide +kernel) (by decide +kernel)
set_option maxRecDepth 20000 in
theorem gL_law_X9_taskCount : GoodIn wsL_law (wsV RL 177 RX9 yX9_taskCount wsX9_taskCount) := goodIn_app (goodIn_of _ (by decide +kernel)) ggL_law_X9_taskCount
set_option maxRecDepth 20000 in
theorem ggL_law_X8_dependencyCount : GoodIn wsL_law wsX8_dependencyCount := goodIn_r _ [527, 17, 205, 928, 929, 930, 931, 932, 933, 934, 935, 936, 937, 954, 955, 956, 957, 958, 959] (by decide +kernel) (by decide +kernel)
set_option maxRecDepth 20000 in
theorem gL_law_X8_dependencyCount : GoodIn wsL_law (wsV RL 178 RX8 yX8_dependencyCount wsX8_dependencyCount) := goodIn_app (goodIn_of _ (by decide +kernel)) ggL_law_X8_dependencyCount
set_option maxRecDepth 20000 in
theorem ggL_law_X9_dependencyCount : GoodIn wsL_law wsX9_dependencyCount := goodIn_r _ [531, 175, 121, 230, 231, 5, 232, 938, 939, 940, 941, 942, 943, 944, 945, 946, 947, 948, 949, 950, 951, 952, 953] (by decide +kernel) (by decide +kernel)
set_option maxRecDepth 20000 in
theorem gL_law_X9_dependencyCount : GoodIn wsL_law (wsV RL 181 RX9 yX9_dependencyCount wsX9_dependencyCount) := goodIn_app (goodIn_of _ (by decide +kernel)) ggL_law_X9_dependencyCount
set_option maxRecDepth 20000 in
theorem ggL_law_L_lengthOf : GoodIn wsL_law wsL_lengthOf := goodIn_ca (goodIn_r _ [534, 236, 535, 536, 537, 2, 538, 17, 241, 242, 243, 244, 245, 246, 247, 248, 223, 224, 16, 225, 49, 928, 929, 930, 931, 932, 933, 934, 935, 936, 937, 954, 955, 956, 957, 958, 959] (by decide +kernel) (by decide +kernel)) (goodIn_sub (fun _ h => List.mem_append_left _ (List.mem_append_right _ h)) (by decide +kernel))
set_option maxRecDepth 20000 in
theorem gL_law_L_lengthOf : GoodIn wsL_law (va_wsS RL 182 yL_lengthOf wsL_lengthOf) := goodIn_app (goodIn_of _ (by decide +kernel)) ggL_law_L_lengthOf
set_option maxRecDepth 20000 in
theorem ggL_law_X9_lengthOf : GoodIn wsL_law wsX9_lengthOf := goodIn_r _ [542, 121, 294, 295, 296, 5, 297, 175, 176, 177, 178, 938, 939, 940, 941, 942, 943, 944, 945, 946, 947, 948, 949, 950, 951, 952, 953] (by decide +kernel) (by decide +kernel)
set_option maxRecDepth 20000 in
theorem gL_law_X9_lengthOf : GoodIn wsL_law (wsV RL 184 RX9 yX9_lengthOf wsX9_lengthOf) := goodIn_app (goodIn_of _ (by decide +kernel)) ggL_law_X9_lengthOf
set_option maxRecDepth 20000 in
theorem ggL_law_L_crewsOf : GoodIn wsL_law wsL_crewsOf := goodIn_ca (goodIn_r _ [545, 236, 546, 547, 548, 2, 549, 17, 550, 242, 243, 244, 245, 246, 247, 248, 223, 224, 16, 225, 49, 928, 929, 930, 931, 932, 933, 934, 935, 936, 937, 954, 955, 956, 957, 958, 959] (by decide +kernel) (by decide +kernel)) (goodIn_sub (fun _ h => List.mem_append_left _ (List.mem_append_right _ h)) (by decide +kernel))
set_option maxRecDepth 20000 in
theorem gL_law_L_crewsOf : GoodIn wsL_law (va_wsS RL 185 yL_crewsOf wsL_crewsOf) := goodIn_app (goodIn_of _ (by decide +kernel)) ggL_law_L_crewsOf
set_option maxRecDepth 20000 in
theorem ggL_law_X9_crewsOf : GoodIn wsL_law wsX9_crewsOf := goodIn_r _ [554, 121, 294, 295, 296, 5, 297, 175, 176, 177, 178, 938, 939, 940, 941, 942, 943, 944, 945, 946, 947, 948, 949, 950, 951, 952, 953] (by decide +kernel) (by decide +kernel)
set_option maxRecDepth 20000 in
theorem gL_law_X9_crewsOf : GoodIn wsL_law (wsV RL 187 RX9 yX9_crewsOf wsX9_crewsOf) := goodIn_app (goodIn_of _ (by decide +kernel)) ggL_law_X9_crewsOf
set_option maxRecDepth 20000 in
theorem ggL_law_L_lagOf : GoodIn wsL_law wsL_lagOf := goodIn_ca (goodIn_ca (goodIn_r _ [557, 236, 341, 558, 559, 560, 2, 561, 346, 347, 348, 349, 350, 351, 17, 242, 243, 244, 245, 246, 247, 248, 223, 224, 16, 225, 49, 309, 219, 220, 221, 55, 222, 928, 929, 930, 931, 932, 933, 934, 935, 936, 937, 954, 955, 956, 957, 958, 959] (by decide +kernel) (by decide +kernel)) (goodIn_sub (fun _ h => List.mem_append_right _ h) (by decide +kernel))) (goodIn_sub (fun _ h => List.mem_append_left _ (List.mem_append_right _ h)) (by decide +kernel))
set_option maxRecDepth 20000 in
theorem gL_law_L_lagOf : GoodIn wsL_law (va_wsS RL 188 yL_lagOf wsL_lagOf) := goodIn_app (goodIn_of _ (by decide +kernel)) ggL_law_L_lagOf
set_option maxRecDepth 20000 in
theorem ggL_law_X9_lagOf : GoodIn wsL_law wsX9_lagOf := goodIn_r _ [565, 121, 328, 329, 330, 5, 331, 175, 176, 177, 178, 332, 333, 334, 179, 180, 181, 182, 938, 939, 940, 941, 942, 943, 944, 945, 946, 947, 948, 949, 950, 951, 952, 953] (by decide +kernel) (by decide +kernel)
set_option maxRecDepth 20000 in
theorem gL_law_X9_lagOf : GoodIn wsL_law (wsV RL 190 RX9 yX9_lagOf wsX9_lagOf) := goodIn_app (goodIn_of _ (by decide +kernel)) ggL_law_X9_lagOf
set_option maxRecDepth 20000 in
theorem ggL_law_L_isAhead : GoodIn wsL_law wsL_isAhead := goodIn_ca (goodIn_r _ [568, 236, 569, 570, 571, 2, 572, 40, 17, 242, 243, 244, 245, 246, 247, 248, 223, 224, 16, 225, 49, 310, 311, 312, 39, 313, 106, 104, 314, 315, 316, 317, 318, 260, 261, 88, 262, 93, 263, 95, 94, 264, 265, 266, 267, 218, 219, 220, 221, 55, 222, 268, 269, 270, 271, 272, 319, 928, 929, 930, 931, 932, 933, 934, 935, 936, 937, 954, 955, 956, 957, 958, 959, 973, 974, 975, 976, 977, 982, 983, 984] (by decide +kernel) (by decide +kernel)) (goodIn_sub (fun _ h => List.mem_append_left _ (List.mem_append_right _ h)) (by decide +kernel))
set_option maxRecDepth 20000 in
theorem gL_law_L_isAhead : GoodIn wsL_law (va_wsS RL 191 yL_isAhead wsL_isAhead) := goodIn_app (goodIn_of _ (by decide +kernel)) ggL_law_L_isAhead
set_option maxRecDepth 20000 in
theorem ggL_law_X9_isAhead : GoodIn wsL_law wsX9_isAhead := goodIn_r _ [576, 121, 328, 329, 330, 5, 331, 175, 176, 177, 178, 335, 336, 337, 938, 939, 940, 941, 942, 943, 944, 945, 946, 947, 948, 949, 950, 951, 952, 953] (by decide +kernel) (by decide +kernel)
set_option maxRecDepth 20000 in
theorem gL_law_X9_isAhead : GoodIn wsL_law (wsV RL 193 RX9 yX9_isAhead wsX9_isAhead) := goodIn_app (goodIn_of _ (by decide +kernel)) ggL_law_X9_isAhead
set_option maxRecDepth 20000 in
theorem ggL_law_L_earliestStart : GoodIn wsL_law wsL_earliestStart := goodIn_ca (goodIn_r _ [579, 236, 580, 581, 582, 2, 583, 31, 17, 584, 242, 243, 244, 245, 246, 247, 248, 223, 224, 16, 225, 49, 249, 250, 251, 30, 252, 253, 85, 254, 164, 165, 166, 255, 256, 257, 258, 89, 84, 259, 260, 261, 88, 262, 93, 263, 95, 94, 264, 265, 266, 267, 218, 219, 220, 221, 55, 222, 268, 269, 270, 271, 272, 273, 274, 275, 276, 82, 277, 278, 279, 211, 212, 213, 280, 281, 57, 58, 59, 282, 283, 284, 285, 286, 83, 287, 288, 289, 928, 929, 930, 931, 932, 933, 934, 935, 936, 937, 967, 968, 969, 970, 971, 954, 955, 956, 957, 958, 959, 982, 983, 984] (by decide +kernel) (by decide +kernel)) (goodIn_sub (fun _ h => List.mem_append_left _ (List.mem_append_right _ h)) (by decide +kernel))
set_option maxRecDepth 20000 in
theorem gL_law_L_earliestStart : GoodIn wsL_law (va_wsS RL 194 yL_earliestStart wsL_earliestStart) := goodIn_app (goodIn_of _ (by decide +kernel)) ggL_law_L_earliestStart
set_option maxRecDepth 20000 in
theorem ggL_law_X9_earliestStart : GoodIn wsL_law wsX9_earliestStart := goodIn_r _ [588, 121, 126, 294, 295, 296, 5, 297, 175, 176, 177, 178, 298, 299, 300, 301, 938, 939, 940, 941, 942, 943, 944, 945, 946, 947, 948, 949, 950, 951, 952, 953] (by decide +kernel) (by decide +kernel)
set_option maxRecDepth 20000 in
theorem gL_law_X9_earliestStart : GoodIn wsL_law (wsV RL 196 RX9 yX9_earliestStart wsX9_earliestStart) := goodIn_app (goodIn_of _ (by decide +kernel)) ggL_law_X9_earliestStart
set_option maxRecDepth 20000 in
theorem ggL_law_L_latestStart : GoodIn wsL_law wsL_latestStart := goodIn_ca (goodIn_r _ [591, 236, 592, 593, 594, 2, 595, 31, 17, 596, 242, 243, 244, 245, 246, 247, 248, 223, 224, 16, 225, 49, 249, 250, 251, 30, 252, 253, 85, 254, 164, 165, 166, 255, 256, 257, 258, 89, 84, 259, 260, 261, 88, 262, 93, 263, 95, 94, 264, 265, 266, 267, 218, 219, 220, 221, 55, 222, 268, 269, 270, 271, 272, 273, 274, 275, 276, 82, 277, 278, 279, 211, 212, 213, 280, 281, 57, 58, 59, 282, 283, 284, 285, 286, 83, 287, 288, 289, 928, 929, 930, 931, 932, 933, 934, 935, 936, 937, 967, 968, 969, 970, 971, 954, 955, 956, 957, 958, 959, 982, 983, 984] (by decide +kernel) (by decide +kernel)) (goodIn_sub (fun _ h => List.mem_append_left _ (List.mem_append_right _ h)) (by decide +kernel))
set_option maxRecDepth 20000 in
theorem gL_law_L_latestStart : GoodIn wsL_law (va_wsS RL 197 yL_latestStart wsL_latestStart) := goodIn_app (goodIn_of _ (by decide +kernel)) ggL_law_L_latestStart
set_option maxRecDepth 20000 in
theorem ggL_law_X9_latestStart : GoodIn wsL_law wsX9_latestStart := goodIn_r _ [600, 121, 127, 294, 295, 296, 5, 297, 175, 176, 177, 178, 601, 602, 603, 604, 298, 299, 300, 301, 126, 938, 939, 940, 941, 942, 943, 944, 945, 946, 947, 948, 949, 950, 951, 952, 953] (by decide +kernel) (by decide +kernel)
set_option maxRecDepth 20000 in
theorem gL_law_X9_latestStart : GoodIn wsL_law (wsV RL 199 RX9 yX9_latestStart wsX9_latestStart) := goodIn_app (goodIn_of _ (by decide +kernel)) ggL_law_X9_latestStart
set_option maxRecDepth 20000 in
theorem ggL_law_X8_planLength : GoodIn wsL_law wsX8_planLength := goodIn_r _ [608, 31, 17, 249, 250, 251, 30, 252, 253, 85, 254, 164, 165, 166, 255, 256, 257, 258, 89, 84, 259, 260, 261, 88, 262, 93, 263, 95, 94, 264, 265, 266, 16, 267, 49, 218, 219, 220, 221, 55, 222, 223, 224, 225, 268, 269, 270, 271, 272, 273, 274, 275, 276, 82, 277, 278, 279, 211, 212, 213, 280, 281, 57, 58, 59, 282, 283, 284, 285, 286, 83, 287, 288, 289, 928, 929, 930, 931, 932, 933, 934, 935, 936, 937, 954, 955, 956, 957, 958, 959, 967, 968, 969, 970, 971, 982, 983, 984] (by decide +kernel) (by decide +kernel)
set_option maxRecDepth 20000 in
theorem gL_law_X8_planLength : GoodIn wsL_law (wsV RL 200 RX8 yX8_planLength wsX8_planLength) := goodIn_app (goodIn_of _ (by decide +kernel)) ggL_law_X8_planLength
set_option maxRecDepth 20000 in
theorem ggL_law_X9_planLength : GoodIn wsL_law wsX9_planLength := goodIn_r _ [612, 175, 121, 298, 299, 300, 5, 301, 126, 938, 939, 940, 941, 942, 943, 944, 945, 946, 947, 948, 949, 950, 951, 952, 953] (by decide +kernel) (by decide +kernel)
set_option maxRecDepth 20000 in
theorem gL_law_X9_planLength : GoodIn wsL_law (wsV RL 203 RX9 yX9_planLength wsX9_planLength) := goodIn_app (goodIn_of _ (by decide +kernel)) ggL_law_X9_planLength
set_option maxRecDepth 20000 in
theorem ggL_law_X8_planLengthByRounds : GoodIn wsL_law wsX8_planLengthByRounds := goodIn_r _ [616, 36, 17, 617, 618, 619, 35, 620, 99, 621, 622, 623, 211, 212, 213, 624, 57, 58, 59, 625, 626, 627, 628, 629, 219, 220, 16, 221, 55, 222, 223, 224, 225, 49, 928, 929, 930, 931, 932, 933, 934, 935, 936, 937, 972, 954, 955, 956, 957, 958, 959] (by decide +kernel) (by decide +kernel)
set_option maxRecDepth 20000 in
theorem gL_law_X8_planLengthByRounds : GoodIn wsL_law (wsV RL 204 RX8 yX8_planLengthByRounds wsX8_planLengthByRounds) := goodIn_app (goodIn_of _ (by decide +kernel)) ggL_law_X8_planLengthByRounds
set_option maxRecDepth 20000 in
theorem ggL_law_X9_planLengthByRounds : GoodIn wsL_law wsX9_planLengthByRounds := goodIn_r _ [633, 175, 121, 298, 299, 300, 5, 301, 126, 938, 939, 940, 941, 942, 943, 944, 945, 946, 947, 948, 949, 950, 951, 952, 953] (by decide +kernel) (by decide +kernel)
set_option maxRecDepth 20000 in
theorem gL_law_X9_planLengthByRounds : GoodIn wsL_law (wsV RL 207 RX9 yX9_planLengthByRounds wsX9_planLengthByRounds) := goodIn_app (goodIn_of _ (by decide +kernel)) ggL_law_X9_planLengthByRounds
set_option maxRecDepth 20000 in
theorem ggL_law_L_slack : GoodIn wsL_law wsL_slack := goodIn_ca (goodIn_r _ [636, 236, 637, 638, 639, 2, 640, 31, 17, 242, 243, 244, 245, 246, 247, 248, 223, 224, 16, 225, 49, 249, 250, 251, 30, 252, 253, 85, 254, 164, 165, 166, 255, 256, 257, 258, 89, 84, 259, 260, 261, 88, 262, 93, 263, 95, 94, 264, 265, 266, 267, 218, 219, 220, 221, 55, 222, 268, 269, 270, 271, 272, 273, 274, 275, 276, 82, 277, 278, 279, 211, 212, 213, 280, 281, 57, 58, 59, 282, 283, 284, 285, 286, 83, 287, 288, 289, 641, 642, 643, 644, 928, 929, 930, 931, 932, 933, 934, 935, 936, 937, 954, 955, 956, 957, 958, 959, 967, 968, 969, 970, 971, 982, 983, 984] (by decide +kernel) (by decide +kernel)) (goodIn_sub (fun _ h => List.mem_append_left _ (List.mem_append_right _ h)) (by decide +kernel))
set_option maxRecDepth 20000 in
theorem gL_law_L_slack : GoodIn wsL_law (va_wsS RL 208 yL_slack wsL_slack) := goodIn_app (goodIn_of _ (by decide +kernel)) ggL_law_L_slack
set_option maxRecDepth 20000 in
theorem ggL_law_X9_slack : GoodIn wsL_law wsX9_slack := goodIn_r _ [648, 649, 650, 651, 5, 652, 121, 127, 126, 294, 295, 296, 297, 175, 176, 177, 178, 601, 602, 603, 604, 298, 299, 300, 301, 938, 939, 940, 941, 942, 943, 944, 945, 946, 947, 948, 949, 950, 951, 952, 953] (by decide +kernel) (by decide +kernel)
set_option maxRecDepth 20000 in
theorem gL_law_X9_slack : GoodIn wsL_law (wsV RL 210 RX9 yX9_slack wsX9_slack) := goodIn_app (goodIn_of _ (by decide +kernel)) ggL_law_X9_slack
set_option maxRecDepth 20000 in
theorem ggL_law_L_slackByChain : GoodIn wsL_law wsL_slackByChain := goodIn_ca (goodIn_r _ [655, 236, 656, 657, 658, 2, 659, 31, 17, 40, 242, 243, 244, 245, 246, 247, 248, 223, 224, 16, 225, 49, 249, 250, 251, 30, 252, 253, 85, 254, 164, 165, 166, 255, 256, 257, 258, 89, 84, 259, 260, 261, 88, 262, 93, 263, 95, 94, 264, 265, 266, 267, 218, 219, 220, 221, 55, 222, 268, 269, 270, 271, 272, 273, 274, 275, 276, 82, 277, 278, 279, 211, 212, 213, 280, 281, 57, 58, 59, 282, 283, 284, 285, 286, 83, 287, 288, 289, 660, 661, 662, 39, 663, 104, 314, 315, 107, 664, 108, 317, 318, 665, 666, 667, 668, 316, 669, 319, 670, 671, 672, 673, 928, 929, 930, 931, 932, 933, 934, 935, 936, 937, 954, 955, 956, 957, 958, 959, 967, 968, 969, 970, 971, 982, 983, 984, 973, 974, 975, 976, 977] (by decide +kernel) (by decide +kernel)) (goodIn_sub (fun _ h => List.mem_append_left _ (List.mem_append_right _ h)) (by decide +kernel))
set_option maxRecDepth 20000 in
theorem gL_law_L_slackByChain : GoodIn wsL_law (va_wsS RL 211 yL_slackByChain wsL_slackByChain) := goodIn_app (goodIn_of _ (by decide +kernel)) ggL_law_L_slackByChain
set_option maxRecDepth 20000 in
theorem ggL_law_X9_slackByChain : GoodIn wsL_law wsX9_slackByChain := goodIn_r _ [677, 649, 650, 651, 5, 652, 121, 127, 126, 294, 295, 296, 297, 175, 176, 177, 178, 601, 602, 603, 604, 298, 299, 300, 301, 938, 939, 940, 941, 942, 943, 944, 945, 946, 947, 948, 949, 950, 951, 952, 953] (by decide +kernel) (by decide +kernel)
set_option maxRecDepth 20000 in
theorem gL_law_X9_slackByChain : GoodIn wsL_law (wsV RL 213 RX9 yX9_slackByChain wsX9_slackByChain) := goodIn_app (goodIn_of _ (by decide +kernel)) ggL_law_X9_slackByChain
set_option maxRecDepth 20000 in
theorem ggL_law_L_freeSlack : GoodIn wsL_law wsL_freeSlack := goodIn_ca (goodIn_r _ [680, 236, 681, 682, 683, 2, 684, 31, 17, 242, 243, 244, 245, 246, 247, 248, 223, 224, 16, 225, 49, 249, 250, 251, 30, 252, 253, 85, 254, 164, 165, 166, 255, 256, 257, 258, 89, 84, 259, 260, 261, 88, 262, 93, 263, 95, 94, 264, 265, 266, 267, 218, 219, 220, 221, 55, 222, 268, 269, 270, 271, 272, 273, 274, 275, 276, 82, 277, 278, 279, 211, 212, 213, 280, 281, 57, 58, 59, 282, 283, 284, 285, 286, 83, 287, 288, 289, 685, 686, 687, 688, 689, 928, 929, 930, 931, 932, 933, 934, 935, 936, 937, 954, 955, 956, 957, 958, 959, 967, 968, 969, 970, 971, 982, 983, 984] (by decide +kernel) (by decide +kernel)) (goodIn_sub (fun _ h => List.mem_append_left _ (List.mem_append_right _ h)) (by decide +kernel))
set_option maxRecDepth 20000 in
theorem gL_law_L_freeSlack : GoodIn wsL_law (va_wsS RL 214 yL_freeSlack wsL_freeSlack) := goodIn_app (goodIn_of _ (by decide +kernel)) ggL_law_L_freeSlack
set_option maxRecDepth 20000 in
theorem ggL_law_X9_freeSlack : GoodIn wsL_law wsX9_freeSlack := goodIn_r _ [693, 121, 126, 294, 295, 296, 5, 297, 175, 176, 177, 178, 298, 299, 300, 301, 332, 333, 334, 938, 939, 940, 941, 942, 943, 944, 945, 946, 947, 948, 949, 950, 951, 952, 953] (by decide +kernel) (by decide +kernel)
set_option maxRecDepth 20000 in
theorem gL_law_X9_freeSlack : GoodIn wsL_law (wsV RL 216 RX9 yX9_freeSlack wsX9_freeSlack) := goodIn_app (goodIn_of _ (by decide +kernel)) ggL_law_X9_freeSlack
set_option maxRecDepth 20000 in
theorem ggL_law_X8_criticalTasks : GoodIn wsL_law wsX8_criticalTasks := goodIn_r _ [697, 31, 17, 144, 249, 250, 251, 30, 252, 253, 85, 254, 164, 165, 166, 255, 256, 257, 258, 89, 84, 259, 260, 261, 88, 262, 93, 263, 95, 94, 264, 265, 266, 16, 267, 49, 218, 219, 220, 221, 55, 222, 223, 224, 225, 268, 269, 270, 271, 272, 273, 274, 275, 276, 82, 277, 278, 279, 211, 212, 213, 280, 281, 57, 58, 59, 282, 283, 284, 285, 286, 83, 287, 288, 289, 641, 642, 643, 644, 928, 929, 930, 931, 932, 933, 934, 935, 936, 937, 954, 955, 956, 957, 958, 959, 967, 968, 969, 970, 971, 982, 983, 984] (by decide +kernel) (by decide +kernel)
set_option maxRecDepth 20000 in
theorem gL_law_X8_criticalTasks : GoodIn wsL_law (wsV RL 217 RX8 yX8_criticalTasks wsX8_criticalTasks) := goodIn_app (goodIn_of _ (by decide +kernel)) ggL_law_X8_criticalTasks
set_option maxRecDepth 20000 in
theorem ggL_law_X9_criticalTasks : GoodIn wsL_law wsX9_criticalTasks := goodIn_r _ [701, 175, 121, 127, 126, 601, 602, 603, 5, 604, 298, 299, 300, 301, 938, 939, 940, 941, 942, 943, 944, 945, 946, 947, 948, 949, 950, 951, 952, 953] (by decide +kernel) (by decide +kernel)
set_option maxRecDepth 20000 in
theorem gL_law_X9_criticalTasks : GoodIn wsL_law (wsV RL 220 RX9 yX9_criticalTasks wsX9_criticalTasks) := goodIn_app (goodIn_of _ (by decide +kernel)) ggL_law_X9_criticalTasks
set_option maxRecDepth 20000 in
theorem ggL_law_X8_criticalChains : GoodIn wsL_law wsX8_criticalChains := goodIn_r _ [705, 31, 17, 40, 249, 250, 251, 30, 252, 253, 85, 254, 164, 165, 166, 255, 256, 257, 258, 89, 84, 259, 260, 261, 88, 262, 93, 263, 95, 94, 264, 265, 266, 16, 267, 49, 218, 219, 220, 221, 55, 222, 223, 224, 225, 268, 269, 270, 271, 272, 273, 274, 275, 276, 82, 277, 278, 279, 211, 212, 213, 280, 281, 57, 58, 59, 282, 283, 284, 285, 286, 83, 287, 288, 289, 706, 707, 708, 39, 709, 316, 109, 104, 314, 315, 710, 664, 711, 712, 318, 319, 928, 929, 930, 931, 932, 933, 934, 935, 936, 937, 954, 955, 956, 957, 958, 959, 967, 968, 969, 970, 971, 982, 983, 984, 973, 974, 975, 976, 977] (by decide +kernel) (by decide +kernel)
set_option maxRecDepth 20000 in
theorem gL_law_X8_criticalChains : GoodIn wsL_law (wsV RL 221 RX8 yX8_criticalChains wsX8_criticalChains) := goodIn_app (goodIn_of _ (by decide +kernel)) ggL_law_X8_criticalChains
set_option maxRecDepth 20000 in
theorem ggL_law_X9_criticalChains : GoodIn wsL_law wsX9_criticalChains := goodIn_r _ [716, 175, 121, 130, 126, 298, 299, 300, 5, 301, 717, 718, 719, 720, 332, 333, 334, 721, 722, 723, 724, 131, 938, 939, 940, 941, 942, 943, 944, 945, 946, 947, 948, 949, 950, 951, 952, 953] (by decide +kernel) (by decide +kernel)
set_option maxRecDepth 20000 in
theorem gL_law_X9_criticalChains : GoodIn wsL_law (wsV RL 225 RX9 yX9_criticalChains wsX9_criticalChains) := goodIn_app (goodIn_of _ (by decide +kernel)) ggL_law_X9_criticalChains
set_option maxRecDepth 20000 in
theorem ggL_law_L_longestHarmless : GoodIn wsL_law wsL_longestHarmless := goodIn_ca (goodIn_r _ [727, 236, 728, 729, 730, 2, 731, 31, 17, 241, 242, 243, 244, 245, 246, 247, 248, 223, 224, 16, 225, 49, 249, 250, 251, 30, 252, 253, 85, 254, 164, 165, 166, 255, 256, 257, 258, 89, 84, 259, 260, 261, 88, 262, 93, 263, 95, 94, 264, 265, 266, 267, 218, 219, 220, 221, 55, 222, 268, 269, 270, 271, 272, 273, 274, 275, 276, 82, 277, 278, 279, 211, 212, 213, 280, 281, 57, 58, 59, 282, 283, 284, 285, 286, 83, 287, 288, 289, 641, 642, 643, 644, 928, 929, 930, 931, 932, 933, 934, 935, 936, 937, 954, 955, 956, 957, 958, 959, 967, 968, 969, 970, 971, 982, 983, 984] (by decide +kernel) (by decide +kernel)) (goodIn_sub (fun _ h => List.mem_append_left _ (List.mem_append_right _ h)) (by decide +kernel))
set_option maxRecDepth 20000 in
theorem gL_law_L_longestHarmless : GoodIn wsL_law (va_wsS RL 226 yL_longestHarmless wsL_longestHarmless) := goodIn_app (goodIn_of _ (by decide +kernel)) ggL_law_L_longestHarmless
set_option maxRecDepth 20000 in
theorem ggL_law_X9_longestHarmless : GoodIn wsL_law wsX9_longestHarmless := goodIn_r _ [735, 175, 121, 649, 650, 651, 5, 652, 127, 126, 294, 295, 296, 297, 176, 177, 178, 601, 602, 603, 604, 298, 299, 300, 301, 938, 939, 940, 941, 942, 943, 944, 945, 946, 947, 948, 949, 950, 951, 952, 953] (by decide +kernel) (by decide +kernel)
set_option maxRecDepth 20000 in
theorem gL_law_X9_longestHarmless : GoodIn wsL_law (wsV RL 228 RX9 yX9_longestHarmless wsX9_longestHarmless) := goodIn_app (goodIn_of _ (by decide +kernel)) ggL_law_X9_longestHarmless
set_option maxRecDepth 20000 in
theorem ggL_law_L_delayOfPlan : GoodIn wsL_law wsL_delayOfPlan := goodIn_ca (goodIn_ca (goodIn_r _ [738, 236, 136, 739, 740, 741, 2, 742, 32, 17, 31, 242, 243, 244, 245, 246, 247, 248, 223, 224, 16, 225, 49, 145, 146, 147, 148, 149, 150, 743, 744, 745, 30, 746, 253, 85, 254, 164, 165, 166, 689, 255, 256, 257, 258, 89, 84, 259, 260, 261, 88, 262, 93, 263, 95, 94, 264, 265, 266, 267, 218, 219, 220, 221, 55, 222, 268, 269, 270, 271, 272, 273, 274, 275, 276, 82, 277, 278, 279, 211, 212, 213, 280, 281, 57, 58, 59, 282, 283, 284, 285, 286, 83, 287, 288, 289, 249, 250, 251, 252, 928, 929, 930, 931, 932, 933, 934, 935, 936, 937, 954, 955, 956, 957, 958, 959, 967, 968, 969, 970, 971, 982, 983, 984] (by decide +kernel) (by decide +kernel)) (goodIn_sub (fun _ h => List.mem_append_left _ (List.mem_append_right _ h)) (by decide +kernel))) (goodIn_sub (fun _ h => List.mem_append_left _ (List.mem_append_left _ (List.mem_append_right _ h))) (by decide +kernel))
set_option maxRecDepth 20000 in
theorem gL_law_L_delayOfPlan : GoodIn wsL_law (va_wsS RL 229 yL_delayOfPlan wsL_delayOfPlan) := goodIn_app (goodIn_of _ (by decide +kernel)) ggL_law_L_delayOfPlan
set_option maxRecDepth 20000 in
theorem ggL_law_X9_delayOfPlan : GoodIn wsL_law wsX9_delayOfPlan := goodIn_r _ [750, 751, 752, 753, 5, 754, 294, 295, 296, 297, 121, 175, 176, 177, 178, 755, 756, 757, 758, 129, 126, 122, 298, 299, 300, 301, 188, 189, 190, 179, 180, 181, 182, 938, 939, 940, 941, 942, 943, 944, 945, 946, 947, 948, 949, 950, 951, 952, 953] (by decide +kernel) (by decide +kernel)
set_option maxRecDepth 20000 in
theorem gL_law_X9_delayOfPlan : GoodIn wsL_law (wsV RL 231 RX9 yX9_delayOfPlan wsX9_delayOfPlan) := goodIn_app (goodIn_of _ (by decide +kernel)) ggL_law_X9_delayOfPlan
set_option maxRecDepth 20000 in
theorem ggL_law_L_delayBySlack : GoodIn wsL_law wsL_delayBySlack := goodIn_ca (goodIn_ca (goodIn_r _ [761, 236, 136, 762, 763, 764, 2, 765, 31, 17, 766, 211, 212, 213, 242, 243, 244, 245, 246, 247, 248, 223, 224, 16, 225, 49, 145, 146, 147, 148, 149, 150, 249, 250, 251, 30, 252, 253, 85, 254, 164, 165, 166, 255, 256, 257, 258, 89, 84, 259, 260, 261, 88, 262, 93, 263, 95, 94, 264, 265, 266, 267, 218, 219, 220, 221, 55, 222, 268, 269, 270, 271, 272, 273, 274, 275, 276, 82, 277, 278, 279, 280, 281, 57, 58, 59, 282, 283, 284, 285, 286, 83, 287, 288, 289, 641, 642, 643, 644, 928, 929, 930, 931, 932, 933, 934, 935, 936, 937, 954, 955, 956, 957, 958, 959, 967, 968, 969, 970, 971, 982, 983, 984] (by decide +kernel) (by decide +kernel)) (goodIn_sub (fun _ h => List.mem_append_left _ (List.mem_append_right _ h)) (by decide +kernel))) (goodIn_sub (fun _ h => List.mem_append_left _ (List.mem_append_left _ (List.mem_append_right _ h))) (by decide +kernel))
set_option maxRecDepth 20000 in
theorem gL_law_L_delayBySlack : GoodIn wsL_law (va_wsS RL 232 yL_delayBySlack wsL_delayBySlack) := goodIn_app (goodIn_of _ (by decide +kernel)) ggL_law_L_delayBySlack
set_option maxRecDepth 20000 in
theorem ggL_law_X9_delayBySlack : GoodIn wsL_law wsX9_delayBySlack := goodIn_r _ [770, 751, 752, 753, 5, 754, 294, 295, 296, 297, 121, 175, 176, 177, 178, 755, 756, 757, 758, 129, 126, 122, 298, 299, 300, 301, 188, 189, 190, 179, 180, 181, 182, 938, 939, 940, 941, 942, 943, 944, 945, 946, 947, 948, 949, 950, 951, 952, 953] (by decide +kernel) (by decide +kernel)
set_option maxRecDepth 20000 in
theorem gL_law_X9_delayBySlack : GoodIn wsL_law (wsV RL 234 RX9 yX9_delayBySlack wsX9_delayBySlack) := goodIn_app (goodIn_of _ (by decide +kernel)) ggL_law_X9_delayBySlack
set_option maxRecDepth 20000 in
theorem ggL_law_L_tasksMoved : GoodIn wsL_law wsL_tasksMoved := goodIn_ca (goodIn_ca (goodIn_r _ [773, 236, 136, 774, 775, 776, 2, 777, 31, 17, 32, 144, 584, 242, 243, 244, 245, 246, 247, 248, 223, 224, 16, 225, 49, 145, 146, 147, 148, 149, 150, 249, 250, 251, 30, 252, 253, 85, 254, 164, 165, 166, 255, 256, 257, 258, 89, 84, 259, 260, 261, 88, 262, 93, 263, 95, 94, 264, 265, 266, 267, 218, 219, 220, 221, 55, 222, 268, 269, 270, 271, 272, 273, 274, 275, 276, 82, 277, 278, 279, 211, 212, 213, 280, 281, 57, 58, 59, 282, 283, 284, 285, 286, 83, 287, 288, 289, 743, 744, 745, 746, 689, 928, 929, 930, 931, 932, 933, 934, 935, 936, 937, 954, 955, 956, 957, 958, 959, 967, 968, 969, 970, 971, 982, 983, 984] (by decide +kernel) (by decide +kernel)) (goodIn_sub (fun _ h => List.mem_append_left _ (List.mem_append_right _ h)) (by decide +kernel))) (goodIn_sub (fun _ h => List.mem_append_left _ (List.mem_append_left _ (List.mem_append_right _ h))) (by decide +kernel))
set_option maxRecDepth 20000 in
theorem gL_law_L_tasksMoved : GoodIn wsL_law (va_wsS RL 235 yL_tasksMoved wsL_tasksMoved) := goodIn_app (goodIn_of _ (by decide +kernel)) ggL_law_L_tasksMoved
set_option maxRecDepth 20000 in
theorem ggL_law_X9_tasksMoved : GoodIn wsL_law wsX9_tasksMoved := goodIn_r _ [781, 121, 175, 126, 129, 751, 752, 753, 5, 754, 294, 295, 296, 297, 176, 177, 178, 755, 756, 757, 758, 122, 298, 299, 300, 301, 188, 189, 190, 179, 180, 181, 182, 938, 939, 940, 941, 942, 943, 944, 945, 946, 947, 948, 949, 950, 951, 952, 953] (by decide +kernel) (by decide +kernel)
set_option maxRecDepth 20000 in
theorem gL_law_X9_tasksMoved : GoodIn wsL_law (wsV RL 237 RX9 yX9_tasksMoved wsX9_tasksMoved) := goodIn_app (goodIn_of _ (by decide +kernel)) ggL_law_X9_tasksMoved
set_option maxRecDepth 20000 in
theorem ggL_law_L_scheduledStart : GoodIn wsL_law wsL_scheduledStart := goodIn_ca (goodIn_ca (goodIn_r _ [784, 236, 137, 785, 786, 787, 2, 788, 44, 789, 242, 243, 244, 245, 246, 247, 17, 248, 223, 224, 16, 225, 49, 790, 791, 792, 793, 142, 143, 31, 364, 249, 250, 251, 30, 252, 253, 85, 254, 164, 165, 166, 255, 256, 257, 258, 89, 84, 259, 260, 261, 88, 262, 93, 263, 95, 94, 264, 265, 266, 267, 218, 219, 220, 221, 55, 222, 268, 269, 270, 271, 272, 273, 274, 275, 276, 82, 277, 278, 279, 211, 212, 213, 280, 281, 57, 58, 59, 282, 283, 284, 285, 286, 83, 287, 288, 289, 794, 795, 796, 43, 797, 798, 799, 800, 801, 802, 803, 113, 114, 115, 116, 804, 805, 806, 807, 808, 809, 810, 811, 812, 813, 814, 815, 816, 817, 818, 819, 820, 821, 822, 928, 929, 930, 931, 932, 933, 934, 935, 936, 937, 978, 979, 980, 981, 954, 955, 956, 957, 958, 959, 967, 968, 969, 970, 971, 982, 983, 984] (by decide +kernel) (by decide +kernel)) (goodIn_sub (fun _ h => List.mem_append_left _ (List.mem_append_right _ h)) (by decide +kernel))) (goodIn_sub (fun _ h => List.mem_append_left _ (List.mem_append_left _ (List.mem_append_left _ (List.mem_append_right _ h)))) (by decide +kernel))
set_option maxRecDepth 20000 in
theorem gL_law_L_scheduledStart : GoodIn wsL_law (va_wsS RL 238 yL_scheduledStart wsL_scheduledStart) := goodIn_app (goodIn_of _ (by decide +kernel)) ggL_law_L_scheduledStart
set_option maxRecDepth 20000 in
theorem ggL_law_X9_scheduledStart : GoodIn wsL_law wsX9_scheduledStart := goodIn_r _ [826, 121, 128, 294, 295, 296, 5, 297, 175, 176, 177, 178, 827, 828, 829, 830, 601, 602, 603, 604, 127, 298, 299, 300, 301, 126, 831, 832, 833, 834, 332, 333, 334, 835, 836, 837, 838, 839, 840, 841, 842, 179, 180, 181, 182, 938, 939, 940, 941, 942, 943, 944, 945, 946, 947, 948, 949, 950, 951, 952, 953] (by decide +kernel) (by decide +kernel)
set_option maxRecDepth 20000 in
theorem gL_law_X9_scheduledStart : GoodIn wsL_law (wsV RL 240 RX9 yX9_scheduledStart wsX9_scheduledStart) := goodIn_app (goodIn_of _ (by decide +kernel)) ggL_law_X9_scheduledStart
set_option maxRecDepth 20000 in
theorem ggL_law_L_crewsOn : GoodIn wsL_law wsL_crewsOn := goodIn_ca (goodIn_ca (goodIn_r _ [845, 136, 137, 846, 847, 848, 2, 849, 44, 850, 145, 146, 147, 148, 149, 150, 790, 791, 792, 793, 142, 143, 31, 17, 364, 249, 250, 251, 30, 252, 253, 85, 254, 164, 165, 166, 255, 256, 257, 258, 89, 84, 259, 260, 261, 88, 262, 93, 263, 95, 94, 264, 265, 266, 16, 267, 49, 218, 219, 220, 221, 55, 222, 223, 224, 225, 268, 269, 270, 271, 272, 273, 274, 275, 276, 82, 277, 278, 279, 211, 212, 213, 280, 281, 57, 58, 59, 282, 283, 284, 285, 286, 83, 287, 288, 289, 794, 795, 796, 43, 797, 798, 799, 800, 801, 802, 803, 113, 114, 115, 116, 804, 805, 806, 807, 808, 809, 810, 811, 812, 813, 814, 815, 816, 817, 818, 819, 820, 821, 822, 928, 929, 930, 931, 932, 933, 934, 935, 936, 937, 978, 979, 980, 981, 954, 955, 956, 957, 958, 959, 967, 968, 969, 970, 971, 982, 983, 984] (by decide +kernel) (by decide +kernel)) (goodIn_sub (fun _ h => List.mem_append_left _ (List.mem_append_left _ (List.mem_append_right _ h))) (by decide +kernel))) (goodIn_sub (fun _ h => List.mem_append_left _ (List.mem_append_left _ (List.mem_append_left _ (List.mem_append_right _ h)))) (by decide +kernel))
set_option maxRecDepth 20000 in
theorem gL_law_L_crewsOn : GoodIn wsL_law (va_wsS RL 241 yL_crewsOn wsL_crewsOn) := goodIn_app (goodIn_of _ (by decide +kernel)) ggL_law_L_crewsOn
set_option maxRecDepth 20000 in
theorem ggL_law_X9_crewsOn : GoodIn wsL_law wsX9_crewsOn := goodIn_r _ [854, 175, 121, 176, 177, 5, 178, 179, 180, 181, 182, 827, 828, 829, 830, 128, 601, 602, 603, 604, 127, 298, 299, 300, 301, 126, 831, 832, 833, 834, 332, 333, 334, 835, 836, 837, 838, 839, 840, 841, 842, 938, 939, 940, 941, 942, 943, 944, 945, 946, 947, 948, 949, 950, 951, 952, 953] (by decide +kernel) (by decide +kernel)
set_option maxRecDepth 20000 in
theorem gL_law_X9_crewsOn : GoodIn wsL_law (wsV RL 243 RX9 yX9_crewsOn wsX9_crewsOn) := goodIn_app (goodIn_of _ (by decide +kernel)) ggL_law_X9_crewsOn
set_option maxRecDepth 20000 in
theorem ggL_law_L_scheduleLength : GoodIn wsL_law wsL_scheduleLength := goodIn_ca (goodIn_r _ [857, 137, 858, 859, 860, 2, 861, 44, 862, 790, 791, 792, 793, 142, 143, 31, 17, 364, 249, 250, 251, 30, 252, 253, 85, 254, 164, 165, 166, 255, 256, 257, 258, 89, 84, 259, 260, 261, 88, 262, 93, 263, 95, 94, 264, 265, 266, 16, 267, 49, 218, 219, 220, 221, 55, 222, 223, 224, 225, 268, 269, 270, 271, 272, 273, 274, 275, 276, 82, 277, 278, 279, 211, 212, 213, 280, 281, 57, 58, 59, 282, 283, 284, 285, 286, 83, 287, 288, 289, 794, 795, 796, 43, 797, 798, 799, 800, 801, 802, 803, 113, 114, 115, 116, 804, 805, 806, 807, 808, 809, 810, 811, 812, 813, 814, 815, 816, 817, 818, 819, 820, 821, 822, 928, 929, 930, 931, 932, 933, 934, 935, 936, 937, 978, 979, 980, 981, 954, 955, 956, 957, 958, 959, 967, 968, 969, 970, 971, 982, 983, 984] (by decide +kernel) (by decide +kernel)) (goodIn_sub (fun _ h => List.mem_append_left _ (List.mem_append_left _ (List.mem_append_left _ (List.mem_append_right _ h)))) (by decide +kernel))
set_option maxRecDepth 20000 in
theorem gL_law_L_scheduleLength : GoodIn wsL_law (va_wsS RL 244 yL_scheduleLength wsL_scheduleLength) := goodIn_app (goodIn_of _ (by decide +kernel)) ggL_law_L_scheduleLength
set_option maxRecDepth 20000 in
theorem ggL_law_X9_scheduleLength : GoodIn wsL_law wsX9_scheduleLength := goodIn_r _ [866, 175, 121, 827, 828, 829, 5, 830, 128, 601, 602, 603, 604, 127, 298, 299, 300, 301, 126, 831, 832, 833, 834, 332, 333, 334, 835, 836, 837, 838, 839, 840, 841, 842, 179, 180, 181, 182, 938, 939, 940, 941, 942, 943, 944, 945, 946, 947, 948, 949, 950, 951, 952, 953] (by decide +kernel) (by decide +kernel)
set_option maxRecDepth 20000 in
theorem gL_law_X9_scheduleLength : GoodIn wsL_law (wsV RL 246 RX9 yX9_scheduleLength wsX9_scheduleLength) := goodIn_app (goodIn_of _ (by decide +kernel)) ggL_law_X9_scheduleLength
set_option maxRecDepth 20000 in
theorem ggL_law_X8_work : GoodIn wsL_law wsX8_work := goodIn_r _ [870, 17, 871, 872, 873, 16, 874, 49, 53, 54, 928, 929, 930, 931, 932, 933, 934, 935, 936, 937, 954, 955, 956, 957, 958, 959] (by decide +kernel) (by decide +kernel)
set_option maxRecDepth 20000 in
theorem gL_law_X8_work : GoodIn wsL_law (wsV RL 247 RX8 yX8_work wsX8_work) := goodIn_app (goodIn_of _ (by decide +kernel)) ggL_law_X8_work
set_option maxRecDepth 20000 in
theorem ggL_law_X9_work : GoodIn wsL_law wsX9_work := goodIn_r _ [878, 175, 879, 880, 881, 5, 882, 121, 938, 939, 940, 941, 942, 943, 944, 945, 946, 947, 948, 949, 950, 951, 952, 953] (by decide +kernel) (by decide +kernel)
set_option maxRecDepth 20000 in
theorem gL_law_X9_work : GoodIn wsL_law (wsV RL 250 RX9 yX9_work wsX9_work) := goodIn_app (goodIn_of _ (by decide +kernel)) ggL_law_X9_work
set_option maxRecDepth 20000 in
theorem ggL_law_L_workByDays : GoodIn wsL_law wsL_workByDays := goodIn_ca (goodIn_r _ [885, 137, 886, 887, 888, 2, 889, 44, 790, 791, 792, 793, 142, 143, 31, 17, 364, 249, 250, 251, 30, 252, 253, 85, 254, 164, 165, 166, 255, 256, 257, 258, 89, 84, 259, 260, 261, 88, 262, 93, 263, 95, 94, 264, 265, 266, 16, 267, 49, 218, 219, 220, 221, 55, 222, 223, 224, 225, 268, 269, 270, 271, 272, 273, 274, 275, 276, 82, 277, 278, 279, 211, 212, 213, 280, 281, 57, 58, 59, 282, 283, 284, 285, 286, 83, 287, 288, 289, 794, 795, 796, 43, 797, 798, 799, 800, 801, 802, 803, 113, 114, 115, 116, 804, 805, 806, 807, 808, 809, 810, 811, 812, 813, 814, 815, 816, 817, 818, 819, 820, 821, 822, 890, 891, 892, 893, 928, 929, 930, 931, 932, 933, 934, 935, 936, 937, 954, 955, 956, 957, 958, 959, 967, 968, 969, 970, 971, 982, 983, 984, 978, 979, 980, 981] (by decide +kernel) (by decide +kernel)) (goodIn_sub (fun _ h => List.mem_append_left _ (List.mem_append_left _ (List.mem_append_left _ (List.mem_append_right _ h)))) (by decide +kernel))
set_option maxRecDepth 20000 in
theorem gL_law_L_workByDays : GoodIn wsL_law (va_wsS RL 251 yL_workByDays wsL_workByDays) := goodIn_app (goodIn_of _ (by decide +kernel)) ggL_law_L_workByDays
set_option maxRecDepth 20000 in
theorem ggL_law_X9_workByDays : GoodIn wsL_law wsX9_workByDays := goodIn_r _ [897, 175, 121, 827, 828, 829, 5, 830, 128, 601, 602, 603, 604, 127, 298, 299, 300, 301, 126, 831, 832, 833, 834, 332, 333, 334, 835, 836, 837, 838, 839, 840, 841, 842, 179, 180, 181, 182, 879, 880, 881, 882, 938, 939, 940, 941, 942, 943, 944, 945, 946, 947, 948, 949, 950, 951, 952, 953] (by decide +kernel) (by decide +kernel)
set_option maxRecDepth 20000 in
theorem gL_law_X9_workByDays : GoodIn wsL_law (wsV RL 253 RX9 yX9_workByDays wsX9_workByDays) := goodIn_app (goodIn_of _ (by decide +kernel)) ggL_law_X9_workByDays
set_option maxRecDepth 20000 in
theorem ggL_law_L_leastCrews : GoodIn wsL_law wsL_leastCrews := goodIn_ca (goodIn_r _ [900, 341, 901, 902, 903, 2, 904, 350, 351, 31, 17, 44, 862, 249, 250, 251, 30, 252, 253, 85, 254, 164, 165, 166, 255, 256, 257, 258, 89, 84, 259, 260, 261, 88, 262, 93, 263, 95, 94, 264, 265, 266, 16, 267, 49, 218, 219, 220, 221, 55, 222, 223, 224, 225, 268, 269, 270, 271, 272, 273, 274, 275, 276, 82, 277, 278, 279, 211, 212, 213, 280, 281, 57, 58, 59, 282, 283, 284, 285, 286, 83, 287, 288, 289, 794, 795, 796, 43, 797, 798, 799, 800, 801, 802, 803, 113, 114, 115, 116, 804, 805, 806, 807, 808, 809, 810, 811, 812, 813, 814, 815, 816, 817, 818, 819, 820, 821, 822, 928, 929, 930, 931, 932, 933, 934, 935, 936, 937, 978, 979, 980, 981, 954, 955, 956, 957, 958, 959, 967, 968, 969, 970, 971, 982, 983, 984] (by decide +kernel) (by decide +kernel)) (goodIn_sub (fun _ h => List.mem_append_right _ h) (by decide +kernel))
set_option maxRecDepth 20000 in
theorem gL_law_L_leastCrews : GoodIn wsL_law (va_wsS RL 254 yL_leastCrews wsL_leastCrews) := goodIn_app (goodIn_of _ (by decide +kernel)) ggL_law_L_leastCrews
set_option maxRecDepth 20000 in
theorem ggL_law_X9_leastCrews : GoodIn wsL_law wsX9_leastCrews := goodIn_r _ [908, 175, 121, 122, 298, 299, 300, 5, 301, 126, 188, 189, 190, 827, 828, 829, 830, 128, 601, 602, 603, 604, 127, 831, 832, 833, 834, 332, 333, 334, 835, 836, 837, 838, 839, 840, 841, 842, 179, 180, 181, 182, 938, 939, 940, 941, 942, 943, 944, 945, 946, 947, 948, 949, 950, 951, 952, 953] (by decide +kernel) (by decide +kernel)
set_option maxRecDepth 20000 in
theorem gL_law_X9_leastCrews : GoodIn wsL_law (wsV RL 256 RX9 yX9_leastCrews wsX9_leastCrews) := goodIn_app (goodIn_of _ (by decide +kernel)) ggL_law_X9_leastCrews
set_option maxRecDepth 20000 in
theorem ggL_law_L_usage : GoodIn wsL_law wsL_usage := goodIn_ca (goodIn_r _ [911, 137, 912, 913, 914, 2, 915, 44, 862, 17, 364, 790, 791, 792, 793, 142, 143, 31, 249, 250, 251, 30, 252, 253, 85, 254, 164, 165, 166, 255, 256, 257, 258, 89, 84, 259, 260, 261, 88, 262, 93, 263, 95, 94, 264, 265, 266, 16, 267, 49, 218, 219, 220, 221, 55, 222, 223, 224, 225, 268, 269, 270, 271, 272, 273, 274, 275, 276, 82, 277, 278, 279, 211, 212, 213, 280, 281, 57, 58, 59, 282, 283, 284, 285, 286, 83, 287, 288, 289, 794, 795, 796, 43, 797, 798, 799, 800, 801, 802, 803, 113, 114, 115, 116, 804, 805, 806, 807, 808, 809, 810, 811, 812, 813, 814, 815, 816, 817, 818, 819, 820, 821, 822, 871, 872, 873, 874, 53, 54, 928, 929, 930, 931, 932, 933, 934, 935, 936, 937, 978, 979, 980, 981, 954, 955, 956, 957, 958, 959, 967, 968, 969, 970, 971, 982, 983, 984] (by decide +kernel) (by decide +kernel)) (goodIn_sub (fun _ h => List.mem_append_left _ (List.mem_append_left _ (List.mem_append_left _ (List.mem_append_right _ h)))) (by decide +kernel))
set_option maxRecDepth 20000 in
theorem gL_law_L_usage : GoodIn wsL_law (va_wsS RL 257 yL_usage wsL_usage) := goodIn_app (goodIn_of _ (by decide +kernel)) ggL_law_L_usage
set_option maxRecDepth 20000 in
theorem ggL_law_X9_usage : GoodIn wsL_law wsX9_usage := goodIn_r _ [919, 175, 121, 827, 828, 829, 5, 830, 128, 601, 602, 603, 604, 127, 298, 299, 300, 301, 126, 831, 832, 833, 834, 332, 333, 334, 835, 836, 837, 838, 839, 840, 841, 842, 179, 180, 181, 182, 879, 880, 881, 882, 938, 939, 940, 941, 942, 943, 944, 945, 946, 947, 948, 949, 950, 951, 952, 953] (by decide +kernel) (by decide +kernel)
set_option maxRecDepth 20000 in
theorem gL_law_X9_usage : GoodIn wsL_law (wsV RL 260 RX9 yX9_usage wsX9_usage) := goodIn_app (goodIn_of _ (by decide +kernel)) ggL_law_X9_usage
set_option maxRecDepth 20000 in
theorem ggL_law_X8_historySize : GoodIn wsL_law wsX8_historySize := goodIn_r _ [923, 23, 486, 928, 929, 930, 931, 932, 933, 934, 935, 936, 937, 960, 961, 962] (by decide +kernel) (by decide +kernel)
set_option maxRecDepth 20000 in
theorem gL_law_X8_historySize : GoodIn wsL_law (wsV RL 261 RX8 yX8_historySize wsX8_historySize) := goodIn_app (goodIn_of _ (by decide +kernel)) ggL_law_X8_historySize
set_option maxRecDepth 20000 in
theorem ggL_law_X9_historySize : GoodIn wsL_law wsX9_historySize := goodIn_r _ [927, 175, 187, 938, 939, 940, 941, 942, 943, 944, 945, 946, 947, 948, 949, 950, 951, 952, 953] (by decide +kernel) (by decide +kernel)
set_option maxRecDepth 20000 in
theorem gL_law_X9_historySize : GoodIn wsL_law (wsV RL 264 RX9 yX9_historySize wsX9_historySize) := goodIn_app (goodIn_of _ (by decide +kernel)) ggL_law_X9_historySize
theorem dL_law_0 : decode cL_law 0 = .ok (.new 8, 3) := by decide +kernel
theorem dL_law_3 : decode cL_law 3 = .ok (.dup, 1) := by decide +kernel
theorem dL_law_4 : decode cL_law 4 = .ok (.invokespecial 114, 3) := by decide +kernel
theorem dL_law_7 : decode cL_law 7 = .ok (.astore_n 1, 1) := by decide +kernel
theorem dL_law_8 : decode cL_law 8 = .ok (.new 115, 3) := by decide +kernel
theorem dL_law_11 : decode cL_law 11 = .ok (.dup, 1) := by decide +kernel
theorem dL_law_12 : decode cL_law 12 = .ok (.invokespecial 117, 3) := by decide +kernel
theorem dL_law_15 : decode cL_law 15 = .ok (.astore_n 2, 1) := by decide +kernel
theorem dL_law_16 : decode cL_law 16 = .ok (.iconst 1, 1) := by decide +kernel
theorem dL_law_17 : decode cL_law 17 = .ok (.newarray .long, 2) := by decide +kernel
theorem dL_law_19 : decode cL_law 19 = .ok (.astore_n 3, 1) := by decide +kernel
theorem dL_law_20 : decode cL_law 20 = .ok (.iconst 1, 1) := by decide +kernel
theorem dL_law_21 : decode cL_law 21 = .ok (.newarray .double, 2) := by decide +kernel
theorem dL_law_23 : decode cL_law 23 = .ok (.astore 4, 2) := by decide +kernel
theorem dL_law_25 : decode cL_law 25 = .ok (.iconst 0, 1) := by decide +kernel
theorem dL_law_26 : decode cL_law 26 = .ok (.istore 5, 2) := by decide +kernel
theorem dL_law_28 : decode cL_law 28 = .ok (.iload 5, 2) := by decide +kernel
theorem dL_law_30 : decode cL_law 30 = .ok (.aload_n 0, 1) := by decide +kernel
theorem dL_law_31 : decode cL_law 31 = .ok (.arraylength, 1) := by decide +kernel
theorem dL_law_32 : decode cL_law 32 = .ok (.iconst 4, 1) := by decide +kernel
theorem dL_law_33 : decode cL_law 33 = .ok (.isub, 1) := by decide +kernel
theorem dL_law_34 : decode cL_law 34 = .ok (.if_icmp .gt 2062, 3) := by decide +kernel
theorem dL_law_37 : decode cL_law 37 = .ok (.aload_n 0, 1) := by decide +kernel
theorem dL_law_38 : decode cL_law 38 = .ok (.iload 5, 2) := by decide +kernel
theorem dL_law_40 : decode cL_law 40 = .ok (.iaload, 1) := by decide +kernel
theorem dL_law_41 : decode cL_law 41 = .ok (.bipush 63, 2) := by decide +kernel
theorem dL_law_43 : decode cL_law 43 = .ok (.iand, 1) := by decide +kernel
theorem dL_law_44 : decode cL_law 44 = .ok (.tableswitch 2046 0 40 #[180, 248, 292, 360, 440, 508, 564, 608, 666, 679, 692, 736, 780, 793, 837, 850, 863, 919, 975, 1043, 1118, 1174, 1230, 1243, 1256, 1312, 1368, 1424, 1437, 1451, 1507, 1575, 1643, 1711, 1767, 1823, 1867, 1880, 1924, 1968, 2033], 180) := by decide +kernel
theorem dL_law_224 : decode cL_law 224 = .ok (.aload_n 1, 1) := by decide +kernel
theorem dL_law_225 : decode cL_law 225 = .ok (.aload_n 0, 1) := by decide +kernel
theorem dL_law_226 : decode cL_law 226 = .ok (.iload 5, 2) := by decide +kernel
theorem dL_law_228 : decode cL_law 228 = .ok (.iconst 1, 1) := by decide +kernel
theorem dL_law_229 : decode cL_law 229 = .ok (.iadd, 1) := by decide +kernel
theorem dL_law_230 : decode cL_law 230 = .ok (.iaload, 1) := by decide +kernel
theorem dL_law_231 : decode cL_law 231 = .ok (.aload_n 0, 1) := by decide +kernel
theorem dL_law_232 : decode cL_law 232 = .ok (.iload 5, 2) := by decide +kernel
theorem dL_law_234 : decode cL_law 234 = .ok (.iconst 2, 1) := by decide +kernel
theorem dL_law_235 : decode cL_law 235 = .ok (.iadd, 1) := by decide +kernel
theorem dL_law_236 : decode cL_law 236 = .ok (.iaload, 1) := by decide +kernel
theorem dL_law_237 : decode cL_law 237 = .ok (.aload_n 3, 1) := by decide +kernel
theorem dL_law_238 : decode cL_law 238 = .ok (.invokestatic 118, 3) := by decide +kernel
theorem dL_law_241 : decode cL_law 241 = .ok (.istore 6, 2) := by decide +kernel
theorem dL_law_243 : decode cL_law 243 = .ok (.aload_n 2, 1) := by decide +kernel
theorem dL_law_244 : decode cL_law 244 = .ok (.aload_n 0, 1) := by decide +kernel
theorem dL_law_245 : decode cL_law 245 = .ok (.iload 5, 2) := by decide +kernel
theorem dL_law_247 : decode cL_law 247 = .ok (.iconst 1, 1) := by decide +kernel
theorem dL_law_248 : decode cL_law 248 = .ok (.iadd, 1) := by decide +kernel
theorem dL_law_249 : decode cL_law 249 = .ok (.iaload, 1) := by decide +kernel
theorem dL_law_250 : decode cL_law 250 = .ok (.aload_n 0, 1) := by decide +kernel
theorem dL_law_251 : decode cL_law 251 = .ok (.iload 5, 2) := by decide +kernel
theorem dL_law_253 : decode cL_law 253 = .ok (.iconst 2, 1) := by decide +kernel
theorem dL_law_254 : decode cL_law 254 = .ok (.iadd, 1) := by decide +kernel
theorem dL_law_255 : decode cL_law 255 = .ok (.iaload, 1) := by decide +kernel
theorem dL_law_256 : decode cL_law 256 = .ok (.invokevirtual 123, 3) := by decide +kernel
theorem dL_law_259 : decode cL_law 259 = .ok (.istore 7, 2) := by decide +kernel
theorem dL_law_261 : decode cL_law 261 = .ok (.aload_n 2, 1) := by decide +kernel
theorem dL_law_262 : decode cL_law 262 = .ok (.invokevirtual 124, 3) := by decide +kernel
theorem dL_law_265 : decode cL_law 265 = .ok (.iload 6, 2) := by decide +kernel
theorem dL_law_267 : decode cL_law 267 = .ok (.if_icmp .eq 5, 3) := by decide +kernel
theorem dL_law_270 : decode cL_law 270 = .ok (.iconst 0, 1) := by decide +kernel
theorem dL_law_271 : decode cL_law 271 = .ok (.ireturn, 1) := by decide +kernel
theorem dL_law_272 : decode cL_law 272 = .ok (.iload 6, 2) := by decide +kernel
theorem dL_law_274 : decode cL_law 274 = .ok (.ifCond .ne 15, 3) := by decide +kernel
theorem dL_law_277 : decode cL_law 277 = .ok (.aload_n 3, 1) := by decide +kernel
theorem dL_law_278 : decode cL_law 278 = .ok (.iconst 0, 1) := by decide +kernel
theorem dL_law_279 : decode cL_law 279 = .ok (.laload, 1) := by decide +kernel
theorem dL_law_280 : decode cL_law 280 = .ok (.iload 7, 2) := by decide +kernel
theorem dL_law_282 : decode cL_law 282 = .ok (.i2l, 1) := by decide +kernel
theorem dL_law_283 : decode cL_law 283 = .ok (.lcmp, 1) := by decide +kernel
theorem dL_law_284 : decode cL_law 284 = .ok (.ifCond .eq 5, 3) := by decide +kernel
theorem dL_law_287 : decode cL_law 287 = .ok (.iconst 0, 1) := by decide +kernel
theorem dL_law_288 : decode cL_law 288 = .ok (.ireturn, 1) := by decide +kernel
theorem dL_law_289 : decode cL_law 289 = .ok (.goto 1801, 3) := by decide +kernel
theorem dL_law_292 : decode cL_law 292 = .ok (.aload_n 1, 1) := by decide +kernel
theorem dL_law_293 : decode cL_law 293 = .ok (.aload_n 3, 1) := by decide +kernel
theorem dL_law_294 : decode cL_law 294 = .ok (.invokestatic 127, 3) := by decide +kernel
theorem dL_law_297 : decode cL_law 297 = .ok (.istore 6, 2) := by decide +kernel
theorem dL_law_299 : decode cL_law 299 = .ok (.aload_n 2, 1) := by decide +kernel
theorem dL_law_300 : decode cL_law 300 = .ok (.invokevirtual 130, 3) := by decide +kernel
theorem dL_law_303 : decode cL_law 303 = .ok (.istore 7, 2) := by decide +kernel
theorem dL_law_305 : decode cL_law 305 = .ok (.aload_n 2, 1) := by decide +kernel
theorem dL_law_306 : decode cL_law 306 = .ok (.invokevirtual 124, 3) := by decide +kernel
theorem dL_law_309 : decode cL_law 309 = .ok (.iload 6, 2) := by decide +kernel
theorem dL_law_311 : decode cL_law 311 = .ok (.if_icmp .eq 5, 3) := by decide +kernel
theorem dL_law_314 : decode cL_law 314 = .ok (.iconst 0, 1) := by decide +kernel
theorem dL_law_315 : decode cL_law 315 = .ok (.ireturn, 1) := by decide +kernel
theorem dL_law_316 : decode cL_law 316 = .ok (.iload 6, 2) := by decide +kernel
theorem dL_law_318 : decode cL_law 318 = .ok (.ifCond .ne 15, 3) := by decide +kernel
theorem dL_law_321 : decode cL_law 321 = .ok (.aload_n 3, 1) := by decide +kernel
theorem dL_law_322 : decode cL_law 322 = .ok (.iconst 0, 1) := by decide +kernel
theorem dL_law_323 : decode cL_law 323 = .ok (.laload, 1) := by decide +kernel
theorem dL_law_324 : decode cL_law 324 = .ok (.iload 7, 2) := by decide +kernel
theorem dL_law_326 : decode cL_law 326 = .ok (.i2l, 1) := by decide +kernel
theorem dL_law_327 : decode cL_law 327 = .ok (.lcmp, 1) := by decide +kernel
theorem dL_law_328 : decode cL_law 328 = .ok (.ifCond .eq 5, 3) := by decide +kernel
theorem dL_law_331 : decode cL_law 331 = .ok (.iconst 0, 1) := by decide +kernel
theorem dL_law_332 : decode cL_law 332 = .ok (.ireturn, 1) := by decide +kernel
theorem dL_law_333 : decode cL_law 333 = .ok (.goto 1757, 3) := by decide +kernel
theorem dL_law_336 : decode cL_law 336 = .ok (.aload_n 1, 1) := by decide +kernel
theorem dL_law_337 : decode cL_law 337 = .ok (.aload_n 0, 1) := by decide +kernel
theorem dL_law_338 : decode cL_law 338 = .ok (.iload 5, 2) := by decide +kernel
theorem dL_law_340 : decode cL_law 340 = .ok (.iconst 1, 1) := by decide +kernel
theorem dL_law_341 : decode cL_law 341 = .ok (.iadd, 1) := by decide +kernel
theorem dL_law_342 : decode cL_law 342 = .ok (.iaload, 1) := by decide +kernel
theorem dL_law_343 : decode cL_law 343 = .ok (.aload_n 0, 1) := by decide +kernel
theorem dL_law_344 : decode cL_law 344 = .ok (.iload 5, 2) := by decide +kernel
theorem dL_law_346 : decode cL_law 346 = .ok (.iconst 2, 1) := by decide +kernel
theorem dL_law_347 : decode cL_law 347 = .ok (.iadd, 1) := by decide +kernel
theorem dL_law_348 : decode cL_law 348 = .ok (.iaload, 1) := by decide +kernel
theorem dL_law_349 : decode cL_law 349 = .ok (.aload_n 3, 1) := by decide +kernel
theorem dL_law_350 : decode cL_law 350 = .ok (.invokestatic 131, 3) := by decide +kernel
theorem dL_law_353 : decode cL_law 353 = .ok (.istore 6, 2) := by decide +kernel
theorem dL_law_355 : decode cL_law 355 = .ok (.aload_n 2, 1) := by decide +kernel
theorem dL_law_356 : decode cL_law 356 = .ok (.aload_n 0, 1) := by decide +kernel
theorem dL_law_357 : decode cL_law 357 = .ok (.iload 5, 2) := by decide +kernel
theorem dL_law_359 : decode cL_law 359 = .ok (.iconst 1, 1) := by decide +kernel
theorem dL_law_360 : decode cL_law 360 = .ok (.iadd, 1) := by decide +kernel
theorem dL_law_361 : decode cL_law 361 = .ok (.iaload, 1) := by decide +kernel
theorem dL_law_362 : decode cL_law 362 = .ok (.aload_n 0, 1) := by decide +kernel
theorem dL_law_363 : decode cL_law 363 = .ok (.iload 5, 2) := by decide +kernel
theorem dL_law_365 : decode cL_law 365 = .ok (.iconst 2, 1) := by decide +kernel
theorem dL_law_366 : decode cL_law 366 = .ok (.iadd, 1) := by decide +kernel
theorem dL_law_367 : decode cL_law 367 = .ok (.iaload, 1) := by decide +kernel
theorem dL_law_368 : decode cL_law 368 = .ok (.invokevirtual 133, 3) := by decide +kernel
theorem dL_law_371 : decode cL_law 371 = .ok (.istore 7, 2) := by decide +kernel
theorem dL_law_373 : decode cL_law 373 = .ok (.aload_n 2, 1) := by decide +kernel
theorem dL_law_374 : decode cL_law 374 = .ok (.invokevirtual 124, 3) := by decide +kernel
theorem dL_law_377 : decode cL_law 377 = .ok (.iload 6, 2) := by decide +kernel
theorem dL_law_379 : decode cL_law 379 = .ok (.if_icmp .eq 5, 3) := by decide +kernel
theorem dL_law_382 : decode cL_law 382 = .ok (.iconst 0, 1) := by decide +kernel
theorem dL_law_383 : decode cL_law 383 = .ok (.ireturn, 1) := by decide +kernel
theorem dL_law_384 : decode cL_law 384 = .ok (.iload 6, 2) := by decide +kernel
theorem dL_law_386 : decode cL_law 386 = .ok (.ifCond .ne 15, 3) := by decide +kernel
theorem dL_law_389 : decode cL_law 389 = .ok (.aload_n 3, 1) := by decide +kernel
theorem dL_law_390 : decode cL_law 390 = .ok (.iconst 0, 1) := by decide +kernel
theorem dL_law_391 : decode cL_law 391 = .ok (.laload, 1) := by decide +kernel
theorem dL_law_392 : decode cL_law 392 = .ok (.iload 7, 2) := by decide +kernel
theorem dL_law_394 : decode cL_law 394 = .ok (.i2l, 1) := by decide +kernel
theorem dL_law_395 : decode cL_law 395 = .ok (.lcmp, 1) := by decide +kernel
theorem dL_law_396 : decode cL_law 396 = .ok (.ifCond .eq 5, 3) := by decide +kernel
theorem dL_law_399 : decode cL_law 399 = .ok (.iconst 0, 1) := by decide +kernel
theorem dL_law_400 : decode cL_law 400 = .ok (.ireturn, 1) := by decide +kernel
theorem dL_law_401 : decode cL_law 401 = .ok (.goto 1689, 3) := by decide +kernel
theorem dL_law_404 : decode cL_law 404 = .ok (.aload_n 1, 1) := by decide +kernel
theorem dL_law_405 : decode cL_law 405 = .ok (.aload_n 0, 1) := by decide +kernel
theorem dL_law_406 : decode cL_law 406 = .ok (.iload 5, 2) := by decide +kernel
theorem dL_law_408 : decode cL_law 408 = .ok (.iconst 1, 1) := by decide +kernel
theorem dL_law_409 : decode cL_law 409 = .ok (.iadd, 1) := by decide +kernel
theorem dL_law_410 : decode cL_law 410 = .ok (.iaload, 1) := by decide +kernel
theorem dL_law_411 : decode cL_law 411 = .ok (.aload_n 0, 1) := by decide +kernel
theorem dL_law_412 : decode cL_law 412 = .ok (.iload 5, 2) := by decide +kernel
theorem dL_law_414 : decode cL_law 414 = .ok (.iconst 2, 1) := by decide +kernel
theorem dL_law_415 : decode cL_law 415 = .ok (.iadd, 1) := by decide +kernel
theorem dL_law_416 : decode cL_law 416 = .ok (.iaload, 1) := by decide +kernel
theorem dL_law_417 : decode cL_law 417 = .ok (.aload_n 0, 1) := by decide +kernel
theorem dL_law_418 : decode cL_law 418 = .ok (.iload 5, 2) := by decide +kernel
theorem dL_law_420 : decode cL_law 420 = .ok (.iconst 3, 1) := by decide +kernel
theorem dL_law_421 : decode cL_law 421 = .ok (.iadd, 1) := by decide +kernel
theorem dL_law_422 : decode cL_law 422 = .ok (.iaload, 1) := by decide +kernel
theorem dL_law_423 : decode cL_law 423 = .ok (.aload_n 3, 1) := by decide +kernel
theorem dL_law_424 : decode cL_law 424 = .ok (.invokestatic 134, 3) := by decide +kernel
theorem dL_law_427 : decode cL_law 427 = .ok (.istore 6, 2) := by decide +kernel
theorem dL_law_429 : decode cL_law 429 = .ok (.aload_n 2, 1) := by decide +kernel
theorem dL_law_430 : decode cL_law 430 = .ok (.aload_n 0, 1) := by decide +kernel
theorem dL_law_431 : decode cL_law 431 = .ok (.iload 5, 2) := by decide +kernel
theorem dL_law_433 : decode cL_law 433 = .ok (.iconst 1, 1) := by decide +kernel
theorem dL_law_434 : decode cL_law 434 = .ok (.iadd, 1) := by decide +kernel
theorem dL_law_435 : decode cL_law 435 = .ok (.iaload, 1) := by decide +kernel
theorem dL_law_436 : decode cL_law 436 = .ok (.aload_n 0, 1) := by decide +kernel
theorem dL_law_437 : decode cL_law 437 = .ok (.iload 5, 2) := by decide +kernel
theorem dL_law_439 : decode cL_law 439 = .ok (.iconst 2, 1) := by decide +kernel
theorem dL_law_440 : decode cL_law 440 = .ok (.iadd, 1) := by decide +kernel
theorem dL_law_441 : decode cL_law 441 = .ok (.iaload, 1) := by decide +kernel
theorem dL_law_442 : decode cL_law 442 = .ok (.aload_n 0, 1) := by decide +kernel
theorem dL_law_443 : decode cL_law 443 = .ok (.iload 5, 2) := by decide +kernel
theorem dL_law_445 : decode cL_law 445 = .ok (.iconst 3, 1) := by decide +kernel
theorem dL_law_446 : decode cL_law 446 = .ok (.iadd, 1) := by decide +kernel
theorem dL_law_447 : decode cL_law 447 = .ok (.iaload, 1) := by decide +kernel
theorem dL_law_448 : decode cL_law 448 = .ok (.invokevirtual 137, 3) := by decide +kernel
theorem dL_law_451 : decode cL_law 451 = .ok (.istore 7, 2) := by decide +kernel
theorem dL_law_453 : decode cL_law 453 = .ok (.aload_n 2, 1) := by decide +kernel
theorem dL_law_454 : decode cL_law 454 = .ok (.invokevirtual 124, 3) := by decide +kernel
theorem dL_law_457 : decode cL_law 457 = .ok (.iload 6, 2) := by decide +kernel
theorem dL_law_459 : decode cL_law 459 = .ok (.if_icmp .eq 5, 3) := by decide +kernel
theorem dL_law_462 : decode cL_law 462 = .ok (.iconst 0, 1) := by decide +kernel
theorem dL_law_463 : decode cL_law 463 = .ok (.ireturn, 1) := by decide +kernel
theorem dL_law_464 : decode cL_law 464 = .ok (.iload 6, 2) := by decide +kernel
theorem dL_law_466 : decode cL_law 466 = .ok (.ifCond .ne 15, 3) := by decide +kernel
theorem dL_law_469 : decode cL_law 469 = .ok (.aload_n 3, 1) := by decide +kernel
theorem dL_law_470 : decode cL_law 470 = .ok (.iconst 0, 1) := by decide +kernel
theorem dL_law_471 : decode cL_law 471 = .ok (.laload, 1) := by decide +kernel
theorem dL_law_472 : decode cL_law 472 = .ok (.iload 7, 2) := by decide +kernel
theorem dL_law_474 : decode cL_law 474 = .ok (.i2l, 1) := by decide +kernel
theorem dL_law_475 : decode cL_law 475 = .ok (.lcmp, 1) := by decide +kernel
theorem dL_law_476 : decode cL_law 476 = .ok (.ifCond .eq 5, 3) := by decide +kernel
theorem dL_law_479 : decode cL_law 479 = .ok (.iconst 0, 1) := by decide +kernel
theorem dL_law_480 : decode cL_law 480 = .ok (.ireturn, 1) := by decide +kernel
theorem dL_law_481 : decode cL_law 481 = .ok (.goto 1609, 3) := by decide +kernel
theorem dL_law_484 : decode cL_law 484 = .ok (.aload_n 1, 1) := by decide +kernel
theorem dL_law_485 : decode cL_law 485 = .ok (.aload_n 0, 1) := by decide +kernel
theorem dL_law_486 : decode cL_law 486 = .ok (.iload 5, 2) := by decide +kernel
theorem dL_law_488 : decode cL_law 488 = .ok (.iconst 1, 1) := by decide +kernel
theorem dL_law_489 : decode cL_law 489 = .ok (.iadd, 1) := by decide +kernel
theorem dL_law_490 : decode cL_law 490 = .ok (.iaload, 1) := by decide +kernel
theorem dL_law_491 : decode cL_law 491 = .ok (.aload_n 0, 1) := by decide +kernel
theorem dL_law_492 : decode cL_law 492 = .ok (.iload 5, 2) := by decide +kernel
theorem dL_law_494 : decode cL_law 494 = .ok (.iconst 2, 1) := by decide +kernel
theorem dL_law_495 : decode cL_law 495 = .ok (.iadd, 1) := by decide +kernel
theorem dL_law_496 : decode cL_law 496 = .ok (.iaload, 1) := by decide +kernel
theorem dL_law_497 : decode cL_law 497 = .ok (.aload_n 3, 1) := by decide +kernel
theorem dL_law_498 : decode cL_law 498 = .ok (.invokestatic 138, 3) := by decide +kernel
theorem dL_law_501 : decode cL_law 501 = .ok (.istore 6, 2) := by decide +kernel
theorem dL_law_503 : decode cL_law 503 = .ok (.aload_n 2, 1) := by decide +kernel
theorem dL_law_504 : decode cL_law 504 = .ok (.aload_n 0, 1) := by decide +kernel
theorem dL_law_505 : decode cL_law 505 = .ok (.iload 5, 2) := by decide +kernel
theorem dL_law_507 : decode cL_law 507 = .ok (.iconst 1, 1) := by decide +kernel
theorem dL_law_508 : decode cL_law 508 = .ok (.iadd, 1) := by decide +kernel
theorem dL_law_509 : decode cL_law 509 = .ok (.iaload, 1) := by decide +kernel
theorem dL_law_510 : decode cL_law 510 = .ok (.aload_n 0, 1) := by decide +kernel
theorem dL_law_511 : decode cL_law 511 = .ok (.iload 5, 2) := by decide +kernel
theorem dL_law_513 : decode cL_law 513 = .ok (.iconst 2, 1) := by decide +kernel
theorem dL_law_514 : decode cL_law 514 = .ok (.iadd, 1) := by decide +kernel
theorem dL_law_515 : decode cL_law 515 = .ok (.iaload, 1) := by decide +kernel
theorem dL_law_516 : decode cL_law 516 = .ok (.invokevirtual 140, 3) := by decide +kernel
theorem dL_law_519 : decode cL_law 519 = .ok (.istore 7, 2) := by decide +kernel
theorem dL_law_521 : decode cL_law 521 = .ok (.aload_n 2, 1) := by decide +kernel
theorem dL_law_522 : decode cL_law 522 = .ok (.invokevirtual 124, 3) := by decide +kernel
theorem dL_law_525 : decode cL_law 525 = .ok (.iload 6, 2) := by decide +kernel
theorem dL_law_527 : decode cL_law 527 = .ok (.if_icmp .eq 5, 3) := by decide +kernel
theorem dL_law_530 : decode cL_law 530 = .ok (.iconst 0, 1) := by decide +kernel
theorem dL_law_531 : decode cL_law 531 = .ok (.ireturn, 1) := by decide +kernel
theorem dL_law_532 : decode cL_law 532 = .ok (.iload 6, 2) := by decide +kernel
theorem dL_law_534 : decode cL_law 534 = .ok (.ifCond .ne 15, 3) := by decide +kernel
theorem dL_law_537 : decode cL_law 537 = .ok (.aload_n 3, 1) := by decide +kernel
theorem dL_law_538 : decode cL_law 538 = .ok (.iconst 0, 1) := by decide +kernel
theorem dL_law_539 : decode cL_law 539 = .ok (.laload, 1) := by decide +kernel
theorem dL_law_540 : decode cL_law 540 = .ok (.iload 7, 2) := by decide +kernel
theorem dL_law_542 : decode cL_law 542 = .ok (.i2l, 1) := by decide +kernel
theorem dL_law_543 : decode cL_law 543 = .ok (.lcmp, 1) := by decide +kernel
theorem dL_law_544 : decode cL_law 544 = .ok (.ifCond .eq 5, 3) := by decide +kernel
theorem dL_law_547 : decode cL_law 547 = .ok (.iconst 0, 1) := by decide +kernel
theorem dL_law_548 : decode cL_law 548 = .ok (.ireturn, 1) := by decide +kernel
theorem dL_law_549 : decode cL_law 549 = .ok (.goto 1541, 3) := by decide +kernel
theorem dL_law_552 : decode cL_law 552 = .ok (.aload_n 1, 1) := by decide +kernel
theorem dL_law_553 : decode cL_law 553 = .ok (.aload_n 0, 1) := by decide +kernel
theorem dL_law_554 : decode cL_law 554 = .ok (.iload 5, 2) := by decide +kernel
theorem dL_law_556 : decode cL_law 556 = .ok (.iconst 1, 1) := by decide +kernel
theorem dL_law_557 : decode cL_law 557 = .ok (.iadd, 1) := by decide +kernel
theorem dL_law_558 : decode cL_law 558 = .ok (.iaload, 1) := by decide +kernel
theorem dL_law_559 : decode cL_law 559 = .ok (.aload_n 3, 1) := by decide +kernel
theorem dL_law_560 : decode cL_law 560 = .ok (.invokestatic 141, 3) := by decide +kernel
theorem dL_law_563 : decode cL_law 563 = .ok (.istore 6, 2) := by decide +kernel
theorem dL_law_565 : decode cL_law 565 = .ok (.aload_n 2, 1) := by decide +kernel
theorem dL_law_566 : decode cL_law 566 = .ok (.aload_n 0, 1) := by decide +kernel
theorem dL_law_567 : decode cL_law 567 = .ok (.iload 5, 2) := by decide +kernel
theorem dL_law_569 : decode cL_law 569 = .ok (.iconst 1, 1) := by decide +kernel
theorem dL_law_570 : decode cL_law 570 = .ok (.iadd, 1) := by decide +kernel
theorem dL_law_571 : decode cL_law 571 = .ok (.iaload, 1) := by decide +kernel
theorem dL_law_572 : decode cL_law 572 = .ok (.invokevirtual 144, 3) := by decide +kernel
theorem dL_law_575 : decode cL_law 575 = .ok (.istore 7, 2) := by decide +kernel
theorem dL_law_577 : decode cL_law 577 = .ok (.aload_n 2, 1) := by decide +kernel
theorem dL_law_578 : decode cL_law 578 = .ok (.invokevirtual 124, 3) := by decide +kernel
theorem dL_law_581 : decode cL_law 581 = .ok (.iload 6, 2) := by decide +kernel
theorem dL_law_583 : decode cL_law 583 = .ok (.if_icmp .eq 5, 3) := by decide +kernel
theorem dL_law_586 : decode cL_law 586 = .ok (.iconst 0, 1) := by decide +kernel
theorem dL_law_587 : decode cL_law 587 = .ok (.ireturn, 1) := by decide +kernel
theorem dL_law_588 : decode cL_law 588 = .ok (.iload 6, 2) := by decide +kernel
theorem dL_law_590 : decode cL_law 590 = .ok (.ifCond .ne 15, 3) := by decide +kernel
theorem dL_law_593 : decode cL_law 593 = .ok (.aload_n 3, 1) := by decide +kernel
theorem dL_law_594 : decode cL_law 594 = .ok (.iconst 0, 1) := by decide +kernel
theorem dL_law_595 : decode cL_law 595 = .ok (.laload, 1) := by decide +kernel
theorem dL_law_596 : decode cL_law 596 = .ok (.iload 7, 2) := by decide +kernel
theorem dL_law_598 : decode cL_law 598 = .ok (.i2l, 1) := by decide +kernel
theorem dL_law_599 : decode cL_law 599 = .ok (.lcmp, 1) := by decide +kernel
theorem dL_law_600 : decode cL_law 600 = .ok (.ifCond .eq 5, 3) := by decide +kernel
theorem dL_law_603 : decode cL_law 603 = .ok (.iconst 0, 1) := by decide +kernel
theorem dL_law_604 : decode cL_law 604 = .ok (.ireturn, 1) := by decide +kernel
theorem dL_law_605 : decode cL_law 605 = .ok (.goto 1485, 3) := by decide +kernel
theorem dL_law_608 : decode cL_law 608 = .ok (.aload_n 1, 1) := by decide +kernel
theorem dL_law_609 : decode cL_law 609 = .ok (.aload_n 3, 1) := by decide +kernel
theorem dL_law_610 : decode cL_law 610 = .ok (.invokestatic 145, 3) := by decide +kernel
theorem dL_law_613 : decode cL_law 613 = .ok (.istore 6, 2) := by decide +kernel
theorem dL_law_615 : decode cL_law 615 = .ok (.aload_n 2, 1) := by decide +kernel
theorem dL_law_616 : decode cL_law 616 = .ok (.invokevirtual 147, 3) := by decide +kernel
theorem dL_law_619 : decode cL_law 619 = .ok (.istore 7, 2) := by decide +kernel
theorem dL_law_621 : decode cL_law 621 = .ok (.aload_n 2, 1) := by decide +kernel
theorem dL_law_622 : decode cL_law 622 = .ok (.invokevirtual 124, 3) := by decide +kernel
theorem dL_law_625 : decode cL_law 625 = .ok (.iload 6, 2) := by decide +kernel
theorem dL_law_627 : decode cL_law 627 = .ok (.if_icmp .eq 5, 3) := by decide +kernel
theorem dL_law_630 : decode cL_law 630 = .ok (.iconst 0, 1) := by decide +kernel
theorem dL_law_631 : decode cL_law 631 = .ok (.ireturn, 1) := by decide +kernel
theorem dL_law_632 : decode cL_law 632 = .ok (.iload 6, 2) := by decide +kernel
theorem dL_law_634 : decode cL_law 634 = .ok (.ifCond .ne 15, 3) := by decide +kernel
theorem dL_law_637 : decode cL_law 637 = .ok (.aload_n 3, 1) := by decide +kernel
theorem dL_law_638 : decode cL_law 638 = .ok (.iconst 0, 1) := by decide +kernel
theorem dL_law_639 : decode cL_law 639 = .ok (.laload, 1) := by decide +kernel
theorem dL_law_640 : decode cL_law 640 = .ok (.iload 7, 2) := by decide +kernel
theorem dL_law_642 : decode cL_law 642 = .ok (.i2l, 1) := by decide +kernel
theorem dL_law_643 : decode cL_law 643 = .ok (.lcmp, 1) := by decide +kernel
theorem dL_law_644 : decode cL_law 644 = .ok (.ifCond .eq 5, 3) := by decide +kernel
theorem dL_law_647 : decode cL_law 647 = .ok (.iconst 0, 1) := by decide +kernel
theorem dL_law_648 : decode cL_law 648 = .ok (.ireturn, 1) := by decide +kernel
theorem dL_law_649 : decode cL_law 649 = .ok (.goto 1441, 3) := by decide +kernel
theorem dL_law_652 : decode cL_law 652 = .ok (.aload_n 1, 1) := by decide +kernel
theorem dL_law_653 : decode cL_law 653 = .ok (.aload_n 0, 1) := by decide +kernel
theorem dL_law_654 : decode cL_law 654 = .ok (.iload 5, 2) := by decide +kernel
theorem dL_law_656 : decode cL_law 656 = .ok (.iconst 1, 1) := by decide +kernel
theorem dL_law_657 : decode cL_law 657 = .ok (.iadd, 1) := by decide +kernel
theorem dL_law_658 : decode cL_law 658 = .ok (.iaload, 1) := by decide +kernel
theorem dL_law_659 : decode cL_law 659 = .ok (.i2c, 1) := by decide +kernel
theorem dL_law_660 : decode cL_law 660 = .ok (.aload_n 3, 1) := by decide +kernel
theorem dL_law_661 : decode cL_law 661 = .ok (.invokestatic 148, 3) := by decide +kernel
theorem dL_law_664 : decode cL_law 664 = .ok (.istore 6, 2) := by decide +kernel
theorem dL_law_666 : decode cL_law 666 = .ok (.aload_n 2, 1) := by decide +kernel
theorem dL_law_667 : decode cL_law 667 = .ok (.aload_n 0, 1) := by decide +kernel
theorem dL_law_668 : decode cL_law 668 = .ok (.iload 5, 2) := by decide +kernel
theorem dL_law_670 : decode cL_law 670 = .ok (.iconst 1, 1) := by decide +kernel
theorem dL_law_671 : decode cL_law 671 = .ok (.iadd, 1) := by decide +kernel
theorem dL_law_672 : decode cL_law 672 = .ok (.iaload, 1) := by decide +kernel
theorem dL_law_673 : decode cL_law 673 = .ok (.i2c, 1) := by decide +kernel
theorem dL_law_674 : decode cL_law 674 = .ok (.invokevirtual 151, 3) := by decide +kernel
theorem dL_law_677 : decode cL_law 677 = .ok (.istore 7, 2) := by decide +kernel
theorem dL_law_679 : decode cL_law 679 = .ok (.aload_n 2, 1) := by decide +kernel
theorem dL_law_680 : decode cL_law 680 = .ok (.invokevirtual 124, 3) := by decide +kernel
theorem dL_law_683 : decode cL_law 683 = .ok (.iload 6, 2) := by decide +kernel
theorem dL_law_685 : decode cL_law 685 = .ok (.if_icmp .eq 5, 3) := by decide +kernel
theorem dL_law_688 : decode cL_law 688 = .ok (.iconst 0, 1) := by decide +kernel
theorem dL_law_689 : decode cL_law 689 = .ok (.ireturn, 1) := by decide +kernel
theorem dL_law_690 : decode cL_law 690 = .ok (.iload 6, 2) := by decide +kernel
theorem dL_law_692 : decode cL_law 692 = .ok (.ifCond .ne 15, 3) := by decide +kernel
theorem dL_law_695 : decode cL_law 695 = .ok (.aload_n 3, 1) := by decide +kernel
theorem dL_law_696 : decode cL_law 696 = .ok (.iconst 0, 1) := by decide +kernel
theorem dL_law_697 : decode cL_law 697 = .ok (.laload, 1) := by decide +kernel
theorem dL_law_698 : decode cL_law 698 = .ok (.iload 7, 2) := by decide +kernel
theorem dL_law_700 : decode cL_law 700 = .ok (.i2l, 1) := by decide +kernel
theorem dL_law_701 : decode cL_law 701 = .ok (.lcmp, 1) := by decide +kernel
theorem dL_law_702 : decode cL_law 702 = .ok (.ifCond .eq 5, 3) := by decide +kernel
theorem dL_law_705 : decode cL_law 705 = .ok (.iconst 0, 1) := by decide +kernel
theorem dL_law_706 : decode cL_law 706 = .ok (.ireturn, 1) := by decide +kernel
theorem dL_law_707 : decode cL_law 707 = .ok (.goto 1383, 3) := by decide +kernel
theorem dL_law_710 : decode cL_law 710 = .ok (.aload_n 1, 1) := by decide +kernel
theorem dL_law_711 : decode cL_law 711 = .ok (.invokevirtual 152, 3) := by decide +kernel
theorem dL_law_714 : decode cL_law 714 = .ok (.aload_n 2, 1) := by decide +kernel
theorem dL_law_715 : decode cL_law 715 = .ok (.invokevirtual 155, 3) := by decide +kernel
theorem dL_law_718 : decode cL_law 718 = .ok (.if_icmp .eq 1372, 3) := by decide +kernel
theorem dL_law_721 : decode cL_law 721 = .ok (.iconst 0, 1) := by decide +kernel
theorem dL_law_722 : decode cL_law 722 = .ok (.ireturn, 1) := by decide +kernel
theorem dL_law_723 : decode cL_law 723 = .ok (.aload_n 1, 1) := by decide +kernel
theorem dL_law_724 : decode cL_law 724 = .ok (.invokevirtual 156, 3) := by decide +kernel
theorem dL_law_727 : decode cL_law 727 = .ok (.aload_n 2, 1) := by decide +kernel
theorem dL_law_728 : decode cL_law 728 = .ok (.invokevirtual 160, 3) := by decide +kernel
theorem dL_law_731 : decode cL_law 731 = .ok (.if_icmp .eq 1359, 3) := by decide +kernel
theorem dL_law_734 : decode cL_law 734 = .ok (.iconst 0, 1) := by decide +kernel
theorem dL_law_735 : decode cL_law 735 = .ok (.ireturn, 1) := by decide +kernel
theorem dL_law_736 : decode cL_law 736 = .ok (.aload_n 1, 1) := by decide +kernel
theorem dL_law_737 : decode cL_law 737 = .ok (.aload_n 3, 1) := by decide +kernel
theorem dL_law_738 : decode cL_law 738 = .ok (.invokestatic 161, 3) := by decide +kernel
theorem dL_law_741 : decode cL_law 741 = .ok (.istore 6, 2) := by decide +kernel
theorem dL_law_743 : decode cL_law 743 = .ok (.aload_n 2, 1) := by decide +kernel
theorem dL_law_744 : decode cL_law 744 = .ok (.invokevirtual 163, 3) := by decide +kernel
theorem dL_law_747 : decode cL_law 747 = .ok (.istore 7, 2) := by decide +kernel
theorem dL_law_749 : decode cL_law 749 = .ok (.aload_n 2, 1) := by decide +kernel
theorem dL_law_750 : decode cL_law 750 = .ok (.invokevirtual 124, 3) := by decide +kernel
theorem dL_law_753 : decode cL_law 753 = .ok (.iload 6, 2) := by decide +kernel
theorem dL_law_755 : decode cL_law 755 = .ok (.if_icmp .eq 5, 3) := by decide +kernel
theorem dL_law_758 : decode cL_law 758 = .ok (.iconst 0, 1) := by decide +kernel
theorem dL_law_759 : decode cL_law 759 = .ok (.ireturn, 1) := by decide +kernel
theorem dL_law_760 : decode cL_law 760 = .ok (.iload 6, 2) := by decide +kernel
theorem dL_law_762 : decode cL_law 762 = .ok (.ifCond .ne 15, 3) := by decide +kernel
theorem dL_law_765 : decode cL_law 765 = .ok (.aload_n 3, 1) := by decide +kernel
theorem dL_law_766 : decode cL_law 766 = .ok (.iconst 0, 1) := by decide +kernel
theorem dL_law_767 : decode cL_law 767 = .ok (.laload, 1) := by decide +kernel
theorem dL_law_768 : decode cL_law 768 = .ok (.iload 7, 2) := by decide +kernel
theorem dL_law_770 : decode cL_law 770 = .ok (.i2l, 1) := by decide +kernel
theorem dL_law_771 : decode cL_law 771 = .ok (.lcmp, 1) := by decide +kernel
theorem dL_law_772 : decode cL_law 772 = .ok (.ifCond .eq 5, 3) := by decide +kernel
theorem dL_law_775 : decode cL_law 775 = .ok (.iconst 0, 1) := by decide +kernel
theorem dL_law_776 : decode cL_law 776 = .ok (.ireturn, 1) := by decide +kernel
theorem dL_law_777 : decode cL_law 777 = .ok (.goto 1313, 3) := by decide +kernel
theorem dL_law_780 : decode cL_law 780 = .ok (.aload_n 1, 1) := by decide +kernel
theorem dL_law_781 : decode cL_law 781 = .ok (.aload_n 3, 1) := by decide +kernel
theorem dL_law_782 : decode cL_law 782 = .ok (.invokestatic 164, 3) := by decide +kernel
theorem dL_law_785 : decode cL_law 785 = .ok (.istore 6, 2) := by decide +kernel
theorem dL_law_787 : decode cL_law 787 = .ok (.aload_n 2, 1) := by decide +kernel
theorem dL_law_788 : decode cL_law 788 = .ok (.invokevirtual 166, 3) := by decide +kernel
theorem dL_law_791 : decode cL_law 791 = .ok (.istore 7, 2) := by decide +kernel
theorem dL_law_793 : decode cL_law 793 = .ok (.aload_n 2, 1) := by decide +kernel
theorem dL_law_794 : decode cL_law 794 = .ok (.invokevirtual 124, 3) := by decide +kernel
theorem dL_law_797 : decode cL_law 797 = .ok (.iload 6, 2) := by decide +kernel
theorem dL_law_799 : decode cL_law 799 = .ok (.if_icmp .eq 5, 3) := by decide +kernel
theorem dL_law_802 : decode cL_law 802 = .ok (.iconst 0, 1) := by decide +kernel
theorem dL_law_803 : decode cL_law 803 = .ok (.ireturn, 1) := by decide +kernel
theorem dL_law_804 : decode cL_law 804 = .ok (.iload 6, 2) := by decide +kernel
theorem dL_law_806 : decode cL_law 806 = .ok (.ifCond .ne 15, 3) := by decide +kernel
theorem dL_law_809 : decode cL_law 809 = .ok (.aload_n 3, 1) := by decide +kernel
theorem dL_law_810 : decode cL_law 810 = .ok (.iconst 0, 1) := by decide +kernel
theorem dL_law_811 : decode cL_law 811 = .ok (.laload, 1) := by decide +kernel
theorem dL_law_812 : decode cL_law 812 = .ok (.iload 7, 2) := by decide +kernel
theorem dL_law_814 : decode cL_law 814 = .ok (.i2l, 1) := by decide +kernel
theorem dL_law_815 : decode cL_law 815 = .ok (.lcmp, 1) := by decide +kernel
theorem dL_law_816 : decode cL_law 816 = .ok (.ifCond .eq 5, 3) := by decide +kernel
theorem dL_law_819 : decode cL_law 819 = .ok (.iconst 0, 1) := by decide +kernel
theorem dL_law_820 : decode cL_law 820 = .ok (.ireturn, 1) := by decide +kernel
theorem dL_law_821 : decode cL_law 821 = .ok (.goto 1269, 3) := by decide +kernel
theorem dL_law_824 : decode cL_law 824 = .ok (.aload_n 1, 1) := by decide +kernel
theorem dL_law_825 : decode cL_law 825 = .ok (.invokevirtual 167, 3) := by decide +kernel
theorem dL_law_828 : decode cL_law 828 = .ok (.aload_n 2, 1) := by decide +kernel
theorem dL_law_829 : decode cL_law 829 = .ok (.invokevirtual 170, 3) := by decide +kernel
theorem dL_law_832 : decode cL_law 832 = .ok (.if_icmp .eq 1258, 3) := by decide +kernel
theorem dL_law_835 : decode cL_law 835 = .ok (.iconst 0, 1) := by decide +kernel
theorem dL_law_836 : decode cL_law 836 = .ok (.ireturn, 1) := by decide +kernel
theorem dL_law_837 : decode cL_law 837 = .ok (.aload_n 1, 1) := by decide +kernel
theorem dL_law_838 : decode cL_law 838 = .ok (.aload_n 3, 1) := by decide +kernel
theorem dL_law_839 : decode cL_law 839 = .ok (.invokestatic 171, 3) := by decide +kernel
theorem dL_law_842 : decode cL_law 842 = .ok (.istore 6, 2) := by decide +kernel
theorem dL_law_844 : decode cL_law 844 = .ok (.aload_n 2, 1) := by decide +kernel
theorem dL_law_845 : decode cL_law 845 = .ok (.invokevirtual 173, 3) := by decide +kernel
theorem dL_law_848 : decode cL_law 848 = .ok (.istore 7, 2) := by decide +kernel
theorem dL_law_850 : decode cL_law 850 = .ok (.aload_n 2, 1) := by decide +kernel
theorem dL_law_851 : decode cL_law 851 = .ok (.invokevirtual 124, 3) := by decide +kernel
theorem dL_law_854 : decode cL_law 854 = .ok (.iload 6, 2) := by decide +kernel
theorem dL_law_856 : decode cL_law 856 = .ok (.if_icmp .eq 5, 3) := by decide +kernel
theorem dL_law_859 : decode cL_law 859 = .ok (.iconst 0, 1) := by decide +kernel
theorem dL_law_860 : decode cL_law 860 = .ok (.ireturn, 1) := by decide +kernel
theorem dL_law_861 : decode cL_law 861 = .ok (.iload 6, 2) := by decide +kernel
theorem dL_law_863 : decode cL_law 863 = .ok (.ifCond .ne 15, 3) := by decide +kernel
theorem dL_law_866 : decode cL_law 866 = .ok (.aload_n 3, 1) := by decide +kernel
theorem dL_law_867 : decode cL_law 867 = .ok (.iconst 0, 1) := by decide +kernel
theorem dL_law_868 : decode cL_law 868 = .ok (.laload, 1) := by decide +kernel
theorem dL_law_869 : decode cL_law 869 = .ok (.iload 7, 2) := by decide +kernel
theorem dL_law_871 : decode cL_law 871 = .ok (.i2l, 1) := by decide +kernel
theorem dL_law_872 : decode cL_law 872 = .ok (.lcmp, 1) := by decide +kernel
theorem dL_law_873 : decode cL_law 873 = .ok (.ifCond .eq 5, 3) := by decide +kernel
theorem dL_law_876 : decode cL_law 876 = .ok (.iconst 0, 1) := by decide +kernel
theorem dL_law_877 : decode cL_law 877 = .ok (.ireturn, 1) := by decide +kernel
theorem dL_law_878 : decode cL_law 878 = .ok (.goto 1212, 3) := by decide +kernel
theorem dL_law_881 : decode cL_law 881 = .ok (.aload_n 1, 1) := by decide +kernel
theorem dL_law_882 : decode cL_law 882 = .ok (.invokevirtual 174, 3) := by decide +kernel
theorem dL_law_885 : decode cL_law 885 = .ok (.aload_n 2, 1) := by decide +kernel
theorem dL_law_886 : decode cL_law 886 = .ok (.invokevirtual 177, 3) := by decide +kernel
theorem dL_law_889 : decode cL_law 889 = .ok (.if_icmp .eq 1201, 3) := by decide +kernel
theorem dL_law_892 : decode cL_law 892 = .ok (.iconst 0, 1) := by decide +kernel
theorem dL_law_893 : decode cL_law 893 = .ok (.ireturn, 1) := by decide +kernel
theorem dL_law_894 : decode cL_law 894 = .ok (.aload_n 1, 1) := by decide +kernel
theorem dL_law_895 : decode cL_law 895 = .ok (.invokevirtual 178, 3) := by decide +kernel
theorem dL_law_898 : decode cL_law 898 = .ok (.aload_n 2, 1) := by decide +kernel
theorem dL_law_899 : decode cL_law 899 = .ok (.invokevirtual 181, 3) := by decide +kernel
theorem dL_law_902 : decode cL_law 902 = .ok (.if_icmp .eq 1188, 3) := by decide +kernel
theorem dL_law_905 : decode cL_law 905 = .ok (.iconst 0, 1) := by decide +kernel
theorem dL_law_906 : decode cL_law 906 = .ok (.ireturn, 1) := by decide +kernel
theorem dL_law_907 : decode cL_law 907 = .ok (.aload_n 1, 1) := by decide +kernel
theorem dL_law_908 : decode cL_law 908 = .ok (.aload_n 0, 1) := by decide +kernel
theorem dL_law_909 : decode cL_law 909 = .ok (.iload 5, 2) := by decide +kernel
theorem dL_law_911 : decode cL_law 911 = .ok (.iconst 1, 1) := by decide +kernel
theorem dL_law_912 : decode cL_law 912 = .ok (.iadd, 1) := by decide +kernel
theorem dL_law_913 : decode cL_law 913 = .ok (.iaload, 1) := by decide +kernel
theorem dL_law_914 : decode cL_law 914 = .ok (.aload_n 3, 1) := by decide +kernel
theorem dL_law_915 : decode cL_law 915 = .ok (.invokestatic 182, 3) := by decide +kernel
theorem dL_law_918 : decode cL_law 918 = .ok (.istore 6, 2) := by decide +kernel
theorem dL_law_920 : decode cL_law 920 = .ok (.aload_n 2, 1) := by decide +kernel
theorem dL_law_921 : decode cL_law 921 = .ok (.aload_n 0, 1) := by decide +kernel
theorem dL_law_922 : decode cL_law 922 = .ok (.iload 5, 2) := by decide +kernel
theorem dL_law_924 : decode cL_law 924 = .ok (.iconst 1, 1) := by decide +kernel
theorem dL_law_925 : decode cL_law 925 = .ok (.iadd, 1) := by decide +kernel
theorem dL_law_926 : decode cL_law 926 = .ok (.iaload, 1) := by decide +kernel
theorem dL_law_927 : decode cL_law 927 = .ok (.invokevirtual 184, 3) := by decide +kernel
theorem dL_law_930 : decode cL_law 930 = .ok (.istore 7, 2) := by decide +kernel
theorem dL_law_932 : decode cL_law 932 = .ok (.aload_n 2, 1) := by decide +kernel
theorem dL_law_933 : decode cL_law 933 = .ok (.invokevirtual 124, 3) := by decide +kernel
theorem dL_law_936 : decode cL_law 936 = .ok (.iload 6, 2) := by decide +kernel
theorem dL_law_938 : decode cL_law 938 = .ok (.if_icmp .eq 5, 3) := by decide +kernel
theorem dL_law_941 : decode cL_law 941 = .ok (.iconst 0, 1) := by decide +kernel
theorem dL_law_942 : decode cL_law 942 = .ok (.ireturn, 1) := by decide +kernel
theorem dL_law_943 : decode cL_law 943 = .ok (.iload 6, 2) := by decide +kernel
theorem dL_law_945 : decode cL_law 945 = .ok (.ifCond .ne 15, 3) := by decide +kernel
theorem dL_law_948 : decode cL_law 948 = .ok (.aload_n 3, 1) := by decide +kernel
theorem dL_law_949 : decode cL_law 949 = .ok (.iconst 0, 1) := by decide +kernel
theorem dL_law_950 : decode cL_law 950 = .ok (.laload, 1) := by decide +kernel
theorem dL_law_951 : decode cL_law 951 = .ok (.iload 7, 2) := by decide +kernel
theorem dL_law_953 : decode cL_law 953 = .ok (.i2l, 1) := by decide +kernel
theorem dL_law_954 : decode cL_law 954 = .ok (.lcmp, 1) := by decide +kernel
theorem dL_law_955 : decode cL_law 955 = .ok (.ifCond .eq 5, 3) := by decide +kernel
theorem dL_law_958 : decode cL_law 958 = .ok (.iconst 0, 1) := by decide +kernel
theorem dL_law_959 : decode cL_law 959 = .ok (.ireturn, 1) := by decide +kernel
theorem dL_law_960 : decode cL_law 960 = .ok (.goto 1130, 3) := by decide +kernel
theorem dL_law_963 : decode cL_law 963 = .ok (.aload_n 1, 1) := by decide +kernel
theorem dL_law_964 : decode cL_law 964 = .ok (.aload_n 0, 1) := by decide +kernel
theorem dL_law_965 : decode cL_law 965 = .ok (.iload 5, 2) := by decide +kernel
theorem dL_law_967 : decode cL_law 967 = .ok (.iconst 1, 1) := by decide +kernel
theorem dL_law_968 : decode cL_law 968 = .ok (.iadd, 1) := by decide +kernel
theorem dL_law_969 : decode cL_law 969 = .ok (.iaload, 1) := by decide +kernel
theorem dL_law_970 : decode cL_law 970 = .ok (.aload_n 3, 1) := by decide +kernel
theorem dL_law_971 : decode cL_law 971 = .ok (.invokestatic 185, 3) := by decide +kernel
theorem dL_law_974 : decode cL_law 974 = .ok (.istore 6, 2) := by decide +kernel
theorem dL_law_976 : decode cL_law 976 = .ok (.aload_n 2, 1) := by decide +kernel
theorem dL_law_977 : decode cL_law 977 = .ok (.aload_n 0, 1) := by decide +kernel
theorem dL_law_978 : decode cL_law 978 = .ok (.iload 5, 2) := by decide +kernel
theorem dL_law_980 : decode cL_law 980 = .ok (.iconst 1, 1) := by decide +kernel
theorem dL_law_981 : decode cL_law 981 = .ok (.iadd, 1) := by decide +kernel
theorem dL_law_982 : decode cL_law 982 = .ok (.iaload, 1) := by decide +kernel
theorem dL_law_983 : decode cL_law 983 = .ok (.invokevirtual 187, 3) := by decide +kernel
theorem dL_law_986 : decode cL_law 986 = .ok (.istore 7, 2) := by decide +kernel
theorem dL_law_988 : decode cL_law 988 = .ok (.aload_n 2, 1) := by decide +kernel
theorem dL_law_989 : decode cL_law 989 = .ok (.invokevirtual 124, 3) := by decide +kernel
theorem dL_law_992 : decode cL_law 992 = .ok (.iload 6, 2) := by decide +kernel
theorem dL_law_994 : decode cL_law 994 = .ok (.if_icmp .eq 5, 3) := by decide +kernel
theorem dL_law_997 : decode cL_law 997 = .ok (.iconst 0, 1) := by decide +kernel
theorem dL_law_998 : decode cL_law 998 = .ok (.ireturn, 1) := by decide +kernel
theorem dL_law_999 : decode cL_law 999 = .ok (.iload 6, 2) := by decide +kernel
theorem dL_law_1001 : decode cL_law 1001 = .ok (.ifCond .ne 15, 3) := by decide +kernel
theorem dL_law_1004 : decode cL_law 1004 = .ok (.aload_n 3, 1) := by decide +kernel
theorem dL_law_1005 : decode cL_law 1005 = .ok (.iconst 0, 1) := by decide +kernel
theorem dL_law_1006 : decode cL_law 1006 = .ok (.laload, 1) := by decide +kernel
theorem dL_law_1007 : decode cL_law 1007 = .ok (.iload 7, 2) := by decide +kernel
theorem dL_law_1009 : decode cL_law 1009 = .ok (.i2l, 1) := by decide +kernel
theorem dL_law_1010 : decode cL_law 1010 = .ok (.lcmp, 1) := by decide +kernel
theorem dL_law_1011 : decode cL_law 1011 = .ok (.ifCond .eq 5, 3) := by decide +kernel
theorem dL_law_1014 : decode cL_law 1014 = .ok (.iconst 0, 1) := by decide +kernel
theorem dL_law_1015 : decode cL_law 1015 = .ok (.ireturn, 1) := by decide +kernel
theorem dL_law_1016 : decode cL_law 1016 = .ok (.goto 1074, 3) := by decide +kernel
theorem dL_law_1019 : decode cL_law 1019 = .ok (.aload_n 1, 1) := by decide +kernel
theorem dL_law_1020 : decode cL_law 1020 = .ok (.aload_n 0, 1) := by decide +kernel
theorem dL_law_1021 : decode cL_law 1021 = .ok (.iload 5, 2) := by decide +kernel
theorem dL_law_1023 : decode cL_law 1023 = .ok (.iconst 1, 1) := by decide +kernel
theorem dL_law_1024 : decode cL_law 1024 = .ok (.iadd, 1) := by decide +kernel
theorem dL_law_1025 : decode cL_law 1025 = .ok (.iaload, 1) := by decide +kernel
theorem dL_law_1026 : decode cL_law 1026 = .ok (.aload_n 0, 1) := by decide +kernel
theorem dL_law_1027 : decode cL_law 1027 = .ok (.iload 5, 2) := by decide +kernel
theorem dL_law_1029 : decode cL_law 1029 = .ok (.iconst 2, 1) := by decide +kernel
theorem dL_law_1030 : decode cL_law 1030 = .ok (.iadd, 1) := by decide +kernel
theorem dL_law_1031 : decode cL_law 1031 = .ok (.iaload, 1) := by decide +kernel
theorem dL_law_1032 : decode cL_law 1032 = .ok (.aload_n 3, 1) := by decide +kernel
theorem dL_law_1033 : decode cL_law 1033 = .ok (.invokestatic 188, 3) := by decide +kernel
theorem dL_law_1036 : decode cL_law 1036 = .ok (.istore 6, 2) := by decide +kernel
theorem dL_law_1038 : decode cL_law 1038 = .ok (.aload_n 2, 1) := by decide +kernel
theorem dL_law_1039 : decode cL_law 1039 = .ok (.aload_n 0, 1) := by decide +kernel
theorem dL_law_1040 : decode cL_law 1040 = .ok (.iload 5, 2) := by decide +kernel
theorem dL_law_1042 : decode cL_law 1042 = .ok (.iconst 1, 1) := by decide +kernel
theorem dL_law_1043 : decode cL_law 1043 = .ok (.iadd, 1) := by decide +kernel
theorem dL_law_1044 : decode cL_law 1044 = .ok (.iaload, 1) := by decide +kernel
theorem dL_law_1045 : decode cL_law 1045 = .ok (.aload_n 0, 1) := by decide +kernel
theorem dL_law_1046 : decode cL_law 1046 = .ok (.iload 5, 2) := by decide +kernel
theorem dL_law_1048 : decode cL_law 1048 = .ok (.iconst 2, 1) := by decide +kernel
theorem dL_law_1049 : decode cL_law 1049 = .ok (.iadd, 1) := by decide +kernel
theorem dL_law_1050 : decode cL_law 1050 = .ok (.iaload, 1) := by decide +kernel
theorem dL_law_1051 : decode cL_law 1051 = .ok (.invokevirtual 190, 3) := by decide +kernel
theorem dL_law_1054 : decode cL_law 1054 = .ok (.istore 7, 2) := by decide +kernel
theorem dL_law_1056 : decode cL_law 1056 = .ok (.aload_n 2, 1) := by decide +kernel
theorem dL_law_1057 : decode cL_law 1057 = .ok (.invokevirtual 124, 3) := by decide +kernel
theorem dL_law_1060 : decode cL_law 1060 = .ok (.iload 6, 2) := by decide +kernel
theorem dL_law_1062 : decode cL_law 1062 = .ok (.if_icmp .eq 5, 3) := by decide +kernel
theorem dL_law_1065 : decode cL_law 1065 = .ok (.iconst 0, 1) := by decide +kernel
theorem dL_law_1066 : decode cL_law 1066 = .ok (.ireturn, 1) := by decide +kernel
theorem dL_law_1067 : decode cL_law 1067 = .ok (.iload 6, 2) := by decide +kernel
theorem dL_law_1069 : decode cL_law 1069 = .ok (.ifCond .ne 15, 3) := by decide +kernel
theorem dL_law_1072 : decode cL_law 1072 = .ok (.aload_n 3, 1) := by decide +kernel
theorem dL_law_1073 : decode cL_law 1073 = .ok (.iconst 0, 1) := by decide +kernel
theorem dL_law_1074 : decode cL_law 1074 = .ok (.laload, 1) := by decide +kernel
theorem dL_law_1075 : decode cL_law 1075 = .ok (.iload 7, 2) := by decide +kernel
theorem dL_law_1077 : decode cL_law 1077 = .ok (.i2l, 1) := by decide +kernel
theorem dL_law_1078 : decode cL_law 1078 = .ok (.lcmp, 1) := by decide +kernel
theorem dL_law_1079 : decode cL_law 1079 = .ok (.ifCond .eq 5, 3) := by decide +kernel
theorem dL_law_1082 : decode cL_law 1082 = .ok (.iconst 0, 1) := by decide +kernel
theorem dL_law_1083 : decode cL_law 1083 = .ok (.ireturn, 1) := by decide +kernel
theorem dL_law_1084 : decode cL_law 1084 = .ok (.goto 1006, 3) := by decide +kernel
theorem dL_law_1087 : decode cL_law 1087 = .ok (.aload_n 1, 1) := by decide +kernel
theorem dL_law_1088 : decode cL_law 1088 = .ok (.aload_n 0, 1) := by decide +kernel
theorem dL_law_1089 : decode cL_law 1089 = .ok (.iload 5, 2) := by decide +kernel
theorem dL_law_1091 : decode cL_law 1091 = .ok (.iconst 1, 1) := by decide +kernel
theorem dL_law_1092 : decode cL_law 1092 = .ok (.iadd, 1) := by decide +kernel
theorem dL_law_1093 : decode cL_law 1093 = .ok (.iaload, 1) := by decide +kernel
theorem dL_law_1094 : decode cL_law 1094 = .ok (.aload_n 0, 1) := by decide +kernel
theorem dL_law_1095 : decode cL_law 1095 = .ok (.iload 5, 2) := by decide +kernel
theorem dL_law_1097 : decode cL_law 1097 = .ok (.iconst 2, 1) := by decide +kernel
theorem dL_law_1098 : decode cL_law 1098 = .ok (.iadd, 1) := by decide +kernel
theorem dL_law_1099 : decode cL_law 1099 = .ok (.iaload, 1) := by decide +kernel
theorem dL_law_1100 : decode cL_law 1100 = .ok (.aload_n 3, 1) := by decide +kernel
theorem dL_law_1101 : decode cL_law 1101 = .ok (.invokestatic 191, 3) := by decide +kernel
theorem dL_law_1104 : decode cL_law 1104 = .ok (.istore 6, 2) := by decide +kernel
theorem dL_law_1106 : decode cL_law 1106 = .ok (.aload_n 2, 1) := by decide +kernel
theorem dL_law_1107 : decode cL_law 1107 = .ok (.aload_n 0, 1) := by decide +kernel
theorem dL_law_1108 : decode cL_law 1108 = .ok (.iload 5, 2) := by decide +kernel
theorem dL_law_1110 : decode cL_law 1110 = .ok (.iconst 1, 1) := by decide +kernel
theorem dL_law_1111 : decode cL_law 1111 = .ok (.iadd, 1) := by decide +kernel
theorem dL_law_1112 : decode cL_law 1112 = .ok (.iaload, 1) := by decide +kernel
theorem dL_law_1113 : decode cL_law 1113 = .ok (.aload_n 0, 1) := by decide +kernel
theorem dL_law_1114 : decode cL_law 1114 = .ok (.iload 5, 2) := by decide +kernel
theorem dL_law_1116 : decode cL_law 1116 = .ok (.iconst 2, 1) := by decide +kernel
theorem dL_law_1117 : decode cL_law 1117 = .ok (.iadd, 1) := by decide +kernel
theorem dL_law_1118 : decode cL_law 1118 = .ok (.iaload, 1) := by decide +kernel
theorem dL_law_1119 : decode cL_law 1119 = .ok (.invokevirtual 193, 3) := by decide +kernel
theorem dL_law_1122 : decode cL_law 1122 = .ok (.istore 7, 2) := by decide +kernel
theorem dL_law_1124 : decode cL_law 1124 = .ok (.aload_n 2, 1) := by decide +kernel
theorem dL_law_1125 : decode cL_law 1125 = .ok (.invokevirtual 124, 3) := by decide +kernel
theorem dL_law_1128 : decode cL_law 1128 = .ok (.iload 6, 2) := by decide +kernel
theorem dL_law_1130 : decode cL_law 1130 = .ok (.if_icmp .eq 5, 3) := by decide +kernel
theorem dL_law_1133 : decode cL_law 1133 = .ok (.iconst 0, 1) := by decide +kernel
theorem dL_law_1134 : decode cL_law 1134 = .ok (.ireturn, 1) := by decide +kernel
theorem dL_law_1135 : decode cL_law 1135 = .ok (.iload 6, 2) := by decide +kernel
theorem dL_law_1137 : decode cL_law 1137 = .ok (.ifCond .ne 22, 3) := by decide +kernel
theorem dL_law_1140 : decode cL_law 1140 = .ok (.aload_n 3, 1) := by decide +kernel
theorem dL_law_1141 : decode cL_law 1141 = .ok (.iconst 0, 1) := by decide +kernel
theorem dL_law_1142 : decode cL_law 1142 = .ok (.laload, 1) := by decide +kernel
theorem dL_law_1143 : decode cL_law 1143 = .ok (.iload 7, 2) := by decide +kernel
theorem dL_law_1145 : decode cL_law 1145 = .ok (.ifCond .eq 7, 3) := by decide +kernel
theorem dL_law_1148 : decode cL_law 1148 = .ok (.lconst 1, 1) := by decide +kernel
theorem dL_law_1149 : decode cL_law 1149 = .ok (.goto 4, 3) := by decide +kernel
theorem dL_law_1152 : decode cL_law 1152 = .ok (.lconst 0, 1) := by decide +kernel
theorem dL_law_1153 : decode cL_law 1153 = .ok (.lcmp, 1) := by decide +kernel
theorem dL_law_1154 : decode cL_law 1154 = .ok (.ifCond .eq 5, 3) := by decide +kernel
theorem dL_law_1157 : decode cL_law 1157 = .ok (.iconst 0, 1) := by decide +kernel
theorem dL_law_1158 : decode cL_law 1158 = .ok (.ireturn, 1) := by decide +kernel
theorem dL_law_1159 : decode cL_law 1159 = .ok (.goto 931, 3) := by decide +kernel
theorem dL_law_1162 : decode cL_law 1162 = .ok (.aload_n 1, 1) := by decide +kernel
theorem dL_law_1163 : decode cL_law 1163 = .ok (.aload_n 0, 1) := by decide +kernel
theorem dL_law_1164 : decode cL_law 1164 = .ok (.iload 5, 2) := by decide +kernel
theorem dL_law_1166 : decode cL_law 1166 = .ok (.iconst 1, 1) := by decide +kernel
theorem dL_law_1167 : decode cL_law 1167 = .ok (.iadd, 1) := by decide +kernel
theorem dL_law_1168 : decode cL_law 1168 = .ok (.iaload, 1) := by decide +kernel
theorem dL_law_1169 : decode cL_law 1169 = .ok (.aload_n 3, 1) := by decide +kernel
theorem dL_law_1170 : decode cL_law 1170 = .ok (.invokestatic 194, 3) := by decide +kernel
theorem dL_law_1173 : decode cL_law 1173 = .ok (.istore 6, 2) := by decide +kernel
theorem dL_law_1175 : decode cL_law 1175 = .ok (.aload_n 2, 1) := by decide +kernel
theorem dL_law_1176 : decode cL_law 1176 = .ok (.aload_n 0, 1) := by decide +kernel
theorem dL_law_1177 : decode cL_law 1177 = .ok (.iload 5, 2) := by decide +kernel
theorem dL_law_1179 : decode cL_law 1179 = .ok (.iconst 1, 1) := by decide +kernel
theorem dL_law_1180 : decode cL_law 1180 = .ok (.iadd, 1) := by decide +kernel
theorem dL_law_1181 : decode cL_law 1181 = .ok (.iaload, 1) := by decide +kernel
theorem dL_law_1182 : decode cL_law 1182 = .ok (.invokevirtual 196, 3) := by decide +kernel
theorem dL_law_1185 : decode cL_law 1185 = .ok (.istore 7, 2) := by decide +kernel
theorem dL_law_1187 : decode cL_law 1187 = .ok (.aload_n 2, 1) := by decide +kernel
theorem dL_law_1188 : decode cL_law 1188 = .ok (.invokevirtual 124, 3) := by decide +kernel
theorem dL_law_1191 : decode cL_law 1191 = .ok (.iload 6, 2) := by decide +kernel
theorem dL_law_1193 : decode cL_law 1193 = .ok (.if_icmp .eq 5, 3) := by decide +kernel
theorem dL_law_1196 : decode cL_law 1196 = .ok (.iconst 0, 1) := by decide +kernel
theorem dL_law_1197 : decode cL_law 1197 = .ok (.ireturn, 1) := by decide +kernel
theorem dL_law_1198 : decode cL_law 1198 = .ok (.iload 6, 2) := by decide +kernel
theorem dL_law_1200 : decode cL_law 1200 = .ok (.ifCond .ne 15, 3) := by decide +kernel
theorem dL_law_1203 : decode cL_law 1203 = .ok (.aload_n 3, 1) := by decide +kernel
theorem dL_law_1204 : decode cL_law 1204 = .ok (.iconst 0, 1) := by decide +kernel
theorem dL_law_1205 : decode cL_law 1205 = .ok (.laload, 1) := by decide +kernel
theorem dL_law_1206 : decode cL_law 1206 = .ok (.iload 7, 2) := by decide +kernel
theorem dL_law_1208 : decode cL_law 1208 = .ok (.i2l, 1) := by decide +kernel
theorem dL_law_1209 : decode cL_law 1209 = .ok (.lcmp, 1) := by decide +kernel
theorem dL_law_1210 : decode cL_law 1210 = .ok (.ifCond .eq 5, 3) := by decide +kernel
theorem dL_law_1213 : decode cL_law 1213 = .ok (.iconst 0, 1) := by decide +kernel
theorem dL_law_1214 : decode cL_law 1214 = .ok (.ireturn, 1) := by decide +kernel
theorem dL_law_1215 : decode cL_law 1215 = .ok (.goto 875, 3) := by decide +kernel
theorem dL_law_1218 : decode cL_law 1218 = .ok (.aload_n 1, 1) := by decide +kernel
theorem dL_law_1219 : decode cL_law 1219 = .ok (.aload_n 0, 1) := by decide +kernel
theorem dL_law_1220 : decode cL_law 1220 = .ok (.iload 5, 2) := by decide +kernel
theorem dL_law_1222 : decode cL_law 1222 = .ok (.iconst 1, 1) := by decide +kernel
theorem dL_law_1223 : decode cL_law 1223 = .ok (.iadd, 1) := by decide +kernel
theorem dL_law_1224 : decode cL_law 1224 = .ok (.iaload, 1) := by decide +kernel
theorem dL_law_1225 : decode cL_law 1225 = .ok (.aload_n 3, 1) := by decide +kernel
theorem dL_law_1226 : decode cL_law 1226 = .ok (.invokestatic 197, 3) := by decide +kernel
theorem dL_law_1229 : decode cL_law 1229 = .ok (.istore 6, 2) := by decide +kernel
theorem dL_law_1231 : decode cL_law 1231 = .ok (.aload_n 2, 1) := by decide +kernel
theorem dL_law_1232 : decode cL_law 1232 = .ok (.aload_n 0, 1) := by decide +kernel
theorem dL_law_1233 : decode cL_law 1233 = .ok (.iload 5, 2) := by decide +kernel
theorem dL_law_1235 : decode cL_law 1235 = .ok (.iconst 1, 1) := by decide +kernel
theorem dL_law_1236 : decode cL_law 1236 = .ok (.iadd, 1) := by decide +kernel
theorem dL_law_1237 : decode cL_law 1237 = .ok (.iaload, 1) := by decide +kernel
theorem dL_law_1238 : decode cL_law 1238 = .ok (.invokevirtual 199, 3) := by decide +kernel
theorem dL_law_1241 : decode cL_law 1241 = .ok (.istore 7, 2) := by decide +kernel
theorem dL_law_1243 : decode cL_law 1243 = .ok (.aload_n 2, 1) := by decide +kernel
theorem dL_law_1244 : decode cL_law 1244 = .ok (.invokevirtual 124, 3) := by decide +kernel
theorem dL_law_1247 : decode cL_law 1247 = .ok (.iload 6, 2) := by decide +kernel
theorem dL_law_1249 : decode cL_law 1249 = .ok (.if_icmp .eq 5, 3) := by decide +kernel
theorem dL_law_1252 : decode cL_law 1252 = .ok (.iconst 0, 1) := by decide +kernel
theorem dL_law_1253 : decode cL_law 1253 = .ok (.ireturn, 1) := by decide +kernel
theorem dL_law_1254 : decode cL_law 1254 = .ok (.iload 6, 2) := by decide +kernel
theorem dL_law_1256 : decode cL_law 1256 = .ok (.ifCond .ne 15, 3) := by decide +kernel
theorem dL_law_1259 : decode cL_law 1259 = .ok (.aload_n 3, 1) := by decide +kernel
theorem dL_law_1260 : decode cL_law 1260 = .ok (.iconst 0, 1) := by decide +kernel
theorem dL_law_1261 : decode cL_law 1261 = .ok (.laload, 1) := by decide +kernel
theorem dL_law_1262 : decode cL_law 1262 = .ok (.iload 7, 2) := by decide +kernel
theorem dL_law_1264 : decode cL_law 1264 = .ok (.i2l, 1) := by decide +kernel
theorem dL_law_1265 : decode cL_law 1265 = .ok (.lcmp, 1) := by decide +kernel
theorem dL_law_1266 : decode cL_law 1266 = .ok (.ifCond .eq 5, 3) := by decide +kernel
theorem dL_law_1269 : decode cL_law 1269 = .ok (.iconst 0, 1) := by decide +kernel
theorem dL_law_1270 : decode cL_law 1270 = .ok (.ireturn, 1) := by decide +kernel
theorem dL_law_1271 : decode cL_law 1271 = .ok (.goto 819, 3) := by decide +kernel
theorem dL_law_1274 : decode cL_law 1274 = .ok (.aload_n 1, 1) := by decide +kernel
theorem dL_law_1275 : decode cL_law 1275 = .ok (.invokevirtual 200, 3) := by decide +kernel
theorem dL_law_1278 : decode cL_law 1278 = .ok (.aload_n 2, 1) := by decide +kernel
theorem dL_law_1279 : decode cL_law 1279 = .ok (.invokevirtual 203, 3) := by decide +kernel
theorem dL_law_1282 : decode cL_law 1282 = .ok (.if_icmp .eq 808, 3) := by decide +kernel
theorem dL_law_1285 : decode cL_law 1285 = .ok (.iconst 0, 1) := by decide +kernel
theorem dL_law_1286 : decode cL_law 1286 = .ok (.ireturn, 1) := by decide +kernel
theorem dL_law_1287 : decode cL_law 1287 = .ok (.aload_n 1, 1) := by decide +kernel
theorem dL_law_1288 : decode cL_law 1288 = .ok (.invokevirtual 204, 3) := by decide +kernel
theorem dL_law_1291 : decode cL_law 1291 = .ok (.aload_n 2, 1) := by decide +kernel
theorem dL_law_1292 : decode cL_law 1292 = .ok (.invokevirtual 207, 3) := by decide +kernel
theorem dL_law_1295 : decode cL_law 1295 = .ok (.if_icmp .eq 795, 3) := by decide +kernel
theorem dL_law_1298 : decode cL_law 1298 = .ok (.iconst 0, 1) := by decide +kernel
theorem dL_law_1299 : decode cL_law 1299 = .ok (.ireturn, 1) := by decide +kernel
theorem dL_law_1300 : decode cL_law 1300 = .ok (.aload_n 1, 1) := by decide +kernel
theorem dL_law_1301 : decode cL_law 1301 = .ok (.aload_n 0, 1) := by decide +kernel
theorem dL_law_1302 : decode cL_law 1302 = .ok (.iload 5, 2) := by decide +kernel
theorem dL_law_1304 : decode cL_law 1304 = .ok (.iconst 1, 1) := by decide +kernel
theorem dL_law_1305 : decode cL_law 1305 = .ok (.iadd, 1) := by decide +kernel
theorem dL_law_1306 : decode cL_law 1306 = .ok (.iaload, 1) := by decide +kernel
theorem dL_law_1307 : decode cL_law 1307 = .ok (.aload_n 3, 1) := by decide +kernel
theorem dL_law_1308 : decode cL_law 1308 = .ok (.invokestatic 208, 3) := by decide +kernel
theorem dL_law_1311 : decode cL_law 1311 = .ok (.istore 6, 2) := by decide +kernel
theorem dL_law_1313 : decode cL_law 1313 = .ok (.aload_n 2, 1) := by decide +kernel
theorem dL_law_1314 : decode cL_law 1314 = .ok (.aload_n 0, 1) := by decide +kernel
theorem dL_law_1315 : decode cL_law 1315 = .ok (.iload 5, 2) := by decide +kernel
theorem dL_law_1317 : decode cL_law 1317 = .ok (.iconst 1, 1) := by decide +kernel
theorem dL_law_1318 : decode cL_law 1318 = .ok (.iadd, 1) := by decide +kernel
theorem dL_law_1319 : decode cL_law 1319 = .ok (.iaload, 1) := by decide +kernel
theorem dL_law_1320 : decode cL_law 1320 = .ok (.invokevirtual 210, 3) := by decide +kernel
theorem dL_law_1323 : decode cL_law 1323 = .ok (.istore 7, 2) := by decide +kernel
theorem dL_law_1325 : decode cL_law 1325 = .ok (.aload_n 2, 1) := by decide +kernel
theorem dL_law_1326 : decode cL_law 1326 = .ok (.invokevirtual 124, 3) := by decide +kernel
theorem dL_law_1329 : decode cL_law 1329 = .ok (.iload 6, 2) := by decide +kernel
theorem dL_law_1331 : decode cL_law 1331 = .ok (.if_icmp .eq 5, 3) := by decide +kernel
theorem dL_law_1334 : decode cL_law 1334 = .ok (.iconst 0, 1) := by decide +kernel
theorem dL_law_1335 : decode cL_law 1335 = .ok (.ireturn, 1) := by decide +kernel
theorem dL_law_1336 : decode cL_law 1336 = .ok (.iload 6, 2) := by decide +kernel
theorem dL_law_1338 : decode cL_law 1338 = .ok (.ifCond .ne 15, 3) := by decide +kernel
theorem dL_law_1341 : decode cL_law 1341 = .ok (.aload_n 3, 1) := by decide +kernel
theorem dL_law_1342 : decode cL_law 1342 = .ok (.iconst 0, 1) := by decide +kernel
theorem dL_law_1343 : decode cL_law 1343 = .ok (.laload, 1) := by decide +kernel
theorem dL_law_1344 : decode cL_law 1344 = .ok (.iload 7, 2) := by decide +kernel
theorem dL_law_1346 : decode cL_law 1346 = .ok (.i2l, 1) := by decide +kernel
theorem dL_law_1347 : decode cL_law 1347 = .ok (.lcmp, 1) := by decide +kernel
theorem dL_law_1348 : decode cL_law 1348 = .ok (.ifCond .eq 5, 3) := by decide +kernel
theorem dL_law_1351 : decode cL_law 1351 = .ok (.iconst 0, 1) := by decide +kernel
theorem dL_law_1352 : decode cL_law 1352 = .ok (.ireturn, 1) := by decide +kernel
theorem dL_law_1353 : decode cL_law 1353 = .ok (.goto 737, 3) := by decide +kernel
theorem dL_law_1356 : decode cL_law 1356 = .ok (.aload_n 1, 1) := by decide +kernel
theorem dL_law_1357 : decode cL_law 1357 = .ok (.aload_n 0, 1) := by decide +kernel
theorem dL_law_1358 : decode cL_law 1358 = .ok (.iload 5, 2) := by decide +kernel
theorem dL_law_1360 : decode cL_law 1360 = .ok (.iconst 1, 1) := by decide +kernel
theorem dL_law_1361 : decode cL_law 1361 = .ok (.iadd, 1) := by decide +kernel
theorem dL_law_1362 : decode cL_law 1362 = .ok (.iaload, 1) := by decide +kernel
theorem dL_law_1363 : decode cL_law 1363 = .ok (.aload_n 3, 1) := by decide +kernel
theorem dL_law_1364 : decode cL_law 1364 = .ok (.invokestatic 211, 3) := by decide +kernel
theorem dL_law_1367 : decode cL_law 1367 = .ok (.istore 6, 2) := by decide +kernel
theorem dL_law_1369 : decode cL_law 1369 = .ok (.aload_n 2, 1) := by decide +kernel
theorem dL_law_1370 : decode cL_law 1370 = .ok (.aload_n 0, 1) := by decide +kernel
theorem dL_law_1371 : decode cL_law 1371 = .ok (.iload 5, 2) := by decide +kernel
theorem dL_law_1373 : decode cL_law 1373 = .ok (.iconst 1, 1) := by decide +kernel
theorem dL_law_1374 : decode cL_law 1374 = .ok (.iadd, 1) := by decide +kernel
theorem dL_law_1375 : decode cL_law 1375 = .ok (.iaload, 1) := by decide +kernel
theorem dL_law_1376 : decode cL_law 1376 = .ok (.invokevirtual 213, 3) := by decide +kernel
theorem dL_law_1379 : decode cL_law 1379 = .ok (.istore 7, 2) := by decide +kernel
theorem dL_law_1381 : decode cL_law 1381 = .ok (.aload_n 2, 1) := by decide +kernel
theorem dL_law_1382 : decode cL_law 1382 = .ok (.invokevirtual 124, 3) := by decide +kernel
theorem dL_law_1385 : decode cL_law 1385 = .ok (.iload 6, 2) := by decide +kernel
theorem dL_law_1387 : decode cL_law 1387 = .ok (.if_icmp .eq 5, 3) := by decide +kernel
theorem dL_law_1390 : decode cL_law 1390 = .ok (.iconst 0, 1) := by decide +kernel
theorem dL_law_1391 : decode cL_law 1391 = .ok (.ireturn, 1) := by decide +kernel
theorem dL_law_1392 : decode cL_law 1392 = .ok (.iload 6, 2) := by decide +kernel
theorem dL_law_1394 : decode cL_law 1394 = .ok (.ifCond .ne 15, 3) := by decide +kernel
theorem dL_law_1397 : decode cL_law 1397 = .ok (.aload_n 3, 1) := by decide +kernel
theorem dL_law_1398 : decode cL_law 1398 = .ok (.iconst 0, 1) := by decide +kernel
theorem dL_law_1399 : decode cL_law 1399 = .ok (.laload, 1) := by decide +kernel
theorem dL_law_1400 : decode cL_law 1400 = .ok (.iload 7, 2) := by decide +kernel
theorem dL_law_1402 : decode cL_law 1402 = .ok (.i2l, 1) := by decide +kernel
theorem dL_law_1403 : decode cL_law 1403 = .ok (.lcmp, 1) := by decide +kernel
theorem dL_law_1404 : decode cL_law 1404 = .ok (.ifCond .eq 5, 3) := by decide +kernel
theorem dL_law_1407 : decode cL_law 1407 = .ok (.iconst 0, 1) := by decide +kernel
theorem dL_law_1408 : decode cL_law 1408 = .ok (.ireturn, 1) := by decide +kernel
theorem dL_law_1409 : decode cL_law 1409 = .ok (.goto 681, 3) := by decide +kernel
theorem dL_law_1412 : decode cL_law 1412 = .ok (.aload_n 1, 1) := by decide +kernel
theorem dL_law_1413 : decode cL_law 1413 = .ok (.aload_n 0, 1) := by decide +kernel
theorem dL_law_1414 : decode cL_law 1414 = .ok (.iload 5, 2) := by decide +kernel
theorem dL_law_1416 : decode cL_law 1416 = .ok (.iconst 1, 1) := by decide +kernel
theorem dL_law_1417 : decode cL_law 1417 = .ok (.iadd, 1) := by decide +kernel
theorem dL_law_1418 : decode cL_law 1418 = .ok (.iaload, 1) := by decide +kernel
theorem dL_law_1419 : decode cL_law 1419 = .ok (.aload_n 3, 1) := by decide +kernel
theorem dL_law_1420 : decode cL_law 1420 = .ok (.invokestatic 214, 3) := by decide +kernel
theorem dL_law_1423 : decode cL_law 1423 = .ok (.istore 6, 2) := by decide +kernel
theorem dL_law_1425 : decode cL_law 1425 = .ok (.aload_n 2, 1) := by decide +kernel
theorem dL_law_1426 : decode cL_law 1426 = .ok (.aload_n 0, 1) := by decide +kernel
theorem dL_law_1427 : decode cL_law 1427 = .ok (.iload 5, 2) := by decide +kernel
theorem dL_law_1429 : decode cL_law 1429 = .ok (.iconst 1, 1) := by decide +kernel
theorem dL_law_1430 : decode cL_law 1430 = .ok (.iadd, 1) := by decide +kernel
theorem dL_law_1431 : decode cL_law 1431 = .ok (.iaload, 1) := by decide +kernel
theorem dL_law_1432 : decode cL_law 1432 = .ok (.invokevirtual 216, 3) := by decide +kernel
theorem dL_law_1435 : decode cL_law 1435 = .ok (.istore 7, 2) := by decide +kernel
theorem dL_law_1437 : decode cL_law 1437 = .ok (.aload_n 2, 1) := by decide +kernel
theorem dL_law_1438 : decode cL_law 1438 = .ok (.invokevirtual 124, 3) := by decide +kernel
theorem dL_law_1441 : decode cL_law 1441 = .ok (.iload 6, 2) := by decide +kernel
theorem dL_law_1443 : decode cL_law 1443 = .ok (.if_icmp .eq 5, 3) := by decide +kernel
theorem dL_law_1446 : decode cL_law 1446 = .ok (.iconst 0, 1) := by decide +kernel
theorem dL_law_1447 : decode cL_law 1447 = .ok (.ireturn, 1) := by decide +kernel
theorem dL_law_1448 : decode cL_law 1448 = .ok (.iload 6, 2) := by decide +kernel
theorem dL_law_1450 : decode cL_law 1450 = .ok (.ifCond .ne 15, 3) := by decide +kernel
theorem dL_law_1453 : decode cL_law 1453 = .ok (.aload_n 3, 1) := by decide +kernel
theorem dL_law_1454 : decode cL_law 1454 = .ok (.iconst 0, 1) := by decide +kernel
theorem dL_law_1455 : decode cL_law 1455 = .ok (.laload, 1) := by decide +kernel
theorem dL_law_1456 : decode cL_law 1456 = .ok (.iload 7, 2) := by decide +kernel
theorem dL_law_1458 : decode cL_law 1458 = .ok (.i2l, 1) := by decide +kernel
theorem dL_law_1459 : decode cL_law 1459 = .ok (.lcmp, 1) := by decide +kernel
theorem dL_law_1460 : decode cL_law 1460 = .ok (.ifCond .eq 5, 3) := by decide +kernel
theorem dL_law_1463 : decode cL_law 1463 = .ok (.iconst 0, 1) := by decide +kernel
theorem dL_law_1464 : decode cL_law 1464 = .ok (.ireturn, 1) := by decide +kernel
theorem dL_law_1465 : decode cL_law 1465 = .ok (.goto 625, 3) := by decide +kernel
theorem dL_law_1468 : decode cL_law 1468 = .ok (.aload_n 1, 1) := by decide +kernel
theorem dL_law_1469 : decode cL_law 1469 = .ok (.invokevirtual 217, 3) := by decide +kernel
theorem dL_law_1472 : decode cL_law 1472 = .ok (.aload_n 2, 1) := by decide +kernel
theorem dL_law_1473 : decode cL_law 1473 = .ok (.invokevirtual 220, 3) := by decide +kernel
theorem dL_law_1476 : decode cL_law 1476 = .ok (.if_icmp .eq 614, 3) := by decide +kernel
theorem dL_law_1479 : decode cL_law 1479 = .ok (.iconst 0, 1) := by decide +kernel
theorem dL_law_1480 : decode cL_law 1480 = .ok (.ireturn, 1) := by decide +kernel
theorem dL_law_1481 : decode cL_law 1481 = .ok (.aload_n 1, 1) := by decide +kernel
theorem dL_law_1482 : decode cL_law 1482 = .ok (.invokevirtual 221, 3) := by decide +kernel
theorem dL_law_1485 : decode cL_law 1485 = .ok (.aload_n 2, 1) := by decide +kernel
theorem dL_law_1486 : decode cL_law 1486 = .ok (.invokevirtual 225, 3) := by decide +kernel
theorem dL_law_1489 : decode cL_law 1489 = .ok (.lcmp, 1) := by decide +kernel
theorem dL_law_1490 : decode cL_law 1490 = .ok (.ifCond .eq 600, 3) := by decide +kernel
theorem dL_law_1493 : decode cL_law 1493 = .ok (.iconst 0, 1) := by decide +kernel
theorem dL_law_1494 : decode cL_law 1494 = .ok (.ireturn, 1) := by decide +kernel
theorem dL_law_1495 : decode cL_law 1495 = .ok (.aload_n 1, 1) := by decide +kernel
theorem dL_law_1496 : decode cL_law 1496 = .ok (.aload_n 0, 1) := by decide +kernel
theorem dL_law_1497 : decode cL_law 1497 = .ok (.iload 5, 2) := by decide +kernel
theorem dL_law_1499 : decode cL_law 1499 = .ok (.iconst 1, 1) := by decide +kernel
theorem dL_law_1500 : decode cL_law 1500 = .ok (.iadd, 1) := by decide +kernel
theorem dL_law_1501 : decode cL_law 1501 = .ok (.iaload, 1) := by decide +kernel
theorem dL_law_1502 : decode cL_law 1502 = .ok (.aload_n 3, 1) := by decide +kernel
theorem dL_law_1503 : decode cL_law 1503 = .ok (.invokestatic 226, 3) := by decide +kernel
theorem dL_law_1506 : decode cL_law 1506 = .ok (.istore 6, 2) := by decide +kernel
theorem dL_law_1508 : decode cL_law 1508 = .ok (.aload_n 2, 1) := by decide +kernel
theorem dL_law_1509 : decode cL_law 1509 = .ok (.aload_n 0, 1) := by decide +kernel
theorem dL_law_1510 : decode cL_law 1510 = .ok (.iload 5, 2) := by decide +kernel
theorem dL_law_1512 : decode cL_law 1512 = .ok (.iconst 1, 1) := by decide +kernel
theorem dL_law_1513 : decode cL_law 1513 = .ok (.iadd, 1) := by decide +kernel
theorem dL_law_1514 : decode cL_law 1514 = .ok (.iaload, 1) := by decide +kernel
theorem dL_law_1515 : decode cL_law 1515 = .ok (.invokevirtual 228, 3) := by decide +kernel
theorem dL_law_1518 : decode cL_law 1518 = .ok (.istore 7, 2) := by decide +kernel
theorem dL_law_1520 : decode cL_law 1520 = .ok (.aload_n 2, 1) := by decide +kernel
theorem dL_law_1521 : decode cL_law 1521 = .ok (.invokevirtual 124, 3) := by decide +kernel
theorem dL_law_1524 : decode cL_law 1524 = .ok (.iload 6, 2) := by decide +kernel
theorem dL_law_1526 : decode cL_law 1526 = .ok (.if_icmp .eq 5, 3) := by decide +kernel
theorem dL_law_1529 : decode cL_law 1529 = .ok (.iconst 0, 1) := by decide +kernel
theorem dL_law_1530 : decode cL_law 1530 = .ok (.ireturn, 1) := by decide +kernel
theorem dL_law_1531 : decode cL_law 1531 = .ok (.iload 6, 2) := by decide +kernel
theorem dL_law_1533 : decode cL_law 1533 = .ok (.ifCond .ne 15, 3) := by decide +kernel
theorem dL_law_1536 : decode cL_law 1536 = .ok (.aload_n 3, 1) := by decide +kernel
theorem dL_law_1537 : decode cL_law 1537 = .ok (.iconst 0, 1) := by decide +kernel
theorem dL_law_1538 : decode cL_law 1538 = .ok (.laload, 1) := by decide +kernel
theorem dL_law_1539 : decode cL_law 1539 = .ok (.iload 7, 2) := by decide +kernel
theorem dL_law_1541 : decode cL_law 1541 = .ok (.i2l, 1) := by decide +kernel
theorem dL_law_1542 : decode cL_law 1542 = .ok (.lcmp, 1) := by decide +kernel
theorem dL_law_1543 : decode cL_law 1543 = .ok (.ifCond .eq 5, 3) := by decide +kernel
theorem dL_law_1546 : decode cL_law 1546 = .ok (.iconst 0, 1) := by decide +kernel
theorem dL_law_1547 : decode cL_law 1547 = .ok (.ireturn, 1) := by decide +kernel
theorem dL_law_1548 : decode cL_law 1548 = .ok (.goto 542, 3) := by decide +kernel
theorem dL_law_1551 : decode cL_law 1551 = .ok (.aload_n 1, 1) := by decide +kernel
theorem dL_law_1552 : decode cL_law 1552 = .ok (.aload_n 0, 1) := by decide +kernel
theorem dL_law_1553 : decode cL_law 1553 = .ok (.iload 5, 2) := by decide +kernel
theorem dL_law_1555 : decode cL_law 1555 = .ok (.iconst 1, 1) := by decide +kernel
theorem dL_law_1556 : decode cL_law 1556 = .ok (.iadd, 1) := by decide +kernel
theorem dL_law_1557 : decode cL_law 1557 = .ok (.iaload, 1) := by decide +kernel
theorem dL_law_1558 : decode cL_law 1558 = .ok (.aload_n 0, 1) := by decide +kernel
theorem dL_law_1559 : decode cL_law 1559 = .ok (.iload 5, 2) := by decide +kernel
theorem dL_law_1561 : decode cL_law 1561 = .ok (.iconst 2, 1) := by decide +kernel
theorem dL_law_1562 : decode cL_law 1562 = .ok (.iadd, 1) := by decide +kernel
theorem dL_law_1563 : decode cL_law 1563 = .ok (.iaload, 1) := by decide +kernel
theorem dL_law_1564 : decode cL_law 1564 = .ok (.aload_n 3, 1) := by decide +kernel
theorem dL_law_1565 : decode cL_law 1565 = .ok (.invokestatic 229, 3) := by decide +kernel
theorem dL_law_1568 : decode cL_law 1568 = .ok (.istore 6, 2) := by decide +kernel
theorem dL_law_1570 : decode cL_law 1570 = .ok (.aload_n 2, 1) := by decide +kernel
theorem dL_law_1571 : decode cL_law 1571 = .ok (.aload_n 0, 1) := by decide +kernel
theorem dL_law_1572 : decode cL_law 1572 = .ok (.iload 5, 2) := by decide +kernel
theorem dL_law_1574 : decode cL_law 1574 = .ok (.iconst 1, 1) := by decide +kernel
theorem dL_law_1575 : decode cL_law 1575 = .ok (.iadd, 1) := by decide +kernel
theorem dL_law_1576 : decode cL_law 1576 = .ok (.iaload, 1) := by decide +kernel
theorem dL_law_1577 : decode cL_law 1577 = .ok (.aload_n 0, 1) := by decide +kernel
theorem dL_law_1578 : decode cL_law 1578 = .ok (.iload 5, 2) := by decide +kernel
theorem dL_law_1580 : decode cL_law 1580 = .ok (.iconst 2, 1) := by decide +kernel
theorem dL_law_1581 : decode cL_law 1581 = .ok (.iadd, 1) := by decide +kernel
theorem dL_law_1582 : decode cL_law 1582 = .ok (.iaload, 1) := by decide +kernel
theorem dL_law_1583 : decode cL_law 1583 = .ok (.invokevirtual 231, 3) := by decide +kernel
theorem dL_law_1586 : decode cL_law 1586 = .ok (.istore 7, 2) := by decide +kernel
theorem dL_law_1588 : decode cL_law 1588 = .ok (.aload_n 2, 1) := by decide +kernel
theorem dL_law_1589 : decode cL_law 1589 = .ok (.invokevirtual 124, 3) := by decide +kernel
theorem dL_law_1592 : decode cL_law 1592 = .ok (.iload 6, 2) := by decide +kernel
theorem dL_law_1594 : decode cL_law 1594 = .ok (.if_icmp .eq 5, 3) := by decide +kernel
theorem dL_law_1597 : decode cL_law 1597 = .ok (.iconst 0, 1) := by decide +kernel
theorem dL_law_1598 : decode cL_law 1598 = .ok (.ireturn, 1) := by decide +kernel
theorem dL_law_1599 : decode cL_law 1599 = .ok (.iload 6, 2) := by decide +kernel
theorem dL_law_1601 : decode cL_law 1601 = .ok (.ifCond .ne 15, 3) := by decide +kernel
theorem dL_law_1604 : decode cL_law 1604 = .ok (.aload_n 3, 1) := by decide +kernel
theorem dL_law_1605 : decode cL_law 1605 = .ok (.iconst 0, 1) := by decide +kernel
theorem dL_law_1606 : decode cL_law 1606 = .ok (.laload, 1) := by decide +kernel
theorem dL_law_1607 : decode cL_law 1607 = .ok (.iload 7, 2) := by decide +kernel
theorem dL_law_1609 : decode cL_law 1609 = .ok (.i2l, 1) := by decide +kernel
theorem dL_law_1610 : decode cL_law 1610 = .ok (.lcmp, 1) := by decide +kernel
theorem dL_law_1611 : decode cL_law 1611 = .ok (.ifCond .eq 5, 3) := by decide +kernel
theorem dL_law_1614 : decode cL_law 1614 = .ok (.iconst 0, 1) := by decide +kernel
theorem dL_law_1615 : decode cL_law 1615 = .ok (.ireturn, 1) := by decide +kernel
theorem dL_law_1616 : decode cL_law 1616 = .ok (.goto 474, 3) := by decide +kernel
theorem dL_law_1619 : decode cL_law 1619 = .ok (.aload_n 1, 1) := by decide +kernel
theorem dL_law_1620 : decode cL_law 1620 = .ok (.aload_n 0, 1) := by decide +kernel
theorem dL_law_1621 : decode cL_law 1621 = .ok (.iload 5, 2) := by decide +kernel
theorem dL_law_1623 : decode cL_law 1623 = .ok (.iconst 1, 1) := by decide +kernel
theorem dL_law_1624 : decode cL_law 1624 = .ok (.iadd, 1) := by decide +kernel
theorem dL_law_1625 : decode cL_law 1625 = .ok (.iaload, 1) := by decide +kernel
theorem dL_law_1626 : decode cL_law 1626 = .ok (.aload_n 0, 1) := by decide +kernel
theorem dL_law_1627 : decode cL_law 1627 = .ok (.iload 5, 2) := by decide +kernel
theorem dL_law_1629 : decode cL_law 1629 = .ok (.iconst 2, 1) := by decide +kernel
theorem dL_law_1630 : decode cL_law 1630 = .ok (.iadd, 1) := by decide +kernel
theorem dL_law_1631 : decode cL_law 1631 = .ok (.iaload, 1) := by decide +kernel
theorem dL_law_1632 : decode cL_law 1632 = .ok (.aload_n 3, 1) := by decide +kernel
theorem dL_law_1633 : decode cL_law 1633 = .ok (.invokestatic 232, 3) := by decide +kernel
theorem dL_law_1636 : decode cL_law 1636 = .ok (.istore 6, 2) := by decide +kernel
theorem dL_law_1638 : decode cL_law 1638 = .ok (.aload_n 2, 1) := by decide +kernel
theorem dL_law_1639 : decode cL_law 1639 = .ok (.aload_n 0, 1) := by decide +kernel
theorem dL_law_1640 : decode cL_law 1640 = .ok (.iload 5, 2) := by decide +kernel
theorem dL_law_1642 : decode cL_law 1642 = .ok (.iconst 1, 1) := by decide +kernel
theorem dL_law_1643 : decode cL_law 1643 = .ok (.iadd, 1) := by decide +kernel
theorem dL_law_1644 : decode cL_law 1644 = .ok (.iaload, 1) := by decide +kernel
theorem dL_law_1645 : decode cL_law 1645 = .ok (.aload_n 0, 1) := by decide +kernel
theorem dL_law_1646 : decode cL_law 1646 = .ok (.iload 5, 2) := by decide +kernel
theorem dL_law_1648 : decode cL_law 1648 = .ok (.iconst 2, 1) := by decide +kernel
theorem dL_law_1649 : decode cL_law 1649 = .ok (.iadd, 1) := by decide +kernel
theorem dL_law_1650 : decode cL_law 1650 = .ok (.iaload, 1) := by decide +kernel
theorem dL_law_1651 : decode cL_law 1651 = .ok (.invokevirtual 234, 3) := by decide +kernel
theorem dL_law_1654 : decode cL_law 1654 = .ok (.istore 7, 2) := by decide +kernel
theorem dL_law_1656 : decode cL_law 1656 = .ok (.aload_n 2, 1) := by decide +kernel
theorem dL_law_1657 : decode cL_law 1657 = .ok (.invokevirtual 124, 3) := by decide +kernel
theorem dL_law_1660 : decode cL_law 1660 = .ok (.iload 6, 2) := by decide +kernel
theorem dL_law_1662 : decode cL_law 1662 = .ok (.if_icmp .eq 5, 3) := by decide +kernel
theorem dL_law_1665 : decode cL_law 1665 = .ok (.iconst 0, 1) := by decide +kernel
theorem dL_law_1666 : decode cL_law 1666 = .ok (.ireturn, 1) := by decide +kernel
theorem dL_law_1667 : decode cL_law 1667 = .ok (.iload 6, 2) := by decide +kernel
theorem dL_law_1669 : decode cL_law 1669 = .ok (.ifCond .ne 15, 3) := by decide +kernel
theorem dL_law_1672 : decode cL_law 1672 = .ok (.aload_n 3, 1) := by decide +kernel
theorem dL_law_1673 : decode cL_law 1673 = .ok (.iconst 0, 1) := by decide +kernel
theorem dL_law_1674 : decode cL_law 1674 = .ok (.laload, 1) := by decide +kernel
theorem dL_law_1675 : decode cL_law 1675 = .ok (.iload 7, 2) := by decide +kernel
theorem dL_law_1677 : decode cL_law 1677 = .ok (.i2l, 1) := by decide +kernel
theorem dL_law_1678 : decode cL_law 1678 = .ok (.lcmp, 1) := by decide +kernel
theorem dL_law_1679 : decode cL_law 1679 = .ok (.ifCond .eq 5, 3) := by decide +kernel
theorem dL_law_1682 : decode cL_law 1682 = .ok (.iconst 0, 1) := by decide +kernel
theorem dL_law_1683 : decode cL_law 1683 = .ok (.ireturn, 1) := by decide +kernel
theorem dL_law_1684 : decode cL_law 1684 = .ok (.goto 406, 3) := by decide +kernel
theorem dL_law_1687 : decode cL_law 1687 = .ok (.aload_n 1, 1) := by decide +kernel
theorem dL_law_1688 : decode cL_law 1688 = .ok (.aload_n 0, 1) := by decide +kernel
theorem dL_law_1689 : decode cL_law 1689 = .ok (.iload 5, 2) := by decide +kernel
theorem dL_law_1691 : decode cL_law 1691 = .ok (.iconst 1, 1) := by decide +kernel
theorem dL_law_1692 : decode cL_law 1692 = .ok (.iadd, 1) := by decide +kernel
theorem dL_law_1693 : decode cL_law 1693 = .ok (.iaload, 1) := by decide +kernel
theorem dL_law_1694 : decode cL_law 1694 = .ok (.aload_n 0, 1) := by decide +kernel
theorem dL_law_1695 : decode cL_law 1695 = .ok (.iload 5, 2) := by decide +kernel
theorem dL_law_1697 : decode cL_law 1697 = .ok (.iconst 2, 1) := by decide +kernel
theorem dL_law_1698 : decode cL_law 1698 = .ok (.iadd, 1) := by decide +kernel
theorem dL_law_1699 : decode cL_law 1699 = .ok (.iaload, 1) := by decide +kernel
theorem dL_law_1700 : decode cL_law 1700 = .ok (.aload_n 3, 1) := by decide +kernel
theorem dL_law_1701 : decode cL_law 1701 = .ok (.invokestatic 235, 3) := by decide +kernel
theorem dL_law_1704 : decode cL_law 1704 = .ok (.istore 6, 2) := by decide +kernel
theorem dL_law_1706 : decode cL_law 1706 = .ok (.aload_n 2, 1) := by decide +kernel
theorem dL_law_1707 : decode cL_law 1707 = .ok (.aload_n 0, 1) := by decide +kernel
theorem dL_law_1708 : decode cL_law 1708 = .ok (.iload 5, 2) := by decide +kernel
theorem dL_law_1710 : decode cL_law 1710 = .ok (.iconst 1, 1) := by decide +kernel
theorem dL_law_1711 : decode cL_law 1711 = .ok (.iadd, 1) := by decide +kernel
theorem dL_law_1712 : decode cL_law 1712 = .ok (.iaload, 1) := by decide +kernel
theorem dL_law_1713 : decode cL_law 1713 = .ok (.aload_n 0, 1) := by decide +kernel
theorem dL_law_1714 : decode cL_law 1714 = .ok (.iload 5, 2) := by decide +kernel
theorem dL_law_1716 : decode cL_law 1716 = .ok (.iconst 2, 1) := by decide +kernel
theorem dL_law_1717 : decode cL_law 1717 = .ok (.iadd, 1) := by decide +kernel
theorem dL_law_1718 : decode cL_law 1718 = .ok (.iaload, 1) := by decide +kernel
theorem dL_law_1719 : decode cL_law 1719 = .ok (.invokevirtual 237, 3) := by decide +kernel
theorem dL_law_1722 : decode cL_law 1722 = .ok (.istore 7, 2) := by decide +kernel
theorem dL_law_1724 : decode cL_law 1724 = .ok (.aload_n 2, 1) := by decide +kernel
theorem dL_law_1725 : decode cL_law 1725 = .ok (.invokevirtual 124, 3) := by decide +kernel
theorem dL_law_1728 : decode cL_law 1728 = .ok (.iload 6, 2) := by decide +kernel
theorem dL_law_1730 : decode cL_law 1730 = .ok (.if_icmp .eq 5, 3) := by decide +kernel
theorem dL_law_1733 : decode cL_law 1733 = .ok (.iconst 0, 1) := by decide +kernel
theorem dL_law_1734 : decode cL_law 1734 = .ok (.ireturn, 1) := by decide +kernel
theorem dL_law_1735 : decode cL_law 1735 = .ok (.iload 6, 2) := by decide +kernel
theorem dL_law_1737 : decode cL_law 1737 = .ok (.ifCond .ne 15, 3) := by decide +kernel
theorem dL_law_1740 : decode cL_law 1740 = .ok (.aload_n 3, 1) := by decide +kernel
theorem dL_law_1741 : decode cL_law 1741 = .ok (.iconst 0, 1) := by decide +kernel
theorem dL_law_1742 : decode cL_law 1742 = .ok (.laload, 1) := by decide +kernel
theorem dL_law_1743 : decode cL_law 1743 = .ok (.iload 7, 2) := by decide +kernel
theorem dL_law_1745 : decode cL_law 1745 = .ok (.i2l, 1) := by decide +kernel
theorem dL_law_1746 : decode cL_law 1746 = .ok (.lcmp, 1) := by decide +kernel
theorem dL_law_1747 : decode cL_law 1747 = .ok (.ifCond .eq 5, 3) := by decide +kernel
theorem dL_law_1750 : decode cL_law 1750 = .ok (.iconst 0, 1) := by decide +kernel
theorem dL_law_1751 : decode cL_law 1751 = .ok (.ireturn, 1) := by decide +kernel
theorem dL_law_1752 : decode cL_law 1752 = .ok (.goto 338, 3) := by decide +kernel
theorem dL_law_1755 : decode cL_law 1755 = .ok (.aload_n 1, 1) := by decide +kernel
theorem dL_law_1756 : decode cL_law 1756 = .ok (.aload_n 0, 1) := by decide +kernel
theorem dL_law_1757 : decode cL_law 1757 = .ok (.iload 5, 2) := by decide +kernel
theorem dL_law_1759 : decode cL_law 1759 = .ok (.iconst 1, 1) := by decide +kernel
theorem dL_law_1760 : decode cL_law 1760 = .ok (.iadd, 1) := by decide +kernel
theorem dL_law_1761 : decode cL_law 1761 = .ok (.iaload, 1) := by decide +kernel
theorem dL_law_1762 : decode cL_law 1762 = .ok (.aload_n 3, 1) := by decide +kernel
theorem dL_law_1763 : decode cL_law 1763 = .ok (.invokestatic 238, 3) := by decide +kernel
theorem dL_law_1766 : decode cL_law 1766 = .ok (.istore 6, 2) := by decide +kernel
theorem dL_law_1768 : decode cL_law 1768 = .ok (.aload_n 2, 1) := by decide +kernel
theorem dL_law_1769 : decode cL_law 1769 = .ok (.aload_n 0, 1) := by decide +kernel
theorem dL_law_1770 : decode cL_law 1770 = .ok (.iload 5, 2) := by decide +kernel
theorem dL_law_1772 : decode cL_law 1772 = .ok (.iconst 1, 1) := by decide +kernel
theorem dL_law_1773 : decode cL_law 1773 = .ok (.iadd, 1) := by decide +kernel
theorem dL_law_1774 : decode cL_law 1774 = .ok (.iaload, 1) := by decide +kernel
theorem dL_law_1775 : decode cL_law 1775 = .ok (.invokevirtual 240, 3) := by decide +kernel
theorem dL_law_1778 : decode cL_law 1778 = .ok (.istore 7, 2) := by decide +kernel
theorem dL_law_1780 : decode cL_law 1780 = .ok (.aload_n 2, 1) := by decide +kernel
theorem dL_law_1781 : decode cL_law 1781 = .ok (.invokevirtual 124, 3) := by decide +kernel
theorem dL_law_1784 : decode cL_law 1784 = .ok (.iload 6, 2) := by decide +kernel
theorem dL_law_1786 : decode cL_law 1786 = .ok (.if_icmp .eq 5, 3) := by decide +kernel
theorem dL_law_1789 : decode cL_law 1789 = .ok (.iconst 0, 1) := by decide +kernel
theorem dL_law_1790 : decode cL_law 1790 = .ok (.ireturn, 1) := by decide +kernel
theorem dL_law_1791 : decode cL_law 1791 = .ok (.iload 6, 2) := by decide +kernel
theorem dL_law_1793 : decode cL_law 1793 = .ok (.ifCond .ne 15, 3) := by decide +kernel
theorem dL_law_1796 : decode cL_law 1796 = .ok (.aload_n 3, 1) := by decide +kernel
theorem dL_law_1797 : decode cL_law 1797 = .ok (.iconst 0, 1) := by decide +kernel
theorem dL_law_1798 : decode cL_law 1798 = .ok (.laload, 1) := by decide +kernel
theorem dL_law_1799 : decode cL_law 1799 = .ok (.iload 7, 2) := by decide +kernel
theorem dL_law_1801 : decode cL_law 1801 = .ok (.i2l, 1) := by decide +kernel
theorem dL_law_1802 : decode cL_law 1802 = .ok (.lcmp, 1) := by decide +kernel
theorem dL_law_1803 : decode cL_law 1803 = .ok (.ifCond .eq 5, 3) := by decide +kernel
theorem dL_law_1806 : decode cL_law 1806 = .ok (.iconst 0, 1) := by decide +kernel
theorem dL_law_1807 : decode cL_law 1807 = .ok (.ireturn, 1) := by decide +kernel
theorem dL_law_1808 : decode cL_law 1808 = .ok (.goto 282, 3) := by decide +kernel
theorem dL_law_1811 : decode cL_law 1811 = .ok (.aload_n 1, 1) := by decide +kernel
theorem dL_law_1812 : decode cL_law 1812 = .ok (.aload_n 0, 1) := by decide +kernel
theorem dL_law_1813 : decode cL_law 1813 = .ok (.iload 5, 2) := by decide +kernel
theorem dL_law_1815 : decode cL_law 1815 = .ok (.iconst 1, 1) := by decide +kernel
theorem dL_law_1816 : decode cL_law 1816 = .ok (.iadd, 1) := by decide +kernel
theorem dL_law_1817 : decode cL_law 1817 = .ok (.iaload, 1) := by decide +kernel
theorem dL_law_1818 : decode cL_law 1818 = .ok (.aload_n 3, 1) := by decide +kernel
theorem dL_law_1819 : decode cL_law 1819 = .ok (.invokestatic 241, 3) := by decide +kernel
theorem dL_law_1822 : decode cL_law 1822 = .ok (.istore 6, 2) := by decide +kernel
theorem dL_law_1824 : decode cL_law 1824 = .ok (.aload_n 2, 1) := by decide +kernel
theorem dL_law_1825 : decode cL_law 1825 = .ok (.aload_n 0, 1) := by decide +kernel
theorem dL_law_1826 : decode cL_law 1826 = .ok (.iload 5, 2) := by decide +kernel
theorem dL_law_1828 : decode cL_law 1828 = .ok (.iconst 1, 1) := by decide +kernel
theorem dL_law_1829 : decode cL_law 1829 = .ok (.iadd, 1) := by decide +kernel
theorem dL_law_1830 : decode cL_law 1830 = .ok (.iaload, 1) := by decide +kernel
theorem dL_law_1831 : decode cL_law 1831 = .ok (.invokevirtual 243, 3) := by decide +kernel
theorem dL_law_1834 : decode cL_law 1834 = .ok (.istore 7, 2) := by decide +kernel
theorem dL_law_1836 : decode cL_law 1836 = .ok (.aload_n 2, 1) := by decide +kernel
theorem dL_law_1837 : decode cL_law 1837 = .ok (.invokevirtual 124, 3) := by decide +kernel
theorem dL_law_1840 : decode cL_law 1840 = .ok (.iload 6, 2) := by decide +kernel
theorem dL_law_1842 : decode cL_law 1842 = .ok (.if_icmp .eq 5, 3) := by decide +kernel
theorem dL_law_1845 : decode cL_law 1845 = .ok (.iconst 0, 1) := by decide +kernel
theorem dL_law_1846 : decode cL_law 1846 = .ok (.ireturn, 1) := by decide +kernel
theorem dL_law_1847 : decode cL_law 1847 = .ok (.iload 6, 2) := by decide +kernel
theorem dL_law_1849 : decode cL_law 1849 = .ok (.ifCond .ne 15, 3) := by decide +kernel
theorem dL_law_1852 : decode cL_law 1852 = .ok (.aload_n 3, 1) := by decide +kernel
theorem dL_law_1853 : decode cL_law 1853 = .ok (.iconst 0, 1) := by decide +kernel
theorem dL_law_1854 : decode cL_law 1854 = .ok (.laload, 1) := by decide +kernel
theorem dL_law_1855 : decode cL_law 1855 = .ok (.iload 7, 2) := by decide +kernel
theorem dL_law_1857 : decode cL_law 1857 = .ok (.i2l, 1) := by decide +kernel
theorem dL_law_1858 : decode cL_law 1858 = .ok (.lcmp, 1) := by decide +kernel
theorem dL_law_1859 : decode cL_law 1859 = .ok (.ifCond .eq 5, 3) := by decide +kernel
theorem dL_law_1862 : decode cL_law 1862 = .ok (.iconst 0, 1) := by decide +kernel
theorem dL_law_1863 : decode cL_law 1863 = .ok (.ireturn, 1) := by decide +kernel
theorem dL_law_1864 : decode cL_law 1864 = .ok (.goto 226, 3) := by decide +kernel
theorem dL_law_1867 : decode cL_law 1867 = .ok (.aload_n 1, 1) := by decide +kernel
theorem dL_law_1868 : decode cL_law 1868 = .ok (.aload_n 3, 1) := by decide +kernel
theorem dL_law_1869 : decode cL_law 1869 = .ok (.invokestatic 244, 3) := by decide +kernel
theorem dL_law_1872 : decode cL_law 1872 = .ok (.istore 6, 2) := by decide +kernel
theorem dL_law_1874 : decode cL_law 1874 = .ok (.aload_n 2, 1) := by decide +kernel
theorem dL_law_1875 : decode cL_law 1875 = .ok (.invokevirtual 246, 3) := by decide +kernel
theorem dL_law_1878 : decode cL_law 1878 = .ok (.istore 7, 2) := by decide +kernel
theorem dL_law_1880 : decode cL_law 1880 = .ok (.aload_n 2, 1) := by decide +kernel
theorem dL_law_1881 : decode cL_law 1881 = .ok (.invokevirtual 124, 3) := by decide +kernel
theorem dL_law_1884 : decode cL_law 1884 = .ok (.iload 6, 2) := by decide +kernel
theorem dL_law_1886 : decode cL_law 1886 = .ok (.if_icmp .eq 5, 3) := by decide +kernel
theorem dL_law_1889 : decode cL_law 1889 = .ok (.iconst 0, 1) := by decide +kernel
theorem dL_law_1890 : decode cL_law 1890 = .ok (.ireturn, 1) := by decide +kernel
theorem dL_law_1891 : decode cL_law 1891 = .ok (.iload 6, 2) := by decide +kernel
theorem dL_law_1893 : decode cL_law 1893 = .ok (.ifCond .ne 15, 3) := by decide +kernel
theorem dL_law_1896 : decode cL_law 1896 = .ok (.aload_n 3, 1) := by decide +kernel
theorem dL_law_1897 : decode cL_law 1897 = .ok (.iconst 0, 1) := by decide +kernel
theorem dL_law_1898 : decode cL_law 1898 = .ok (.laload, 1) := by decide +kernel
theorem dL_law_1899 : decode cL_law 1899 = .ok (.iload 7, 2) := by decide +kernel
theorem dL_law_1901 : decode cL_law 1901 = .ok (.i2l, 1) := by decide +kernel
theorem dL_law_1902 : decode cL_law 1902 = .ok (.lcmp, 1) := by decide +kernel
theorem dL_law_1903 : decode cL_law 1903 = .ok (.ifCond .eq 5, 3) := by decide +kernel
theorem dL_law_1906 : decode cL_law 1906 = .ok (.iconst 0, 1) := by decide +kernel
theorem dL_law_1907 : decode cL_law 1907 = .ok (.ireturn, 1) := by decide +kernel
theorem dL_law_1908 : decode cL_law 1908 = .ok (.goto 182, 3) := by decide +kernel
theorem dL_law_1911 : decode cL_law 1911 = .ok (.aload_n 1, 1) := by decide +kernel
theorem dL_law_1912 : decode cL_law 1912 = .ok (.invokevirtual 247, 3) := by decide +kernel
theorem dL_law_1915 : decode cL_law 1915 = .ok (.aload_n 2, 1) := by decide +kernel
theorem dL_law_1916 : decode cL_law 1916 = .ok (.invokevirtual 250, 3) := by decide +kernel
theorem dL_law_1919 : decode cL_law 1919 = .ok (.if_icmp .eq 171, 3) := by decide +kernel
theorem dL_law_1922 : decode cL_law 1922 = .ok (.iconst 0, 1) := by decide +kernel
theorem dL_law_1923 : decode cL_law 1923 = .ok (.ireturn, 1) := by decide +kernel
theorem dL_law_1924 : decode cL_law 1924 = .ok (.aload_n 1, 1) := by decide +kernel
theorem dL_law_1925 : decode cL_law 1925 = .ok (.aload_n 3, 1) := by decide +kernel
theorem dL_law_1926 : decode cL_law 1926 = .ok (.invokestatic 251, 3) := by decide +kernel
theorem dL_law_1929 : decode cL_law 1929 = .ok (.istore 6, 2) := by decide +kernel
theorem dL_law_1931 : decode cL_law 1931 = .ok (.aload_n 2, 1) := by decide +kernel
theorem dL_law_1932 : decode cL_law 1932 = .ok (.invokevirtual 253, 3) := by decide +kernel
theorem dL_law_1935 : decode cL_law 1935 = .ok (.istore 7, 2) := by decide +kernel
theorem dL_law_1937 : decode cL_law 1937 = .ok (.aload_n 2, 1) := by decide +kernel
theorem dL_law_1938 : decode cL_law 1938 = .ok (.invokevirtual 124, 3) := by decide +kernel
theorem dL_law_1941 : decode cL_law 1941 = .ok (.iload 6, 2) := by decide +kernel
theorem dL_law_1943 : decode cL_law 1943 = .ok (.if_icmp .eq 5, 3) := by decide +kernel
theorem dL_law_1946 : decode cL_law 1946 = .ok (.iconst 0, 1) := by decide +kernel
theorem dL_law_1947 : decode cL_law 1947 = .ok (.ireturn, 1) := by decide +kernel
theorem dL_law_1948 : decode cL_law 1948 = .ok (.iload 6, 2) := by decide +kernel
theorem dL_law_1950 : decode cL_law 1950 = .ok (.ifCond .ne 15, 3) := by decide +kernel
theorem dL_law_1953 : decode cL_law 1953 = .ok (.aload_n 3, 1) := by decide +kernel
theorem dL_law_1954 : decode cL_law 1954 = .ok (.iconst 0, 1) := by decide +kernel
theorem dL_law_1955 : decode cL_law 1955 = .ok (.laload, 1) := by decide +kernel
theorem dL_law_1956 : decode cL_law 1956 = .ok (.iload 7, 2) := by decide +kernel
theorem dL_law_1958 : decode cL_law 1958 = .ok (.i2l, 1) := by decide +kernel
theorem dL_law_1959 : decode cL_law 1959 = .ok (.lcmp, 1) := by decide +kernel
theorem dL_law_1960 : decode cL_law 1960 = .ok (.ifCond .eq 5, 3) := by decide +kernel
theorem dL_law_1963 : decode cL_law 1963 = .ok (.iconst 0, 1) := by decide +kernel
theorem dL_law_1964 : decode cL_law 1964 = .ok (.ireturn, 1) := by decide +kernel
theorem dL_law_1965 : decode cL_law 1965 = .ok (.goto 125, 3) := by decide +kernel
theorem dL_law_1968 : decode cL_law 1968 = .ok (.aload_n 1, 1) := by decide +kernel
theorem dL_law_1969 : decode cL_law 1969 = .ok (.aload_n 3, 1) := by decide +kernel
theorem dL_law_1970 : decode cL_law 1970 = .ok (.invokestatic 254, 3) := by decide +kernel
theorem dL_law_1973 : decode cL_law 1973 = .ok (.istore 6, 2) := by decide +kernel
theorem dL_law_1975 : decode cL_law 1975 = .ok (.aload_n 2, 1) := by decide +kernel
theorem dL_law_1976 : decode cL_law 1976 = .ok (.invokevirtual 256, 3) := by decide +kernel
theorem dL_law_1979 : decode cL_law 1979 = .ok (.istore 7, 2) := by decide +kernel
theorem dL_law_1981 : decode cL_law 1981 = .ok (.aload_n 2, 1) := by decide +kernel
theorem dL_law_1982 : decode cL_law 1982 = .ok (.invokevirtual 124, 3) := by decide +kernel
theorem dL_law_1985 : decode cL_law 1985 = .ok (.iload 6, 2) := by decide +kernel
theorem dL_law_1987 : decode cL_law 1987 = .ok (.if_icmp .eq 5, 3) := by decide +kernel
theorem dL_law_1990 : decode cL_law 1990 = .ok (.iconst 0, 1) := by decide +kernel
theorem dL_law_1991 : decode cL_law 1991 = .ok (.ireturn, 1) := by decide +kernel
theorem dL_law_1992 : decode cL_law 1992 = .ok (.iload 6, 2) := by decide +kernel
theorem dL_law_1994 : decode cL_law 1994 = .ok (.ifCond .ne 15, 3) := by decide +kernel
theorem dL_law_1997 : decode cL_law 1997 = .ok (.aload_n 3, 1) := by decide +kernel
theorem dL_law_1998 : decode cL_law 1998 = .ok (.iconst 0, 1) := by decide +kernel
theorem dL_law_1999 : decode cL_law 1999 = .ok (.laload, 1) := by decide +kernel
theorem dL_law_2000 : decode cL_law 2000 = .ok (.iload 7, 2) := by decide +kernel
theorem dL_law_2002 : decode cL_law 2002 = .ok (.i2l, 1) := by decide +kernel
theorem dL_law_2003 : decode cL_law 2003 = .ok (.lcmp, 1) := by decide +kernel
theorem dL_law_2004 : decode cL_law 2004 = .ok (.ifCond .eq 5, 3) := by decide +kernel
theorem dL_law_2007 : decode cL_law 2007 = .ok (.iconst 0, 1) := by decide +kernel
theorem dL_law_2008 : decode cL_law 2008 = .ok (.ireturn, 1) := by decide +kernel
theorem dL_law_2009 : decode cL_law 2009 = .ok (.goto 81, 3) := by decide +kernel
theorem dL_law_2012 : decode cL_law 2012 = .ok (.aload_n 1, 1) := by decide +kernel
theorem dL_law_2013 : decode cL_law 2013 = .ok (.aload 4, 2) := by decide +kernel
theorem dL_law_2015 : decode cL_law 2015 = .ok (.invokestatic 257, 3) := by decide +kernel
theorem dL_law_2018 : decode cL_law 2018 = .ok (.istore 6, 2) := by decide +kernel
theorem dL_law_2020 : decode cL_law 2020 = .ok (.aload_n 2, 1) := by decide +kernel
theorem dL_law_2021 : decode cL_law 2021 = .ok (.invokevirtual 260, 3) := by decide +kernel
theorem dL_law_2024 : decode cL_law 2024 = .ok (.dstore 7, 2) := by decide +kernel
theorem dL_law_2026 : decode cL_law 2026 = .ok (.aload_n 2, 1) := by decide +kernel
theorem dL_law_2027 : decode cL_law 2027 = .ok (.invokevirtual 124, 3) := by decide +kernel
theorem dL_law_2030 : decode cL_law 2030 = .ok (.iload 6, 2) := by decide +kernel
theorem dL_law_2032 : decode cL_law 2032 = .ok (.if_icmp .eq 5, 3) := by decide +kernel
theorem dL_law_2035 : decode cL_law 2035 = .ok (.iconst 0, 1) := by decide +kernel
theorem dL_law_2036 : decode cL_law 2036 = .ok (.ireturn, 1) := by decide +kernel
theorem dL_law_2037 : decode cL_law 2037 = .ok (.iload 6, 2) := by decide +kernel
theorem dL_law_2039 : decode cL_law 2039 = .ok (.ifCond .ne 35, 3) := by decide +kernel
theorem dL_law_2042 : decode cL_law 2042 = .ok (.aload 4, 2) := by decide +kernel
theorem dL_law_2044 : decode cL_law 2044 = .ok (.iconst 0, 1) := by decide +kernel
theorem dL_law_2045 : decode cL_law 2045 = .ok (.daload, 1) := by decide +kernel
theorem dL_law_2046 : decode cL_law 2046 = .ok (.dload 7, 2) := by decide +kernel
theorem dL_law_2048 : decode cL_law 2048 = .ok (.dcmp .l, 1) := by decide +kernel
theorem dL_law_2049 : decode cL_law 2049 = .ok (.ifCond .eq 25, 3) := by decide +kernel
theorem dL_law_2052 : decode cL_law 2052 = .ok (.aload 4, 2) := by decide +kernel
theorem dL_law_2054 : decode cL_law 2054 = .ok (.iconst 0, 1) := by decide +kernel
theorem dL_law_2055 : decode cL_law 2055 = .ok (.daload, 1) := by decide +kernel
theorem dL_law_2056 : decode cL_law 2056 = .ok (.aload 4, 2) := by decide +kernel
theorem dL_law_2058 : decode cL_law 2058 = .ok (.iconst 0, 1) := by decide +kernel
theorem dL_law_2059 : decode cL_law 2059 = .ok (.daload, 1) := by decide +kernel
theorem dL_law_2060 : decode cL_law 2060 = .ok (.dcmp .l, 1) := by decide +kernel
theorem dL_law_2061 : decode cL_law 2061 = .ok (.ifCond .eq 11, 3) := by decide +kernel
theorem dL_law_2064 : decode cL_law 2064 = .ok (.dload 7, 2) := by decide +kernel
theorem dL_law_2066 : decode cL_law 2066 = .ok (.dload 7, 2) := by decide +kernel
theorem dL_law_2068 : decode cL_law 2068 = .ok (.dcmp .l, 1) := by decide +kernel
theorem dL_law_2069 : decode cL_law 2069 = .ok (.ifCond .ne 5, 3) := by decide +kernel
theorem dL_law_2072 : decode cL_law 2072 = .ok (.iconst 0, 1) := by decide +kernel
theorem dL_law_2073 : decode cL_law 2073 = .ok (.ireturn, 1) := by decide +kernel
theorem dL_law_2074 : decode cL_law 2074 = .ok (.goto 16, 3) := by decide +kernel
theorem dL_law_2077 : decode cL_law 2077 = .ok (.aload_n 1, 1) := by decide +kernel
theorem dL_law_2078 : decode cL_law 2078 = .ok (.invokevirtual 261, 3) := by decide +kernel
theorem dL_law_2081 : decode cL_law 2081 = .ok (.aload_n 2, 1) := by decide +kernel
theorem dL_law_2082 : decode cL_law 2082 = .ok (.invokevirtual 264, 3) := by decide +kernel
theorem dL_law_2085 : decode cL_law 2085 = .ok (.if_icmp .eq 5, 3) := by decide +kernel
theorem dL_law_2088 : decode cL_law 2088 = .ok (.iconst 0, 1) := by decide +kernel
theorem dL_law_2089 : decode cL_law 2089 = .ok (.ireturn, 1) := by decide +kernel
theorem dL_law_2090 : decode cL_law 2090 = .ok (.iinc 5 4, 3) := by decide +kernel
theorem dL_law_2093 : decode cL_law 2093 = .ok (.goto (-2065), 3) := by decide +kernel
theorem dL_law_2096 : decode cL_law 2096 = .ok (.iconst 1, 1) := by decide +kernel
theorem dL_law_2097 : decode cL_law 2097 = .ok (.ireturn, 1) := by decide +kernel
