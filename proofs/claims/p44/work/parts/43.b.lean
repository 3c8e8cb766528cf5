theorem dL_low_0 : decode cL_low 0 = .ok (.iload_n 0, 1) := by decide +kernel
theorem dL_low_1 : decode cL_low 1 = .ok (.ldc 7, 2) := by decide +kernel
theorem dL_low_3 : decode cL_low 3 = .ok (.iand, 1) := by decide +kernel
theorem dL_low_4 : decode cL_low 4 = .ok (.iload_n 1, 1) := by decide +kernel
theorem dL_low_5 : decode cL_low 5 = .ok (.irem, 1) := by decide +kernel
theorem dL_low_6 : decode cL_low 6 = .ok (.ireturn, 1) := by decide +kernel
theorem dL_cell_0 : decode cL_cell 0 = .ok (.iload_n 1, 1) := by decide +kernel
theorem dL_cell_1 : decode cL_cell 1 = .ok (.aload_n 0, 1) := by decide +kernel
theorem dL_cell_2 : decode cL_cell 2 = .ok (.arraylength, 1) := by decide +kernel
theorem dL_cell_3 : decode cL_cell 3 = .ok (.if_icmp .ge 9, 3) := by decide +kernel
theorem dL_cell_6 : decode cL_cell 6 = .ok (.aload_n 0, 1) := by decide +kernel
theorem dL_cell_7 : decode cL_cell 7 = .ok (.iload_n 1, 1) := by decide +kernel
theorem dL_cell_8 : decode cL_cell 8 = .ok (.iaload, 1) := by decide +kernel
theorem dL_cell_9 : decode cL_cell 9 = .ok (.goto 11, 3) := by decide +kernel
theorem dL_cell_12 : decode cL_cell 12 = .ok (.ldc 8, 2) := by decide +kernel
theorem dL_cell_14 : decode cL_cell 14 = .ok (.iload_n 1, 1) := by decide +kernel
theorem dL_cell_15 : decode cL_cell 15 = .ok (.imul, 1) := by decide +kernel
theorem dL_cell_16 : decode cL_cell 16 = .ok (.sipush 977, 3) := by decide +kernel
theorem dL_cell_19 : decode cL_cell 19 = .ok (.iadd, 1) := by decide +kernel
theorem dL_cell_20 : decode cL_cell 20 = .ok (.ireturn, 1) := by decide +kernel
set_option maxRecDepth 20000 in
theorem ggL_addTask_X8_addTask : GoodIn wsL_addTask wsX8_addTask := goodIn_ca (goodIn_ca (goodIn_r _ [6, 7, 8, 9, 10, 11, 12, 13, 14, 5, 15, 16, 17, 18, 19, 20, 21, 22, 23, 24, 25, 26, 27, 28, 29, 30, 31, 32, 33, 34, 35, 36, 37, 38, 39, 40, 41, 42, 43, 44, 45, 46, 47, 48, 49, 50, 51, 52, 53, 54, 55, 56, 57, 58, 59, 60, 61, 62, 63, 64, 65, 66, 67] (by decide +kernel) (by decide +kernel)) (goodIn_sub (fun _ h => List.mem_cons_of_mem _ (List.mem_append_left _ (List.mem_append_right _ h))) (by decide +kernel))) (goodIn_sub (fun _ h => List.mem_cons_of_mem _ (List.mem_append_right _ h)) (by decide +kernel))
set_option maxRecDepth 20000 in
theorem gL_addTask_X8_addTask : GoodIn wsL_addTask (wsV RL 9 RX8 yX8_addTask wsX8_addTask) := goodIn_app (goodIn_of _ (by decide +kernel)) ggL_addTask_X8_addTask
theorem dL_addTask_0 : decode cL_addTask 0 = .ok (.aload_n 0, 1) := by decide +kernel
theorem dL_addTask_1 : decode cL_addTask 1 = .ok (.iload_n 1, 1) := by decide +kernel
theorem dL_addTask_2 : decode cL_addTask 2 = .ok (.iload_n 2, 1) := by decide +kernel
theorem dL_addTask_3 : decode cL_addTask 3 = .ok (.invokevirtual 9, 3) := by decide +kernel
theorem dL_addTask_6 : decode cL_addTask 6 = .ok (.ireturn, 1) := by decide +kernel
theorem dL_addTask_7 : decode cL_addTask 7 = .ok (.astore_n 3, 1) := by decide +kernel
theorem dL_addTask_8 : decode cL_addTask 8 = .ok (.bipush (-3), 2) := by decide +kernel
theorem dL_addTask_10 : decode cL_addTask 10 = .ok (.ireturn, 1) := by decide +kernel
set_option maxRecDepth 20000 in
theorem ggL_depend_X8_depend : GoodIn wsL_depend wsX8_depend := goodIn_ca (goodIn_ca (goodIn_ca (goodIn_r _ [6, 7, 8, 9, 10, 11, 12, 13, 14, 15, 16, 17, 18, 5, 19, 20, 21, 22, 23, 24, 25, 26, 27, 28, 29, 30, 31, 32, 33, 34, 35, 36, 37, 38, 39, 40, 41, 42, 43, 44, 45, 46, 47, 48, 49, 50, 51, 52, 53, 54, 55, 56, 57, 58, 59, 60, 61, 62, 63, 64, 65, 66, 67, 68, 69, 70, 71, 72, 73, 74, 75, 76, 77, 78, 79, 80, 81, 82, 83, 84, 85, 86, 87, 88, 89, 90, 91, 92, 93, 94, 95, 96, 97, 98, 99, 100, 101, 102, 103, 104, 105, 106, 107, 108, 109, 110, 111, 112, 113, 114, 115, 116, 117, 118, 119, 120, 121, 122, 123, 124, 125, 126, 127, 128, 129, 130, 131, 132, 133, 134, 135, 136, 137, 138, 139, 140, 141, 142, 143, 144, 145, 146, 147, 148, 149, 150, 151, 152, 153, 154, 155, 156, 157, 158, 159, 160, 161, 162, 163, 164, 165, 166, 167, 168] (by decide +kernel) (by decide +kernel)) (goodIn_sub (fun _ h => List.mem_cons_of_mem _ (List.mem_append_left _ (List.mem_append_left _ (List.mem_append_right _ h)))) (by decide +kernel))) (goodIn_sub (fun _ h => List.mem_cons_of_mem _ (List.mem_append_left _ (List.mem_append_right _ h))) (by decide +kernel))) (goodIn_sub (fun _ h => List.mem_cons_of_mem _ (List.mem_append_right _ h)) (by decide +kernel))
set_option maxRecDepth 20000 in
theorem gL_depend_X8_depend : GoodIn wsL_depend (wsV RL 21 RX8 yX8_depend wsX8_depend) := goodIn_app (goodIn_of _ (by decide +kernel)) ggL_depend_X8_depend
theorem dL_depend_0 : decode cL_depend 0 = .ok (.aload_n 0, 1) := by decide +kernel
theorem dL_depend_1 : decode cL_depend 1 = .ok (.iload_n 1, 1) := by decide +kernel
theorem dL_depend_2 : decode cL_depend 2 = .ok (.iload_n 2, 1) := by decide +kernel
theorem dL_depend_3 : decode cL_depend 3 = .ok (.iload_n 3, 1) := by decide +kernel
theorem dL_depend_4 : decode cL_depend 4 = .ok (.invokevirtual 21, 3) := by decide +kernel
theorem dL_depend_7 : decode cL_depend 7 = .ok (.ireturn, 1) := by decide +kernel
theorem dL_depend_8 : decode cL_depend 8 = .ok (.astore 4, 2) := by decide +kernel
theorem dL_depend_10 : decode cL_depend 10 = .ok (.bipush (-3), 2) := by decide +kernel
theorem dL_depend_12 : decode cL_depend 12 = .ok (.ireturn, 1) := by decide +kernel
set_option maxRecDepth 20000 in
theorem ggL_release_X8_release : GoodIn wsL_release wsX8_release := goodIn_ca (goodIn_ca (goodIn_r _ [6, 7, 8, 9, 10, 11, 5, 12, 13, 14, 15, 16, 17, 18, 19, 20, 21, 22, 23, 24, 25, 26, 27, 28, 29, 30, 31, 32, 33, 34, 35, 36, 37, 38, 39, 40, 41, 42, 43, 44, 45, 46, 47, 48, 49, 50, 51, 52, 53, 54, 55, 56, 57, 58, 59, 60, 61, 62, 63, 64, 65, 66, 67, 68, 69, 70, 71, 72, 73, 74, 75, 76, 77, 78, 79, 80] (by decide +kernel) (by decide +kernel)) (goodIn_sub (fun _ h => List.mem_cons_of_mem _ (List.mem_append_left _ (List.mem_append_right _ h))) (by decide +kernel))) (goodIn_sub (fun _ h => List.mem_cons_of_mem _ (List.mem_append_right _ h)) (by decide +kernel))
set_option maxRecDepth 20000 in
theorem gL_release_X8_release : GoodIn wsL_release (wsV RL 25 RX8 yX8_release wsX8_release) := goodIn_app (goodIn_of _ (by decide +kernel)) ggL_release_X8_release
theorem dL_release_0 : decode cL_release 0 = .ok (.aload_n 0, 1) := by decide +kernel
theorem dL_release_1 : decode cL_release 1 = .ok (.iload_n 1, 1) := by decide +kernel
theorem dL_release_2 : decode cL_release 2 = .ok (.iload_n 2, 1) := by decide +kernel
theorem dL_release_3 : decode cL_release 3 = .ok (.invokevirtual 25, 3) := by decide +kernel
theorem dL_release_6 : decode cL_release 6 = .ok (.ireturn, 1) := by decide +kernel
theorem dL_release_7 : decode cL_release 7 = .ok (.astore_n 3, 1) := by decide +kernel
theorem dL_release_8 : decode cL_release 8 = .ok (.iconst (-1), 1) := by decide +kernel
theorem dL_release_9 : decode cL_release 9 = .ok (.ireturn, 1) := by decide +kernel
set_option maxRecDepth 20000 in
theorem ggL_lag_X8_lagOf : GoodIn wsL_lag wsX8_lagOf := goodIn_ca (goodIn_ca (goodIn_r _ [6, 7, 8, 9, 5, 10, 11, 12, 13, 14, 15, 16, 17, 18, 19, 20, 21, 22, 23, 24, 25, 26, 27, 28, 29, 30, 31, 32, 33, 34, 35, 36, 37, 38, 39, 40, 41, 42, 43, 44, 45, 46, 47] (by decide +kernel) (by decide +kernel)) (goodIn_sub (fun _ h => List.mem_cons_of_mem _ (List.mem_append_left _ (List.mem_append_right _ h))) (by decide +kernel))) (goodIn_sub (fun _ h => List.mem_cons_of_mem _ (List.mem_append_right _ h)) (by decide +kernel))
set_option maxRecDepth 20000 in
theorem gL_lag_X8_lagOf : GoodIn wsL_lag (wsV RL 30 RX8 yX8_lagOf wsX8_lagOf) := goodIn_app (goodIn_of _ (by decide +kernel)) ggL_lag_X8_lagOf
theorem dL_lag_0 : decode cL_lag 0 = .ok (.aload_n 0, 1) := by decide +kernel
theorem dL_lag_1 : decode cL_lag 1 = .ok (.iload_n 1, 1) := by decide +kernel
theorem dL_lag_2 : decode cL_lag 2 = .ok (.iload_n 2, 1) := by decide +kernel
theorem dL_lag_3 : decode cL_lag 3 = .ok (.invokevirtual 30, 3) := by decide +kernel
theorem dL_lag_6 : decode cL_lag 6 = .ok (.ireturn, 1) := by decide +kernel
theorem dL_lag_7 : decode cL_lag 7 = .ok (.astore_n 3, 1) := by decide +kernel
theorem dL_lag_8 : decode cL_lag 8 = .ok (.iconst (-1), 1) := by decide +kernel
theorem dL_lag_9 : decode cL_lag 9 = .ok (.ireturn, 1) := by decide +kernel
set_option maxRecDepth 20000 in
theorem ggL_undo_X8_undo : GoodIn wsL_undo wsX8_undo := goodIn_ca (goodIn_r _ [6, 7, 8, 9, 10, 11, 12, 13, 14, 15, 16, 17, 18, 19, 20, 21, 22, 23, 24, 25, 26, 27, 28, 29, 30, 31, 32, 33, 34, 35, 36, 37, 38, 39, 40, 41, 42, 43, 44, 45, 46, 47, 48, 49, 50, 51, 52, 53, 54, 55, 56, 57] (by decide +kernel) (by decide +kernel)) (goodIn_sub (fun _ h => List.mem_cons_of_mem _ (List.mem_append_right _ h)) (by decide +kernel))
set_option maxRecDepth 20000 in
theorem gL_undo_X8_undo : GoodIn wsL_undo (wsV RL 33 RX8 yX8_undo wsX8_undo) := goodIn_app (goodIn_of _ (by decide +kernel)) ggL_undo_X8_undo
theorem dL_undo_0 : decode cL_undo 0 = .ok (.aload_n 0, 1) := by decide +kernel
theorem dL_undo_1 : decode cL_undo 1 = .ok (.invokevirtual 33, 3) := by decide +kernel
theorem dL_undo_4 : decode cL_undo 4 = .ok (.ireturn, 1) := by decide +kernel
theorem dL_undo_5 : decode cL_undo 5 = .ok (.astore_n 1, 1) := by decide +kernel
theorem dL_undo_6 : decode cL_undo 6 = .ok (.bipush (-3), 2) := by decide +kernel
theorem dL_undo_8 : decode cL_undo 8 = .ok (.ireturn, 1) := by decide +kernel
set_option maxRecDepth 20000 in
theorem ggL_length_L_low : GoodIn wsL_length wsL_low := goodIn_r _ [4, 5] (by decide +kernel) (by decide +kernel)
set_option maxRecDepth 20000 in
theorem gL_length_L_low : GoodIn wsL_length (va_wsS RL 36 yL_low wsL_low) := goodIn_app (goodIn_of _ (by decide +kernel)) ggL_length_L_low
theorem dL_length_0 : decode cL_length 0 = .ok (.iload_n 0, 1) := by decide +kernel
theorem dL_length_1 : decode cL_length 1 = .ok (.iload_n 0, 1) := by decide +kernel
theorem dL_length_2 : decode cL_length 2 = .ok (.bipush 7, 2) := by decide +kernel
theorem dL_length_4 : decode cL_length 4 = .ok (.ishr, 1) := by decide +kernel
theorem dL_length_5 : decode cL_length 5 = .ok (.iconst 3, 1) := by decide +kernel
theorem dL_length_6 : decode cL_length 6 = .ok (.invokestatic 36, 3) := by decide +kernel
theorem dL_length_9 : decode cL_length 9 = .ok (.ifCond .ne 8, 3) := by decide +kernel
theorem dL_length_12 : decode cL_length 12 = .ok (.bipush 31, 2) := by decide +kernel
theorem dL_length_14 : decode cL_length 14 = .ok (.goto 5, 3) := by decide +kernel
theorem dL_length_17 : decode cL_length 17 = .ok (.bipush 6, 2) := by decide +kernel
theorem dL_length_19 : decode cL_length 19 = .ok (.invokestatic 36, 3) := by decide +kernel
theorem dL_length_22 : decode cL_length 22 = .ok (.ireturn, 1) := by decide +kernel
set_option maxRecDepth 20000 in
theorem ggL_crews_L_low : GoodIn wsL_crews wsL_low := goodIn_r _ [4, 5] (by decide +kernel) (by decide +kernel)
set_option maxRecDepth 20000 in
theorem gL_crews_L_low : GoodIn wsL_crews (va_wsS RL 36 yL_low wsL_low) := goodIn_app (goodIn_of _ (by decide +kernel)) ggL_crews_L_low
theorem dL_crews_0 : decode cL_crews 0 = .ok (.iload_n 0, 1) := by decide +kernel
theorem dL_crews_1 : decode cL_crews 1 = .ok (.iload_n 0, 1) := by decide +kernel
theorem dL_crews_2 : decode cL_crews 2 = .ok (.iconst 5, 1) := by decide +kernel
theorem dL_crews_3 : decode cL_crews 3 = .ok (.ishr, 1) := by decide +kernel
theorem dL_crews_4 : decode cL_crews 4 = .ok (.iconst 3, 1) := by decide +kernel
theorem dL_crews_5 : decode cL_crews 5 = .ok (.invokestatic 36, 3) := by decide +kernel
theorem dL_crews_8 : decode cL_crews 8 = .ok (.ifCond .ne 8, 3) := by decide +kernel
theorem dL_crews_11 : decode cL_crews 11 = .ok (.bipush 6, 2) := by decide +kernel
theorem dL_crews_13 : decode cL_crews 13 = .ok (.goto 4, 3) := by decide +kernel
theorem dL_crews_16 : decode cL_crews 16 = .ok (.iconst 3, 1) := by decide +kernel
theorem dL_crews_17 : decode cL_crews 17 = .ok (.invokestatic 36, 3) := by decide +kernel
theorem dL_crews_20 : decode cL_crews 20 = .ok (.ireturn, 1) := by decide +kernel
set_option maxRecDepth 20000 in
theorem ggL_scheduleLength_X8_scheduleLength : GoodIn wsL_scheduleLength wsX8_scheduleLength := goodIn_ca (goodIn_r _ [6, 7, 8, 9, 10, 11, 5, 12, 13, 14, 15, 16, 17, 18, 19, 20, 21, 22, 23, 24, 25, 26, 27, 28, 29, 30, 31, 32, 33, 34, 35, 36, 37, 38, 39, 40, 41, 42, 43, 44, 45, 46, 47, 48, 49, 50, 51, 52, 53, 54, 55, 56, 57, 58, 59, 60, 61, 62, 63, 64, 65, 66, 67, 68, 69, 70, 71, 72, 73, 74, 75, 76, 77, 78, 79, 80, 81, 82, 83, 84, 85, 86, 87, 88, 89, 90, 91, 92, 93, 94, 95, 96, 97, 98, 99, 100, 101, 102, 103, 104, 105, 106, 107, 108, 109, 110, 111, 112, 113, 114, 115, 116, 117, 118, 119, 120, 121, 122, 123, 124, 125, 126, 127, 128, 129, 130, 131, 132, 133, 134, 135, 136, 137, 138, 139, 140, 141, 142, 143, 144, 145, 146, 147, 148, 149, 150] (by decide +kernel) (by decide +kernel)) (goodIn_sub (fun _ h => List.mem_cons_of_mem _ (List.mem_append_right _ h)) (by decide +kernel))
set_option maxRecDepth 20000 in
theorem gL_scheduleLength_X8_scheduleLength : GoodIn wsL_scheduleLength (wsV RL 89 RX8 yX8_scheduleLength wsX8_scheduleLength) := goodIn_app (goodIn_of _ (by decide +kernel)) ggL_scheduleLength_X8_scheduleLength
theorem dL_scheduleLength_0 : decode cL_scheduleLength 0 = .ok (.aload_n 0, 1) := by decide +kernel
theorem dL_scheduleLength_1 : decode cL_scheduleLength 1 = .ok (.invokevirtual 89, 3) := by decide +kernel
theorem dL_scheduleLength_4 : decode cL_scheduleLength 4 = .ok (.ireturn, 1) := by decide +kernel
theorem dL_scheduleLength_5 : decode cL_scheduleLength 5 = .ok (.astore_n 1, 1) := by decide +kernel
theorem dL_scheduleLength_6 : decode cL_scheduleLength 6 = .ok (.bipush (-3), 2) := by decide +kernel
theorem dL_scheduleLength_8 : decode cL_scheduleLength 8 = .ok (.ireturn, 1) := by decide +kernel
set_option maxRecDepth 20000 in
theorem ggL_leastCrews_X8_leastCrews : GoodIn wsL_leastCrews wsX8_leastCrews := goodIn_ca (goodIn_r _ [6, 7, 8, 9, 10, 11, 12, 13, 14, 15, 16, 17, 18, 19, 20, 21, 22, 23, 24, 25, 26, 27, 28, 29, 30, 31, 32, 33, 34, 35, 36, 37, 38, 39, 40, 41, 42, 43, 44, 45, 46, 47, 48, 49, 50, 51, 52, 53, 54, 55, 56, 57, 58, 59, 60, 61, 62, 63, 64, 65, 66, 67, 68, 69, 70, 71, 72, 73, 74, 75, 76, 77, 78, 79, 80, 81, 82, 83, 84, 85, 86, 87, 88, 89, 90, 91, 92, 93, 94, 95, 96, 97, 98, 99, 100, 101, 102, 103, 104, 105, 106, 107, 108, 109, 110, 111, 112, 113, 114, 115, 116, 117, 118, 119, 120, 121, 122, 123, 124, 125, 126, 127, 128, 129, 130, 131, 132, 133, 134, 135, 136, 137, 138, 139, 140, 141, 142, 143, 144, 145] (by decide +kernel) (by decide +kernel)) (goodIn_sub (fun _ h => List.mem_cons_of_mem _ (List.mem_append_right _ h)) (by decide +kernel))
set_option maxRecDepth 20000 in
theorem gL_leastCrews_X8_leastCrews : GoodIn wsL_leastCrews (wsV RL 92 RX8 yX8_leastCrews wsX8_leastCrews) := goodIn_app (goodIn_of _ (by decide +kernel)) ggL_leastCrews_X8_leastCrews
theorem dL_leastCrews_0 : decode cL_leastCrews 0 = .ok (.aload_n 0, 1) := by decide +kernel
theorem dL_leastCrews_1 : decode cL_leastCrews 1 = .ok (.invokevirtual 92, 3) := by decide +kernel
theorem dL_leastCrews_4 : decode cL_leastCrews 4 = .ok (.ireturn, 1) := by decide +kernel
theorem dL_leastCrews_5 : decode cL_leastCrews 5 = .ok (.astore_n 1, 1) := by decide +kernel
theorem dL_leastCrews_6 : decode cL_leastCrews 6 = .ok (.iconst (-1), 1) := by decide +kernel
theorem dL_leastCrews_7 : decode cL_leastCrews 7 = .ok (.ireturn, 1) := by decide +kernel
