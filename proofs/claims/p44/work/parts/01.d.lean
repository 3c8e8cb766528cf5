set_option maxRecDepth 20000 in
theorem ggX8_init_X7_init : GoodIn wsX8_init wsX7_init := goodIn_r _ [37, 38, 2, 3, 39, 40, 41, 42, 43, 44, 45, 46, 47, 48, 49, 108, 109, 110, 111, 112, 113] (by decide +kernel) (by decide +kernel)
set_option maxRecDepth 20000 in
theorem gX8_init_X7_init : GoodIn wsX8_init (wsX7_init) := ggX8_init_X7_init
set_option maxRecDepth 20000 in
theorem ggX8_init_X2_init : GoodIn wsX8_init wsX2_init := goodIn_r _ [52, 53, 2, 3, 54, 55, 56, 57, 5, 6, 58, 36, 37, 38, 39, 40, 41, 42, 43, 44, 45, 46, 47, 48, 49, 124, 125, 126, 108, 109, 110, 111, 112, 113] (by decide +kernel) (by decide +kernel)
set_option maxRecDepth 20000 in
theorem gX8_init_X2_init : GoodIn wsX8_init (wsX2_init) := ggX8_init_X2_init
set_option maxRecDepth 20000 in
theorem ggX8_init_X4_init : GoodIn wsX8_init wsX4_init := goodIn_r _ [60, 61, 2, 3, 62, 63, 64, 5, 6, 65, 66, 67, 68, 36, 37, 38, 39, 40, 41, 42, 43, 44, 45, 46, 47, 48, 49, 127, 128, 129, 130, 108, 109, 110, 111, 112, 113] (by decide +kernel) (by decide +kernel)
set_option maxRecDepth 20000 in
theorem gX8_init_X4_init_n32 : GoodIn wsX8_init (wsX4_init) := ggX8_init_X4_init
set_option maxRecDepth 20000 in
theorem ggX8_init_X1_init : GoodIn wsX8_init wsX1_init := goodIn_r _ [70, 71, 2, 3, 42, 72, 73, 74, 75, 76, 77, 78, 79, 80, 81, 82, 83, 84, 85, 131, 132, 133, 134, 135, 146, 147, 148] (by decide +kernel) (by decide +kernel)
set_option maxRecDepth 20000 in
theorem gX8_init_X1_init_n39 : GoodIn wsX8_init (wsX1_init) := ggX8_init_X1_init
set_option maxRecDepth 20000 in
theorem ggX8_init_X5_init : GoodIn wsX8_init wsX5_init := goodIn_r _ [87, 88, 2, 3, 42, 89, 136] (by decide +kernel) (by decide +kernel)
set_option maxRecDepth 20000 in
theorem gX8_init_X5_init_n49 : GoodIn wsX8_init (wsX5_init) := ggX8_init_X5_init
set_option maxRecDepth 20000 in
theorem ggX8_init_X0_init : GoodIn wsX8_init wsX0_init := goodIn_r _ [91, 92, 2, 3, 93, 77, 78, 94, 95, 96, 42, 97, 98, 99, 100, 80, 81, 82, 83, 84, 85, 146, 147, 148, 137, 138, 139, 140, 141] (by decide +kernel) (by decide +kernel)
set_option maxRecDepth 20000 in
theorem gX8_init_X0_init_n56 : GoodIn wsX8_init (wsX0_init) := ggX8_init_X0_init
set_option maxRecDepth 20000 in
theorem ggX8_init_X6_init : GoodIn wsX8_init wsX6_init := goodIn_r _ [102, 103, 2, 3, 104, 42, 105, 106, 107, 142, 143, 144, 145] (by decide +kernel) (by decide +kernel)
set_option maxRecDepth 20000 in
theorem gX8_init_X6_init_n63 : GoodIn wsX8_init (wsX6_init) := ggX8_init_X6_init
theorem dX8_init_0 : decode cX8_init 0 = .ok (.aload_n 0, 1) := by decide +kernel
theorem dX8_init_1 : decode cX8_init 1 = .ok (.invokespecial 1, 3) := by decide +kernel
theorem dX8_init_4 : decode cX8_init 4 = .ok (.aload_n 0, 1) := by decide +kernel
theorem dX8_init_5 : decode cX8_init 5 = .ok (.new 7, 3) := by decide +kernel
theorem dX8_init_8 : decode cX8_init 8 = .ok (.dup, 1) := by decide +kernel
theorem dX8_init_9 : decode cX8_init 9 = .ok (.invokespecial 9, 3) := by decide +kernel
theorem dX8_init_12 : decode cX8_init 12 = .ok (.putfield 10, 3) := by decide +kernel
theorem dX8_init_15 : decode cX8_init 15 = .ok (.aload_n 0, 1) := by decide +kernel
theorem dX8_init_16 : decode cX8_init 16 = .ok (.new 7, 3) := by decide +kernel
theorem dX8_init_19 : decode cX8_init 19 = .ok (.dup, 1) := by decide +kernel
theorem dX8_init_20 : decode cX8_init 20 = .ok (.invokespecial 9, 3) := by decide +kernel
theorem dX8_init_23 : decode cX8_init 23 = .ok (.putfield 16, 3) := by decide +kernel
theorem dX8_init_26 : decode cX8_init 26 = .ok (.aload_n 0, 1) := by decide +kernel
theorem dX8_init_27 : decode cX8_init 27 = .ok (.iconst 0, 1) := by decide +kernel
theorem dX8_init_28 : decode cX8_init 28 = .ok (.putfield 19, 3) := by decide +kernel
theorem dX8_init_31 : decode cX8_init 31 = .ok (.aload_n 0, 1) := by decide +kernel
theorem dX8_init_32 : decode cX8_init 32 = .ok (.new 23, 3) := by decide +kernel
theorem dX8_init_35 : decode cX8_init 35 = .ok (.dup, 1) := by decide +kernel
theorem dX8_init_36 : decode cX8_init 36 = .ok (.invokespecial 25, 3) := by decide +kernel
theorem dX8_init_39 : decode cX8_init 39 = .ok (.putfield 26, 3) := by decide +kernel
theorem dX8_init_42 : decode cX8_init 42 = .ok (.aload_n 0, 1) := by decide +kernel
theorem dX8_init_43 : decode cX8_init 43 = .ok (.new 30, 3) := by decide +kernel
theorem dX8_init_46 : decode cX8_init 46 = .ok (.dup, 1) := by decide +kernel
theorem dX8_init_47 : decode cX8_init 47 = .ok (.invokespecial 32, 3) := by decide +kernel
theorem dX8_init_50 : decode cX8_init 50 = .ok (.putfield 33, 3) := by decide +kernel
theorem dX8_init_53 : decode cX8_init 53 = .ok (.aload_n 0, 1) := by decide +kernel
theorem dX8_init_54 : decode cX8_init 54 = .ok (.new 37, 3) := by decide +kernel
theorem dX8_init_57 : decode cX8_init 57 = .ok (.dup, 1) := by decide +kernel
theorem dX8_init_58 : decode cX8_init 58 = .ok (.invokespecial 39, 3) := by decide +kernel
theorem dX8_init_61 : decode cX8_init 61 = .ok (.putfield 40, 3) := by decide +kernel
theorem dX8_init_64 : decode cX8_init 64 = .ok (.aload_n 0, 1) := by decide +kernel
theorem dX8_init_65 : decode cX8_init 65 = .ok (.new 37, 3) := by decide +kernel
theorem dX8_init_68 : decode cX8_init 68 = .ok (.dup, 1) := by decide +kernel
theorem dX8_init_69 : decode cX8_init 69 = .ok (.invokespecial 39, 3) := by decide +kernel
theorem dX8_init_72 : decode cX8_init 72 = .ok (.putfield 44, 3) := by decide +kernel
theorem dX8_init_75 : decode cX8_init 75 = .ok (.aload_n 0, 1) := by decide +kernel
theorem dX8_init_76 : decode cX8_init 76 = .ok (.new 47, 3) := by decide +kernel
theorem dX8_init_79 : decode cX8_init 79 = .ok (.dup, 1) := by decide +kernel
theorem dX8_init_80 : decode cX8_init 80 = .ok (.invokespecial 49, 3) := by decide +kernel
theorem dX8_init_83 : decode cX8_init 83 = .ok (.putfield 50, 3) := by decide +kernel
theorem dX8_init_86 : decode cX8_init 86 = .ok (.aload_n 0, 1) := by decide +kernel
theorem dX8_init_87 : decode cX8_init 87 = .ok (.new 54, 3) := by decide +kernel
theorem dX8_init_90 : decode cX8_init 90 = .ok (.dup, 1) := by decide +kernel
theorem dX8_init_91 : decode cX8_init 91 = .ok (.invokespecial 56, 3) := by decide +kernel
theorem dX8_init_94 : decode cX8_init 94 = .ok (.putfield 57, 3) := by decide +kernel
theorem dX8_init_97 : decode cX8_init 97 = .ok (.aload_n 0, 1) := by decide +kernel
theorem dX8_init_98 : decode cX8_init 98 = .ok (.new 61, 3) := by decide +kernel
theorem dX8_init_101 : decode cX8_init 101 = .ok (.dup, 1) := by decide +kernel
theorem dX8_init_102 : decode cX8_init 102 = .ok (.invokespecial 63, 3) := by decide +kernel
theorem dX8_init_105 : decode cX8_init 105 = .ok (.putfield 64, 3) := by decide +kernel
theorem dX8_init_108 : decode cX8_init 108 = .ok (.return_, 1) := by decide +kernel
set_option maxRecDepth 20000 in
theorem ggX8_addTask_X8_requireRange : GoodIn wsX8_addTask wsX8_requireRange := goodIn_ca (goodIn_r _ [10, 11, 12] (by decide +kernel) (by decide +kernel)) (goodIn_sub (fun _ h => List.mem_cons_of_mem _ (List.mem_append_right _ h)) (by decide +kernel))
set_option maxRecDepth 20000 in
theorem gX8_addTask_X8_requireRange : GoodIn wsX8_addTask (wsV RX8 68 RX8 yX8_requireRange wsX8_requireRange) := goodIn_app (goodIn_of _ (by decide +kernel)) ggX8_addTask_X8_requireRange
set_option maxRecDepth 20000 in
theorem ggX8_addTask_X2_record : GoodIn wsX8_addTask wsX2_record := goodIn_r _ [17, 18, 19, 20, 21, 22, 23, 24, 25, 26, 27, 28, 29, 30, 31, 32, 33, 34, 35, 36, 37, 38, 39, 60, 61, 62, 54, 55, 56, 57, 58, 59] (by decide +kernel) (by decide +kernel)
set_option maxRecDepth 20000 in
theorem gX8_addTask_X2_record : GoodIn wsX8_addTask (wsV RX8 83 RX2 yX2_record wsX2_record) := goodIn_app (goodIn_of _ (by decide +kernel)) ggX8_addTask_X2_record
set_option maxRecDepth 20000 in
theorem ggX8_addTask_X7_add : GoodIn wsX8_addTask wsX7_add := goodIn_r _ [43, 31, 33, 38, 54, 55, 56, 57, 58, 59] (by decide +kernel) (by decide +kernel)
set_option maxRecDepth 20000 in
theorem gX8_addTask_X7_add : GoodIn wsX8_addTask (wsV RX8 87 RX7 yX7_add wsX7_add) := goodIn_app (goodIn_of _ (by decide +kernel)) ggX8_addTask_X7_add
theorem dX8_addTask_0 : decode cX8_addTask 0 = .ok (.aload_n 0, 1) := by decide +kernel
theorem dX8_addTask_1 : decode cX8_addTask 1 = .ok (.iload_n 1, 1) := by decide +kernel
theorem dX8_addTask_2 : decode cX8_addTask 2 = .ok (.iconst 0, 1) := by decide +kernel
theorem dX8_addTask_3 : decode cX8_addTask 3 = .ok (.bipush 30, 2) := by decide +kernel
theorem dX8_addTask_5 : decode cX8_addTask 5 = .ok (.invokevirtual 68, 3) := by decide +kernel
theorem dX8_addTask_8 : decode cX8_addTask 8 = .ok (.aload_n 0, 1) := by decide +kernel
theorem dX8_addTask_9 : decode cX8_addTask 9 = .ok (.iload_n 2, 1) := by decide +kernel
theorem dX8_addTask_10 : decode cX8_addTask 10 = .ok (.iconst 0, 1) := by decide +kernel
theorem dX8_addTask_11 : decode cX8_addTask 11 = .ok (.iconst 5, 1) := by decide +kernel
theorem dX8_addTask_12 : decode cX8_addTask 12 = .ok (.invokevirtual 68, 3) := by decide +kernel
theorem dX8_addTask_15 : decode cX8_addTask 15 = .ok (.aload_n 0, 1) := by decide +kernel
theorem dX8_addTask_16 : decode cX8_addTask 16 = .ok (.getfield 10, 3) := by decide +kernel
theorem dX8_addTask_19 : decode cX8_addTask 19 = .ok (.getfield 72, 3) := by decide +kernel
theorem dX8_addTask_22 : decode cX8_addTask 22 = .ok (.bipush 20, 2) := by decide +kernel
theorem dX8_addTask_24 : decode cX8_addTask 24 = .ok (.if_icmp .lt 13, 3) := by decide +kernel
theorem dX8_addTask_27 : decode cX8_addTask 27 = .ok (.new 76, 3) := by decide +kernel
theorem dX8_addTask_30 : decode cX8_addTask 30 = .ok (.dup, 1) := by decide +kernel
theorem dX8_addTask_31 : decode cX8_addTask 31 = .ok (.ldc 78, 2) := by decide +kernel
theorem dX8_addTask_33 : decode cX8_addTask 33 = .ok (.invokespecial 80, 3) := by decide +kernel
theorem dX8_addTask_36 : decode cX8_addTask 36 = .ok (.athrow, 1) := by decide +kernel
theorem dX8_addTask_37 : decode cX8_addTask 37 = .ok (.aload_n 0, 1) := by decide +kernel
theorem dX8_addTask_38 : decode cX8_addTask 38 = .ok (.getfield 26, 3) := by decide +kernel
theorem dX8_addTask_41 : decode cX8_addTask 41 = .ok (.aload_n 0, 1) := by decide +kernel
theorem dX8_addTask_42 : decode cX8_addTask 42 = .ok (.getfield 10, 3) := by decide +kernel
theorem dX8_addTask_45 : decode cX8_addTask 45 = .ok (.invokevirtual 83, 3) := by decide +kernel
theorem dX8_addTask_48 : decode cX8_addTask 48 = .ok (.aload_n 0, 1) := by decide +kernel
theorem dX8_addTask_49 : decode cX8_addTask 49 = .ok (.getfield 10, 3) := by decide +kernel
theorem dX8_addTask_52 : decode cX8_addTask 52 = .ok (.iload_n 1, 1) := by decide +kernel
theorem dX8_addTask_53 : decode cX8_addTask 53 = .ok (.iload_n 2, 1) := by decide +kernel
theorem dX8_addTask_54 : decode cX8_addTask 54 = .ok (.invokevirtual 87, 3) := by decide +kernel
theorem dX8_addTask_57 : decode cX8_addTask 57 = .ok (.aload_n 0, 1) := by decide +kernel
theorem dX8_addTask_58 : decode cX8_addTask 58 = .ok (.getfield 10, 3) := by decide +kernel
theorem dX8_addTask_61 : decode cX8_addTask 61 = .ok (.getfield 72, 3) := by decide +kernel
theorem dX8_addTask_64 : decode cX8_addTask 64 = .ok (.iconst 1, 1) := by decide +kernel
theorem dX8_addTask_65 : decode cX8_addTask 65 = .ok (.isub, 1) := by decide +kernel
theorem dX8_addTask_66 : decode cX8_addTask 66 = .ok (.ireturn, 1) := by decide +kernel
set_option maxRecDepth 20000 in
theorem ggX8_setLength_X8_requireTask : GoodIn wsX8_setLength wsX8_requireTask := goodIn_ca (goodIn_r _ [9, 10, 11, 2, 12, 13, 14, 15, 16, 17, 111, 112, 113, 114, 115, 116, 117, 118, 119, 120, 121, 122, 123, 124, 125, 126] (by decide +kernel) (by decide +kernel)) (goodIn_sub (fun _ h => List.mem_cons_of_mem _ (List.mem_append_left _ (List.mem_append_right _ h))) (by decide +kernel))
set_option maxRecDepth 20000 in
theorem gX8_setLength_X8_requireTask : GoodIn wsX8_setLength (wsV RX8 99 RX8 yX8_requireTask wsX8_requireTask) := goodIn_app (goodIn_of _ (by decide +kernel)) ggX8_setLength_X8_requireTask
set_option maxRecDepth 20000 in
theorem ggX8_setLength_X8_requireRange : GoodIn wsX8_setLength wsX8_requireRange := goodIn_ca (goodIn_r _ [21, 22, 23] (by decide +kernel) (by decide +kernel)) (goodIn_sub (fun _ h => List.mem_cons_of_mem _ (List.mem_append_right _ h)) (by decide +kernel))
set_option maxRecDepth 20000 in
theorem gX8_setLength_X8_requireRange : GoodIn wsX8_setLength (wsV RX8 68 RX8 yX8_requireRange wsX8_requireRange) := goodIn_app (goodIn_of _ (by decide +kernel)) ggX8_setLength_X8_requireRange
set_option maxRecDepth 20000 in
theorem ggX8_setLength_X2_record : GoodIn wsX8_setLength wsX2_record := goodIn_r _ [28, 29, 30, 31, 32, 33, 34, 15, 35, 36, 37, 38, 39, 40, 17, 41, 42, 43, 44, 45, 46, 47, 48, 127, 128, 129, 121, 122, 123, 124, 125, 126] (by decide +kernel) (by decide +kernel)
set_option maxRecDepth 20000 in
theorem gX8_setLength_X2_record : GoodIn wsX8_setLength (wsV RX8 83 RX2 yX2_record wsX2_record) := goodIn_app (goodIn_of _ (by decide +kernel)) ggX8_setLength_X2_record
set_option maxRecDepth 20000 in
theorem ggX8_setLength_X1_find : GoodIn wsX8_setLength wsX1_find := goodIn_r _ [53, 54, 55, 56, 44, 45, 46, 57, 58, 59, 52, 60, 61, 62, 63, 64, 65, 66, 67, 68, 69, 70, 71, 72, 73, 74, 15, 75, 17, 76, 77, 78, 79, 48, 80, 13, 14, 16, 81, 82, 83, 84, 85, 86, 87, 88, 89, 90, 91, 92, 93, 94, 95, 96, 97, 98, 99, 100, 101, 102, 103, 104, 105, 106, 107, 108, 109, 110, 121, 122, 123, 124, 125, 126, 130, 131, 132, 133, 134, 135, 136, 137] (by decide +kernel) (by decide +kernel)
set_option maxRecDepth 20000 in
theorem gX8_setLength_X1_find : GoodIn wsX8_setLength (wsV RX8 107 RX1 yX1_find wsX1_find) := goodIn_app (goodIn_of _ (by decide +kernel)) ggX8_setLength_X1_find
theorem dX8_setLength_0 : decode cX8_setLength 0 = .ok (.aload_n 0, 1) := by decide +kernel
theorem dX8_setLength_1 : decode cX8_setLength 1 = .ok (.iload_n 1, 1) := by decide +kernel
theorem dX8_setLength_2 : decode cX8_setLength 2 = .ok (.invokevirtual 99, 3) := by decide +kernel
theorem dX8_setLength_5 : decode cX8_setLength 5 = .ok (.aload_n 0, 1) := by decide +kernel
theorem dX8_setLength_6 : decode cX8_setLength 6 = .ok (.iload_n 2, 1) := by decide +kernel
theorem dX8_setLength_7 : decode cX8_setLength 7 = .ok (.iconst 0, 1) := by decide +kernel
theorem dX8_setLength_8 : decode cX8_setLength 8 = .ok (.bipush 30, 2) := by decide +kernel
theorem dX8_setLength_10 : decode cX8_setLength 10 = .ok (.invokevirtual 68, 3) := by decide +kernel
theorem dX8_setLength_13 : decode cX8_setLength 13 = .ok (.aload_n 0, 1) := by decide +kernel
theorem dX8_setLength_14 : decode cX8_setLength 14 = .ok (.getfield 26, 3) := by decide +kernel
theorem dX8_setLength_17 : decode cX8_setLength 17 = .ok (.aload_n 0, 1) := by decide +kernel
theorem dX8_setLength_18 : decode cX8_setLength 18 = .ok (.getfield 10, 3) := by decide +kernel
theorem dX8_setLength_21 : decode cX8_setLength 21 = .ok (.invokevirtual 83, 3) := by decide +kernel
theorem dX8_setLength_24 : decode cX8_setLength 24 = .ok (.aload_n 0, 1) := by decide +kernel
theorem dX8_setLength_25 : decode cX8_setLength 25 = .ok (.getfield 10, 3) := by decide +kernel
theorem dX8_setLength_28 : decode cX8_setLength 28 = .ok (.getfield 103, 3) := by decide +kernel
theorem dX8_setLength_31 : decode cX8_setLength 31 = .ok (.iload_n 1, 1) := by decide +kernel
theorem dX8_setLength_32 : decode cX8_setLength 32 = .ok (.iload_n 2, 1) := by decide +kernel
theorem dX8_setLength_33 : decode cX8_setLength 33 = .ok (.iastore, 1) := by decide +kernel
theorem dX8_setLength_34 : decode cX8_setLength 34 = .ok (.aload_n 0, 1) := by decide +kernel
theorem dX8_setLength_35 : decode cX8_setLength 35 = .ok (.getfield 40, 3) := by decide +kernel
theorem dX8_setLength_38 : decode cX8_setLength 38 = .ok (.aload_n 0, 1) := by decide +kernel
theorem dX8_setLength_39 : decode cX8_setLength 39 = .ok (.getfield 10, 3) := by decide +kernel
theorem dX8_setLength_42 : decode cX8_setLength 42 = .ok (.invokevirtual 107, 3) := by decide +kernel
theorem dX8_setLength_45 : decode cX8_setLength 45 = .ok (.ireturn, 1) := by decide +kernel
set_option maxRecDepth 20000 in
theorem ggX8_depend_X8_requireTask : GoodIn wsX8_depend wsX8_requireTask := goodIn_ca (goodIn_r _ [14, 15, 16, 5, 17, 18, 19, 20, 21, 22, 132, 133, 134, 135, 136, 137, 138, 139, 140, 141, 142, 143, 144, 145, 146, 147] (by decide +kernel) (by decide +kernel)) (goodIn_sub (fun _ h => List.mem_cons_of_mem _ (List.mem_append_right _ h)) (by decide +kernel))
set_option maxRecDepth 20000 in
theorem gX8_depend_X8_requireTask : GoodIn wsX8_depend (wsV RX8 99 RX8 yX8_requireTask wsX8_requireTask) := goodIn_app (goodIn_of _ (by decide +kernel)) ggX8_depend_X8_requireTask
set_option maxRecDepth 20000 in
theorem ggX8_depend_X8_requireRange : GoodIn wsX8_depend wsX8_requireRange := goodIn_ca (goodIn_r _ [26, 1, 2] (by decide +kernel) (by decide +kernel)) (goodIn_sub (fun _ h => List.mem_cons_of_mem _ (List.mem_append_left _ (List.mem_append_left _ (List.mem_append_right _ h)))) (by decide +kernel))
set_option maxRecDepth 20000 in
theorem gX8_depend_X8_requireRange : GoodIn wsX8_depend (wsV RX8 68 RX8 yX8_requireRange wsX8_requireRange) := goodIn_app (goodIn_of _ (by decide +kernel)) ggX8_depend_X8_requireRange
set_option maxRecDepth 20000 in
theorem ggX8_depend_X7_lag : GoodIn wsX8_depend wsX7_lag := goodIn_r _ [30, 31, 32, 18, 19, 20, 21, 22, 142, 143, 144, 145, 146, 147] (by decide +kernel) (by decide +kernel)
set_option maxRecDepth 20000 in
theorem gX8_depend_X7_lag : GoodIn wsX8_depend (wsV RX8 116 RX7 yX7_lag wsX7_lag) := goodIn_app (goodIn_of _ (by decide +kernel)) ggX8_depend_X7_lag
set_option maxRecDepth 20000 in
theorem ggX8_depend_X0_leads : GoodIn wsX8_depend wsX0_leads := goodIn_r _ [37, 38, 39, 40, 41, 42, 43, 18, 19, 20, 21, 22, 44, 45, 46, 47, 48, 49, 50, 51, 52, 53, 54, 55, 56, 57, 28, 29, 30, 31, 32, 58, 59, 60, 61, 62, 63, 148, 149, 150, 151, 152, 153, 154, 155, 142, 143, 144, 145, 146, 147] (by decide +kernel) (by decide +kernel)
set_option maxRecDepth 20000 in
theorem gX8_depend_X0_leads : GoodIn wsX8_depend (wsV RX8 122 RX0 yX0_leads wsX0_leads) := goodIn_app (goodIn_of _ (by decide +kernel)) ggX8_depend_X0_leads
set_option maxRecDepth 20000 in
theorem ggX8_depend_X2_record : GoodIn wsX8_depend wsX2_record := goodIn_r _ [68, 69, 70, 71, 72, 73, 74, 20, 75, 76, 77, 78, 79, 80, 22, 81, 82, 83, 84, 85, 86, 87, 31, 156, 157, 158, 142, 143, 144, 145, 146, 147] (by decide +kernel) (by decide +kernel)
set_option maxRecDepth 20000 in
theorem gX8_depend_X2_record : GoodIn wsX8_depend (wsV RX8 83 RX2 yX2_record wsX2_record) := goodIn_app (goodIn_of _ (by decide +kernel)) ggX8_depend_X2_record
set_option maxRecDepth 20000 in
theorem ggX8_depend_X7_link : GoodIn wsX8_depend wsX7_link := goodIn_r _ [91, 81, 31, 32, 18, 19, 20, 21, 22, 57, 28, 29, 30, 142, 143, 144, 145, 146, 147] (by decide +kernel) (by decide +kernel)
set_option maxRecDepth 20000 in
theorem gX8_depend_X7_link : GoodIn wsX8_depend (wsV RX8 128 RX7 yX7_link wsX7_link) := goodIn_app (goodIn_of _ (by decide +kernel)) ggX8_depend_X7_link
set_option maxRecDepth 20000 in
theorem ggX8_depend_X1_find : GoodIn wsX8_depend wsX1_find := goodIn_r _ [96, 97, 98, 99, 84, 85, 86, 100, 101, 102, 95, 103, 104, 105, 106, 45, 46, 47, 48, 49, 50, 51, 52, 53, 54, 55, 20, 56, 22, 57, 28, 29, 30, 31, 32, 18, 19, 21, 58, 59, 60, 61, 62, 107, 108, 109, 110, 111, 112, 113, 114, 115, 116, 117, 118, 119, 120, 121, 122, 123, 124, 125, 126, 127, 128, 129, 130, 131, 142, 143, 144, 145, 146, 147, 159, 160, 161, 162, 163, 153, 154, 155] (by decide +kernel) (by decide +kernel)
set_option maxRecDepth 20000 in
theorem gX8_depend_X1_find : GoodIn wsX8_depend (wsV RX8 107 RX1 yX1_find wsX1_find) := goodIn_app (goodIn_of _ (by decide +kernel)) ggX8_depend_X1_find
theorem dX8_depend_0 : decode cX8_depend 0 = .ok (.aload_n 0, 1) := by decide +kernel
theorem dX8_depend_1 : decode cX8_depend 1 = .ok (.iload_n 1, 1) := by decide +kernel
theorem dX8_depend_2 : decode cX8_depend 2 = .ok (.invokevirtual 99, 3) := by decide +kernel
theorem dX8_depend_5 : decode cX8_depend 5 = .ok (.aload_n 0, 1) := by decide +kernel
theorem dX8_depend_6 : decode cX8_depend 6 = .ok (.iload_n 2, 1) := by decide +kernel
theorem dX8_depend_7 : decode cX8_depend 7 = .ok (.invokevirtual 99, 3) := by decide +kernel
theorem dX8_depend_10 : decode cX8_depend 10 = .ok (.aload_n 0, 1) := by decide +kernel
theorem dX8_depend_11 : decode cX8_depend 11 = .ok (.iload_n 3, 1) := by decide +kernel
theorem dX8_depend_12 : decode cX8_depend 12 = .ok (.iconst 0, 1) := by decide +kernel
theorem dX8_depend_13 : decode cX8_depend 13 = .ok (.bipush 9, 2) := by decide +kernel
theorem dX8_depend_15 : decode cX8_depend 15 = .ok (.invokevirtual 68, 3) := by decide +kernel
theorem dX8_depend_18 : decode cX8_depend 18 = .ok (.iload_n 1, 1) := by decide +kernel
theorem dX8_depend_19 : decode cX8_depend 19 = .ok (.iload_n 2, 1) := by decide +kernel
theorem dX8_depend_20 : decode cX8_depend 20 = .ok (.if_icmp .ne 13, 3) := by decide +kernel
theorem dX8_depend_23 : decode cX8_depend 23 = .ok (.new 111, 3) := by decide +kernel
theorem dX8_depend_26 : decode cX8_depend 26 = .ok (.dup, 1) := by decide +kernel
theorem dX8_depend_27 : decode cX8_depend 27 = .ok (.ldc 113, 2) := by decide +kernel
theorem dX8_depend_29 : decode cX8_depend 29 = .ok (.invokespecial 115, 3) := by decide +kernel
theorem dX8_depend_32 : decode cX8_depend 32 = .ok (.athrow, 1) := by decide +kernel
theorem dX8_depend_33 : decode cX8_depend 33 = .ok (.aload_n 0, 1) := by decide +kernel
theorem dX8_depend_34 : decode cX8_depend 34 = .ok (.getfield 10, 3) := by decide +kernel
theorem dX8_depend_37 : decode cX8_depend 37 = .ok (.getfield 96, 3) := by decide +kernel
theorem dX8_depend_40 : decode cX8_depend 40 = .ok (.bipush 40, 2) := by decide +kernel
theorem dX8_depend_42 : decode cX8_depend 42 = .ok (.if_icmp .lt 26, 3) := by decide +kernel
theorem dX8_depend_45 : decode cX8_depend 45 = .ok (.aload_n 0, 1) := by decide +kernel
theorem dX8_depend_46 : decode cX8_depend 46 = .ok (.getfield 10, 3) := by decide +kernel
theorem dX8_depend_49 : decode cX8_depend 49 = .ok (.iload_n 1, 1) := by decide +kernel
theorem dX8_depend_50 : decode cX8_depend 50 = .ok (.iload_n 2, 1) := by decide +kernel
theorem dX8_depend_51 : decode cX8_depend 51 = .ok (.invokevirtual 116, 3) := by decide +kernel
theorem dX8_depend_54 : decode cX8_depend 54 = .ok (.iconst (-1), 1) := by decide +kernel
theorem dX8_depend_55 : decode cX8_depend 55 = .ok (.if_icmp .ne 13, 3) := by decide +kernel
theorem dX8_depend_58 : decode cX8_depend 58 = .ok (.new 76, 3) := by decide +kernel
theorem dX8_depend_61 : decode cX8_depend 61 = .ok (.dup, 1) := by decide +kernel
theorem dX8_depend_62 : decode cX8_depend 62 = .ok (.ldc 120, 2) := by decide +kernel
theorem dX8_depend_64 : decode cX8_depend 64 = .ok (.invokespecial 80, 3) := by decide +kernel
theorem dX8_depend_67 : decode cX8_depend 67 = .ok (.athrow, 1) := by decide +kernel
theorem dX8_depend_68 : decode cX8_depend 68 = .ok (.aload_n 0, 1) := by decide +kernel
theorem dX8_depend_69 : decode cX8_depend 69 = .ok (.getfield 57, 3) := by decide +kernel
theorem dX8_depend_72 : decode cX8_depend 72 = .ok (.aload_n 0, 1) := by decide +kernel
theorem dX8_depend_73 : decode cX8_depend 73 = .ok (.getfield 10, 3) := by decide +kernel
theorem dX8_depend_76 : decode cX8_depend 76 = .ok (.iload_n 2, 1) := by decide +kernel
theorem dX8_depend_77 : decode cX8_depend 77 = .ok (.iload_n 1, 1) := by decide +kernel
theorem dX8_depend_78 : decode cX8_depend 78 = .ok (.invokevirtual 122, 3) := by decide +kernel
theorem dX8_depend_81 : decode cX8_depend 81 = .ok (.ifCond .eq 13, 3) := by decide +kernel
theorem dX8_depend_84 : decode cX8_depend 84 = .ok (.new 76, 3) := by decide +kernel
theorem dX8_depend_87 : decode cX8_depend 87 = .ok (.dup, 1) := by decide +kernel
theorem dX8_depend_88 : decode cX8_depend 88 = .ok (.ldc 126, 2) := by decide +kernel
theorem dX8_depend_90 : decode cX8_depend 90 = .ok (.invokespecial 80, 3) := by decide +kernel
theorem dX8_depend_93 : decode cX8_depend 93 = .ok (.athrow, 1) := by decide +kernel
theorem dX8_depend_94 : decode cX8_depend 94 = .ok (.aload_n 0, 1) := by decide +kernel
theorem dX8_depend_95 : decode cX8_depend 95 = .ok (.getfield 26, 3) := by decide +kernel
theorem dX8_depend_98 : decode cX8_depend 98 = .ok (.aload_n 0, 1) := by decide +kernel
theorem dX8_depend_99 : decode cX8_depend 99 = .ok (.getfield 10, 3) := by decide +kernel
theorem dX8_depend_102 : decode cX8_depend 102 = .ok (.invokevirtual 83, 3) := by decide +kernel
theorem dX8_depend_105 : decode cX8_depend 105 = .ok (.aload_n 0, 1) := by decide +kernel
theorem dX8_depend_106 : decode cX8_depend 106 = .ok (.getfield 10, 3) := by decide +kernel
theorem dX8_depend_109 : decode cX8_depend 109 = .ok (.iload_n 1, 1) := by decide +kernel
theorem dX8_depend_110 : decode cX8_depend 110 = .ok (.iload_n 2, 1) := by decide +kernel
theorem dX8_depend_111 : decode cX8_depend 111 = .ok (.iload_n 3, 1) := by decide +kernel
theorem dX8_depend_112 : decode cX8_depend 112 = .ok (.invokevirtual 128, 3) := by decide +kernel
theorem dX8_depend_115 : decode cX8_depend 115 = .ok (.aload_n 0, 1) := by decide +kernel
theorem dX8_depend_116 : decode cX8_depend 116 = .ok (.getfield 40, 3) := by decide +kernel
theorem dX8_depend_119 : decode cX8_depend 119 = .ok (.aload_n 0, 1) := by decide +kernel
theorem dX8_depend_120 : decode cX8_depend 120 = .ok (.getfield 10, 3) := by decide +kernel
theorem dX8_depend_123 : decode cX8_depend 123 = .ok (.invokevirtual 107, 3) := by decide +kernel
theorem dX8_depend_126 : decode cX8_depend 126 = .ok (.ireturn, 1) := by decide +kernel
set_option maxRecDepth 20000 in
theorem ggX8_release_X8_requireLag : GoodIn wsX8_release wsX8_requireLag := goodIn_ca (goodIn_ca (goodIn_r _ [7, 8, 9, 2, 10, 11, 12, 6, 13, 14, 15, 16, 17, 18, 19, 20, 21, 22, 23, 24, 25, 26, 27, 57, 58, 59, 60, 61, 62, 63, 64, 65, 66, 67, 68, 69, 70, 71, 72] (by decide +kernel) (by decide +kernel)) (goodIn_sub (fun _ h => List.mem_cons_of_mem _ (List.mem_append_left _ (List.mem_append_right _ h))) (by decide +kernel))) (goodIn_sub (fun _ h => List.mem_cons_of_mem _ (List.mem_append_right _ h)) (by decide +kernel))
set_option maxRecDepth 20000 in
theorem gX8_release_X8_requireLag : GoodIn wsX8_release (wsV RX8 131 RX8 yX8_requireLag wsX8_requireLag) := goodIn_app (goodIn_of _ (by decide +kernel)) ggX8_release_X8_requireLag
set_option maxRecDepth 20000 in
theorem ggX8_release_X2_record : GoodIn wsX8_release wsX2_record := goodIn_r _ [32, 33, 34, 35, 36, 37, 38, 19, 39, 40, 41, 42, 43, 44, 21, 45, 46, 47, 48, 49, 50, 51, 26, 73, 74, 75, 67, 68, 69, 70, 71, 72] (by decide +kernel) (by decide +kernel)
set_option maxRecDepth 20000 in
theorem gX8_release_X2_record : GoodIn wsX8_release (wsV RX8 83 RX2 yX2_record wsX2_record) := goodIn_app (goodIn_of _ (by decide +kernel)) ggX8_release_X2_record
set_option maxRecDepth 20000 in
theorem ggX8_release_X7_unlink : GoodIn wsX8_release wsX7_unlink := goodIn_r _ [55, 45, 26, 56, 23, 24, 19, 25, 27, 17, 18, 20, 21, 67, 68, 69, 70, 71, 72] (by decide +kernel) (by decide +kernel)
set_option maxRecDepth 20000 in
theorem gX8_release_X7_unlink : GoodIn wsX8_release (wsV RX8 134 RX7 yX7_unlink wsX7_unlink) := goodIn_app (goodIn_of _ (by decide +kernel)) ggX8_release_X7_unlink
theorem dX8_release_0 : decode cX8_release 0 = .ok (.aload_n 0, 1) := by decide +kernel
theorem dX8_release_1 : decode cX8_release 1 = .ok (.iload_n 1, 1) := by decide +kernel
theorem dX8_release_2 : decode cX8_release 2 = .ok (.iload_n 2, 1) := by decide +kernel
theorem dX8_release_3 : decode cX8_release 3 = .ok (.invokevirtual 131, 3) := by decide +kernel
theorem dX8_release_6 : decode cX8_release 6 = .ok (.istore_n 3, 1) := by decide +kernel
theorem dX8_release_7 : decode cX8_release 7 = .ok (.aload_n 0, 1) := by decide +kernel
theorem dX8_release_8 : decode cX8_release 8 = .ok (.getfield 26, 3) := by decide +kernel
theorem dX8_release_11 : decode cX8_release 11 = .ok (.aload_n 0, 1) := by decide +kernel
theorem dX8_release_12 : decode cX8_release 12 = .ok (.getfield 10, 3) := by decide +kernel
theorem dX8_release_15 : decode cX8_release 15 = .ok (.invokevirtual 83, 3) := by decide +kernel
theorem dX8_release_18 : decode cX8_release 18 = .ok (.aload_n 0, 1) := by decide +kernel
theorem dX8_release_19 : decode cX8_release 19 = .ok (.getfield 10, 3) := by decide +kernel
theorem dX8_release_22 : decode cX8_release 22 = .ok (.iload_n 1, 1) := by decide +kernel
theorem dX8_release_23 : decode cX8_release 23 = .ok (.iload_n 2, 1) := by decide +kernel
theorem dX8_release_24 : decode cX8_release 24 = .ok (.invokevirtual 134, 3) := by decide +kernel
theorem dX8_release_27 : decode cX8_release 27 = .ok (.iload_n 3, 1) := by decide +kernel
theorem dX8_release_28 : decode cX8_release 28 = .ok (.ireturn, 1) := by decide +kernel
set_option maxRecDepth 20000 in
theorem ggX8_setCrews_X8_requireRange : GoodIn wsX8_setCrews wsX8_requireRange := goodIn_ca (goodIn_r _ [8, 9, 10] (by decide +kernel) (by decide +kernel)) (goodIn_sub (fun _ h => List.mem_cons_of_mem _ (List.mem_append_right _ h)) (by decide +kernel))
set_option maxRecDepth 20000 in
theorem gX8_setCrews_X8_requireRange : GoodIn wsX8_setCrews (wsV RX8 68 RX8 yX8_requireRange wsX8_requireRange) := goodIn_app (goodIn_of _ (by decide +kernel)) ggX8_setCrews_X8_requireRange
set_option maxRecDepth 20000 in
theorem ggX8_setCrews_X2_record : GoodIn wsX8_setCrews wsX2_record := goodIn_r _ [15, 16, 17, 18, 19, 20, 21, 22, 23, 24, 25, 26, 27, 28, 29, 30, 31, 32, 33, 34, 35, 36, 37, 54, 55, 56, 48, 49, 50, 51, 52, 53] (by decide +kernel) (by decide +kernel)
set_option maxRecDepth 20000 in
theorem gX8_setCrews_X2_record : GoodIn wsX8_setCrews (wsV RX8 83 RX2 yX2_record wsX2_record) := goodIn_app (goodIn_of _ (by decide +kernel)) ggX8_setCrews_X2_record
theorem dX8_setCrews_0 : decode cX8_setCrews 0 = .ok (.aload_n 0, 1) := by decide +kernel
theorem dX8_setCrews_1 : decode cX8_setCrews 1 = .ok (.iload_n 1, 1) := by decide +kernel
theorem dX8_setCrews_2 : decode cX8_setCrews 2 = .ok (.iconst 1, 1) := by decide +kernel
theorem dX8_setCrews_3 : decode cX8_setCrews 3 = .ok (.bipush 9, 2) := by decide +kernel
theorem dX8_setCrews_5 : decode cX8_setCrews 5 = .ok (.invokevirtual 68, 3) := by decide +kernel
theorem dX8_setCrews_8 : decode cX8_setCrews 8 = .ok (.aload_n 0, 1) := by decide +kernel
theorem dX8_setCrews_9 : decode cX8_setCrews 9 = .ok (.getfield 26, 3) := by decide +kernel
theorem dX8_setCrews_12 : decode cX8_setCrews 12 = .ok (.aload_n 0, 1) := by decide +kernel
theorem dX8_setCrews_13 : decode cX8_setCrews 13 = .ok (.getfield 10, 3) := by decide +kernel
theorem dX8_setCrews_16 : decode cX8_setCrews 16 = .ok (.invokevirtual 83, 3) := by decide +kernel
theorem dX8_setCrews_19 : decode cX8_setCrews 19 = .ok (.aload_n 0, 1) := by decide +kernel
theorem dX8_setCrews_20 : decode cX8_setCrews 20 = .ok (.getfield 10, 3) := by decide +kernel
theorem dX8_setCrews_23 : decode cX8_setCrews 23 = .ok (.getfield 137, 3) := by decide +kernel
theorem dX8_setCrews_26 : decode cX8_setCrews 26 = .ok (.istore_n 2, 1) := by decide +kernel
theorem dX8_setCrews_27 : decode cX8_setCrews 27 = .ok (.aload_n 0, 1) := by decide +kernel
theorem dX8_setCrews_28 : decode cX8_setCrews 28 = .ok (.getfield 10, 3) := by decide +kernel
theorem dX8_setCrews_31 : decode cX8_setCrews 31 = .ok (.iload_n 1, 1) := by decide +kernel
theorem dX8_setCrews_32 : decode cX8_setCrews 32 = .ok (.putfield 137, 3) := by decide +kernel
theorem dX8_setCrews_35 : decode cX8_setCrews 35 = .ok (.iload_n 2, 1) := by decide +kernel
theorem dX8_setCrews_36 : decode cX8_setCrews 36 = .ok (.ireturn, 1) := by decide +kernel
set_option maxRecDepth 20000 in
theorem ggX8_undo_X2_takeLatest : GoodIn wsX8_undo wsX2_takeLatest := goodIn_r _ [10, 11, 12, 13, 14, 15, 16, 17, 18, 19, 20, 21, 22, 23, 24, 25, 26, 27, 28, 29, 30, 31, 32, 43, 44, 45, 46, 47, 48, 49, 50, 51] (by decide +kernel) (by decide +kernel)
set_option maxRecDepth 20000 in
theorem gX8_undo_X2_takeLatest : GoodIn wsX8_undo (wsV RX8 171 RX2 yX2_takeLatest wsX2_takeLatest) := goodIn_app (goodIn_of _ (by decide +kernel)) ggX8_undo_X2_takeLatest
theorem dX8_undo_0 : decode cX8_undo 0 = .ok (.aload_n 0, 1) := by decide +kernel
theorem dX8_undo_1 : decode cX8_undo 1 = .ok (.getfield 26, 3) := by decide +kernel
theorem dX8_undo_4 : decode cX8_undo 4 = .ok (.getfield 166, 3) := by decide +kernel
theorem dX8_undo_7 : decode cX8_undo 7 = .ok (.ifCond .gt 13, 3) := by decide +kernel
theorem dX8_undo_10 : decode cX8_undo 10 = .ok (.new 76, 3) := by decide +kernel
theorem dX8_undo_13 : decode cX8_undo 13 = .ok (.dup, 1) := by decide +kernel
theorem dX8_undo_14 : decode cX8_undo 14 = .ok (.ldc 169, 2) := by decide +kernel
theorem dX8_undo_16 : decode cX8_undo 16 = .ok (.invokespecial 80, 3) := by decide +kernel
theorem dX8_undo_19 : decode cX8_undo 19 = .ok (.athrow, 1) := by decide +kernel
theorem dX8_undo_20 : decode cX8_undo 20 = .ok (.aload_n 0, 1) := by decide +kernel
theorem dX8_undo_21 : decode cX8_undo 21 = .ok (.getfield 26, 3) := by decide +kernel
theorem dX8_undo_24 : decode cX8_undo 24 = .ok (.aload_n 0, 1) := by decide +kernel
theorem dX8_undo_25 : decode cX8_undo 25 = .ok (.getfield 10, 3) := by decide +kernel
theorem dX8_undo_28 : decode cX8_undo 28 = .ok (.invokevirtual 171, 3) := by decide +kernel
theorem dX8_undo_31 : decode cX8_undo 31 = .ok (.aload_n 0, 1) := by decide +kernel
theorem dX8_undo_32 : decode cX8_undo 32 = .ok (.getfield 26, 3) := by decide +kernel
theorem dX8_undo_35 : decode cX8_undo 35 = .ok (.getfield 166, 3) := by decide +kernel
theorem dX8_undo_38 : decode cX8_undo 38 = .ok (.ireturn, 1) := by decide +kernel
theorem dX8_taskCount_0 : decode cX8_taskCount 0 = .ok (.aload_n 0, 1) := by decide +kernel
theorem dX8_taskCount_1 : decode cX8_taskCount 1 = .ok (.getfield 10, 3) := by decide +kernel
theorem dX8_taskCount_4 : decode cX8_taskCount 4 = .ok (.getfield 72, 3) := by decide +kernel
theorem dX8_taskCount_7 : decode cX8_taskCount 7 = .ok (.ireturn, 1) := by decide +kernel
theorem dX8_dependencyCount_0 : decode cX8_dependencyCount 0 = .ok (.aload_n 0, 1) := by decide +kernel
theorem dX8_dependencyCount_1 : decode cX8_dependencyCount 1 = .ok (.getfield 10, 3) := by decide +kernel
theorem dX8_dependencyCount_4 : decode cX8_dependencyCount 4 = .ok (.getfield 96, 3) := by decide +kernel
theorem dX8_dependencyCount_7 : decode cX8_dependencyCount 7 = .ok (.ireturn, 1) := by decide +kernel
set_option maxRecDepth 20000 in
theorem ggX8_lengthOf_X8_requireTask : GoodIn wsX8_lengthOf wsX8_requireTask := goodIn_ca (goodIn_r _ [7, 8, 9, 1, 10, 11, 12, 13, 14, 15, 16, 17, 18, 19, 20, 21, 22, 23, 24, 25, 26, 27, 28, 29, 30, 31] (by decide +kernel) (by decide +kernel)) (goodIn_sub (fun _ h => List.mem_cons_of_mem _ (List.mem_append_right _ h)) (by decide +kernel))
set_option maxRecDepth 20000 in
theorem gX8_lengthOf_X8_requireTask : GoodIn wsX8_lengthOf (wsV RX8 99 RX8 yX8_requireTask wsX8_requireTask) := goodIn_app (goodIn_of _ (by decide +kernel)) ggX8_lengthOf_X8_requireTask
theorem dX8_lengthOf_0 : decode cX8_lengthOf 0 = .ok (.aload_n 0, 1) := by decide +kernel
theorem dX8_lengthOf_1 : decode cX8_lengthOf 1 = .ok (.iload_n 1, 1) := by decide +kernel
theorem dX8_lengthOf_2 : decode cX8_lengthOf 2 = .ok (.invokevirtual 99, 3) := by decide +kernel
theorem dX8_lengthOf_5 : decode cX8_lengthOf 5 = .ok (.aload_n 0, 1) := by decide +kernel
theorem dX8_lengthOf_6 : decode cX8_lengthOf 6 = .ok (.getfield 10, 3) := by decide +kernel
theorem dX8_lengthOf_9 : decode cX8_lengthOf 9 = .ok (.getfield 103, 3) := by decide +kernel
theorem dX8_lengthOf_12 : decode cX8_lengthOf 12 = .ok (.iload_n 1, 1) := by decide +kernel
theorem dX8_lengthOf_13 : decode cX8_lengthOf 13 = .ok (.iaload, 1) := by decide +kernel
theorem dX8_lengthOf_14 : decode cX8_lengthOf 14 = .ok (.ireturn, 1) := by decide +kernel
set_option maxRecDepth 20000 in
theorem ggX8_lagOf_X8_requireLag : GoodIn wsX8_lagOf wsX8_requireLag := goodIn_ca (goodIn_ca (goodIn_r _ [5, 6, 7, 8, 9, 10, 11, 4, 12, 13, 14, 15, 16, 17, 18, 19, 20, 21, 22, 23, 24, 25, 26, 27, 28, 29, 30, 31, 32, 33, 34, 35, 36, 37, 38, 39, 40, 41, 42] (by decide +kernel) (by decide +kernel)) (goodIn_sub (fun _ h => List.mem_cons_of_mem _ (List.mem_append_left _ (List.mem_append_right _ h))) (by decide +kernel))) (goodIn_sub (fun _ h => List.mem_cons_of_mem _ (List.mem_append_right _ h)) (by decide +kernel))
set_option maxRecDepth 20000 in
theorem gX8_lagOf_X8_requireLag : GoodIn wsX8_lagOf (wsV RX8 131 RX8 yX8_requireLag wsX8_requireLag) := goodIn_app (goodIn_of _ (by decide +kernel)) ggX8_lagOf_X8_requireLag
theorem dX8_lagOf_0 : decode cX8_lagOf 0 = .ok (.aload_n 0, 1) := by decide +kernel
theorem dX8_lagOf_1 : decode cX8_lagOf 1 = .ok (.iload_n 1, 1) := by decide +kernel
theorem dX8_lagOf_2 : decode cX8_lagOf 2 = .ok (.iload_n 2, 1) := by decide +kernel
theorem dX8_lagOf_3 : decode cX8_lagOf 3 = .ok (.invokevirtual 131, 3) := by decide +kernel
theorem dX8_lagOf_6 : decode cX8_lagOf 6 = .ok (.ireturn, 1) := by decide +kernel
set_option maxRecDepth 20000 in
theorem ggX8_isAhead_X8_requireTask : GoodIn wsX8_isAhead wsX8_requireTask := goodIn_ca (goodIn_r _ [7, 8, 9, 2, 10, 11, 12, 13, 14, 15, 52, 53, 54, 55, 56, 57, 58, 59, 60, 61, 62, 63, 64, 65, 66, 67] (by decide +kernel) (by decide +kernel)) (goodIn_sub (fun _ h => List.mem_cons_of_mem _ (List.mem_append_right _ h)) (by decide +kernel))
set_option maxRecDepth 20000 in
theorem gX8_isAhead_X8_requireTask : GoodIn wsX8_isAhead (wsV RX8 99 RX8 yX8_requireTask wsX8_requireTask) := goodIn_app (goodIn_of _ (by decide +kernel)) ggX8_isAhead_X8_requireTask
set_option maxRecDepth 20000 in
theorem ggX8_isAhead_X0_leads : GoodIn wsX8_isAhead wsX0_leads := goodIn_r _ [20, 21, 22, 23, 24, 25, 26, 11, 12, 13, 14, 15, 27, 28, 29, 30, 31, 32, 33, 34, 35, 36, 37, 38, 39, 40, 41, 42, 43, 44, 45, 46, 47, 48, 49, 50, 51, 68, 69, 70, 71, 72, 73, 74, 75, 62, 63, 64, 65, 66, 67] (by decide +kernel) (by decide +kernel)
set_option maxRecDepth 20000 in
theorem gX8_isAhead_X0_leads : GoodIn wsX8_isAhead (wsV RX8 122 RX0 yX0_leads wsX0_leads) := goodIn_app (goodIn_of _ (by decide +kernel)) ggX8_isAhead_X0_leads
theorem dX8_isAhead_0 : decode cX8_isAhead 0 = .ok (.aload_n 0, 1) := by decide +kernel
theorem dX8_isAhead_1 : decode cX8_isAhead 1 = .ok (.iload_n 1, 1) := by decide +kernel
theorem dX8_isAhead_2 : decode cX8_isAhead 2 = .ok (.invokevirtual 99, 3) := by decide +kernel
theorem dX8_isAhead_5 : decode cX8_isAhead 5 = .ok (.aload_n 0, 1) := by decide +kernel
theorem dX8_isAhead_6 : decode cX8_isAhead 6 = .ok (.iload_n 2, 1) := by decide +kernel
theorem dX8_isAhead_7 : decode cX8_isAhead 7 = .ok (.invokevirtual 99, 3) := by decide +kernel
theorem dX8_isAhead_10 : decode cX8_isAhead 10 = .ok (.aload_n 0, 1) := by decide +kernel
theorem dX8_isAhead_11 : decode cX8_isAhead 11 = .ok (.getfield 57, 3) := by decide +kernel
theorem dX8_isAhead_14 : decode cX8_isAhead 14 = .ok (.aload_n 0, 1) := by decide +kernel
theorem dX8_isAhead_15 : decode cX8_isAhead 15 = .ok (.getfield 10, 3) := by decide +kernel
theorem dX8_isAhead_18 : decode cX8_isAhead 18 = .ok (.iload_n 1, 1) := by decide +kernel
theorem dX8_isAhead_19 : decode cX8_isAhead 19 = .ok (.iload_n 2, 1) := by decide +kernel
theorem dX8_isAhead_20 : decode cX8_isAhead 20 = .ok (.invokevirtual 122, 3) := by decide +kernel
theorem dX8_isAhead_23 : decode cX8_isAhead 23 = .ok (.ireturn, 1) := by decide +kernel
set_option maxRecDepth 20000 in
theorem ggX8_earliestStart_X8_requireTask : GoodIn wsX8_earliestStart wsX8_requireTask := goodIn_ca (goodIn_r _ [8, 9, 10, 2, 11, 12, 13, 14, 15, 16, 83, 84, 85, 86, 87, 88, 89, 90, 91, 92, 98, 99, 100, 101, 102, 103] (by decide +kernel) (by decide +kernel)) (goodIn_sub (fun _ h => List.mem_cons_of_mem _ (List.mem_append_right _ h)) (by decide +kernel))
set_option maxRecDepth 20000 in
theorem gX8_earliestStart_X8_requireTask : GoodIn wsX8_earliestStart (wsV RX8 99 RX8 yX8_requireTask wsX8_requireTask) := goodIn_app (goodIn_of _ (by decide +kernel)) ggX8_earliestStart_X8_requireTask
set_option maxRecDepth 20000 in
theorem ggX8_earliestStart_X1_find : GoodIn wsX8_earliestStart wsX1_find := goodIn_r _ [21, 22, 23, 24, 25, 26, 27, 28, 29, 30, 20, 31, 32, 33, 34, 35, 36, 37, 38, 39, 40, 41, 42, 43, 44, 45, 14, 46, 16, 47, 48, 49, 50, 51, 52, 12, 13, 15, 53, 54, 55, 56, 57, 58, 59, 60, 61, 62, 63, 64, 65, 66, 67, 68, 69, 70, 71, 72, 73, 74, 75, 76, 77, 78, 79, 80, 81, 82, 98, 99, 100, 101, 102, 103, 93, 94, 95, 96, 97, 104, 105, 106] (by decide +kernel) (by decide +kernel)
set_option maxRecDepth 20000 in
theorem gX8_earliestStart_X1_find : GoodIn wsX8_earliestStart (wsV RX8 107 RX1 yX1_find wsX1_find) := goodIn_app (goodIn_of _ (by decide +kernel)) ggX8_earliestStart_X1_find
theorem dX8_earliestStart_0 : decode cX8_earliestStart 0 = .ok (.aload_n 0, 1) := by decide +kernel
theorem dX8_earliestStart_1 : decode cX8_earliestStart 1 = .ok (.iload_n 1, 1) := by decide +kernel
theorem dX8_earliestStart_2 : decode cX8_earliestStart 2 = .ok (.invokevirtual 99, 3) := by decide +kernel
theorem dX8_earliestStart_5 : decode cX8_earliestStart 5 = .ok (.aload_n 0, 1) := by decide +kernel
theorem dX8_earliestStart_6 : decode cX8_earliestStart 6 = .ok (.getfield 40, 3) := by decide +kernel
theorem dX8_earliestStart_9 : decode cX8_earliestStart 9 = .ok (.aload_n 0, 1) := by decide +kernel
theorem dX8_earliestStart_10 : decode cX8_earliestStart 10 = .ok (.getfield 10, 3) := by decide +kernel
theorem dX8_earliestStart_13 : decode cX8_earliestStart 13 = .ok (.invokevirtual 107, 3) := by decide +kernel
theorem dX8_earliestStart_16 : decode cX8_earliestStart 16 = .ok (.pop, 1) := by decide +kernel
theorem dX8_earliestStart_17 : decode cX8_earliestStart 17 = .ok (.aload_n 0, 1) := by decide +kernel
theorem dX8_earliestStart_18 : decode cX8_earliestStart 18 = .ok (.getfield 40, 3) := by decide +kernel
theorem dX8_earliestStart_21 : decode cX8_earliestStart 21 = .ok (.getfield 182, 3) := by decide +kernel
theorem dX8_earliestStart_24 : decode cX8_earliestStart 24 = .ok (.iload_n 1, 1) := by decide +kernel
theorem dX8_earliestStart_25 : decode cX8_earliestStart 25 = .ok (.iaload, 1) := by decide +kernel
theorem dX8_earliestStart_26 : decode cX8_earliestStart 26 = .ok (.ireturn, 1) := by decide +kernel
set_option maxRecDepth 20000 in
theorem ggX8_latestStart_X8_requireTask : GoodIn wsX8_latestStart wsX8_requireTask := goodIn_ca (goodIn_r _ [8, 9, 10, 2, 11, 12, 13, 14, 15, 16, 83, 84, 85, 86, 87, 88, 89, 90, 91, 92, 98, 99, 100, 101, 102, 103] (by decide +kernel) (by decide +kernel)) (goodIn_sub (fun _ h => List.mem_cons_of_mem _ (List.mem_append_right _ h)) (by decide +kernel))
set_option maxRecDepth 20000 in
theorem gX8_latestStart_X8_requireTask : GoodIn wsX8_latestStart (wsV RX8 99 RX8 yX8_requireTask wsX8_requireTask) := goodIn_app (goodIn_of _ (by decide +kernel)) ggX8_latestStart_X8_requireTask
set_option maxRecDepth 20000 in
theorem ggX8_latestStart_X1_find : GoodIn wsX8_latestStart wsX1_find := goodIn_r _ [21, 22, 23, 24, 25, 26, 27, 28, 29, 30, 20, 31, 32, 33, 34, 35, 36, 37, 38, 39, 40, 41, 42, 43, 44, 45, 14, 46, 16, 47, 48, 49, 50, 51, 52, 12, 13, 15, 53, 54, 55, 56, 57, 58, 59, 60, 61, 62, 63, 64, 65, 66, 67, 68, 69, 70, 71, 72, 73, 74, 75, 76, 77, 78, 79, 80, 81, 82, 98, 99, 100, 101, 102, 103, 93, 94, 95, 96, 97, 104, 105, 106] (by decide +kernel) (by decide +kernel)
set_option maxRecDepth 20000 in
theorem gX8_latestStart_X1_find : GoodIn wsX8_latestStart (wsV RX8 107 RX1 yX1_find wsX1_find) := goodIn_app (goodIn_of _ (by decide +kernel)) ggX8_latestStart_X1_find
theorem dX8_latestStart_0 : decode cX8_latestStart 0 = .ok (.aload_n 0, 1) := by decide +kernel
theorem dX8_latestStart_1 : decode cX8_latestStart 1 = .ok (.iload_n 1, 1) := by decide +kernel
theorem dX8_latestStart_2 : decode cX8_latestStart 2 = .ok (.invokevirtual 99, 3) := by decide +kernel
theorem dX8_latestStart_5 : decode cX8_latestStart 5 = .ok (.aload_n 0, 1) := by decide +kernel
theorem dX8_latestStart_6 : decode cX8_latestStart 6 = .ok (.getfield 40, 3) := by decide +kernel
theorem dX8_latestStart_9 : decode cX8_latestStart 9 = .ok (.aload_n 0, 1) := by decide +kernel
theorem dX8_latestStart_10 : decode cX8_latestStart 10 = .ok (.getfield 10, 3) := by decide +kernel
theorem dX8_latestStart_13 : decode cX8_latestStart 13 = .ok (.invokevirtual 107, 3) := by decide +kernel
theorem dX8_latestStart_16 : decode cX8_latestStart 16 = .ok (.pop, 1) := by decide +kernel
theorem dX8_latestStart_17 : decode cX8_latestStart 17 = .ok (.aload_n 0, 1) := by decide +kernel
theorem dX8_latestStart_18 : decode cX8_latestStart 18 = .ok (.getfield 40, 3) := by decide +kernel
theorem dX8_latestStart_21 : decode cX8_latestStart 21 = .ok (.getfield 185, 3) := by decide +kernel
theorem dX8_latestStart_24 : decode cX8_latestStart 24 = .ok (.iload_n 1, 1) := by decide +kernel
theorem dX8_latestStart_25 : decode cX8_latestStart 25 = .ok (.iaload, 1) := by decide +kernel
theorem dX8_latestStart_26 : decode cX8_latestStart 26 = .ok (.ireturn, 1) := by decide +kernel
set_option maxRecDepth 20000 in
theorem ggX8_planLength_X1_find : GoodIn wsX8_planLength wsX1_find := goodIn_r _ [7, 8, 9, 10, 11, 12, 13, 14, 15, 16, 6, 17, 18, 19, 20, 21, 22, 23, 24, 25, 26, 27, 28, 29, 30, 31, 32, 33, 34, 35, 36, 37, 38, 39, 40, 41, 42, 43, 44, 45, 46, 47, 48, 49, 50, 51, 52, 53, 54, 55, 56, 57, 58, 59, 60, 61, 62, 63, 64, 65, 66, 67, 68, 69, 70, 71, 72, 73, 84, 85, 86, 87, 88, 89, 90, 91, 92, 93, 94, 95, 96, 97] (by decide +kernel) (by decide +kernel)
set_option maxRecDepth 20000 in
theorem gX8_planLength_X1_find : GoodIn wsX8_planLength (wsV RX8 107 RX1 yX1_find wsX1_find) := goodIn_app (goodIn_of _ (by decide +kernel)) ggX8_planLength_X1_find
theorem dX8_planLength_0 : decode cX8_planLength 0 = .ok (.aload_n 0, 1) := by decide +kernel
theorem dX8_planLength_1 : decode cX8_planLength 1 = .ok (.getfield 40, 3) := by decide +kernel
theorem dX8_planLength_4 : decode cX8_planLength 4 = .ok (.aload_n 0, 1) := by decide +kernel
theorem dX8_planLength_5 : decode cX8_planLength 5 = .ok (.getfield 10, 3) := by decide +kernel
theorem dX8_planLength_8 : decode cX8_planLength 8 = .ok (.invokevirtual 107, 3) := by decide +kernel
theorem dX8_planLength_11 : decode cX8_planLength 11 = .ok (.ireturn, 1) := by decide +kernel
set_option maxRecDepth 20000 in
theorem ggX8_planLengthByRounds_X5_find : GoodIn wsX8_planLengthByRounds wsX5_find := goodIn_r _ [7, 8, 9, 10, 11, 12, 13, 14, 15, 16, 17, 18, 19, 20, 21, 6, 22, 23, 24, 25, 26, 27, 28, 29, 30, 31, 32, 33, 44, 45, 46, 47, 48, 49, 50] (by decide +kernel) (by decide +kernel)
set_option maxRecDepth 20000 in
theorem gX8_planLengthByRounds_X5_find : GoodIn wsX8_planLengthByRounds (wsV RX8 188 RX5 yX5_find wsX5_find) := goodIn_app (goodIn_of _ (by decide +kernel)) ggX8_planLengthByRounds_X5_find
theorem dX8_planLengthByRounds_0 : decode cX8_planLengthByRounds 0 = .ok (.aload_n 0, 1) := by decide +kernel
theorem dX8_planLengthByRounds_1 : decode cX8_planLengthByRounds 1 = .ok (.getfield 50, 3) := by decide +kernel
theorem dX8_planLengthByRounds_4 : decode cX8_planLengthByRounds 4 = .ok (.aload_n 0, 1) := by decide +kernel
theorem dX8_planLengthByRounds_5 : decode cX8_planLengthByRounds 5 = .ok (.getfield 10, 3) := by decide +kernel
theorem dX8_planLengthByRounds_8 : decode cX8_planLengthByRounds 8 = .ok (.invokevirtual 188, 3) := by decide +kernel
theorem dX8_planLengthByRounds_11 : decode cX8_planLengthByRounds 11 = .ok (.ireturn, 1) := by decide +kernel
set_option maxRecDepth 20000 in
theorem ggX8_slack_X8_requireTask : GoodIn wsX8_slack wsX8_requireTask := goodIn_ca (goodIn_r _ [7, 8, 9, 2, 10, 11, 12, 13, 14, 15, 86, 87, 88, 89, 90, 91, 92, 93, 94, 95, 96, 97, 98, 99, 100, 101] (by decide +kernel) (by decide +kernel)) (goodIn_sub (fun _ h => List.mem_cons_of_mem _ (List.mem_append_right _ h)) (by decide +kernel))
set_option maxRecDepth 20000 in
theorem gX8_slack_X8_requireTask : GoodIn wsX8_slack (wsV RX8 99 RX8 yX8_requireTask wsX8_requireTask) := goodIn_app (goodIn_of _ (by decide +kernel)) ggX8_slack_X8_requireTask
set_option maxRecDepth 20000 in
theorem ggX8_slack_X1_find : GoodIn wsX8_slack wsX1_find := goodIn_r _ [20, 21, 22, 23, 24, 25, 26, 27, 28, 29, 19, 30, 31, 32, 33, 34, 35, 36, 37, 38, 39, 40, 41, 42, 43, 44, 13, 45, 15, 46, 47, 48, 49, 50, 51, 11, 12, 14, 52, 53, 54, 55, 56, 57, 58, 59, 60, 61, 62, 63, 64, 65, 66, 67, 68, 69, 70, 71, 72, 73, 74, 75, 76, 77, 78, 79, 80, 81, 96, 97, 98, 99, 100, 101, 102, 103, 104, 105, 106, 107, 108, 109] (by decide +kernel) (by decide +kernel)
set_option maxRecDepth 20000 in
theorem gX8_slack_X1_find : GoodIn wsX8_slack (wsV RX8 107 RX1 yX1_find wsX1_find) := goodIn_app (goodIn_of _ (by decide +kernel)) ggX8_slack_X1_find
set_option maxRecDepth 20000 in
theorem ggX8_slack_X1_slackAt : GoodIn wsX8_slack wsX1_slackAt := goodIn_r _ [85, 78, 61, 102, 103, 104, 105, 106] (by decide +kernel) (by decide +kernel)
set_option maxRecDepth 20000 in
theorem gX8_slack_X1_slackAt : GoodIn wsX8_slack (wsV RX8 189 RX1 yX1_slackAt wsX1_slackAt) := goodIn_app (goodIn_of _ (by decide +kernel)) ggX8_slack_X1_slackAt
theorem dX8_slack_0 : decode cX8_slack 0 = .ok (.aload_n 0, 1) := by decide +kernel
theorem dX8_slack_1 : decode cX8_slack 1 = .ok (.iload_n 1, 1) := by decide +kernel
theorem dX8_slack_2 : decode cX8_slack 2 = .ok (.invokevirtual 99, 3) := by decide +kernel
theorem dX8_slack_5 : decode cX8_slack 5 = .ok (.aload_n 0, 1) := by decide +kernel
theorem dX8_slack_6 : decode cX8_slack 6 = .ok (.getfield 40, 3) := by decide +kernel
theorem dX8_slack_9 : decode cX8_slack 9 = .ok (.aload_n 0, 1) := by decide +kernel
theorem dX8_slack_10 : decode cX8_slack 10 = .ok (.getfield 10, 3) := by decide +kernel
theorem dX8_slack_13 : decode cX8_slack 13 = .ok (.invokevirtual 107, 3) := by decide +kernel
theorem dX8_slack_16 : decode cX8_slack 16 = .ok (.pop, 1) := by decide +kernel
theorem dX8_slack_17 : decode cX8_slack 17 = .ok (.aload_n 0, 1) := by decide +kernel
theorem dX8_slack_18 : decode cX8_slack 18 = .ok (.getfield 40, 3) := by decide +kernel
theorem dX8_slack_21 : decode cX8_slack 21 = .ok (.iload_n 1, 1) := by decide +kernel
theorem dX8_slack_22 : decode cX8_slack 22 = .ok (.invokevirtual 189, 3) := by decide +kernel
theorem dX8_slack_25 : decode cX8_slack 25 = .ok (.ireturn, 1) := by decide +kernel
set_option maxRecDepth 20000 in
theorem ggX8_slackByChain_X8_requireTask : GoodIn wsX8_slackByChain wsX8_requireTask := goodIn_ca (goodIn_r _ [8, 9, 10, 2, 11, 12, 13, 14, 15, 16, 107, 108, 109, 110, 111, 112, 113, 114, 115, 116, 117, 118, 119, 120, 121, 122] (by decide +kernel) (by decide +kernel)) (goodIn_sub (fun _ h => List.mem_cons_of_mem _ (List.mem_append_right _ h)) (by decide +kernel))
set_option maxRecDepth 20000 in
theorem gX8_slackByChain_X8_requireTask : GoodIn wsX8_slackByChain (wsV RX8 99 RX8 yX8_requireTask wsX8_requireTask) := goodIn_app (goodIn_of _ (by decide +kernel)) ggX8_slackByChain_X8_requireTask
set_option maxRecDepth 20000 in
theorem ggX8_slackByChain_X1_find : GoodIn wsX8_slackByChain wsX1_find := goodIn_r _ [21, 22, 23, 24, 25, 26, 27, 28, 29, 30, 20, 31, 32, 33, 34, 35, 36, 37, 38, 39, 40, 41, 42, 43, 44, 45, 14, 46, 16, 47, 48, 49, 50, 51, 52, 12, 13, 15, 53, 54, 55, 56, 57, 58, 59, 60, 61, 62, 63, 64, 65, 66, 67, 68, 69, 70, 71, 72, 73, 74, 75, 76, 77, 78, 79, 80, 81, 82, 117, 118, 119, 120, 121, 122, 123, 124, 125, 126, 127, 128, 129, 130] (by decide +kernel) (by decide +kernel)
set_option maxRecDepth 20000 in
theorem gX8_slackByChain_X1_find : GoodIn wsX8_slackByChain (wsV RX8 107 RX1 yX1_find wsX1_find) := goodIn_app (goodIn_of _ (by decide +kernel)) ggX8_slackByChain_X1_find
set_option maxRecDepth 20000 in
theorem ggX8_slackByChain_X0_longestWith : GoodIn wsX8_slackByChain wsX0_longestWith := goodIn_r _ [87, 88, 89, 90, 91, 92, 93, 94, 12, 13, 14, 15, 16, 95, 35, 36, 37, 38, 39, 40, 41, 42, 43, 44, 45, 46, 47, 48, 49, 50, 51, 52, 53, 54, 55, 56, 57, 96, 97, 98, 86, 99, 100, 101, 66, 67, 68, 102, 103, 104, 105, 106, 131, 132, 133, 134, 135, 128, 129, 130, 117, 118, 119, 120, 121, 122] (by decide +kernel) (by decide +kernel)
set_option maxRecDepth 20000 in
theorem gX8_slackByChain_X0_longestWith : GoodIn wsX8_slackByChain (wsV RX8 193 RX0 yX0_longestWith wsX0_longestWith) := goodIn_app (goodIn_of _ (by decide +kernel)) ggX8_slackByChain_X0_longestWith
theorem dX8_slackByChain_0 : decode cX8_slackByChain 0 = .ok (.aload_n 0, 1) := by decide +kernel
theorem dX8_slackByChain_1 : decode cX8_slackByChain 1 = .ok (.iload_n 1, 1) := by decide +kernel
theorem dX8_slackByChain_2 : decode cX8_slackByChain 2 = .ok (.invokevirtual 99, 3) := by decide +kernel
theorem dX8_slackByChain_5 : decode cX8_slackByChain 5 = .ok (.aload_n 0, 1) := by decide +kernel
theorem dX8_slackByChain_6 : decode cX8_slackByChain 6 = .ok (.getfield 40, 3) := by decide +kernel
theorem dX8_slackByChain_9 : decode cX8_slackByChain 9 = .ok (.aload_n 0, 1) := by decide +kernel
theorem dX8_slackByChain_10 : decode cX8_slackByChain 10 = .ok (.getfield 10, 3) := by decide +kernel
theorem dX8_slackByChain_13 : decode cX8_slackByChain 13 = .ok (.invokevirtual 107, 3) := by decide +kernel
theorem dX8_slackByChain_16 : decode cX8_slackByChain 16 = .ok (.aload_n 0, 1) := by decide +kernel
theorem dX8_slackByChain_17 : decode cX8_slackByChain 17 = .ok (.getfield 57, 3) := by decide +kernel
theorem dX8_slackByChain_20 : decode cX8_slackByChain 20 = .ok (.aload_n 0, 1) := by decide +kernel
theorem dX8_slackByChain_21 : decode cX8_slackByChain 21 = .ok (.getfield 10, 3) := by decide +kernel
theorem dX8_slackByChain_24 : decode cX8_slackByChain 24 = .ok (.iload_n 1, 1) := by decide +kernel
theorem dX8_slackByChain_25 : decode cX8_slackByChain 25 = .ok (.invokevirtual 193, 3) := by decide +kernel
theorem dX8_slackByChain_28 : decode cX8_slackByChain 28 = .ok (.isub, 1) := by decide +kernel
theorem dX8_slackByChain_29 : decode cX8_slackByChain 29 = .ok (.ireturn, 1) := by decide +kernel
set_option maxRecDepth 20000 in
theorem ggX8_freeSlack_X8_requireTask : GoodIn wsX8_freeSlack wsX8_requireTask := goodIn_ca (goodIn_r _ [7, 8, 9, 2, 10, 11, 12, 13, 14, 15, 87, 88, 89, 90, 91, 92, 93, 94, 95, 96, 97, 98, 99, 100, 101, 102] (by decide +kernel) (by decide +kernel)) (goodIn_sub (fun _ h => List.mem_cons_of_mem _ (List.mem_append_right _ h)) (by decide +kernel))
set_option maxRecDepth 20000 in
theorem gX8_freeSlack_X8_requireTask : GoodIn wsX8_freeSlack (wsV RX8 99 RX8 yX8_requireTask wsX8_requireTask) := goodIn_app (goodIn_of _ (by decide +kernel)) ggX8_freeSlack_X8_requireTask
set_option maxRecDepth 20000 in
theorem ggX8_freeSlack_X1_find : GoodIn wsX8_freeSlack wsX1_find := goodIn_r _ [20, 21, 22, 23, 24, 25, 26, 27, 28, 29, 19, 30, 31, 32, 33, 34, 35, 36, 37, 38, 39, 40, 41, 42, 43, 44, 13, 45, 15, 46, 47, 48, 49, 50, 51, 11, 12, 14, 52, 53, 54, 55, 56, 57, 58, 59, 60, 61, 62, 63, 64, 65, 66, 67, 68, 69, 70, 71, 72, 73, 74, 75, 76, 77, 78, 79, 80, 81, 97, 98, 99, 100, 101, 102, 103, 104, 105, 106, 107, 108, 109, 110] (by decide +kernel) (by decide +kernel)
set_option maxRecDepth 20000 in
theorem gX8_freeSlack_X1_find : GoodIn wsX8_freeSlack (wsV RX8 107 RX1 yX1_find wsX1_find) := goodIn_app (goodIn_of _ (by decide +kernel)) ggX8_freeSlack_X1_find
set_option maxRecDepth 20000 in
theorem ggX8_freeSlack_X1_freeSlackAt : GoodIn wsX8_freeSlack wsX1_freeSlackAt := goodIn_r _ [85, 61, 22, 32, 68, 79, 80, 66, 81, 86, 11, 12, 13, 14, 15, 73, 47, 48, 49, 50, 51, 103, 104, 105, 106, 107, 97, 98, 99, 100, 101, 102] (by decide +kernel) (by decide +kernel)
set_option maxRecDepth 20000 in
theorem gX8_freeSlack_X1_freeSlackAt : GoodIn wsX8_freeSlack (wsV RX8 197 RX1 yX1_freeSlackAt wsX1_freeSlackAt) := goodIn_app (goodIn_of _ (by decide +kernel)) ggX8_freeSlack_X1_freeSlackAt
theorem dX8_freeSlack_0 : decode cX8_freeSlack 0 = .ok (.aload_n 0, 1) := by decide +kernel
theorem dX8_freeSlack_1 : decode cX8_freeSlack 1 = .ok (.iload_n 1, 1) := by decide +kernel
theorem dX8_freeSlack_2 : decode cX8_freeSlack 2 = .ok (.invokevirtual 99, 3) := by decide +kernel
theorem dX8_freeSlack_5 : decode cX8_freeSlack 5 = .ok (.aload_n 0, 1) := by decide +kernel
theorem dX8_freeSlack_6 : decode cX8_freeSlack 6 = .ok (.getfield 40, 3) := by decide +kernel
theorem dX8_freeSlack_9 : decode cX8_freeSlack 9 = .ok (.aload_n 0, 1) := by decide +kernel
theorem dX8_freeSlack_10 : decode cX8_freeSlack 10 = .ok (.getfield 10, 3) := by decide +kernel
theorem dX8_freeSlack_13 : decode cX8_freeSlack 13 = .ok (.invokevirtual 107, 3) := by decide +kernel
theorem dX8_freeSlack_16 : decode cX8_freeSlack 16 = .ok (.pop, 1) := by decide +kernel
theorem dX8_freeSlack_17 : decode cX8_freeSlack 17 = .ok (.aload_n 0, 1) := by decide +kernel
theorem dX8_freeSlack_18 : decode cX8_freeSlack 18 = .ok (.getfield 40, 3) := by decide +kernel
theorem dX8_freeSlack_21 : decode cX8_freeSlack 21 = .ok (.aload_n 0, 1) := by decide +kernel
theorem dX8_freeSlack_22 : decode cX8_freeSlack 22 = .ok (.getfield 10, 3) := by decide +kernel
theorem dX8_freeSlack_25 : decode cX8_freeSlack 25 = .ok (.iload_n 1, 1) := by decide +kernel
theorem dX8_freeSlack_26 : decode cX8_freeSlack 26 = .ok (.invokevirtual 197, 3) := by decide +kernel
theorem dX8_freeSlack_29 : decode cX8_freeSlack 29 = .ok (.ireturn, 1) := by decide +kernel
set_option maxRecDepth 20000 in
theorem ggX8_criticalTasks_X1_find : GoodIn wsX8_criticalTasks wsX1_find := goodIn_r _ [8, 9, 10, 11, 12, 13, 14, 15, 16, 17, 7, 18, 19, 20, 21, 22, 23, 24, 25, 26, 27, 28, 29, 30, 31, 32, 33, 34, 35, 36, 37, 38, 39, 40, 41, 42, 43, 44, 45, 46, 47, 48, 49, 50, 51, 52, 53, 54, 55, 56, 57, 58, 59, 60, 61, 62, 63, 64, 65, 66, 67, 68, 69, 70, 71, 72, 73, 74, 89, 90, 91, 92, 93, 94, 95, 96, 97, 98, 99, 100, 101, 102] (by decide +kernel) (by decide +kernel)
set_option maxRecDepth 20000 in
theorem gX8_criticalTasks_X1_find : GoodIn wsX8_criticalTasks (wsV RX8 107 RX1 yX1_find wsX1_find) := goodIn_app (goodIn_of _ (by decide +kernel)) ggX8_criticalTasks_X1_find
set_option maxRecDepth 20000 in
theorem ggX8_criticalTasks_X1_slackAt : GoodIn wsX8_criticalTasks wsX1_slackAt := goodIn_r _ [78, 71, 54, 95, 96, 97, 98, 99] (by decide +kernel) (by decide +kernel)
set_option maxRecDepth 20000 in
theorem gX8_criticalTasks_X1_slackAt : GoodIn wsX8_criticalTasks (wsV RX8 189 RX1 yX1_slackAt wsX1_slackAt) := goodIn_app (goodIn_of _ (by decide +kernel)) ggX8_criticalTasks_X1_slackAt
theorem dX8_criticalTasks_0 : decode cX8_criticalTasks 0 = .ok (.aload_n 0, 1) := by decide +kernel
theorem dX8_criticalTasks_1 : decode cX8_criticalTasks 1 = .ok (.getfield 40, 3) := by decide +kernel
theorem dX8_criticalTasks_4 : decode cX8_criticalTasks 4 = .ok (.aload_n 0, 1) := by decide +kernel
theorem dX8_criticalTasks_5 : decode cX8_criticalTasks 5 = .ok (.getfield 10, 3) := by decide +kernel
theorem dX8_criticalTasks_8 : decode cX8_criticalTasks 8 = .ok (.invokevirtual 107, 3) := by decide +kernel
theorem dX8_criticalTasks_11 : decode cX8_criticalTasks 11 = .ok (.pop, 1) := by decide +kernel
theorem dX8_criticalTasks_12 : decode cX8_criticalTasks 12 = .ok (.iconst 0, 1) := by decide +kernel
theorem dX8_criticalTasks_13 : decode cX8_criticalTasks 13 = .ok (.istore_n 1, 1) := by decide +kernel
theorem dX8_criticalTasks_14 : decode cX8_criticalTasks 14 = .ok (.iconst 0, 1) := by decide +kernel
theorem dX8_criticalTasks_15 : decode cX8_criticalTasks 15 = .ok (.istore_n 2, 1) := by decide +kernel
theorem dX8_criticalTasks_16 : decode cX8_criticalTasks 16 = .ok (.iload_n 2, 1) := by decide +kernel
theorem dX8_criticalTasks_17 : decode cX8_criticalTasks 17 = .ok (.aload_n 0, 1) := by decide +kernel
theorem dX8_criticalTasks_18 : decode cX8_criticalTasks 18 = .ok (.getfield 10, 3) := by decide +kernel
theorem dX8_criticalTasks_21 : decode cX8_criticalTasks 21 = .ok (.getfield 72, 3) := by decide +kernel
theorem dX8_criticalTasks_24 : decode cX8_criticalTasks 24 = .ok (.if_icmp .ge 23, 3) := by decide +kernel
theorem dX8_criticalTasks_27 : decode cX8_criticalTasks 27 = .ok (.aload_n 0, 1) := by decide +kernel
theorem dX8_criticalTasks_28 : decode cX8_criticalTasks 28 = .ok (.getfield 40, 3) := by decide +kernel
theorem dX8_criticalTasks_31 : decode cX8_criticalTasks 31 = .ok (.iload_n 2, 1) := by decide +kernel
theorem dX8_criticalTasks_32 : decode cX8_criticalTasks 32 = .ok (.invokevirtual 189, 3) := by decide +kernel
theorem dX8_criticalTasks_35 : decode cX8_criticalTasks 35 = .ok (.ifCond .ne 6, 3) := by decide +kernel
theorem dX8_criticalTasks_38 : decode cX8_criticalTasks 38 = .ok (.iinc 1 1, 3) := by decide +kernel
theorem dX8_criticalTasks_41 : decode cX8_criticalTasks 41 = .ok (.iinc 2 1, 3) := by decide +kernel
theorem dX8_criticalTasks_44 : decode cX8_criticalTasks 44 = .ok (.goto (-28), 3) := by decide +kernel
theorem dX8_criticalTasks_47 : decode cX8_criticalTasks 47 = .ok (.iload_n 1, 1) := by decide +kernel
theorem dX8_criticalTasks_48 : decode cX8_criticalTasks 48 = .ok (.ireturn, 1) := by decide +kernel
set_option maxRecDepth 20000 in
theorem ggX8_criticalChains_X1_find : GoodIn wsX8_criticalChains wsX1_find := goodIn_r _ [8, 9, 10, 11, 12, 13, 14, 15, 16, 17, 7, 18, 19, 20, 21, 22, 23, 24, 25, 26, 27, 28, 29, 30, 31, 32, 33, 34, 35, 36, 37, 38, 39, 40, 41, 42, 43, 44, 45, 46, 47, 48, 49, 50, 51, 52, 53, 54, 55, 56, 57, 58, 59, 60, 61, 62, 63, 64, 65, 66, 67, 68, 69, 70, 71, 72, 73, 74, 101, 102, 103, 104, 105, 106, 107, 108, 109, 110, 111, 112, 113, 114] (by decide +kernel) (by decide +kernel)
set_option maxRecDepth 20000 in
theorem gX8_criticalChains_X1_find : GoodIn wsX8_criticalChains (wsV RX8 107 RX1 yX1_find wsX1_find) := goodIn_app (goodIn_of _ (by decide +kernel)) ggX8_criticalChains_X1_find
set_option maxRecDepth 20000 in
theorem ggX8_criticalChains_X0_countLongest : GoodIn wsX8_criticalChains wsX0_countLongest := goodIn_r _ [79, 80, 81, 82, 83, 84, 85, 86, 87, 88, 31, 32, 33, 34, 35, 36, 37, 38, 39, 40, 41, 42, 43, 44, 89, 22, 23, 24, 25, 26, 27, 28, 29, 30, 45, 46, 47, 48, 49, 90, 101, 102, 103, 104, 105, 106, 115, 116, 117, 118, 119, 112, 113, 114, 107, 108, 109, 110, 111] (by decide +kernel) (by decide +kernel)
set_option maxRecDepth 20000 in
theorem gX8_criticalChains_X0_countLongest : GoodIn wsX8_criticalChains (wsV RX8 200 RX0 yX0_countLongest wsX0_countLongest) := goodIn_app (goodIn_of _ (by decide +kernel)) ggX8_criticalChains_X0_countLongest
theorem dX8_criticalChains_0 : decode cX8_criticalChains 0 = .ok (.aload_n 0, 1) := by decide +kernel
theorem dX8_criticalChains_1 : decode cX8_criticalChains 1 = .ok (.getfield 40, 3) := by decide +kernel
theorem dX8_criticalChains_4 : decode cX8_criticalChains 4 = .ok (.aload_n 0, 1) := by decide +kernel
theorem dX8_criticalChains_5 : decode cX8_criticalChains 5 = .ok (.getfield 10, 3) := by decide +kernel
theorem dX8_criticalChains_8 : decode cX8_criticalChains 8 = .ok (.invokevirtual 107, 3) := by decide +kernel
theorem dX8_criticalChains_11 : decode cX8_criticalChains 11 = .ok (.pop, 1) := by decide +kernel
theorem dX8_criticalChains_12 : decode cX8_criticalChains 12 = .ok (.aload_n 0, 1) := by decide +kernel
theorem dX8_criticalChains_13 : decode cX8_criticalChains 13 = .ok (.getfield 57, 3) := by decide +kernel
theorem dX8_criticalChains_16 : decode cX8_criticalChains 16 = .ok (.aload_n 0, 1) := by decide +kernel
theorem dX8_criticalChains_17 : decode cX8_criticalChains 17 = .ok (.getfield 10, 3) := by decide +kernel
theorem dX8_criticalChains_20 : decode cX8_criticalChains 20 = .ok (.aload_n 0, 1) := by decide +kernel
theorem dX8_criticalChains_21 : decode cX8_criticalChains 21 = .ok (.getfield 40, 3) := by decide +kernel
theorem dX8_criticalChains_24 : decode cX8_criticalChains 24 = .ok (.invokevirtual 200, 3) := by decide +kernel
theorem dX8_criticalChains_27 : decode cX8_criticalChains 27 = .ok (.lreturn, 1) := by decide +kernel
set_option maxRecDepth 20000 in
theorem ggX8_longestHarmless_X8_requireTask : GoodIn wsX8_longestHarmless wsX8_requireTask := goodIn_ca (goodIn_r _ [8, 9, 10, 2, 11, 12, 13, 14, 15, 16, 87, 88, 89, 90, 91, 92, 93, 94, 95, 96, 97, 98, 99, 100, 101, 102] (by decide +kernel) (by decide +kernel)) (goodIn_sub (fun _ h => List.mem_cons_of_mem _ (List.mem_append_right _ h)) (by decide +kernel))
set_option maxRecDepth 20000 in
theorem gX8_longestHarmless_X8_requireTask : GoodIn wsX8_longestHarmless (wsV RX8 99 RX8 yX8_requireTask wsX8_requireTask) := goodIn_app (goodIn_of _ (by decide +kernel)) ggX8_longestHarmless_X8_requireTask
set_option maxRecDepth 20000 in
theorem ggX8_longestHarmless_X1_find : GoodIn wsX8_longestHarmless wsX1_find := goodIn_r _ [21, 22, 23, 24, 25, 26, 27, 28, 29, 30, 20, 31, 32, 33, 34, 35, 36, 37, 38, 39, 40, 41, 42, 43, 44, 45, 14, 46, 16, 47, 48, 49, 50, 51, 52, 12, 13, 15, 53, 54, 55, 56, 57, 58, 59, 60, 61, 62, 63, 64, 65, 66, 67, 68, 69, 70, 71, 72, 73, 74, 75, 76, 77, 78, 79, 80, 81, 82, 97, 98, 99, 100, 101, 102, 103, 104, 105, 106, 107, 108, 109, 110] (by decide +kernel) (by decide +kernel)
set_option maxRecDepth 20000 in
theorem gX8_longestHarmless_X1_find : GoodIn wsX8_longestHarmless (wsV RX8 107 RX1 yX1_find wsX1_find) := goodIn_app (goodIn_of _ (by decide +kernel)) ggX8_longestHarmless_X1_find
set_option maxRecDepth 20000 in
theorem ggX8_longestHarmless_X1_slackAt : GoodIn wsX8_longestHarmless wsX1_slackAt := goodIn_r _ [86, 79, 62, 103, 104, 105, 106, 107] (by decide +kernel) (by decide +kernel)
set_option maxRecDepth 20000 in
theorem gX8_longestHarmless_X1_slackAt : GoodIn wsX8_longestHarmless (wsV RX8 189 RX1 yX1_slackAt wsX1_slackAt) := goodIn_app (goodIn_of _ (by decide +kernel)) ggX8_longestHarmless_X1_slackAt
theorem dX8_longestHarmless_0 : decode cX8_longestHarmless 0 = .ok (.aload_n 0, 1) := by decide +kernel
theorem dX8_longestHarmless_1 : decode cX8_longestHarmless 1 = .ok (.iload_n 1, 1) := by decide +kernel
theorem dX8_longestHarmless_2 : decode cX8_longestHarmless 2 = .ok (.invokevirtual 99, 3) := by decide +kernel
theorem dX8_longestHarmless_5 : decode cX8_longestHarmless 5 = .ok (.aload_n 0, 1) := by decide +kernel
theorem dX8_longestHarmless_6 : decode cX8_longestHarmless 6 = .ok (.getfield 40, 3) := by decide +kernel
theorem dX8_longestHarmless_9 : decode cX8_longestHarmless 9 = .ok (.aload_n 0, 1) := by decide +kernel
theorem dX8_longestHarmless_10 : decode cX8_longestHarmless 10 = .ok (.getfield 10, 3) := by decide +kernel
theorem dX8_longestHarmless_13 : decode cX8_longestHarmless 13 = .ok (.invokevirtual 107, 3) := by decide +kernel
theorem dX8_longestHarmless_16 : decode cX8_longestHarmless 16 = .ok (.pop, 1) := by decide +kernel
theorem dX8_longestHarmless_17 : decode cX8_longestHarmless 17 = .ok (.aload_n 0, 1) := by decide +kernel
theorem dX8_longestHarmless_18 : decode cX8_longestHarmless 18 = .ok (.getfield 10, 3) := by decide +kernel
theorem dX8_longestHarmless_21 : decode cX8_longestHarmless 21 = .ok (.getfield 103, 3) := by decide +kernel
theorem dX8_longestHarmless_24 : decode cX8_longestHarmless 24 = .ok (.iload_n 1, 1) := by decide +kernel
theorem dX8_longestHarmless_25 : decode cX8_longestHarmless 25 = .ok (.iaload, 1) := by decide +kernel
theorem dX8_longestHarmless_26 : decode cX8_longestHarmless 26 = .ok (.aload_n 0, 1) := by decide +kernel
theorem dX8_longestHarmless_27 : decode cX8_longestHarmless 27 = .ok (.getfield 40, 3) := by decide +kernel
theorem dX8_longestHarmless_30 : decode cX8_longestHarmless 30 = .ok (.iload_n 1, 1) := by decide +kernel
theorem dX8_longestHarmless_31 : decode cX8_longestHarmless 31 = .ok (.invokevirtual 189, 3) := by decide +kernel
theorem dX8_longestHarmless_34 : decode cX8_longestHarmless 34 = .ok (.iadd, 1) := by decide +kernel
theorem dX8_longestHarmless_35 : decode cX8_longestHarmless 35 = .ok (.ireturn, 1) := by decide +kernel
set_option maxRecDepth 20000 in
theorem ggX8_delayOfPlan_X8_requireTask : GoodIn wsX8_delayOfPlan wsX8_requireTask := goodIn_ca (goodIn_r _ [8, 9, 10, 2, 11, 12, 13, 14, 15, 16, 94, 95, 96, 97, 98, 99, 100, 101, 102, 103, 104, 105, 106, 107, 108, 109] (by decide +kernel) (by decide +kernel)) (goodIn_sub (fun _ h => List.mem_cons_of_mem _ (List.mem_append_left _ (List.mem_append_right _ h))) (by decide +kernel))
set_option maxRecDepth 20000 in
theorem gX8_delayOfPlan_X8_requireTask : GoodIn wsX8_delayOfPlan (wsV RX8 99 RX8 yX8_requireTask wsX8_requireTask) := goodIn_app (goodIn_of _ (by decide +kernel)) ggX8_delayOfPlan_X8_requireTask
set_option maxRecDepth 20000 in
theorem ggX8_delayOfPlan_X8_requireRange : GoodIn wsX8_delayOfPlan wsX8_requireRange := goodIn_ca (goodIn_r _ [20, 21, 22] (by decide +kernel) (by decide +kernel)) (goodIn_sub (fun _ h => List.mem_cons_of_mem _ (List.mem_append_right _ h)) (by decide +kernel))
set_option maxRecDepth 20000 in
theorem gX8_delayOfPlan_X8_requireRange : GoodIn wsX8_delayOfPlan (wsV RX8 68 RX8 yX8_requireRange wsX8_requireRange) := goodIn_app (goodIn_of _ (by decide +kernel)) ggX8_delayOfPlan_X8_requireRange
set_option maxRecDepth 20000 in
theorem ggX8_delayOfPlan_X1_findDelayed : GoodIn wsX8_delayOfPlan wsX1_findDelayed := goodIn_r _ [27, 28, 29, 30, 31, 32, 33, 34, 12, 13, 14, 15, 16, 35, 36, 37, 26, 38, 39, 40, 41, 42, 43, 44, 45, 46, 47, 48, 49, 50, 51, 52, 53, 54, 55, 56, 57, 58, 59, 60, 61, 62, 63, 64, 65, 66, 67, 68, 69, 70, 71, 72, 73, 74, 75, 76, 77, 78, 79, 80, 81, 82, 83, 84, 85, 86, 87, 88, 89, 104, 105, 106, 107, 108, 109, 110, 111, 112, 113, 114, 115, 116, 117] (by decide +kernel) (by decide +kernel)
set_option maxRecDepth 20000 in
theorem gX8_delayOfPlan_X1_findDelayed : GoodIn wsX8_delayOfPlan (wsV RX8 204 RX1 yX1_findDelayed wsX1_findDelayed) := goodIn_app (goodIn_of _ (by decide +kernel)) ggX8_delayOfPlan_X1_findDelayed
set_option maxRecDepth 20000 in
theorem ggX8_delayOfPlan_X1_find : GoodIn wsX8_delayOfPlan wsX1_find := goodIn_r _ [93, 28, 29, 30, 31, 32, 33, 35, 36, 37, 26, 38, 39, 40, 41, 42, 43, 44, 45, 46, 47, 48, 49, 50, 51, 52, 14, 53, 16, 54, 55, 56, 57, 58, 59, 12, 13, 15, 60, 61, 62, 63, 64, 65, 66, 67, 68, 69, 70, 71, 72, 73, 74, 75, 76, 77, 78, 79, 80, 81, 82, 83, 84, 85, 86, 87, 88, 89, 104, 105, 106, 107, 108, 109, 110, 111, 112, 113, 114, 115, 116, 117] (by decide +kernel) (by decide +kernel)
set_option maxRecDepth 20000 in
theorem gX8_delayOfPlan_X1_find : GoodIn wsX8_delayOfPlan (wsV RX8 107 RX1 yX1_find wsX1_find) := goodIn_app (goodIn_of _ (by decide +kernel)) ggX8_delayOfPlan_X1_find
theorem dX8_delayOfPlan_0 : decode cX8_delayOfPlan 0 = .ok (.aload_n 0, 1) := by decide +kernel
theorem dX8_delayOfPlan_1 : decode cX8_delayOfPlan 1 = .ok (.iload_n 1, 1) := by decide +kernel
theorem dX8_delayOfPlan_2 : decode cX8_delayOfPlan 2 = .ok (.invokevirtual 99, 3) := by decide +kernel
theorem dX8_delayOfPlan_5 : decode cX8_delayOfPlan 5 = .ok (.aload_n 0, 1) := by decide +kernel
theorem dX8_delayOfPlan_6 : decode cX8_delayOfPlan 6 = .ok (.iload_n 2, 1) := by decide +kernel
theorem dX8_delayOfPlan_7 : decode cX8_delayOfPlan 7 = .ok (.iconst 0, 1) := by decide +kernel
theorem dX8_delayOfPlan_8 : decode cX8_delayOfPlan 8 = .ok (.bipush 99, 2) := by decide +kernel
theorem dX8_delayOfPlan_10 : decode cX8_delayOfPlan 10 = .ok (.invokevirtual 68, 3) := by decide +kernel
theorem dX8_delayOfPlan_13 : decode cX8_delayOfPlan 13 = .ok (.aload_n 0, 1) := by decide +kernel
theorem dX8_delayOfPlan_14 : decode cX8_delayOfPlan 14 = .ok (.getfield 44, 3) := by decide +kernel
theorem dX8_delayOfPlan_17 : decode cX8_delayOfPlan 17 = .ok (.aload_n 0, 1) := by decide +kernel
theorem dX8_delayOfPlan_18 : decode cX8_delayOfPlan 18 = .ok (.getfield 10, 3) := by decide +kernel
theorem dX8_delayOfPlan_21 : decode cX8_delayOfPlan 21 = .ok (.iload_n 1, 1) := by decide +kernel
theorem dX8_delayOfPlan_22 : decode cX8_delayOfPlan 22 = .ok (.iload_n 2, 1) := by decide +kernel
theorem dX8_delayOfPlan_23 : decode cX8_delayOfPlan 23 = .ok (.invokevirtual 204, 3) := by decide +kernel
theorem dX8_delayOfPlan_26 : decode cX8_delayOfPlan 26 = .ok (.aload_n 0, 1) := by decide +kernel
theorem dX8_delayOfPlan_27 : decode cX8_delayOfPlan 27 = .ok (.getfield 40, 3) := by decide +kernel
theorem dX8_delayOfPlan_30 : decode cX8_delayOfPlan 30 = .ok (.aload_n 0, 1) := by decide +kernel
theorem dX8_delayOfPlan_31 : decode cX8_delayOfPlan 31 = .ok (.getfield 10, 3) := by decide +kernel
theorem dX8_delayOfPlan_34 : decode cX8_delayOfPlan 34 = .ok (.invokevirtual 107, 3) := by decide +kernel
theorem dX8_delayOfPlan_37 : decode cX8_delayOfPlan 37 = .ok (.isub, 1) := by decide +kernel
theorem dX8_delayOfPlan_38 : decode cX8_delayOfPlan 38 = .ok (.ireturn, 1) := by decide +kernel
set_option maxRecDepth 20000 in
theorem ggX8_delayBySlack_X8_requireTask : GoodIn wsX8_delayBySlack wsX8_requireTask := goodIn_ca (goodIn_r _ [11, 12, 13, 2, 14, 15, 16, 17, 18, 19, 93, 94, 95, 96, 97, 98, 99, 100, 101, 102, 103, 104, 105, 106, 107, 108] (by decide +kernel) (by decide +kernel)) (goodIn_sub (fun _ h => List.mem_cons_of_mem _ (List.mem_append_left _ (List.mem_append_right _ h))) (by decide +kernel))
set_option maxRecDepth 20000 in
theorem gX8_delayBySlack_X8_requireTask : GoodIn wsX8_delayBySlack (wsV RX8 99 RX8 yX8_requireTask wsX8_requireTask) := goodIn_app (goodIn_of _ (by decide +kernel)) ggX8_delayBySlack_X8_requireTask
set_option maxRecDepth 20000 in
theorem ggX8_delayBySlack_X8_requireRange : GoodIn wsX8_delayBySlack wsX8_requireRange := goodIn_ca (goodIn_r _ [23, 24, 25] (by decide +kernel) (by decide +kernel)) (goodIn_sub (fun _ h => List.mem_cons_of_mem _ (List.mem_append_right _ h)) (by decide +kernel))
set_option maxRecDepth 20000 in
theorem gX8_delayBySlack_X8_requireRange : GoodIn wsX8_delayBySlack (wsV RX8 68 RX8 yX8_requireRange wsX8_requireRange) := goodIn_app (goodIn_of _ (by decide +kernel)) ggX8_delayBySlack_X8_requireRange
set_option maxRecDepth 20000 in
theorem ggX8_delayBySlack_X1_find : GoodIn wsX8_delayBySlack wsX1_find := goodIn_r _ [30, 31, 32, 33, 34, 35, 36, 37, 38, 39, 29, 40, 41, 42, 43, 44, 45, 46, 47, 48, 49, 50, 51, 52, 53, 54, 17, 55, 19, 56, 57, 58, 59, 60, 61, 15, 16, 18, 62, 63, 64, 65, 66, 67, 68, 69, 70, 71, 72, 73, 74, 4, 5, 6, 75, 76, 77, 78, 79, 80, 81, 82, 83, 84, 85, 86, 87, 88, 103, 104, 105, 106, 107, 108, 109, 110, 111, 112, 113, 114, 115, 116] (by decide +kernel) (by decide +kernel)
set_option maxRecDepth 20000 in
theorem gX8_delayBySlack_X1_find : GoodIn wsX8_delayBySlack (wsV RX8 107 RX1 yX1_find wsX1_find) := goodIn_app (goodIn_of _ (by decide +kernel)) ggX8_delayBySlack_X1_find
set_option maxRecDepth 20000 in
theorem ggX8_delayBySlack_X1_slackAt : GoodIn wsX8_delayBySlack wsX1_slackAt := goodIn_r _ [92, 85, 71, 109, 110, 111, 112, 113] (by decide +kernel) (by decide +kernel)
set_option maxRecDepth 20000 in
theorem gX8_delayBySlack_X1_slackAt : GoodIn wsX8_delayBySlack (wsV RX8 189 RX1 yX1_slackAt wsX1_slackAt) := goodIn_app (goodIn_of _ (by decide +kernel)) ggX8_delayBySlack_X1_slackAt
theorem dX8_delayBySlack_0 : decode cX8_delayBySlack 0 = .ok (.aload_n 0, 1) := by decide +kernel
theorem dX8_delayBySlack_1 : decode cX8_delayBySlack 1 = .ok (.iload_n 1, 1) := by decide +kernel
theorem dX8_delayBySlack_2 : decode cX8_delayBySlack 2 = .ok (.invokevirtual 99, 3) := by decide +kernel
theorem dX8_delayBySlack_5 : decode cX8_delayBySlack 5 = .ok (.aload_n 0, 1) := by decide +kernel
theorem dX8_delayBySlack_6 : decode cX8_delayBySlack 6 = .ok (.iload_n 2, 1) := by decide +kernel
theorem dX8_delayBySlack_7 : decode cX8_delayBySlack 7 = .ok (.iconst 0, 1) := by decide +kernel
theorem dX8_delayBySlack_8 : decode cX8_delayBySlack 8 = .ok (.bipush 99, 2) := by decide +kernel
theorem dX8_delayBySlack_10 : decode cX8_delayBySlack 10 = .ok (.invokevirtual 68, 3) := by decide +kernel
theorem dX8_delayBySlack_13 : decode cX8_delayBySlack 13 = .ok (.aload_n 0, 1) := by decide +kernel
theorem dX8_delayBySlack_14 : decode cX8_delayBySlack 14 = .ok (.getfield 40, 3) := by decide +kernel
theorem dX8_delayBySlack_17 : decode cX8_delayBySlack 17 = .ok (.aload_n 0, 1) := by decide +kernel
theorem dX8_delayBySlack_18 : decode cX8_delayBySlack 18 = .ok (.getfield 10, 3) := by decide +kernel
theorem dX8_delayBySlack_21 : decode cX8_delayBySlack 21 = .ok (.invokevirtual 107, 3) := by decide +kernel
theorem dX8_delayBySlack_24 : decode cX8_delayBySlack 24 = .ok (.pop, 1) := by decide +kernel
theorem dX8_delayBySlack_25 : decode cX8_delayBySlack 25 = .ok (.iconst 0, 1) := by decide +kernel
theorem dX8_delayBySlack_26 : decode cX8_delayBySlack 26 = .ok (.iload_n 2, 1) := by decide +kernel
theorem dX8_delayBySlack_27 : decode cX8_delayBySlack 27 = .ok (.aload_n 0, 1) := by decide +kernel
theorem dX8_delayBySlack_28 : decode cX8_delayBySlack 28 = .ok (.getfield 40, 3) := by decide +kernel
theorem dX8_delayBySlack_31 : decode cX8_delayBySlack 31 = .ok (.iload_n 1, 1) := by decide +kernel
theorem dX8_delayBySlack_32 : decode cX8_delayBySlack 32 = .ok (.invokevirtual 189, 3) := by decide +kernel
theorem dX8_delayBySlack_35 : decode cX8_delayBySlack 35 = .ok (.isub, 1) := by decide +kernel
theorem dX8_delayBySlack_36 : decode cX8_delayBySlack 36 = .ok (.invokestatic 208, 3) := by decide +kernel
theorem dX8_delayBySlack_39 : decode cX8_delayBySlack 39 = .ok (.ireturn, 1) := by decide +kernel
set_option maxRecDepth 20000 in
theorem ggX8_tasksMoved_X8_requireTask : GoodIn wsX8_tasksMoved wsX8_requireTask := goodIn_ca (goodIn_r _ [10, 11, 12, 2, 13, 14, 15, 16, 17, 18, 96, 97, 98, 99, 100, 101, 102, 103, 104, 105, 106, 107, 108, 109, 110, 111] (by decide +kernel) (by decide +kernel)) (goodIn_sub (fun _ h => List.mem_cons_of_mem _ (List.mem_append_left _ (List.mem_append_right _ h))) (by decide +kernel))
set_option maxRecDepth 20000 in
theorem gX8_tasksMoved_X8_requireTask : GoodIn wsX8_tasksMoved (wsV RX8 99 RX8 yX8_requireTask wsX8_requireTask) := goodIn_app (goodIn_of _ (by decide +kernel)) ggX8_tasksMoved_X8_requireTask
set_option maxRecDepth 20000 in
theorem ggX8_tasksMoved_X8_requireRange : GoodIn wsX8_tasksMoved wsX8_requireRange := goodIn_ca (goodIn_r _ [22, 23, 24] (by decide +kernel) (by decide +kernel)) (goodIn_sub (fun _ h => List.mem_cons_of_mem _ (List.mem_append_right _ h)) (by decide +kernel))
set_option maxRecDepth 20000 in
theorem gX8_tasksMoved_X8_requireRange : GoodIn wsX8_tasksMoved (wsV RX8 68 RX8 yX8_requireRange wsX8_requireRange) := goodIn_app (goodIn_of _ (by decide +kernel)) ggX8_tasksMoved_X8_requireRange
set_option maxRecDepth 20000 in
theorem ggX8_tasksMoved_X1_find : GoodIn wsX8_tasksMoved wsX1_find := goodIn_r _ [29, 30, 31, 32, 33, 34, 35, 36, 37, 38, 28, 39, 40, 41, 42, 43, 44, 45, 46, 47, 48, 49, 50, 51, 52, 53, 16, 54, 18, 55, 56, 57, 58, 59, 60, 14, 15, 17, 61, 62, 63, 64, 65, 66, 67, 68, 69, 70, 71, 72, 73, 74, 75, 76, 77, 78, 79, 80, 81, 82, 83, 84, 85, 86, 87, 88, 89, 90, 106, 107, 108, 109, 110, 111, 112, 113, 114, 115, 116, 117, 118, 119] (by decide +kernel) (by decide +kernel)
set_option maxRecDepth 20000 in
theorem gX8_tasksMoved_X1_find : GoodIn wsX8_tasksMoved (wsV RX8 107 RX1 yX1_find wsX1_find) := goodIn_app (goodIn_of _ (by decide +kernel)) ggX8_tasksMoved_X1_find
set_option maxRecDepth 20000 in
theorem ggX8_tasksMoved_X1_findDelayed : GoodIn wsX8_tasksMoved wsX1_findDelayed := goodIn_r _ [94, 30, 31, 32, 33, 34, 35, 95, 14, 15, 16, 17, 18, 36, 37, 38, 28, 39, 40, 41, 42, 43, 44, 45, 46, 47, 48, 49, 50, 51, 52, 53, 54, 55, 56, 57, 58, 59, 60, 61, 62, 63, 64, 65, 66, 67, 68, 69, 70, 71, 72, 73, 74, 75, 76, 77, 78, 79, 80, 81, 82, 83, 84, 85, 86, 87, 88, 89, 90, 106, 107, 108, 109, 110, 111, 112, 113, 114, 115, 116, 117, 118, 119] (by decide +kernel) (by decide +kernel)
set_option maxRecDepth 20000 in
theorem gX8_tasksMoved_X1_findDelayed : GoodIn wsX8_tasksMoved (wsV RX8 204 RX1 yX1_findDelayed wsX1_findDelayed) := goodIn_app (goodIn_of _ (by decide +kernel)) ggX8_tasksMoved_X1_findDelayed
theorem dX8_tasksMoved_0 : decode cX8_tasksMoved 0 = .ok (.aload_n 0, 1) := by decide +kernel
theorem dX8_tasksMoved_1 : decode cX8_tasksMoved 1 = .ok (.iload_n 1, 1) := by decide +kernel
theorem dX8_tasksMoved_2 : decode cX8_tasksMoved 2 = .ok (.invokevirtual 99, 3) := by decide +kernel
theorem dX8_tasksMoved_5 : decode cX8_tasksMoved 5 = .ok (.aload_n 0, 1) := by decide +kernel
theorem dX8_tasksMoved_6 : decode cX8_tasksMoved 6 = .ok (.iload_n 2, 1) := by decide +kernel
theorem dX8_tasksMoved_7 : decode cX8_tasksMoved 7 = .ok (.iconst 0, 1) := by decide +kernel
theorem dX8_tasksMoved_8 : decode cX8_tasksMoved 8 = .ok (.bipush 99, 2) := by decide +kernel
theorem dX8_tasksMoved_10 : decode cX8_tasksMoved 10 = .ok (.invokevirtual 68, 3) := by decide +kernel
theorem dX8_tasksMoved_13 : decode cX8_tasksMoved 13 = .ok (.aload_n 0, 1) := by decide +kernel
theorem dX8_tasksMoved_14 : decode cX8_tasksMoved 14 = .ok (.getfield 40, 3) := by decide +kernel
theorem dX8_tasksMoved_17 : decode cX8_tasksMoved 17 = .ok (.aload_n 0, 1) := by decide +kernel
theorem dX8_tasksMoved_18 : decode cX8_tasksMoved 18 = .ok (.getfield 10, 3) := by decide +kernel
theorem dX8_tasksMoved_21 : decode cX8_tasksMoved 21 = .ok (.invokevirtual 107, 3) := by decide +kernel
theorem dX8_tasksMoved_24 : decode cX8_tasksMoved 24 = .ok (.pop, 1) := by decide +kernel
theorem dX8_tasksMoved_25 : decode cX8_tasksMoved 25 = .ok (.aload_n 0, 1) := by decide +kernel
theorem dX8_tasksMoved_26 : decode cX8_tasksMoved 26 = .ok (.getfield 44, 3) := by decide +kernel
theorem dX8_tasksMoved_29 : decode cX8_tasksMoved 29 = .ok (.aload_n 0, 1) := by decide +kernel
theorem dX8_tasksMoved_30 : decode cX8_tasksMoved 30 = .ok (.getfield 10, 3) := by decide +kernel
theorem dX8_tasksMoved_33 : decode cX8_tasksMoved 33 = .ok (.iload_n 1, 1) := by decide +kernel
theorem dX8_tasksMoved_34 : decode cX8_tasksMoved 34 = .ok (.iload_n 2, 1) := by decide +kernel
theorem dX8_tasksMoved_35 : decode cX8_tasksMoved 35 = .ok (.invokevirtual 204, 3) := by decide +kernel
theorem dX8_tasksMoved_38 : decode cX8_tasksMoved 38 = .ok (.pop, 1) := by decide +kernel
theorem dX8_tasksMoved_39 : decode cX8_tasksMoved 39 = .ok (.iconst 0, 1) := by decide +kernel
theorem dX8_tasksMoved_40 : decode cX8_tasksMoved 40 = .ok (.istore_n 3, 1) := by decide +kernel
theorem dX8_tasksMoved_41 : decode cX8_tasksMoved 41 = .ok (.iconst 0, 1) := by decide +kernel
theorem dX8_tasksMoved_42 : decode cX8_tasksMoved 42 = .ok (.istore 4, 2) := by decide +kernel
theorem dX8_tasksMoved_44 : decode cX8_tasksMoved 44 = .ok (.iload 4, 2) := by decide +kernel
theorem dX8_tasksMoved_46 : decode cX8_tasksMoved 46 = .ok (.aload_n 0, 1) := by decide +kernel
theorem dX8_tasksMoved_47 : decode cX8_tasksMoved 47 = .ok (.getfield 10, 3) := by decide +kernel
theorem dX8_tasksMoved_50 : decode cX8_tasksMoved 50 = .ok (.getfield 72, 3) := by decide +kernel
theorem dX8_tasksMoved_53 : decode cX8_tasksMoved 53 = .ok (.if_icmp .ge 41, 3) := by decide +kernel
theorem dX8_tasksMoved_56 : decode cX8_tasksMoved 56 = .ok (.iload 4, 2) := by decide +kernel
theorem dX8_tasksMoved_58 : decode cX8_tasksMoved 58 = .ok (.iload_n 1, 1) := by decide +kernel
theorem dX8_tasksMoved_59 : decode cX8_tasksMoved 59 = .ok (.if_icmp .eq 29, 3) := by decide +kernel
theorem dX8_tasksMoved_62 : decode cX8_tasksMoved 62 = .ok (.aload_n 0, 1) := by decide +kernel
theorem dX8_tasksMoved_63 : decode cX8_tasksMoved 63 = .ok (.getfield 44, 3) := by decide +kernel
theorem dX8_tasksMoved_66 : decode cX8_tasksMoved 66 = .ok (.getfield 182, 3) := by decide +kernel
theorem dX8_tasksMoved_69 : decode cX8_tasksMoved 69 = .ok (.iload 4, 2) := by decide +kernel
theorem dX8_tasksMoved_71 : decode cX8_tasksMoved 71 = .ok (.iaload, 1) := by decide +kernel
theorem dX8_tasksMoved_72 : decode cX8_tasksMoved 72 = .ok (.aload_n 0, 1) := by decide +kernel
theorem dX8_tasksMoved_73 : decode cX8_tasksMoved 73 = .ok (.getfield 40, 3) := by decide +kernel
theorem dX8_tasksMoved_76 : decode cX8_tasksMoved 76 = .ok (.getfield 182, 3) := by decide +kernel
theorem dX8_tasksMoved_79 : decode cX8_tasksMoved 79 = .ok (.iload 4, 2) := by decide +kernel
theorem dX8_tasksMoved_81 : decode cX8_tasksMoved 81 = .ok (.iaload, 1) := by decide +kernel
theorem dX8_tasksMoved_82 : decode cX8_tasksMoved 82 = .ok (.if_icmp .le 6, 3) := by decide +kernel
theorem dX8_tasksMoved_85 : decode cX8_tasksMoved 85 = .ok (.iinc 3 1, 3) := by decide +kernel
theorem dX8_tasksMoved_88 : decode cX8_tasksMoved 88 = .ok (.iinc 4 1, 3) := by decide +kernel
theorem dX8_tasksMoved_91 : decode cX8_tasksMoved 91 = .ok (.goto (-47), 3) := by decide +kernel
theorem dX8_tasksMoved_94 : decode cX8_tasksMoved 94 = .ok (.iload_n 3, 1) := by decide +kernel
theorem dX8_tasksMoved_95 : decode cX8_tasksMoved 95 = .ok (.ireturn, 1) := by decide +kernel
set_option maxRecDepth 20000 in
theorem ggX8_scheduledStart_X8_requireTask : GoodIn wsX8_scheduledStart wsX8_requireTask := goodIn_ca (goodIn_r _ [7, 8, 9, 10, 11, 12, 13, 14, 15, 16, 125, 126, 127, 128, 129, 130, 131, 132, 133, 134, 139, 140, 141, 142, 143, 144] (by decide +kernel) (by decide +kernel)) (goodIn_sub (fun _ h => List.mem_cons_of_mem _ (List.mem_append_left _ (List.mem_append_right _ h))) (by decide +kernel))
set_option maxRecDepth 20000 in
theorem gX8_scheduledStart_X8_requireTask : GoodIn wsX8_scheduledStart (wsV RX8 99 RX8 yX8_requireTask wsX8_requireTask) := goodIn_app (goodIn_of _ (by decide +kernel)) ggX8_scheduledStart_X8_requireTask
set_option maxRecDepth 20000 in
theorem ggX8_scheduledStart_X8_requireSchedule : GoodIn wsX8_scheduledStart wsX8_requireSchedule := goodIn_ca (goodIn_r _ [20, 21, 22, 23, 10, 1, 24, 25, 26, 27, 28, 29, 30, 31, 32, 33, 34, 35, 36, 37, 38, 39, 40, 41, 42, 43, 44, 45, 46, 47, 48, 49, 50, 51, 52, 53, 14, 54, 16, 55, 56, 57, 58, 59, 60, 12, 13, 15, 61, 62, 63, 64, 65, 66, 67, 68, 69, 70, 71, 72, 73, 74, 75, 76, 77, 78, 79, 80, 81, 82, 83, 84, 85, 86, 87, 88, 89, 90, 91, 92, 93, 94, 95, 96, 97, 98, 99, 100, 101, 102, 103, 104, 105, 106, 107, 108, 109, 110, 111, 112, 113, 114, 115, 116, 117, 118, 119, 120, 121, 122, 123, 124, 125, 126, 127, 128, 129, 130, 131, 132, 133, 134, 139, 140, 141, 142, 143, 144, 145, 146, 147, 148, 149, 150, 151, 152, 135, 136, 137, 138] (by decide +kernel) (by decide +kernel)) (goodIn_sub (fun _ h => List.mem_cons_of_mem _ (List.mem_append_right _ h)) (by decide +kernel))
set_option maxRecDepth 20000 in
theorem gX8_scheduledStart_X8_requireSchedule : GoodIn wsX8_scheduledStart (wsV RX8 213 RX8 yX8_requireSchedule wsX8_requireSchedule) := goodIn_app (goodIn_of _ (by decide +kernel)) ggX8_scheduledStart_X8_requireSchedule
theorem dX8_scheduledStart_0 : decode cX8_scheduledStart 0 = .ok (.aload_n 0, 1) := by decide +kernel
theorem dX8_scheduledStart_1 : decode cX8_scheduledStart 1 = .ok (.iload_n 1, 1) := by decide +kernel
theorem dX8_scheduledStart_2 : decode cX8_scheduledStart 2 = .ok (.invokevirtual 99, 3) := by decide +kernel
theorem dX8_scheduledStart_5 : decode cX8_scheduledStart 5 = .ok (.aload_n 0, 1) := by decide +kernel
theorem dX8_scheduledStart_6 : decode cX8_scheduledStart 6 = .ok (.invokevirtual 213, 3) := by decide +kernel
theorem dX8_scheduledStart_9 : decode cX8_scheduledStart 9 = .ok (.aload_n 0, 1) := by decide +kernel
theorem dX8_scheduledStart_10 : decode cX8_scheduledStart 10 = .ok (.getfield 64, 3) := by decide +kernel
theorem dX8_scheduledStart_13 : decode cX8_scheduledStart 13 = .ok (.getfield 216, 3) := by decide +kernel
theorem dX8_scheduledStart_16 : decode cX8_scheduledStart 16 = .ok (.iload_n 1, 1) := by decide +kernel
theorem dX8_scheduledStart_17 : decode cX8_scheduledStart 17 = .ok (.iaload, 1) := by decide +kernel
theorem dX8_scheduledStart_18 : decode cX8_scheduledStart 18 = .ok (.ireturn, 1) := by decide +kernel
set_option maxRecDepth 20000 in
theorem ggX8_crewsOn_X8_requireRange : GoodIn wsX8_crewsOn wsX8_requireRange := goodIn_ca (goodIn_r _ [7, 8, 9] (by decide +kernel) (by decide +kernel)) (goodIn_sub (fun _ h => List.mem_cons_of_mem _ (List.mem_append_left _ (List.mem_append_right _ h))) (by decide +kernel))
set_option maxRecDepth 20000 in
theorem gX8_crewsOn_X8_requireRange : GoodIn wsX8_crewsOn (wsV RX8 68 RX8 yX8_requireRange wsX8_requireRange) := goodIn_app (goodIn_of _ (by decide +kernel)) ggX8_crewsOn_X8_requireRange
set_option maxRecDepth 20000 in
theorem ggX8_crewsOn_X8_requireSchedule : GoodIn wsX8_crewsOn wsX8_requireSchedule := goodIn_ca (goodIn_r _ [13, 14, 15, 16, 17, 1, 18, 19, 20, 21, 22, 23, 24, 25, 26, 27, 28, 29, 30, 31, 32, 33, 34, 35, 36, 37, 38, 39, 40, 41, 42, 43, 44, 45, 46, 47, 48, 49, 50, 51, 52, 53, 54, 55, 56, 57, 58, 59, 60, 61, 62, 63, 64, 65, 66, 67, 68, 69, 70, 71, 72, 73, 74, 75, 76, 77, 78, 79, 80, 81, 82, 83, 84, 85, 86, 87, 88, 89, 90, 91, 92, 93, 94, 95, 96, 97, 98, 99, 100, 101, 102, 103, 104, 105, 106, 107, 108, 109, 110, 111, 112, 113, 114, 115, 116, 117, 118, 119, 120, 121, 122, 123, 124, 125, 126, 127, 128, 129, 130, 131, 132, 133, 138, 139, 140, 141, 142, 143, 144, 145, 146, 147, 148, 149, 150, 151, 134, 135, 136, 137] (by decide +kernel) (by decide +kernel)) (goodIn_sub (fun _ h => List.mem_cons_of_mem _ (List.mem_append_right _ h)) (by decide +kernel))
set_option maxRecDepth 20000 in
theorem gX8_crewsOn_X8_requireSchedule : GoodIn wsX8_crewsOn (wsV RX8 213 RX8 yX8_requireSchedule wsX8_requireSchedule) := goodIn_app (goodIn_of _ (by decide +kernel)) ggX8_crewsOn_X8_requireSchedule
theorem dX8_crewsOn_0 : decode cX8_crewsOn 0 = .ok (.aload_n 0, 1) := by decide +kernel
theorem dX8_crewsOn_1 : decode cX8_crewsOn 1 = .ok (.iload_n 1, 1) := by decide +kernel
theorem dX8_crewsOn_2 : decode cX8_crewsOn 2 = .ok (.iconst 0, 1) := by decide +kernel
theorem dX8_crewsOn_3 : decode cX8_crewsOn 3 = .ok (.sipush 999, 3) := by decide +kernel
theorem dX8_crewsOn_6 : decode cX8_crewsOn 6 = .ok (.invokevirtual 68, 3) := by decide +kernel
theorem dX8_crewsOn_9 : decode cX8_crewsOn 9 = .ok (.aload_n 0, 1) := by decide +kernel
theorem dX8_crewsOn_10 : decode cX8_crewsOn 10 = .ok (.invokevirtual 213, 3) := by decide +kernel
theorem dX8_crewsOn_13 : decode cX8_crewsOn 13 = .ok (.aload_n 0, 1) := by decide +kernel
theorem dX8_crewsOn_14 : decode cX8_crewsOn 14 = .ok (.getfield 64, 3) := by decide +kernel
theorem dX8_crewsOn_17 : decode cX8_crewsOn 17 = .ok (.getfield 219, 3) := by decide +kernel
theorem dX8_crewsOn_20 : decode cX8_crewsOn 20 = .ok (.iload_n 1, 1) := by decide +kernel
theorem dX8_crewsOn_21 : decode cX8_crewsOn 21 = .ok (.iaload, 1) := by decide +kernel
theorem dX8_crewsOn_22 : decode cX8_crewsOn 22 = .ok (.ireturn, 1) := by decide +kernel
set_option maxRecDepth 20000 in
theorem ggX8_scheduleLength_X8_requireSchedule : GoodIn wsX8_scheduleLength wsX8_requireSchedule := goodIn_ca (goodIn_r _ [7, 8, 9, 10, 11, 1, 12, 13, 14, 15, 16, 17, 18, 19, 20, 21, 22, 23, 24, 25, 26, 27, 28, 29, 30, 31, 32, 33, 34, 35, 36, 37, 38, 39, 40, 41, 42, 43, 44, 45, 46, 47, 48, 49, 50, 51, 52, 53, 54, 55, 56, 57, 58, 59, 60, 61, 62, 63, 64, 65, 66, 67, 68, 69, 70, 71, 72, 73, 74, 75, 76, 77, 78, 79, 80, 81, 82, 83, 84, 85, 86, 87, 88, 89, 90, 91, 92, 93, 94, 95, 96, 97, 98, 99, 100, 101, 102, 103, 104, 105, 106, 107, 108, 109, 110, 111, 112, 113, 114, 115, 116, 117, 118, 119, 120, 121, 122, 123, 124, 125, 126, 127, 132, 133, 134, 135, 136, 137, 138, 139, 140, 141, 142, 143, 144, 145, 128, 129, 130, 131] (by decide +kernel) (by decide +kernel)) (goodIn_sub (fun _ h => List.mem_cons_of_mem _ (List.mem_append_right _ h)) (by decide +kernel))
set_option maxRecDepth 20000 in
theorem gX8_scheduleLength_X8_requireSchedule : GoodIn wsX8_scheduleLength (wsV RX8 213 RX8 yX8_requireSchedule wsX8_requireSchedule) := goodIn_app (goodIn_of _ (by decide +kernel)) ggX8_scheduleLength_X8_requireSchedule
theorem dX8_scheduleLength_0 : decode cX8_scheduleLength 0 = .ok (.aload_n 0, 1) := by decide +kernel
theorem dX8_scheduleLength_1 : decode cX8_scheduleLength 1 = .ok (.invokevirtual 213, 3) := by decide +kernel
theorem dX8_scheduleLength_4 : decode cX8_scheduleLength 4 = .ok (.aload_n 0, 1) := by decide +kernel
theorem dX8_scheduleLength_5 : decode cX8_scheduleLength 5 = .ok (.getfield 64, 3) := by decide +kernel
theorem dX8_scheduleLength_8 : decode cX8_scheduleLength 8 = .ok (.getfield 222, 3) := by decide +kernel
theorem dX8_scheduleLength_11 : decode cX8_scheduleLength 11 = .ok (.ireturn, 1) := by decide +kernel
set_option maxRecDepth 20000 in
theorem ggX8_work_X7_sumOfWork : GoodIn wsX8_work wsX7_sumOfWork := goodIn_r _ [6, 7, 8, 9, 20, 21, 22, 23, 24, 25] (by decide +kernel) (by decide +kernel)
set_option maxRecDepth 20000 in
theorem gX8_work_X7_sumOfWork : GoodIn wsX8_work (wsV RX8 223 RX7 yX7_sumOfWork wsX7_sumOfWork) := goodIn_app (goodIn_of _ (by decide +kernel)) ggX8_work_X7_sumOfWork
theorem dX8_work_0 : decode cX8_work 0 = .ok (.aload_n 0, 1) := by decide +kernel
theorem dX8_work_1 : decode cX8_work 1 = .ok (.getfield 10, 3) := by decide +kernel
theorem dX8_work_4 : decode cX8_work 4 = .ok (.invokevirtual 223, 3) := by decide +kernel
theorem dX8_work_7 : decode cX8_work 7 = .ok (.ireturn, 1) := by decide +kernel
set_option maxRecDepth 20000 in
theorem ggX8_workByDays_X8_requireSchedule : GoodIn wsX8_workByDays wsX8_requireSchedule := goodIn_ca (goodIn_r _ [6, 7, 8, 9, 10, 1, 11, 12, 13, 14, 15, 16, 17, 18, 19, 20, 21, 22, 23, 24, 25, 26, 27, 28, 29, 30, 31, 32, 33, 34, 35, 36, 37, 38, 39, 40, 41, 42, 43, 44, 45, 46, 47, 48, 49, 50, 51, 52, 53, 54, 55, 56, 57, 58, 59, 60, 61, 62, 63, 64, 65, 66, 67, 68, 69, 70, 71, 72, 73, 74, 75, 76, 77, 78, 79, 80, 81, 82, 83, 84, 85, 86, 87, 88, 89, 90, 91, 92, 93, 94, 95, 96, 97, 98, 99, 100, 101, 102, 103, 104, 105, 106, 107, 108, 109, 110, 111, 112, 113, 114, 115, 116, 121, 122, 123, 124, 125, 126, 127, 128, 129, 130, 131, 132, 133, 134, 135, 136, 137, 138, 139, 140, 141, 142, 143, 144, 145, 146, 147, 148] (by decide +kernel) (by decide +kernel)) (goodIn_sub (fun _ h => List.mem_cons_of_mem _ (List.mem_append_right _ h)) (by decide +kernel))
set_option maxRecDepth 20000 in
theorem gX8_workByDays_X8_requireSchedule : GoodIn wsX8_workByDays (wsV RX8 213 RX8 yX8_requireSchedule wsX8_requireSchedule) := goodIn_app (goodIn_of _ (by decide +kernel)) ggX8_workByDays_X8_requireSchedule
set_option maxRecDepth 20000 in
theorem ggX8_workByDays_X6_sumOfDays : GoodIn wsX8_workByDays wsX6_sumOfDays := goodIn_r _ [120, 94, 96, 145, 146, 147, 148] (by decide +kernel) (by decide +kernel)
set_option maxRecDepth 20000 in
theorem gX8_workByDays_X6_sumOfDays : GoodIn wsX8_workByDays (wsV RX8 227 RX6 yX6_sumOfDays wsX6_sumOfDays) := goodIn_app (goodIn_of _ (by decide +kernel)) ggX8_workByDays_X6_sumOfDays
theorem dX8_workByDays_0 : decode cX8_workByDays 0 = .ok (.aload_n 0, 1) := by decide +kernel
theorem dX8_workByDays_1 : decode cX8_workByDays 1 = .ok (.invokevirtual 213, 3) := by decide +kernel
theorem dX8_workByDays_4 : decode cX8_workByDays 4 = .ok (.aload_n 0, 1) := by decide +kernel
theorem dX8_workByDays_5 : decode cX8_workByDays 5 = .ok (.getfield 64, 3) := by decide +kernel
theorem dX8_workByDays_8 : decode cX8_workByDays 8 = .ok (.invokevirtual 227, 3) := by decide +kernel
theorem dX8_workByDays_11 : decode cX8_workByDays 11 = .ok (.ireturn, 1) := by decide +kernel
set_option maxRecDepth 20000 in
theorem ggX8_leastCrews_X1_find : GoodIn wsX8_leastCrews wsX1_find := goodIn_r _ [11, 12, 13, 14, 15, 16, 17, 18, 19, 20, 10, 21, 22, 23, 24, 25, 26, 27, 28, 29, 30, 31, 32, 33, 34, 35, 36, 37, 38, 39, 40, 41, 42, 43, 44, 45, 46, 47, 48, 49, 50, 51, 52, 53, 54, 55, 56, 57, 58, 59, 60, 61, 62, 63, 64, 65, 66, 67, 68, 69, 70, 71, 72, 73, 74, 75, 76, 77, 126, 127, 128, 129, 130, 131, 132, 133, 134, 135, 136, 137, 138, 139] (by decide +kernel) (by decide +kernel)
set_option maxRecDepth 20000 in
theorem gX8_leastCrews_X1_find : GoodIn wsX8_leastCrews (wsV RX8 107 RX1 yX1_find wsX1_find) := goodIn_app (goodIn_of _ (by decide +kernel)) ggX8_leastCrews_X1_find
set_option maxRecDepth 20000 in
theorem ggX8_leastCrews_X6_build : GoodIn wsX8_leastCrews wsX6_build := goodIn_r _ [82, 83, 84, 85, 86, 87, 81, 88, 89, 90, 91, 92, 93, 66, 67, 68, 94, 34, 35, 36, 37, 38, 39, 40, 41, 42, 43, 44, 45, 46, 47, 95, 96, 97, 98, 99, 100, 101, 102, 103, 104, 105, 61, 62, 63, 106, 107, 108, 109, 110, 111, 126, 127, 128, 129, 130, 131, 122, 123, 124, 125, 132, 133, 134, 135, 136] (by decide +kernel) (by decide +kernel)
set_option maxRecDepth 20000 in
theorem gX8_leastCrews_X6_build : GoodIn wsX8_leastCrews (wsV RX8 230 RX6 yX6_build wsX6_build) := goodIn_app (goodIn_of _ (by decide +kernel)) ggX8_leastCrews_X6_build
theorem dX8_leastCrews_0 : decode cX8_leastCrews 0 = .ok (.aload_n 0, 1) := by decide +kernel
theorem dX8_leastCrews_1 : decode cX8_leastCrews 1 = .ok (.getfield 40, 3) := by decide +kernel
theorem dX8_leastCrews_4 : decode cX8_leastCrews 4 = .ok (.aload_n 0, 1) := by decide +kernel
theorem dX8_leastCrews_5 : decode cX8_leastCrews 5 = .ok (.getfield 10, 3) := by decide +kernel
theorem dX8_leastCrews_8 : decode cX8_leastCrews 8 = .ok (.invokevirtual 107, 3) := by decide +kernel
theorem dX8_leastCrews_11 : decode cX8_leastCrews 11 = .ok (.istore_n 1, 1) := by decide +kernel
theorem dX8_leastCrews_12 : decode cX8_leastCrews 12 = .ok (.iconst 1, 1) := by decide +kernel
theorem dX8_leastCrews_13 : decode cX8_leastCrews 13 = .ok (.istore_n 2, 1) := by decide +kernel
theorem dX8_leastCrews_14 : decode cX8_leastCrews 14 = .ok (.iload_n 2, 1) := by decide +kernel
theorem dX8_leastCrews_15 : decode cX8_leastCrews 15 = .ok (.bipush 9, 2) := by decide +kernel
theorem dX8_leastCrews_17 : decode cX8_leastCrews 17 = .ok (.if_icmp .gt 41, 3) := by decide +kernel
theorem dX8_leastCrews_20 : decode cX8_leastCrews 20 = .ok (.aload_n 0, 1) := by decide +kernel
theorem dX8_leastCrews_21 : decode cX8_leastCrews 21 = .ok (.getfield 64, 3) := by decide +kernel
theorem dX8_leastCrews_24 : decode cX8_leastCrews 24 = .ok (.aload_n 0, 1) := by decide +kernel
theorem dX8_leastCrews_25 : decode cX8_leastCrews 25 = .ok (.getfield 10, 3) := by decide +kernel
theorem dX8_leastCrews_28 : decode cX8_leastCrews 28 = .ok (.iload_n 2, 1) := by decide +kernel
theorem dX8_leastCrews_29 : decode cX8_leastCrews 29 = .ok (.aload_n 0, 1) := by decide +kernel
theorem dX8_leastCrews_30 : decode cX8_leastCrews 30 = .ok (.getfield 40, 3) := by decide +kernel
theorem dX8_leastCrews_33 : decode cX8_leastCrews 33 = .ok (.invokevirtual 230, 3) := by decide +kernel
theorem dX8_leastCrews_36 : decode cX8_leastCrews 36 = .ok (.ifCond .eq 16, 3) := by decide +kernel
theorem dX8_leastCrews_39 : decode cX8_leastCrews 39 = .ok (.aload_n 0, 1) := by decide +kernel
theorem dX8_leastCrews_40 : decode cX8_leastCrews 40 = .ok (.getfield 64, 3) := by decide +kernel
theorem dX8_leastCrews_43 : decode cX8_leastCrews 43 = .ok (.getfield 222, 3) := by decide +kernel
theorem dX8_leastCrews_46 : decode cX8_leastCrews 46 = .ok (.iload_n 1, 1) := by decide +kernel
theorem dX8_leastCrews_47 : decode cX8_leastCrews 47 = .ok (.if_icmp .gt 5, 3) := by decide +kernel
theorem dX8_leastCrews_50 : decode cX8_leastCrews 50 = .ok (.iload_n 2, 1) := by decide +kernel
theorem dX8_leastCrews_51 : decode cX8_leastCrews 51 = .ok (.ireturn, 1) := by decide +kernel
theorem dX8_leastCrews_52 : decode cX8_leastCrews 52 = .ok (.iinc 2 1, 3) := by decide +kernel
theorem dX8_leastCrews_55 : decode cX8_leastCrews 55 = .ok (.goto (-41), 3) := by decide +kernel
theorem dX8_leastCrews_58 : decode cX8_leastCrews 58 = .ok (.new 234, 3) := by decide +kernel
theorem dX8_leastCrews_61 : decode cX8_leastCrews 61 = .ok (.dup, 1) := by decide +kernel
theorem dX8_leastCrews_62 : decode cX8_leastCrews 62 = .ok (.ldc 236, 2) := by decide +kernel
theorem dX8_leastCrews_64 : decode cX8_leastCrews 64 = .ok (.invokespecial 238, 3) := by decide +kernel
theorem dX8_leastCrews_67 : decode cX8_leastCrews 67 = .ok (.athrow, 1) := by decide +kernel
set_option maxRecDepth 20000 in
theorem ggX8_usage_X8_requireSchedule : GoodIn wsX8_usage wsX8_requireSchedule := goodIn_ca (goodIn_r _ [9, 10, 11, 12, 3, 1, 4, 13, 14, 15, 16, 17, 18, 19, 20, 21, 22, 23, 24, 25, 26, 27, 28, 29, 30, 31, 32, 33, 34, 35, 36, 37, 38, 39, 40, 41, 42, 43, 44, 45, 46, 47, 48, 49, 50, 51, 52, 53, 54, 55, 56, 57, 58, 59, 60, 61, 62, 63, 64, 65, 66, 67, 68, 69, 70, 71, 72, 73, 74, 75, 76, 77, 78, 79, 80, 81, 82, 83, 84, 85, 86, 87, 88, 89, 90, 91, 92, 93, 94, 95, 96, 97, 98, 99, 100, 101, 102, 103, 104, 105, 106, 107, 108, 109, 110, 111, 112, 113, 114, 115, 116, 117, 124, 125, 126, 127, 128, 129, 130, 131, 132, 133, 138, 139, 140, 141, 142, 143, 144, 145, 146, 147, 148, 149, 150, 151, 134, 135, 136, 137] (by decide +kernel) (by decide +kernel)) (goodIn_sub (fun _ h => List.mem_cons_of_mem _ (List.mem_append_right _ h)) (by decide +kernel))
set_option maxRecDepth 20000 in
theorem gX8_usage_X8_requireSchedule : GoodIn wsX8_usage (wsV RX8 213 RX8 yX8_requireSchedule wsX8_requireSchedule) := goodIn_app (goodIn_of _ (by decide +kernel)) ggX8_usage_X8_requireSchedule
set_option maxRecDepth 20000 in
theorem ggX8_usage_X7_sumOfWork : GoodIn wsX8_usage wsX7_sumOfWork := goodIn_r _ [121, 44, 122, 123, 138, 139, 140, 141, 142, 143] (by decide +kernel) (by decide +kernel)
set_option maxRecDepth 20000 in
theorem gX8_usage_X7_sumOfWork : GoodIn wsX8_usage (wsV RX8 223 RX7 yX7_sumOfWork wsX7_sumOfWork) := goodIn_app (goodIn_of _ (by decide +kernel)) ggX8_usage_X7_sumOfWork
theorem dX8_usage_0 : decode cX8_usage 0 = .ok (.aload_n 0, 1) := by decide +kernel
theorem dX8_usage_1 : decode cX8_usage 1 = .ok (.invokevirtual 213, 3) := by decide +kernel
theorem dX8_usage_4 : decode cX8_usage 4 = .ok (.aload_n 0, 1) := by decide +kernel
theorem dX8_usage_5 : decode cX8_usage 5 = .ok (.getfield 64, 3) := by decide +kernel
theorem dX8_usage_8 : decode cX8_usage 8 = .ok (.getfield 222, 3) := by decide +kernel
theorem dX8_usage_11 : decode cX8_usage 11 = .ok (.aload_n 0, 1) := by decide +kernel
theorem dX8_usage_12 : decode cX8_usage 12 = .ok (.getfield 10, 3) := by decide +kernel
theorem dX8_usage_15 : decode cX8_usage 15 = .ok (.getfield 137, 3) := by decide +kernel
theorem dX8_usage_18 : decode cX8_usage 18 = .ok (.imul, 1) := by decide +kernel
theorem dX8_usage_19 : decode cX8_usage 19 = .ok (.istore_n 1, 1) := by decide +kernel
theorem dX8_usage_20 : decode cX8_usage 20 = .ok (.iload_n 1, 1) := by decide +kernel
theorem dX8_usage_21 : decode cX8_usage 21 = .ok (.ifCond .ne 7, 3) := by decide +kernel
theorem dX8_usage_24 : decode cX8_usage 24 = .ok (.dconst 0, 1) := by decide +kernel
theorem dX8_usage_25 : decode cX8_usage 25 = .ok (.goto 14, 3) := by decide +kernel
theorem dX8_usage_28 : decode cX8_usage 28 = .ok (.aload_n 0, 1) := by decide +kernel
theorem dX8_usage_29 : decode cX8_usage 29 = .ok (.getfield 10, 3) := by decide +kernel
theorem dX8_usage_32 : decode cX8_usage 32 = .ok (.invokevirtual 223, 3) := by decide +kernel
theorem dX8_usage_35 : decode cX8_usage 35 = .ok (.i2d, 1) := by decide +kernel
theorem dX8_usage_36 : decode cX8_usage 36 = .ok (.iload_n 1, 1) := by decide +kernel
theorem dX8_usage_37 : decode cX8_usage 37 = .ok (.i2d, 1) := by decide +kernel
theorem dX8_usage_38 : decode cX8_usage 38 = .ok (.ddiv, 1) := by decide +kernel
theorem dX8_usage_39 : decode cX8_usage 39 = .ok (.dreturn, 1) := by decide +kernel
theorem dX8_historySize_0 : decode cX8_historySize 0 = .ok (.aload_n 0, 1) := by decide +kernel
theorem dX8_historySize_1 : decode cX8_historySize 1 = .ok (.getfield 26, 3) := by decide +kernel
theorem dX8_historySize_4 : decode cX8_historySize 4 = .ok (.getfield 166, 3) := by decide +kernel
theorem dX8_historySize_7 : decode cX8_historySize 7 = .ok (.ireturn, 1) := by decide +kernel
set_option maxRecDepth 20000 in
theorem ggX8_requireTask_X7_has : GoodIn wsX8_requireTask wsX7_has := goodIn_r _ [8, 9, 20, 21, 22, 23, 24, 25] (by decide +kernel) (by decide +kernel)
set_option maxRecDepth 20000 in
theorem gX8_requireTask_X7_has : GoodIn wsX8_requireTask (wsV RX8 239 RX7 yX7_has wsX7_has) := goodIn_app (goodIn_of _ (by decide +kernel)) ggX8_requireTask_X7_has
theorem dX8_requireTask_0 : decode cX8_requireTask 0 = .ok (.aload_n 0, 1) := by decide +kernel
theorem dX8_requireTask_1 : decode cX8_requireTask 1 = .ok (.getfield 10, 3) := by decide +kernel
theorem dX8_requireTask_4 : decode cX8_requireTask 4 = .ok (.iload_n 1, 1) := by decide +kernel
theorem dX8_requireTask_5 : decode cX8_requireTask 5 = .ok (.invokevirtual 239, 3) := by decide +kernel
theorem dX8_requireTask_8 : decode cX8_requireTask 8 = .ok (.ifCond .ne 13, 3) := by decide +kernel
theorem dX8_requireTask_11 : decode cX8_requireTask 11 = .ok (.new 243, 3) := by decide +kernel
theorem dX8_requireTask_14 : decode cX8_requireTask 14 = .ok (.dup, 1) := by decide +kernel
theorem dX8_requireTask_15 : decode cX8_requireTask 15 = .ok (.ldc 245, 2) := by decide +kernel
theorem dX8_requireTask_17 : decode cX8_requireTask 17 = .ok (.invokespecial 247, 3) := by decide +kernel
theorem dX8_requireTask_20 : decode cX8_requireTask 20 = .ok (.athrow, 1) := by decide +kernel
theorem dX8_requireTask_21 : decode cX8_requireTask 21 = .ok (.return_, 1) := by decide +kernel
theorem dX8_requireRange_0 : decode cX8_requireRange 0 = .ok (.iload_n 1, 1) := by decide +kernel
theorem dX8_requireRange_1 : decode cX8_requireRange 1 = .ok (.iload_n 2, 1) := by decide +kernel
theorem dX8_requireRange_2 : decode cX8_requireRange 2 = .ok (.if_icmp .lt 8, 3) := by decide +kernel
theorem dX8_requireRange_5 : decode cX8_requireRange 5 = .ok (.iload_n 1, 1) := by decide +kernel
theorem dX8_requireRange_6 : decode cX8_requireRange 6 = .ok (.iload_n 3, 1) := by decide +kernel
theorem dX8_requireRange_7 : decode cX8_requireRange 7 = .ok (.if_icmp .le 13, 3) := by decide +kernel
theorem dX8_requireRange_10 : decode cX8_requireRange 10 = .ok (.new 111, 3) := by decide +kernel
theorem dX8_requireRange_13 : decode cX8_requireRange 13 = .ok (.dup, 1) := by decide +kernel
theorem dX8_requireRange_14 : decode cX8_requireRange 14 = .ok (.ldc 248, 2) := by decide +kernel
theorem dX8_requireRange_16 : decode cX8_requireRange 16 = .ok (.invokespecial 115, 3) := by decide +kernel
theorem dX8_requireRange_19 : decode cX8_requireRange 19 = .ok (.athrow, 1) := by decide +kernel
theorem dX8_requireRange_20 : decode cX8_requireRange 20 = .ok (.return_, 1) := by decide +kernel
set_option maxRecDepth 20000 in
theorem ggX8_requireLag_X8_requireTask : GoodIn wsX8_requireLag wsX8_requireTask := goodIn_ca (goodIn_r _ [8, 9, 10, 3, 11, 12, 13, 14, 15, 16, 23, 24, 25, 26, 27, 28, 29, 30, 31, 32, 33, 34, 35, 36, 37, 38] (by decide +kernel) (by decide +kernel)) (goodIn_sub (fun _ h => List.mem_cons_of_mem _ (List.mem_append_right _ h)) (by decide +kernel))
set_option maxRecDepth 20000 in
theorem gX8_requireLag_X8_requireTask : GoodIn wsX8_requireLag (wsV RX8 99 RX8 yX8_requireTask wsX8_requireTask) := goodIn_app (goodIn_of _ (by decide +kernel)) ggX8_requireLag_X8_requireTask
set_option maxRecDepth 20000 in
theorem ggX8_requireLag_X7_lag : GoodIn wsX8_requireLag wsX7_lag := goodIn_r _ [20, 21, 22, 12, 13, 14, 15, 16, 33, 34, 35, 36, 37, 38] (by decide +kernel) (by decide +kernel)
set_option maxRecDepth 20000 in
theorem gX8_requireLag_X7_lag : GoodIn wsX8_requireLag (wsV RX8 116 RX7 yX7_lag wsX7_lag) := goodIn_app (goodIn_of _ (by decide +kernel)) ggX8_requireLag_X7_lag
theorem dX8_requireLag_0 : decode cX8_requireLag 0 = .ok (.aload_n 0, 1) := by decide +kernel
theorem dX8_requireLag_1 : decode cX8_requireLag 1 = .ok (.iload_n 1, 1) := by decide +kernel
theorem dX8_requireLag_2 : decode cX8_requireLag 2 = .ok (.invokevirtual 99, 3) := by decide +kernel
theorem dX8_requireLag_5 : decode cX8_requireLag 5 = .ok (.aload_n 0, 1) := by decide +kernel
theorem dX8_requireLag_6 : decode cX8_requireLag 6 = .ok (.iload_n 2, 1) := by decide +kernel
theorem dX8_requireLag_7 : decode cX8_requireLag 7 = .ok (.invokevirtual 99, 3) := by decide +kernel
theorem dX8_requireLag_10 : decode cX8_requireLag 10 = .ok (.aload_n 0, 1) := by decide +kernel
theorem dX8_requireLag_11 : decode cX8_requireLag 11 = .ok (.getfield 10, 3) := by decide +kernel
theorem dX8_requireLag_14 : decode cX8_requireLag 14 = .ok (.iload_n 1, 1) := by decide +kernel
theorem dX8_requireLag_15 : decode cX8_requireLag 15 = .ok (.iload_n 2, 1) := by decide +kernel
theorem dX8_requireLag_16 : decode cX8_requireLag 16 = .ok (.invokevirtual 116, 3) := by decide +kernel
theorem dX8_requireLag_19 : decode cX8_requireLag 19 = .ok (.istore_n 3, 1) := by decide +kernel
theorem dX8_requireLag_20 : decode cX8_requireLag 20 = .ok (.iload_n 3, 1) := by decide +kernel
theorem dX8_requireLag_21 : decode cX8_requireLag 21 = .ok (.iconst (-1), 1) := by decide +kernel
theorem dX8_requireLag_22 : decode cX8_requireLag 22 = .ok (.if_icmp .ne 13, 3) := by decide +kernel
theorem dX8_requireLag_25 : decode cX8_requireLag 25 = .ok (.new 234, 3) := by decide +kernel
theorem dX8_requireLag_28 : decode cX8_requireLag 28 = .ok (.dup, 1) := by decide +kernel
theorem dX8_requireLag_29 : decode cX8_requireLag 29 = .ok (.ldc 250, 2) := by decide +kernel
theorem dX8_requireLag_31 : decode cX8_requireLag 31 = .ok (.invokespecial 238, 3) := by decide +kernel
theorem dX8_requireLag_34 : decode cX8_requireLag 34 = .ok (.athrow, 1) := by decide +kernel
theorem dX8_requireLag_35 : decode cX8_requireLag 35 = .ok (.iload_n 3, 1) := by decide +kernel
theorem dX8_requireLag_36 : decode cX8_requireLag 36 = .ok (.ireturn, 1) := by decide +kernel
set_option maxRecDepth 20000 in
theorem ggX8_requireSchedule_X1_find : GoodIn wsX8_requireSchedule wsX1_find := goodIn_r _ [11, 12, 13, 14, 15, 16, 17, 18, 19, 20, 10, 21, 22, 23, 24, 25, 26, 27, 28, 29, 30, 31, 32, 33, 34, 35, 36, 37, 38, 39, 40, 41, 42, 43, 44, 45, 46, 47, 48, 49, 50, 51, 52, 53, 54, 55, 56, 57, 58, 59, 60, 61, 62, 63, 64, 65, 66, 67, 68, 69, 70, 71, 72, 73, 74, 75, 76, 77, 122, 123, 124, 125, 126, 127, 128, 129, 130, 131, 132, 133, 134, 135] (by decide +kernel) (by decide +kernel)
set_option maxRecDepth 20000 in
theorem gX8_requireSchedule_X1_find : GoodIn wsX8_requireSchedule (wsV RX8 107 RX1 yX1_find wsX1_find) := goodIn_app (goodIn_of _ (by decide +kernel)) ggX8_requireSchedule_X1_find
set_option maxRecDepth 20000 in
theorem ggX8_requireSchedule_X6_build : GoodIn wsX8_requireSchedule wsX6_build := goodIn_r _ [82, 83, 84, 85, 86, 87, 81, 88, 89, 90, 91, 92, 93, 66, 67, 68, 94, 34, 35, 36, 37, 38, 39, 40, 41, 42, 43, 44, 45, 46, 47, 95, 96, 97, 98, 99, 100, 101, 102, 103, 104, 105, 61, 62, 63, 106, 107, 108, 109, 110, 111, 122, 123, 124, 125, 126, 127, 136, 137, 138, 139, 128, 129, 130, 131, 132] (by decide +kernel) (by decide +kernel)
set_option maxRecDepth 20000 in
theorem gX8_requireSchedule_X6_build : GoodIn wsX8_requireSchedule (wsV RX8 230 RX6 yX6_build wsX6_build) := goodIn_app (goodIn_of _ (by decide +kernel)) ggX8_requireSchedule_X6_build
theorem dX8_requireSchedule_0 : decode cX8_requireSchedule 0 = .ok (.aload_n 0, 1) := by decide +kernel
theorem dX8_requireSchedule_1 : decode cX8_requireSchedule 1 = .ok (.getfield 40, 3) := by decide +kernel
theorem dX8_requireSchedule_4 : decode cX8_requireSchedule 4 = .ok (.aload_n 0, 1) := by decide +kernel
theorem dX8_requireSchedule_5 : decode cX8_requireSchedule 5 = .ok (.getfield 10, 3) := by decide +kernel
theorem dX8_requireSchedule_8 : decode cX8_requireSchedule 8 = .ok (.invokevirtual 107, 3) := by decide +kernel
theorem dX8_requireSchedule_11 : decode cX8_requireSchedule 11 = .ok (.pop, 1) := by decide +kernel
theorem dX8_requireSchedule_12 : decode cX8_requireSchedule 12 = .ok (.aload_n 0, 1) := by decide +kernel
theorem dX8_requireSchedule_13 : decode cX8_requireSchedule 13 = .ok (.getfield 64, 3) := by decide +kernel
theorem dX8_requireSchedule_16 : decode cX8_requireSchedule 16 = .ok (.aload_n 0, 1) := by decide +kernel
theorem dX8_requireSchedule_17 : decode cX8_requireSchedule 17 = .ok (.getfield 10, 3) := by decide +kernel
theorem dX8_requireSchedule_20 : decode cX8_requireSchedule 20 = .ok (.aload_n 0, 1) := by decide +kernel
theorem dX8_requireSchedule_21 : decode cX8_requireSchedule 21 = .ok (.getfield 10, 3) := by decide +kernel
theorem dX8_requireSchedule_24 : decode cX8_requireSchedule 24 = .ok (.getfield 137, 3) := by decide +kernel
theorem dX8_requireSchedule_27 : decode cX8_requireSchedule 27 = .ok (.aload_n 0, 1) := by decide +kernel
theorem dX8_requireSchedule_28 : decode cX8_requireSchedule 28 = .ok (.getfield 40, 3) := by decide +kernel
theorem dX8_requireSchedule_31 : decode cX8_requireSchedule 31 = .ok (.invokevirtual 230, 3) := by decide +kernel
theorem dX8_requireSchedule_34 : decode cX8_requireSchedule 34 = .ok (.ifCond .ne 13, 3) := by decide +kernel
theorem dX8_requireSchedule_37 : decode cX8_requireSchedule 37 = .ok (.new 76, 3) := by decide +kernel
theorem dX8_requireSchedule_40 : decode cX8_requireSchedule 40 = .ok (.dup, 1) := by decide +kernel
theorem dX8_requireSchedule_41 : decode cX8_requireSchedule 41 = .ok (.ldc 252, 2) := by decide +kernel
theorem dX8_requireSchedule_43 : decode cX8_requireSchedule 43 = .ok (.invokespecial 80, 3) := by decide +kernel
theorem dX8_requireSchedule_46 : decode cX8_requireSchedule 46 = .ok (.athrow, 1) := by decide +kernel
theorem dX8_requireSchedule_47 : decode cX8_requireSchedule 47 = .ok (.return_, 1) := by decide +kernel
theorem dJ9_max_7cf53_0 : decode cJ9_max_7cf53 0 = .ok (.iload_n 0, 1) := by decide +kernel
theorem dJ9_max_7cf53_1 : decode cJ9_max_7cf53 1 = .ok (.iload_n 1, 1) := by decide +kernel
theorem dJ9_max_7cf53_2 : decode cJ9_max_7cf53 2 = .ok (.if_icmp .lt 7, 3) := by decide +kernel
theorem dJ9_max_7cf53_5 : decode cJ9_max_7cf53 5 = .ok (.iload_n 0, 1) := by decide +kernel
theorem dJ9_max_7cf53_6 : decode cJ9_max_7cf53 6 = .ok (.goto 4, 3) := by decide +kernel
theorem dJ9_max_7cf53_9 : decode cJ9_max_7cf53 9 = .ok (.iload_n 1, 1) := by decide +kernel
theorem dJ9_max_7cf53_10 : decode cJ9_max_7cf53 10 = .ok (.ireturn, 1) := by decide +kernel
theorem dJ9_min_7cf53_0 : decode cJ9_min_7cf53 0 = .ok (.iload_n 0, 1) := by decide +kernel
theorem dJ9_min_7cf53_1 : decode cJ9_min_7cf53 1 = .ok (.iload_n 1, 1) := by decide +kernel
theorem dJ9_min_7cf53_2 : decode cJ9_min_7cf53 2 = .ok (.if_icmp .gt 7, 3) := by decide +kernel
theorem dJ9_min_7cf53_5 : decode cJ9_min_7cf53 5 = .ok (.iload_n 0, 1) := by decide +kernel
theorem dJ9_min_7cf53_6 : decode cJ9_min_7cf53 6 = .ok (.goto 4, 3) := by decide +kernel
theorem dJ9_min_7cf53_9 : decode cJ9_min_7cf53 9 = .ok (.iload_n 1, 1) := by decide +kernel
theorem dJ9_min_7cf53_10 : decode cJ9_min_7cf53 10 = .ok (.ireturn, 1) := by decide +kernel
theorem dJ7_fill_53178_0 : decode cJ7_fill_53178 0 = .ok (.iconst 0, 1) := by decide +kernel
theorem dJ7_fill_53178_1 : decode cJ7_fill_53178 1 = .ok (.istore_n 2, 1) := by decide +kernel
theorem dJ7_fill_53178_2 : decode cJ7_fill_53178 2 = .ok (.aload_n 0, 1) := by decide +kernel
theorem dJ7_fill_53178_3 : decode cJ7_fill_53178 3 = .ok (.arraylength, 1) := by decide +kernel
theorem dJ7_fill_53178_4 : decode cJ7_fill_53178 4 = .ok (.istore_n 3, 1) := by decide +kernel
theorem dJ7_fill_53178_5 : decode cJ7_fill_53178 5 = .ok (.iload_n 2, 1) := by decide +kernel
theorem dJ7_fill_53178_6 : decode cJ7_fill_53178 6 = .ok (.iload_n 3, 1) := by decide +kernel
theorem dJ7_fill_53178_7 : decode cJ7_fill_53178 7 = .ok (.if_icmp .ge 13, 3) := by decide +kernel
theorem dJ7_fill_53178_10 : decode cJ7_fill_53178 10 = .ok (.aload_n 0, 1) := by decide +kernel
theorem dJ7_fill_53178_11 : decode cJ7_fill_53178 11 = .ok (.iload_n 2, 1) := by decide +kernel
theorem dJ7_fill_53178_12 : decode cJ7_fill_53178 12 = .ok (.iload_n 1, 1) := by decide +kernel
theorem dJ7_fill_53178_13 : decode cJ7_fill_53178 13 = .ok (.iastore, 1) := by decide +kernel
theorem dJ7_fill_53178_14 : decode cJ7_fill_53178 14 = .ok (.iinc 2 1, 3) := by decide +kernel
theorem dJ7_fill_53178_17 : decode cJ7_fill_53178 17 = .ok (.goto (-12), 3) := by decide +kernel
theorem dJ7_fill_53178_20 : decode cJ7_fill_53178 20 = .ok (.return_, 1) := by decide +kernel
