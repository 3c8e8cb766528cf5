theorem dX9_init_0 : decode cX9_init 0 = .ok (.aload_n 0, 1) := by decide +kernel
theorem dX9_init_1 : decode cX9_init 1 = .ok (.invokespecial 1, 3) := by decide +kernel
theorem dX9_init_4 : decode cX9_init 4 = .ok (.aload_n 0, 1) := by decide +kernel
theorem dX9_init_5 : decode cX9_init 5 = .ok (.sipush 442, 3) := by decide +kernel
theorem dX9_init_8 : decode cX9_init 8 = .ok (.newarray .int, 2) := by decide +kernel
theorem dX9_init_10 : decode cX9_init 10 = .ok (.putfield 7, 3) := by decide +kernel
theorem dX9_init_13 : decode cX9_init 13 = .ok (.aload_n 0, 1) := by decide +kernel
theorem dX9_init_14 : decode cX9_init 14 = .ok (.sipush 442, 3) := by decide +kernel
theorem dX9_init_17 : decode cX9_init 17 = .ok (.newarray .int, 2) := by decide +kernel
theorem dX9_init_19 : decode cX9_init 19 = .ok (.putfield 13, 3) := by decide +kernel
theorem dX9_init_22 : decode cX9_init 22 = .ok (.aload_n 0, 1) := by decide +kernel
theorem dX9_init_23 : decode cX9_init 23 = .ok (.sipush 2210, 3) := by decide +kernel
theorem dX9_init_26 : decode cX9_init 26 = .ok (.newarray .int, 2) := by decide +kernel
theorem dX9_init_28 : decode cX9_init 28 = .ok (.putfield 16, 3) := by decide +kernel
theorem dX9_init_31 : decode cX9_init 31 = .ok (.aload_n 0, 1) := by decide +kernel
theorem dX9_init_32 : decode cX9_init 32 = .ok (.sipush 442, 3) := by decide +kernel
theorem dX9_init_35 : decode cX9_init 35 = .ok (.newarray .int, 2) := by decide +kernel
theorem dX9_init_37 : decode cX9_init 37 = .ok (.putfield 19, 3) := by decide +kernel
theorem dX9_init_40 : decode cX9_init 40 = .ok (.aload_n 0, 1) := by decide +kernel
theorem dX9_init_41 : decode cX9_init 41 = .ok (.bipush 60, 2) := by decide +kernel
theorem dX9_init_43 : decode cX9_init 43 = .ok (.newarray .int, 2) := by decide +kernel
theorem dX9_init_45 : decode cX9_init 45 = .ok (.putfield 22, 3) := by decide +kernel
theorem dX9_init_48 : decode cX9_init 48 = .ok (.aload_n 0, 1) := by decide +kernel
theorem dX9_init_49 : decode cX9_init 49 = .ok (.bipush 20, 2) := by decide +kernel
theorem dX9_init_51 : decode cX9_init 51 = .ok (.newarray .int, 2) := by decide +kernel
theorem dX9_init_53 : decode cX9_init 53 = .ok (.putfield 25, 3) := by decide +kernel
theorem dX9_init_56 : decode cX9_init 56 = .ok (.aload_n 0, 1) := by decide +kernel
theorem dX9_init_57 : decode cX9_init 57 = .ok (.bipush 20, 2) := by decide +kernel
theorem dX9_init_59 : decode cX9_init 59 = .ok (.newarray .int, 2) := by decide +kernel
theorem dX9_init_61 : decode cX9_init 61 = .ok (.putfield 28, 3) := by decide +kernel
theorem dX9_init_64 : decode cX9_init 64 = .ok (.aload_n 0, 1) := by decide +kernel
theorem dX9_init_65 : decode cX9_init 65 = .ok (.bipush 20, 2) := by decide +kernel
theorem dX9_init_67 : decode cX9_init 67 = .ok (.newarray .int, 2) := by decide +kernel
theorem dX9_init_69 : decode cX9_init 69 = .ok (.putfield 31, 3) := by decide +kernel
theorem dX9_init_72 : decode cX9_init 72 = .ok (.aload_n 0, 1) := by decide +kernel
theorem dX9_init_73 : decode cX9_init 73 = .ok (.bipush 20, 2) := by decide +kernel
theorem dX9_init_75 : decode cX9_init 75 = .ok (.newarray .int, 2) := by decide +kernel
theorem dX9_init_77 : decode cX9_init 77 = .ok (.putfield 34, 3) := by decide +kernel
theorem dX9_init_80 : decode cX9_init 80 = .ok (.aload_n 0, 1) := by decide +kernel
theorem dX9_init_81 : decode cX9_init 81 = .ok (.bipush 20, 2) := by decide +kernel
theorem dX9_init_83 : decode cX9_init 83 = .ok (.newarray .long, 2) := by decide +kernel
theorem dX9_init_85 : decode cX9_init 85 = .ok (.putfield 37, 3) := by decide +kernel
theorem dX9_init_88 : decode cX9_init 88 = .ok (.aload_n 0, 1) := by decide +kernel
theorem dX9_init_89 : decode cX9_init 89 = .ok (.bipush 20, 2) := by decide +kernel
theorem dX9_init_91 : decode cX9_init 91 = .ok (.newarray .long, 2) := by decide +kernel
theorem dX9_init_93 : decode cX9_init 93 = .ok (.putfield 41, 3) := by decide +kernel
theorem dX9_init_96 : decode cX9_init 96 = .ok (.aload_n 0, 1) := by decide +kernel
theorem dX9_init_97 : decode cX9_init 97 = .ok (.getfield 7, 3) := by decide +kernel
theorem dX9_init_100 : decode cX9_init 100 = .ok (.iconst 1, 1) := by decide +kernel
theorem dX9_init_101 : decode cX9_init 101 = .ok (.iconst 5, 1) := by decide +kernel
theorem dX9_init_102 : decode cX9_init 102 = .ok (.iastore, 1) := by decide +kernel
theorem dX9_init_103 : decode cX9_init 103 = .ok (.bipush 42, 2) := by decide +kernel
theorem dX9_init_105 : decode cX9_init 105 = .ok (.istore_n 1, 1) := by decide +kernel
theorem dX9_init_106 : decode cX9_init 106 = .ok (.iload_n 1, 1) := by decide +kernel
theorem dX9_init_107 : decode cX9_init 107 = .ok (.sipush 442, 3) := by decide +kernel
theorem dX9_init_110 : decode cX9_init 110 = .ok (.if_icmp .ge 16, 3) := by decide +kernel
theorem dX9_init_113 : decode cX9_init 113 = .ok (.aload_n 0, 1) := by decide +kernel
theorem dX9_init_114 : decode cX9_init 114 = .ok (.getfield 7, 3) := by decide +kernel
theorem dX9_init_117 : decode cX9_init 117 = .ok (.iload_n 1, 1) := by decide +kernel
theorem dX9_init_118 : decode cX9_init 118 = .ok (.iconst (-1), 1) := by decide +kernel
theorem dX9_init_119 : decode cX9_init 119 = .ok (.iastore, 1) := by decide +kernel
theorem dX9_init_120 : decode cX9_init 120 = .ok (.iinc 1 1, 3) := by decide +kernel
theorem dX9_init_123 : decode cX9_init 123 = .ok (.goto (-17), 3) := by decide +kernel
theorem dX9_init_126 : decode cX9_init 126 = .ok (.return_, 1) := by decide +kernel
theorem dX9_thrown_0 : decode cX9_thrown 0 = .ok (.aload_n 0, 1) := by decide +kernel
theorem dX9_thrown_1 : decode cX9_thrown 1 = .ok (.getfield 44, 3) := by decide +kernel
theorem dX9_thrown_4 : decode cX9_thrown 4 = .ok (.ireturn, 1) := by decide +kernel
theorem dX9_fails_0 : decode cX9_fails 0 = .ok (.aload_n 0, 1) := by decide +kernel
theorem dX9_fails_1 : decode cX9_fails 1 = .ok (.iload_n 1, 1) := by decide +kernel
theorem dX9_fails_2 : decode cX9_fails 2 = .ok (.putfield 44, 3) := by decide +kernel
theorem dX9_fails_5 : decode cX9_fails 5 = .ok (.iconst 0, 1) := by decide +kernel
theorem dX9_fails_6 : decode cX9_fails 6 = .ok (.ireturn, 1) := by decide +kernel
theorem dX9_in_0 : decode cX9_in 0 = .ok (.iload_n 0, 1) := by decide +kernel
theorem dX9_in_1 : decode cX9_in 1 = .ok (.iload_n 1, 1) := by decide +kernel
theorem dX9_in_2 : decode cX9_in 2 = .ok (.if_icmp .lt 12, 3) := by decide +kernel
theorem dX9_in_5 : decode cX9_in 5 = .ok (.iload_n 0, 1) := by decide +kernel
theorem dX9_in_6 : decode cX9_in 6 = .ok (.iload_n 2, 1) := by decide +kernel
theorem dX9_in_7 : decode cX9_in 7 = .ok (.if_icmp .gt 7, 3) := by decide +kernel
theorem dX9_in_10 : decode cX9_in 10 = .ok (.iconst 1, 1) := by decide +kernel
theorem dX9_in_11 : decode cX9_in 11 = .ok (.goto 4, 3) := by decide +kernel
theorem dX9_in_14 : decode cX9_in 14 = .ok (.iconst 0, 1) := by decide +kernel
theorem dX9_in_15 : decode cX9_in 15 = .ok (.ireturn, 1) := by decide +kernel
set_option maxRecDepth 20000 in
theorem ggX9_isTask_X9_in : GoodIn wsX9_isTask wsX9_in := goodIn_r _ [6] (by decide +kernel) (by decide +kernel)
set_option maxRecDepth 20000 in
theorem gX9_isTask_X9_in : GoodIn wsX9_isTask (va_wsS RX9 48 yX9_in wsX9_in) := goodIn_app (goodIn_of _ (by decide +kernel)) ggX9_isTask_X9_in
theorem dX9_isTask_0 : decode cX9_isTask 0 = .ok (.aload_n 0, 1) := by decide +kernel
theorem dX9_isTask_1 : decode cX9_isTask 1 = .ok (.iload_n 1, 1) := by decide +kernel
theorem dX9_isTask_2 : decode cX9_isTask 2 = .ok (.iconst 0, 1) := by decide +kernel
theorem dX9_isTask_3 : decode cX9_isTask 3 = .ok (.aload_n 0, 1) := by decide +kernel
theorem dX9_isTask_4 : decode cX9_isTask 4 = .ok (.getfield 7, 3) := by decide +kernel
theorem dX9_isTask_7 : decode cX9_isTask 7 = .ok (.iconst 0, 1) := by decide +kernel
theorem dX9_isTask_8 : decode cX9_isTask 8 = .ok (.iaload, 1) := by decide +kernel
theorem dX9_isTask_9 : decode cX9_isTask 9 = .ok (.iconst 1, 1) := by decide +kernel
theorem dX9_isTask_10 : decode cX9_isTask 10 = .ok (.isub, 1) := by decide +kernel
theorem dX9_isTask_11 : decode cX9_isTask 11 = .ok (.invokestatic 48, 3) := by decide +kernel
theorem dX9_isTask_14 : decode cX9_isTask 14 = .ok (.ifCond .eq 7, 3) := by decide +kernel
theorem dX9_isTask_17 : decode cX9_isTask 17 = .ok (.iconst 0, 1) := by decide +kernel
theorem dX9_isTask_18 : decode cX9_isTask 18 = .ok (.goto 4, 3) := by decide +kernel
theorem dX9_isTask_21 : decode cX9_isTask 21 = .ok (.iconst 1, 1) := by decide +kernel
theorem dX9_isTask_22 : decode cX9_isTask 22 = .ok (.putfield 44, 3) := by decide +kernel
theorem dX9_isTask_25 : decode cX9_isTask 25 = .ok (.aload_n 0, 1) := by decide +kernel
theorem dX9_isTask_26 : decode cX9_isTask 26 = .ok (.getfield 44, 3) := by decide +kernel
theorem dX9_isTask_29 : decode cX9_isTask 29 = .ok (.ifCond .ne 7, 3) := by decide +kernel
theorem dX9_isTask_32 : decode cX9_isTask 32 = .ok (.iconst 1, 1) := by decide +kernel
theorem dX9_isTask_33 : decode cX9_isTask 33 = .ok (.goto 4, 3) := by decide +kernel
theorem dX9_isTask_36 : decode cX9_isTask 36 = .ok (.iconst 0, 1) := by decide +kernel
theorem dX9_isTask_37 : decode cX9_isTask 37 = .ok (.ireturn, 1) := by decide +kernel
set_option maxRecDepth 20000 in
theorem ggX9_are_X9_in : GoodIn wsX9_are wsX9_in := goodIn_r _ [6] (by decide +kernel) (by decide +kernel)
set_option maxRecDepth 20000 in
theorem gX9_are_X9_in : GoodIn wsX9_are (va_wsS RX9 48 yX9_in wsX9_in) := goodIn_app (goodIn_of _ (by decide +kernel)) ggX9_are_X9_in
theorem dX9_are_0 : decode cX9_are 0 = .ok (.aload_n 0, 1) := by decide +kernel
theorem dX9_are_1 : decode cX9_are 1 = .ok (.iload_n 1, 1) := by decide +kernel
theorem dX9_are_2 : decode cX9_are 2 = .ok (.iconst 0, 1) := by decide +kernel
theorem dX9_are_3 : decode cX9_are 3 = .ok (.aload_n 0, 1) := by decide +kernel
theorem dX9_are_4 : decode cX9_are 4 = .ok (.getfield 7, 3) := by decide +kernel
theorem dX9_are_7 : decode cX9_are 7 = .ok (.iconst 0, 1) := by decide +kernel
theorem dX9_are_8 : decode cX9_are 8 = .ok (.iaload, 1) := by decide +kernel
theorem dX9_are_9 : decode cX9_are 9 = .ok (.iconst 1, 1) := by decide +kernel
theorem dX9_are_10 : decode cX9_are 10 = .ok (.isub, 1) := by decide +kernel
theorem dX9_are_11 : decode cX9_are 11 = .ok (.invokestatic 48, 3) := by decide +kernel
theorem dX9_are_14 : decode cX9_are 14 = .ok (.ifCond .eq 23, 3) := by decide +kernel
theorem dX9_are_17 : decode cX9_are 17 = .ok (.iload_n 2, 1) := by decide +kernel
theorem dX9_are_18 : decode cX9_are 18 = .ok (.iconst 0, 1) := by decide +kernel
theorem dX9_are_19 : decode cX9_are 19 = .ok (.aload_n 0, 1) := by decide +kernel
theorem dX9_are_20 : decode cX9_are 20 = .ok (.getfield 7, 3) := by decide +kernel
theorem dX9_are_23 : decode cX9_are 23 = .ok (.iconst 0, 1) := by decide +kernel
theorem dX9_are_24 : decode cX9_are 24 = .ok (.iaload, 1) := by decide +kernel
theorem dX9_are_25 : decode cX9_are 25 = .ok (.iconst 1, 1) := by decide +kernel
theorem dX9_are_26 : decode cX9_are 26 = .ok (.isub, 1) := by decide +kernel
theorem dX9_are_27 : decode cX9_are 27 = .ok (.invokestatic 48, 3) := by decide +kernel
theorem dX9_are_30 : decode cX9_are 30 = .ok (.ifCond .eq 7, 3) := by decide +kernel
theorem dX9_are_33 : decode cX9_are 33 = .ok (.iconst 0, 1) := by decide +kernel
theorem dX9_are_34 : decode cX9_are 34 = .ok (.goto 4, 3) := by decide +kernel
theorem dX9_are_37 : decode cX9_are 37 = .ok (.iconst 1, 1) := by decide +kernel
theorem dX9_are_38 : decode cX9_are 38 = .ok (.putfield 44, 3) := by decide +kernel
theorem dX9_are_41 : decode cX9_are 41 = .ok (.aload_n 0, 1) := by decide +kernel
theorem dX9_are_42 : decode cX9_are 42 = .ok (.getfield 44, 3) := by decide +kernel
theorem dX9_are_45 : decode cX9_are 45 = .ok (.ifCond .ne 7, 3) := by decide +kernel
theorem dX9_are_48 : decode cX9_are 48 = .ok (.iconst 1, 1) := by decide +kernel
theorem dX9_are_49 : decode cX9_are 49 = .ok (.goto 4, 3) := by decide +kernel
theorem dX9_are_52 : decode cX9_are 52 = .ok (.iconst 0, 1) := by decide +kernel
theorem dX9_are_53 : decode cX9_are 53 = .ok (.ireturn, 1) := by decide +kernel
theorem dX9_copies_0 : decode cX9_copies 0 = .ok (.iconst 0, 1) := by decide +kernel
theorem dX9_copies_1 : decode cX9_copies 1 = .ok (.istore 4, 2) := by decide +kernel
theorem dX9_copies_3 : decode cX9_copies 3 = .ok (.iload 4, 2) := by decide +kernel
theorem dX9_copies_5 : decode cX9_copies 5 = .ok (.sipush 442, 3) := by decide +kernel
theorem dX9_copies_8 : decode cX9_copies 8 = .ok (.if_icmp .ge 21, 3) := by decide +kernel
theorem dX9_copies_11 : decode cX9_copies 11 = .ok (.aload_n 2, 1) := by decide +kernel
theorem dX9_copies_12 : decode cX9_copies 12 = .ok (.iload_n 3, 1) := by decide +kernel
theorem dX9_copies_13 : decode cX9_copies 13 = .ok (.iload 4, 2) := by decide +kernel
theorem dX9_copies_15 : decode cX9_copies 15 = .ok (.iadd, 1) := by decide +kernel
theorem dX9_copies_16 : decode cX9_copies 16 = .ok (.aload_n 0, 1) := by decide +kernel
theorem dX9_copies_17 : decode cX9_copies 17 = .ok (.iload_n 1, 1) := by decide +kernel
theorem dX9_copies_18 : decode cX9_copies 18 = .ok (.iload 4, 2) := by decide +kernel
theorem dX9_copies_20 : decode cX9_copies 20 = .ok (.iadd, 1) := by decide +kernel
theorem dX9_copies_21 : decode cX9_copies 21 = .ok (.iaload, 1) := by decide +kernel
theorem dX9_copies_22 : decode cX9_copies 22 = .ok (.iastore, 1) := by decide +kernel
theorem dX9_copies_23 : decode cX9_copies 23 = .ok (.iinc 4 1, 3) := by decide +kernel
theorem dX9_copies_26 : decode cX9_copies 26 = .ok (.goto (-23), 3) := by decide +kernel
theorem dX9_copies_29 : decode cX9_copies 29 = .ok (.return_, 1) := by decide +kernel
set_option maxRecDepth 20000 in
theorem ggX9_keepsState_X9_copies : GoodIn wsX9_keepsState wsX9_copies := goodIn_r _ [7] (by decide +kernel) (by decide +kernel)
set_option maxRecDepth 20000 in
theorem gX9_keepsState_X9_copies : GoodIn wsX9_keepsState (va_wsS RX9 55 yX9_copies wsX9_copies) := goodIn_app (goodIn_of _ (by decide +kernel)) ggX9_keepsState_X9_copies
theorem dX9_keepsState_0 : decode cX9_keepsState 0 = .ok (.aload_n 0, 1) := by decide +kernel
theorem dX9_keepsState_1 : decode cX9_keepsState 1 = .ok (.getfield 52, 3) := by decide +kernel
theorem dX9_keepsState_4 : decode cX9_keepsState 4 = .ok (.iconst 5, 1) := by decide +kernel
theorem dX9_keepsState_5 : decode cX9_keepsState 5 = .ok (.if_icmp .ne 44, 3) := by decide +kernel
theorem dX9_keepsState_8 : decode cX9_keepsState 8 = .ok (.iconst 0, 1) := by decide +kernel
theorem dX9_keepsState_9 : decode cX9_keepsState 9 = .ok (.istore_n 1, 1) := by decide +kernel
theorem dX9_keepsState_10 : decode cX9_keepsState 10 = .ok (.iload_n 1, 1) := by decide +kernel
theorem dX9_keepsState_11 : decode cX9_keepsState 11 = .ok (.sipush 1768, 3) := by decide +kernel
theorem dX9_keepsState_14 : decode cX9_keepsState 14 = .ok (.if_icmp .ge 25, 3) := by decide +kernel
theorem dX9_keepsState_17 : decode cX9_keepsState 17 = .ok (.aload_n 0, 1) := by decide +kernel
theorem dX9_keepsState_18 : decode cX9_keepsState 18 = .ok (.getfield 16, 3) := by decide +kernel
theorem dX9_keepsState_21 : decode cX9_keepsState 21 = .ok (.iload_n 1, 1) := by decide +kernel
theorem dX9_keepsState_22 : decode cX9_keepsState 22 = .ok (.aload_n 0, 1) := by decide +kernel
theorem dX9_keepsState_23 : decode cX9_keepsState 23 = .ok (.getfield 16, 3) := by decide +kernel
theorem dX9_keepsState_26 : decode cX9_keepsState 26 = .ok (.iload_n 1, 1) := by decide +kernel
theorem dX9_keepsState_27 : decode cX9_keepsState 27 = .ok (.sipush 442, 3) := by decide +kernel
theorem dX9_keepsState_30 : decode cX9_keepsState 30 = .ok (.iadd, 1) := by decide +kernel
theorem dX9_keepsState_31 : decode cX9_keepsState 31 = .ok (.iaload, 1) := by decide +kernel
theorem dX9_keepsState_32 : decode cX9_keepsState 32 = .ok (.iastore, 1) := by decide +kernel
theorem dX9_keepsState_33 : decode cX9_keepsState 33 = .ok (.iinc 1 1, 3) := by decide +kernel
theorem dX9_keepsState_36 : decode cX9_keepsState 36 = .ok (.goto (-26), 3) := by decide +kernel
theorem dX9_keepsState_39 : decode cX9_keepsState 39 = .ok (.aload_n 0, 1) := by decide +kernel
theorem dX9_keepsState_40 : decode cX9_keepsState 40 = .ok (.dup, 1) := by decide +kernel
theorem dX9_keepsState_41 : decode cX9_keepsState 41 = .ok (.getfield 52, 3) := by decide +kernel
theorem dX9_keepsState_44 : decode cX9_keepsState 44 = .ok (.iconst 1, 1) := by decide +kernel
theorem dX9_keepsState_45 : decode cX9_keepsState 45 = .ok (.isub, 1) := by decide +kernel
theorem dX9_keepsState_46 : decode cX9_keepsState 46 = .ok (.putfield 52, 3) := by decide +kernel
theorem dX9_keepsState_49 : decode cX9_keepsState 49 = .ok (.aload_n 0, 1) := by decide +kernel
theorem dX9_keepsState_50 : decode cX9_keepsState 50 = .ok (.getfield 7, 3) := by decide +kernel
theorem dX9_keepsState_53 : decode cX9_keepsState 53 = .ok (.iconst 0, 1) := by decide +kernel
theorem dX9_keepsState_54 : decode cX9_keepsState 54 = .ok (.aload_n 0, 1) := by decide +kernel
theorem dX9_keepsState_55 : decode cX9_keepsState 55 = .ok (.getfield 16, 3) := by decide +kernel
theorem dX9_keepsState_58 : decode cX9_keepsState 58 = .ok (.sipush 442, 3) := by decide +kernel
theorem dX9_keepsState_61 : decode cX9_keepsState 61 = .ok (.aload_n 0, 1) := by decide +kernel
theorem dX9_keepsState_62 : decode cX9_keepsState 62 = .ok (.getfield 52, 3) := by decide +kernel
theorem dX9_keepsState_65 : decode cX9_keepsState 65 = .ok (.imul, 1) := by decide +kernel
theorem dX9_keepsState_66 : decode cX9_keepsState 66 = .ok (.invokestatic 55, 3) := by decide +kernel
theorem dX9_keepsState_69 : decode cX9_keepsState 69 = .ok (.aload_n 0, 1) := by decide +kernel
theorem dX9_keepsState_70 : decode cX9_keepsState 70 = .ok (.dup, 1) := by decide +kernel
theorem dX9_keepsState_71 : decode cX9_keepsState 71 = .ok (.getfield 52, 3) := by decide +kernel
theorem dX9_keepsState_74 : decode cX9_keepsState 74 = .ok (.iconst 1, 1) := by decide +kernel
theorem dX9_keepsState_75 : decode cX9_keepsState 75 = .ok (.iadd, 1) := by decide +kernel
theorem dX9_keepsState_76 : decode cX9_keepsState 76 = .ok (.putfield 52, 3) := by decide +kernel
theorem dX9_keepsState_79 : decode cX9_keepsState 79 = .ok (.return_, 1) := by decide +kernel
theorem dX9_lag_0 : decode cX9_lag 0 = .ok (.aload_n 0, 1) := by decide +kernel
theorem dX9_lag_1 : decode cX9_lag 1 = .ok (.bipush 42, 2) := by decide +kernel
theorem dX9_lag_3 : decode cX9_lag 3 = .ok (.bipush 20, 2) := by decide +kernel
theorem dX9_lag_5 : decode cX9_lag 5 = .ok (.iload_n 1, 1) := by decide +kernel
theorem dX9_lag_6 : decode cX9_lag 6 = .ok (.imul, 1) := by decide +kernel
theorem dX9_lag_7 : decode cX9_lag 7 = .ok (.iadd, 1) := by decide +kernel
theorem dX9_lag_8 : decode cX9_lag 8 = .ok (.iload_n 2, 1) := by decide +kernel
theorem dX9_lag_9 : decode cX9_lag 9 = .ok (.iadd, 1) := by decide +kernel
theorem dX9_lag_10 : decode cX9_lag 10 = .ok (.iaload, 1) := by decide +kernel
theorem dX9_lag_11 : decode cX9_lag 11 = .ok (.ireturn, 1) := by decide +kernel
theorem dX9_links_0 : decode cX9_links 0 = .ok (.iconst 0, 1) := by decide +kernel
theorem dX9_links_1 : decode cX9_links 1 = .ok (.istore_n 1, 1) := by decide +kernel
theorem dX9_links_2 : decode cX9_links 2 = .ok (.bipush 42, 2) := by decide +kernel
theorem dX9_links_4 : decode cX9_links 4 = .ok (.istore_n 2, 1) := by decide +kernel
theorem dX9_links_5 : decode cX9_links 5 = .ok (.iload_n 2, 1) := by decide +kernel
theorem dX9_links_6 : decode cX9_links 6 = .ok (.sipush 442, 3) := by decide +kernel
theorem dX9_links_9 : decode cX9_links 9 = .ok (.if_icmp .ge 23, 3) := by decide +kernel
theorem dX9_links_12 : decode cX9_links 12 = .ok (.iload_n 1, 1) := by decide +kernel
theorem dX9_links_13 : decode cX9_links 13 = .ok (.aload_n 0, 1) := by decide +kernel
theorem dX9_links_14 : decode cX9_links 14 = .ok (.iload_n 2, 1) := by decide +kernel
theorem dX9_links_15 : decode cX9_links 15 = .ok (.iaload, 1) := by decide +kernel
theorem dX9_links_16 : decode cX9_links 16 = .ok (.ifCond .ge 7, 3) := by decide +kernel
theorem dX9_links_19 : decode cX9_links 19 = .ok (.iconst 0, 1) := by decide +kernel
theorem dX9_links_20 : decode cX9_links 20 = .ok (.goto 4, 3) := by decide +kernel
theorem dX9_links_23 : decode cX9_links 23 = .ok (.iconst 1, 1) := by decide +kernel
theorem dX9_links_24 : decode cX9_links 24 = .ok (.iadd, 1) := by decide +kernel
theorem dX9_links_25 : decode cX9_links 25 = .ok (.istore_n 1, 1) := by decide +kernel
theorem dX9_links_26 : decode cX9_links 26 = .ok (.iinc 2 1, 3) := by decide +kernel
theorem dX9_links_29 : decode cX9_links 29 = .ok (.goto (-24), 3) := by decide +kernel
theorem dX9_links_32 : decode cX9_links 32 = .ok (.iload_n 1, 1) := by decide +kernel
theorem dX9_links_33 : decode cX9_links 33 = .ok (.ireturn, 1) := by decide +kernel
theorem dX9_starts_0 : decode cX9_starts 0 = .ok (.iconst 0, 1) := by decide +kernel
theorem dX9_starts_1 : decode cX9_starts 1 = .ok (.istore_n 2, 1) := by decide +kernel
theorem dX9_starts_2 : decode cX9_starts 2 = .ok (.iload_n 2, 1) := by decide +kernel
theorem dX9_starts_3 : decode cX9_starts 3 = .ok (.bipush 20, 2) := by decide +kernel
theorem dX9_starts_5 : decode cX9_starts 5 = .ok (.if_icmp .ge 16, 3) := by decide +kernel
theorem dX9_starts_8 : decode cX9_starts 8 = .ok (.aload_n 0, 1) := by decide +kernel
theorem dX9_starts_9 : decode cX9_starts 9 = .ok (.getfield 25, 3) := by decide +kernel
theorem dX9_starts_12 : decode cX9_starts 12 = .ok (.iload_n 2, 1) := by decide +kernel
theorem dX9_starts_13 : decode cX9_starts 13 = .ok (.iconst 0, 1) := by decide +kernel
theorem dX9_starts_14 : decode cX9_starts 14 = .ok (.iastore, 1) := by decide +kernel
theorem dX9_starts_15 : decode cX9_starts 15 = .ok (.iinc 2 1, 3) := by decide +kernel
theorem dX9_starts_18 : decode cX9_starts 18 = .ok (.goto (-16), 3) := by decide +kernel
theorem dX9_starts_21 : decode cX9_starts 21 = .ok (.iconst 1, 1) := by decide +kernel
theorem dX9_starts_22 : decode cX9_starts 22 = .ok (.istore_n 2, 1) := by decide +kernel
theorem dX9_starts_23 : decode cX9_starts 23 = .ok (.iload_n 2, 1) := by decide +kernel
theorem dX9_starts_24 : decode cX9_starts 24 = .ok (.ifCond .eq 88, 3) := by decide +kernel
theorem dX9_starts_27 : decode cX9_starts 27 = .ok (.iconst 0, 1) := by decide +kernel
theorem dX9_starts_28 : decode cX9_starts 28 = .ok (.istore_n 2, 1) := by decide +kernel
theorem dX9_starts_29 : decode cX9_starts 29 = .ok (.iconst 0, 1) := by decide +kernel
theorem dX9_starts_30 : decode cX9_starts 30 = .ok (.istore_n 3, 1) := by decide +kernel
theorem dX9_starts_31 : decode cX9_starts 31 = .ok (.iload_n 3, 1) := by decide +kernel
theorem dX9_starts_32 : decode cX9_starts 32 = .ok (.sipush 400, 3) := by decide +kernel
theorem dX9_starts_35 : decode cX9_starts 35 = .ok (.if_icmp .ge 74, 3) := by decide +kernel
theorem dX9_starts_38 : decode cX9_starts 38 = .ok (.iload_n 3, 1) := by decide +kernel
theorem dX9_starts_39 : decode cX9_starts 39 = .ok (.bipush 20, 2) := by decide +kernel
theorem dX9_starts_41 : decode cX9_starts 41 = .ok (.idiv, 1) := by decide +kernel
theorem dX9_starts_42 : decode cX9_starts 42 = .ok (.istore 4, 2) := by decide +kernel
theorem dX9_starts_44 : decode cX9_starts 44 = .ok (.aload_n 0, 1) := by decide +kernel
theorem dX9_starts_45 : decode cX9_starts 45 = .ok (.getfield 25, 3) := by decide +kernel
theorem dX9_starts_48 : decode cX9_starts 48 = .ok (.iload 4, 2) := by decide +kernel
theorem dX9_starts_50 : decode cX9_starts 50 = .ok (.iaload, 1) := by decide +kernel
theorem dX9_starts_51 : decode cX9_starts 51 = .ok (.aload_n 1, 1) := by decide +kernel
theorem dX9_starts_52 : decode cX9_starts 52 = .ok (.iconst 2, 1) := by decide +kernel
theorem dX9_starts_53 : decode cX9_starts 53 = .ok (.iload 4, 2) := by decide +kernel
theorem dX9_starts_55 : decode cX9_starts 55 = .ok (.iadd, 1) := by decide +kernel
theorem dX9_starts_56 : decode cX9_starts 56 = .ok (.iaload, 1) := by decide +kernel
theorem dX9_starts_57 : decode cX9_starts 57 = .ok (.iadd, 1) := by decide +kernel
theorem dX9_starts_58 : decode cX9_starts 58 = .ok (.aload_n 1, 1) := by decide +kernel
theorem dX9_starts_59 : decode cX9_starts 59 = .ok (.bipush 42, 2) := by decide +kernel
theorem dX9_starts_61 : decode cX9_starts 61 = .ok (.iload_n 3, 1) := by decide +kernel
theorem dX9_starts_62 : decode cX9_starts 62 = .ok (.iadd, 1) := by decide +kernel
theorem dX9_starts_63 : decode cX9_starts 63 = .ok (.iaload, 1) := by decide +kernel
theorem dX9_starts_64 : decode cX9_starts 64 = .ok (.iadd, 1) := by decide +kernel
theorem dX9_starts_65 : decode cX9_starts 65 = .ok (.istore 5, 2) := by decide +kernel
theorem dX9_starts_67 : decode cX9_starts 67 = .ok (.aload_n 1, 1) := by decide +kernel
theorem dX9_starts_68 : decode cX9_starts 68 = .ok (.bipush 42, 2) := by decide +kernel
theorem dX9_starts_70 : decode cX9_starts 70 = .ok (.iload_n 3, 1) := by decide +kernel
theorem dX9_starts_71 : decode cX9_starts 71 = .ok (.iadd, 1) := by decide +kernel
theorem dX9_starts_72 : decode cX9_starts 72 = .ok (.iaload, 1) := by decide +kernel
theorem dX9_starts_73 : decode cX9_starts 73 = .ok (.ifCond .lt 30, 3) := by decide +kernel
theorem dX9_starts_76 : decode cX9_starts 76 = .ok (.iload 5, 2) := by decide +kernel
theorem dX9_starts_78 : decode cX9_starts 78 = .ok (.aload_n 0, 1) := by decide +kernel
theorem dX9_starts_79 : decode cX9_starts 79 = .ok (.getfield 25, 3) := by decide +kernel
theorem dX9_starts_82 : decode cX9_starts 82 = .ok (.iload_n 3, 1) := by decide +kernel
theorem dX9_starts_83 : decode cX9_starts 83 = .ok (.bipush 20, 2) := by decide +kernel
theorem dX9_starts_85 : decode cX9_starts 85 = .ok (.irem, 1) := by decide +kernel
theorem dX9_starts_86 : decode cX9_starts 86 = .ok (.iaload, 1) := by decide +kernel
theorem dX9_starts_87 : decode cX9_starts 87 = .ok (.if_icmp .le 16, 3) := by decide +kernel
theorem dX9_starts_90 : decode cX9_starts 90 = .ok (.aload_n 0, 1) := by decide +kernel
theorem dX9_starts_91 : decode cX9_starts 91 = .ok (.getfield 25, 3) := by decide +kernel
theorem dX9_starts_94 : decode cX9_starts 94 = .ok (.iload_n 3, 1) := by decide +kernel
theorem dX9_starts_95 : decode cX9_starts 95 = .ok (.bipush 20, 2) := by decide +kernel
theorem dX9_starts_97 : decode cX9_starts 97 = .ok (.irem, 1) := by decide +kernel
theorem dX9_starts_98 : decode cX9_starts 98 = .ok (.iload 5, 2) := by decide +kernel
theorem dX9_starts_100 : decode cX9_starts 100 = .ok (.iastore, 1) := by decide +kernel
theorem dX9_starts_101 : decode cX9_starts 101 = .ok (.iconst 1, 1) := by decide +kernel
theorem dX9_starts_102 : decode cX9_starts 102 = .ok (.istore_n 2, 1) := by decide +kernel
theorem dX9_starts_103 : decode cX9_starts 103 = .ok (.iinc 3 1, 3) := by decide +kernel
theorem dX9_starts_106 : decode cX9_starts 106 = .ok (.goto (-75), 3) := by decide +kernel
theorem dX9_starts_109 : decode cX9_starts 109 = .ok (.goto (-86), 3) := by decide +kernel
theorem dX9_starts_112 : decode cX9_starts 112 = .ok (.iconst 0, 1) := by decide +kernel
theorem dX9_starts_113 : decode cX9_starts 113 = .ok (.istore_n 3, 1) := by decide +kernel
theorem dX9_starts_114 : decode cX9_starts 114 = .ok (.iconst 0, 1) := by decide +kernel
theorem dX9_starts_115 : decode cX9_starts 115 = .ok (.istore 4, 2) := by decide +kernel
theorem dX9_starts_117 : decode cX9_starts 117 = .ok (.iload 4, 2) := by decide +kernel
theorem dX9_starts_119 : decode cX9_starts 119 = .ok (.aload_n 1, 1) := by decide +kernel
theorem dX9_starts_120 : decode cX9_starts 120 = .ok (.iconst 0, 1) := by decide +kernel
theorem dX9_starts_121 : decode cX9_starts 121 = .ok (.iaload, 1) := by decide +kernel
theorem dX9_starts_122 : decode cX9_starts 122 = .ok (.if_icmp .ge 46, 3) := by decide +kernel
theorem dX9_starts_125 : decode cX9_starts 125 = .ok (.aload_n 0, 1) := by decide +kernel
theorem dX9_starts_126 : decode cX9_starts 126 = .ok (.getfield 25, 3) := by decide +kernel
theorem dX9_starts_129 : decode cX9_starts 129 = .ok (.iload 4, 2) := by decide +kernel
theorem dX9_starts_131 : decode cX9_starts 131 = .ok (.iaload, 1) := by decide +kernel
theorem dX9_starts_132 : decode cX9_starts 132 = .ok (.aload_n 1, 1) := by decide +kernel
theorem dX9_starts_133 : decode cX9_starts 133 = .ok (.iconst 2, 1) := by decide +kernel
theorem dX9_starts_134 : decode cX9_starts 134 = .ok (.iload 4, 2) := by decide +kernel
theorem dX9_starts_136 : decode cX9_starts 136 = .ok (.iadd, 1) := by decide +kernel
theorem dX9_starts_137 : decode cX9_starts 137 = .ok (.iaload, 1) := by decide +kernel
theorem dX9_starts_138 : decode cX9_starts 138 = .ok (.iadd, 1) := by decide +kernel
theorem dX9_starts_139 : decode cX9_starts 139 = .ok (.iload_n 3, 1) := by decide +kernel
theorem dX9_starts_140 : decode cX9_starts 140 = .ok (.if_icmp .le 20, 3) := by decide +kernel
theorem dX9_starts_143 : decode cX9_starts 143 = .ok (.aload_n 0, 1) := by decide +kernel
theorem dX9_starts_144 : decode cX9_starts 144 = .ok (.getfield 25, 3) := by decide +kernel
theorem dX9_starts_147 : decode cX9_starts 147 = .ok (.iload 4, 2) := by decide +kernel
theorem dX9_starts_149 : decode cX9_starts 149 = .ok (.iaload, 1) := by decide +kernel
theorem dX9_starts_150 : decode cX9_starts 150 = .ok (.aload_n 1, 1) := by decide +kernel
theorem dX9_starts_151 : decode cX9_starts 151 = .ok (.iconst 2, 1) := by decide +kernel
theorem dX9_starts_152 : decode cX9_starts 152 = .ok (.iload 4, 2) := by decide +kernel
theorem dX9_starts_154 : decode cX9_starts 154 = .ok (.iadd, 1) := by decide +kernel
theorem dX9_starts_155 : decode cX9_starts 155 = .ok (.iaload, 1) := by decide +kernel
theorem dX9_starts_156 : decode cX9_starts 156 = .ok (.iadd, 1) := by decide +kernel
theorem dX9_starts_157 : decode cX9_starts 157 = .ok (.goto 4, 3) := by decide +kernel
theorem dX9_starts_160 : decode cX9_starts 160 = .ok (.iload_n 3, 1) := by decide +kernel
theorem dX9_starts_161 : decode cX9_starts 161 = .ok (.istore_n 3, 1) := by decide +kernel
theorem dX9_starts_162 : decode cX9_starts 162 = .ok (.iinc 4 1, 3) := by decide +kernel
theorem dX9_starts_165 : decode cX9_starts 165 = .ok (.goto (-48), 3) := by decide +kernel
theorem dX9_starts_168 : decode cX9_starts 168 = .ok (.iload_n 3, 1) := by decide +kernel
theorem dX9_starts_169 : decode cX9_starts 169 = .ok (.ireturn, 1) := by decide +kernel
set_option maxRecDepth 20000 in
theorem ggX9_days_X9_starts : GoodIn wsX9_days wsX9_starts := goodIn_r _ [6, 7, 8, 9, 10, 11, 12, 13, 14, 15, 16, 17, 18, 19, 20, 21, 22, 23] (by decide +kernel) (by decide +kernel)
set_option maxRecDepth 20000 in
theorem gX9_days_X9_starts : GoodIn wsX9_days (wsV RX9 59 RX9 yX9_starts wsX9_starts) := goodIn_app (goodIn_of _ (by decide +kernel)) ggX9_days_X9_starts
theorem dX9_days_0 : decode cX9_days 0 = .ok (.aload_n 0, 1) := by decide +kernel
theorem dX9_days_1 : decode cX9_days 1 = .ok (.aload_n 1, 1) := by decide +kernel
theorem dX9_days_2 : decode cX9_days 2 = .ok (.invokevirtual 59, 3) := by decide +kernel
theorem dX9_days_5 : decode cX9_days 5 = .ok (.istore_n 2, 1) := by decide +kernel
theorem dX9_days_6 : decode cX9_days 6 = .ok (.iconst 0, 1) := by decide +kernel
theorem dX9_days_7 : decode cX9_days 7 = .ok (.istore_n 3, 1) := by decide +kernel
theorem dX9_days_8 : decode cX9_days 8 = .ok (.iload_n 3, 1) := by decide +kernel
theorem dX9_days_9 : decode cX9_days 9 = .ok (.bipush 20, 2) := by decide +kernel
theorem dX9_days_11 : decode cX9_days 11 = .ok (.if_icmp .ge 22, 3) := by decide +kernel
theorem dX9_days_14 : decode cX9_days 14 = .ok (.aload_n 0, 1) := by decide +kernel
theorem dX9_days_15 : decode cX9_days 15 = .ok (.getfield 28, 3) := by decide +kernel
theorem dX9_days_18 : decode cX9_days 18 = .ok (.iload_n 3, 1) := by decide +kernel
theorem dX9_days_19 : decode cX9_days 19 = .ok (.iload_n 2, 1) := by decide +kernel
theorem dX9_days_20 : decode cX9_days 20 = .ok (.aload_n 1, 1) := by decide +kernel
theorem dX9_days_21 : decode cX9_days 21 = .ok (.iconst 2, 1) := by decide +kernel
theorem dX9_days_22 : decode cX9_days 22 = .ok (.iload_n 3, 1) := by decide +kernel
theorem dX9_days_23 : decode cX9_days 23 = .ok (.iadd, 1) := by decide +kernel
theorem dX9_days_24 : decode cX9_days 24 = .ok (.iaload, 1) := by decide +kernel
theorem dX9_days_25 : decode cX9_days 25 = .ok (.isub, 1) := by decide +kernel
theorem dX9_days_26 : decode cX9_days 26 = .ok (.iastore, 1) := by decide +kernel
theorem dX9_days_27 : decode cX9_days 27 = .ok (.iinc 3 1, 3) := by decide +kernel
theorem dX9_days_30 : decode cX9_days 30 = .ok (.goto (-22), 3) := by decide +kernel
theorem dX9_days_33 : decode cX9_days 33 = .ok (.iconst 1, 1) := by decide +kernel
theorem dX9_days_34 : decode cX9_days 34 = .ok (.istore_n 3, 1) := by decide +kernel
theorem dX9_days_35 : decode cX9_days 35 = .ok (.iload_n 3, 1) := by decide +kernel
theorem dX9_days_36 : decode cX9_days 36 = .ok (.ifCond .eq 92, 3) := by decide +kernel
theorem dX9_days_39 : decode cX9_days 39 = .ok (.iconst 0, 1) := by decide +kernel
theorem dX9_days_40 : decode cX9_days 40 = .ok (.istore_n 3, 1) := by decide +kernel
theorem dX9_days_41 : decode cX9_days 41 = .ok (.iconst 0, 1) := by decide +kernel
theorem dX9_days_42 : decode cX9_days 42 = .ok (.istore 4, 2) := by decide +kernel
theorem dX9_days_44 : decode cX9_days 44 = .ok (.iload 4, 2) := by decide +kernel
theorem dX9_days_46 : decode cX9_days 46 = .ok (.sipush 400, 3) := by decide +kernel
theorem dX9_days_49 : decode cX9_days 49 = .ok (.if_icmp .ge 76, 3) := by decide +kernel
theorem dX9_days_52 : decode cX9_days 52 = .ok (.iload 4, 2) := by decide +kernel
theorem dX9_days_54 : decode cX9_days 54 = .ok (.bipush 20, 2) := by decide +kernel
theorem dX9_days_56 : decode cX9_days 56 = .ok (.idiv, 1) := by decide +kernel
theorem dX9_days_57 : decode cX9_days 57 = .ok (.istore 5, 2) := by decide +kernel
theorem dX9_days_59 : decode cX9_days 59 = .ok (.aload_n 0, 1) := by decide +kernel
theorem dX9_days_60 : decode cX9_days 60 = .ok (.getfield 28, 3) := by decide +kernel
theorem dX9_days_63 : decode cX9_days 63 = .ok (.iload 4, 2) := by decide +kernel
theorem dX9_days_65 : decode cX9_days 65 = .ok (.bipush 20, 2) := by decide +kernel
theorem dX9_days_67 : decode cX9_days 67 = .ok (.irem, 1) := by decide +kernel
theorem dX9_days_68 : decode cX9_days 68 = .ok (.iaload, 1) := by decide +kernel
theorem dX9_days_69 : decode cX9_days 69 = .ok (.aload_n 1, 1) := by decide +kernel
theorem dX9_days_70 : decode cX9_days 70 = .ok (.bipush 42, 2) := by decide +kernel
theorem dX9_days_72 : decode cX9_days 72 = .ok (.iload 4, 2) := by decide +kernel
theorem dX9_days_74 : decode cX9_days 74 = .ok (.iadd, 1) := by decide +kernel
theorem dX9_days_75 : decode cX9_days 75 = .ok (.iaload, 1) := by decide +kernel
theorem dX9_days_76 : decode cX9_days 76 = .ok (.isub, 1) := by decide +kernel
theorem dX9_days_77 : decode cX9_days 77 = .ok (.aload_n 1, 1) := by decide +kernel
theorem dX9_days_78 : decode cX9_days 78 = .ok (.iconst 2, 1) := by decide +kernel
theorem dX9_days_79 : decode cX9_days 79 = .ok (.iload 5, 2) := by decide +kernel
theorem dX9_days_81 : decode cX9_days 81 = .ok (.iadd, 1) := by decide +kernel
theorem dX9_days_82 : decode cX9_days 82 = .ok (.iaload, 1) := by decide +kernel
theorem dX9_days_83 : decode cX9_days 83 = .ok (.isub, 1) := by decide +kernel
theorem dX9_days_84 : decode cX9_days 84 = .ok (.istore 6, 2) := by decide +kernel
theorem dX9_days_86 : decode cX9_days 86 = .ok (.aload_n 1, 1) := by decide +kernel
theorem dX9_days_87 : decode cX9_days 87 = .ok (.bipush 42, 2) := by decide +kernel
theorem dX9_days_89 : decode cX9_days 89 = .ok (.iload 4, 2) := by decide +kernel
theorem dX9_days_91 : decode cX9_days 91 = .ok (.iadd, 1) := by decide +kernel
theorem dX9_days_92 : decode cX9_days 92 = .ok (.iaload, 1) := by decide +kernel
theorem dX9_days_93 : decode cX9_days 93 = .ok (.ifCond .lt 26, 3) := by decide +kernel
theorem dX9_days_96 : decode cX9_days 96 = .ok (.iload 6, 2) := by decide +kernel
theorem dX9_days_98 : decode cX9_days 98 = .ok (.aload_n 0, 1) := by decide +kernel
theorem dX9_days_99 : decode cX9_days 99 = .ok (.getfield 28, 3) := by decide +kernel
theorem dX9_days_102 : decode cX9_days 102 = .ok (.iload 5, 2) := by decide +kernel
theorem dX9_days_104 : decode cX9_days 104 = .ok (.iaload, 1) := by decide +kernel
theorem dX9_days_105 : decode cX9_days 105 = .ok (.if_icmp .ge 14, 3) := by decide +kernel
theorem dX9_days_108 : decode cX9_days 108 = .ok (.aload_n 0, 1) := by decide +kernel
theorem dX9_days_109 : decode cX9_days 109 = .ok (.getfield 28, 3) := by decide +kernel
theorem dX9_days_112 : decode cX9_days 112 = .ok (.iload 5, 2) := by decide +kernel
theorem dX9_days_114 : decode cX9_days 114 = .ok (.iload 6, 2) := by decide +kernel
theorem dX9_days_116 : decode cX9_days 116 = .ok (.iastore, 1) := by decide +kernel
theorem dX9_days_117 : decode cX9_days 117 = .ok (.iconst 1, 1) := by decide +kernel
theorem dX9_days_118 : decode cX9_days 118 = .ok (.istore_n 3, 1) := by decide +kernel
theorem dX9_days_119 : decode cX9_days 119 = .ok (.iinc 4 1, 3) := by decide +kernel
theorem dX9_days_122 : decode cX9_days 122 = .ok (.goto (-78), 3) := by decide +kernel
theorem dX9_days_125 : decode cX9_days 125 = .ok (.goto (-90), 3) := by decide +kernel
theorem dX9_days_128 : decode cX9_days 128 = .ok (.iload_n 2, 1) := by decide +kernel
theorem dX9_days_129 : decode cX9_days 129 = .ok (.ireturn, 1) := by decide +kernel
theorem dX9_ahead_0 : decode cX9_ahead 0 = .ok (.iconst 1, 1) := by decide +kernel
theorem dX9_ahead_1 : decode cX9_ahead 1 = .ok (.iload_n 1, 1) := by decide +kernel
theorem dX9_ahead_2 : decode cX9_ahead 2 = .ok (.ishl, 1) := by decide +kernel
theorem dX9_ahead_3 : decode cX9_ahead 3 = .ok (.istore_n 3, 1) := by decide +kernel
theorem dX9_ahead_4 : decode cX9_ahead 4 = .ok (.iconst 0, 1) := by decide +kernel
theorem dX9_ahead_5 : decode cX9_ahead 5 = .ok (.istore 4, 2) := by decide +kernel
theorem dX9_ahead_7 : decode cX9_ahead 7 = .ok (.iload 4, 2) := by decide +kernel
theorem dX9_ahead_9 : decode cX9_ahead 9 = .ok (.iload_n 3, 1) := by decide +kernel
theorem dX9_ahead_10 : decode cX9_ahead 10 = .ok (.if_icmp .eq 64, 3) := by decide +kernel
theorem dX9_ahead_13 : decode cX9_ahead 13 = .ok (.iload_n 3, 1) := by decide +kernel
theorem dX9_ahead_14 : decode cX9_ahead 14 = .ok (.istore 4, 2) := by decide +kernel
theorem dX9_ahead_16 : decode cX9_ahead 16 = .ok (.iconst 0, 1) := by decide +kernel
theorem dX9_ahead_17 : decode cX9_ahead 17 = .ok (.istore 5, 2) := by decide +kernel
theorem dX9_ahead_19 : decode cX9_ahead 19 = .ok (.iload 5, 2) := by decide +kernel
theorem dX9_ahead_21 : decode cX9_ahead 21 = .ok (.sipush 400, 3) := by decide +kernel
theorem dX9_ahead_24 : decode cX9_ahead 24 = .ok (.if_icmp .ge 47, 3) := by decide +kernel
theorem dX9_ahead_27 : decode cX9_ahead 27 = .ok (.iload_n 3, 1) := by decide +kernel
theorem dX9_ahead_28 : decode cX9_ahead 28 = .ok (.aload_n 0, 1) := by decide +kernel
theorem dX9_ahead_29 : decode cX9_ahead 29 = .ok (.bipush 42, 2) := by decide +kernel
theorem dX9_ahead_31 : decode cX9_ahead 31 = .ok (.iload 5, 2) := by decide +kernel
theorem dX9_ahead_33 : decode cX9_ahead 33 = .ok (.iadd, 1) := by decide +kernel
theorem dX9_ahead_34 : decode cX9_ahead 34 = .ok (.iaload, 1) := by decide +kernel
theorem dX9_ahead_35 : decode cX9_ahead 35 = .ok (.ifCond .lt 27, 3) := by decide +kernel
theorem dX9_ahead_38 : decode cX9_ahead 38 = .ok (.iload 4, 2) := by decide +kernel
theorem dX9_ahead_40 : decode cX9_ahead 40 = .ok (.iload 5, 2) := by decide +kernel
theorem dX9_ahead_42 : decode cX9_ahead 42 = .ok (.bipush 20, 2) := by decide +kernel
theorem dX9_ahead_44 : decode cX9_ahead 44 = .ok (.idiv, 1) := by decide +kernel
theorem dX9_ahead_45 : decode cX9_ahead 45 = .ok (.ishr, 1) := by decide +kernel
theorem dX9_ahead_46 : decode cX9_ahead 46 = .ok (.iconst 1, 1) := by decide +kernel
theorem dX9_ahead_47 : decode cX9_ahead 47 = .ok (.iand, 1) := by decide +kernel
theorem dX9_ahead_48 : decode cX9_ahead 48 = .ok (.iconst 1, 1) := by decide +kernel
theorem dX9_ahead_49 : decode cX9_ahead 49 = .ok (.if_icmp .ne 13, 3) := by decide +kernel
theorem dX9_ahead_52 : decode cX9_ahead 52 = .ok (.iconst 1, 1) := by decide +kernel
theorem dX9_ahead_53 : decode cX9_ahead 53 = .ok (.iload 5, 2) := by decide +kernel
theorem dX9_ahead_55 : decode cX9_ahead 55 = .ok (.bipush 20, 2) := by decide +kernel
theorem dX9_ahead_57 : decode cX9_ahead 57 = .ok (.irem, 1) := by decide +kernel
theorem dX9_ahead_58 : decode cX9_ahead 58 = .ok (.ishl, 1) := by decide +kernel
theorem dX9_ahead_59 : decode cX9_ahead 59 = .ok (.goto 4, 3) := by decide +kernel
theorem dX9_ahead_62 : decode cX9_ahead 62 = .ok (.iconst 0, 1) := by decide +kernel
theorem dX9_ahead_63 : decode cX9_ahead 63 = .ok (.ior, 1) := by decide +kernel
theorem dX9_ahead_64 : decode cX9_ahead 64 = .ok (.istore_n 3, 1) := by decide +kernel
theorem dX9_ahead_65 : decode cX9_ahead 65 = .ok (.iinc 5 1, 3) := by decide +kernel
theorem dX9_ahead_68 : decode cX9_ahead 68 = .ok (.goto (-49), 3) := by decide +kernel
theorem dX9_ahead_71 : decode cX9_ahead 71 = .ok (.goto (-64), 3) := by decide +kernel
theorem dX9_ahead_74 : decode cX9_ahead 74 = .ok (.iload_n 1, 1) := by decide +kernel
theorem dX9_ahead_75 : decode cX9_ahead 75 = .ok (.iload_n 2, 1) := by decide +kernel
theorem dX9_ahead_76 : decode cX9_ahead 76 = .ok (.if_icmp .eq 16, 3) := by decide +kernel
theorem dX9_ahead_79 : decode cX9_ahead 79 = .ok (.iload_n 3, 1) := by decide +kernel
theorem dX9_ahead_80 : decode cX9_ahead 80 = .ok (.iload_n 2, 1) := by decide +kernel
theorem dX9_ahead_81 : decode cX9_ahead 81 = .ok (.ishr, 1) := by decide +kernel
theorem dX9_ahead_82 : decode cX9_ahead 82 = .ok (.iconst 1, 1) := by decide +kernel
theorem dX9_ahead_83 : decode cX9_ahead 83 = .ok (.iand, 1) := by decide +kernel
theorem dX9_ahead_84 : decode cX9_ahead 84 = .ok (.iconst 1, 1) := by decide +kernel
theorem dX9_ahead_85 : decode cX9_ahead 85 = .ok (.if_icmp .ne 7, 3) := by decide +kernel
theorem dX9_ahead_88 : decode cX9_ahead 88 = .ok (.iconst 1, 1) := by decide +kernel
theorem dX9_ahead_89 : decode cX9_ahead 89 = .ok (.goto 4, 3) := by decide +kernel
theorem dX9_ahead_92 : decode cX9_ahead 92 = .ok (.iconst 0, 1) := by decide +kernel
theorem dX9_ahead_93 : decode cX9_ahead 93 = .ok (.ireturn, 1) := by decide +kernel
theorem dX9_busy_0 : decode cX9_busy 0 = .ok (.iconst 0, 1) := by decide +kernel
theorem dX9_busy_1 : decode cX9_busy 1 = .ok (.istore_n 3, 1) := by decide +kernel
theorem dX9_busy_2 : decode cX9_busy 2 = .ok (.iconst 0, 1) := by decide +kernel
theorem dX9_busy_3 : decode cX9_busy 3 = .ok (.istore 4, 2) := by decide +kernel
theorem dX9_busy_5 : decode cX9_busy 5 = .ok (.iload 4, 2) := by decide +kernel
theorem dX9_busy_7 : decode cX9_busy 7 = .ok (.aload_n 1, 1) := by decide +kernel
theorem dX9_busy_8 : decode cX9_busy 8 = .ok (.iconst 0, 1) := by decide +kernel
theorem dX9_busy_9 : decode cX9_busy 9 = .ok (.iaload, 1) := by decide +kernel
theorem dX9_busy_10 : decode cX9_busy 10 = .ok (.if_icmp .ge 74, 3) := by decide +kernel
theorem dX9_busy_13 : decode cX9_busy 13 = .ok (.aload_n 0, 1) := by decide +kernel
theorem dX9_busy_14 : decode cX9_busy 14 = .ok (.getfield 31, 3) := by decide +kernel
theorem dX9_busy_17 : decode cX9_busy 17 = .ok (.iload 4, 2) := by decide +kernel
theorem dX9_busy_19 : decode cX9_busy 19 = .ok (.iaload, 1) := by decide +kernel
theorem dX9_busy_20 : decode cX9_busy 20 = .ok (.ifCond .lt 36, 3) := by decide +kernel
theorem dX9_busy_23 : decode cX9_busy 23 = .ok (.iload_n 2, 1) := by decide +kernel
theorem dX9_busy_24 : decode cX9_busy 24 = .ok (.aload_n 0, 1) := by decide +kernel
theorem dX9_busy_25 : decode cX9_busy 25 = .ok (.getfield 31, 3) := by decide +kernel
theorem dX9_busy_28 : decode cX9_busy 28 = .ok (.iload 4, 2) := by decide +kernel
theorem dX9_busy_30 : decode cX9_busy 30 = .ok (.iaload, 1) := by decide +kernel
theorem dX9_busy_31 : decode cX9_busy 31 = .ok (.if_icmp .lt 25, 3) := by decide +kernel
theorem dX9_busy_34 : decode cX9_busy 34 = .ok (.iload_n 2, 1) := by decide +kernel
theorem dX9_busy_35 : decode cX9_busy 35 = .ok (.aload_n 0, 1) := by decide +kernel
theorem dX9_busy_36 : decode cX9_busy 36 = .ok (.getfield 31, 3) := by decide +kernel
theorem dX9_busy_39 : decode cX9_busy 39 = .ok (.iload 4, 2) := by decide +kernel
theorem dX9_busy_41 : decode cX9_busy 41 = .ok (.iaload, 1) := by decide +kernel
theorem dX9_busy_42 : decode cX9_busy 42 = .ok (.aload_n 1, 1) := by decide +kernel
theorem dX9_busy_43 : decode cX9_busy 43 = .ok (.iconst 2, 1) := by decide +kernel
theorem dX9_busy_44 : decode cX9_busy 44 = .ok (.iload 4, 2) := by decide +kernel
theorem dX9_busy_46 : decode cX9_busy 46 = .ok (.iadd, 1) := by decide +kernel
theorem dX9_busy_47 : decode cX9_busy 47 = .ok (.iaload, 1) := by decide +kernel
theorem dX9_busy_48 : decode cX9_busy 48 = .ok (.iadd, 1) := by decide +kernel
theorem dX9_busy_49 : decode cX9_busy 49 = .ok (.if_icmp .ge 7, 3) := by decide +kernel
theorem dX9_busy_52 : decode cX9_busy 52 = .ok (.iconst 1, 1) := by decide +kernel
theorem dX9_busy_53 : decode cX9_busy 53 = .ok (.goto 4, 3) := by decide +kernel
theorem dX9_busy_56 : decode cX9_busy 56 = .ok (.iconst 0, 1) := by decide +kernel
theorem dX9_busy_57 : decode cX9_busy 57 = .ok (.istore 5, 2) := by decide +kernel
theorem dX9_busy_59 : decode cX9_busy 59 = .ok (.iload_n 3, 1) := by decide +kernel
theorem dX9_busy_60 : decode cX9_busy 60 = .ok (.iload 5, 2) := by decide +kernel
theorem dX9_busy_62 : decode cX9_busy 62 = .ok (.ifCond .eq 13, 3) := by decide +kernel
theorem dX9_busy_65 : decode cX9_busy 65 = .ok (.aload_n 1, 1) := by decide +kernel
theorem dX9_busy_66 : decode cX9_busy 66 = .ok (.bipush 22, 2) := by decide +kernel
theorem dX9_busy_68 : decode cX9_busy 68 = .ok (.iload 4, 2) := by decide +kernel
theorem dX9_busy_70 : decode cX9_busy 70 = .ok (.iadd, 1) := by decide +kernel
theorem dX9_busy_71 : decode cX9_busy 71 = .ok (.iaload, 1) := by decide +kernel
theorem dX9_busy_72 : decode cX9_busy 72 = .ok (.goto 4, 3) := by decide +kernel
theorem dX9_busy_75 : decode cX9_busy 75 = .ok (.iconst 0, 1) := by decide +kernel
theorem dX9_busy_76 : decode cX9_busy 76 = .ok (.iadd, 1) := by decide +kernel
theorem dX9_busy_77 : decode cX9_busy 77 = .ok (.istore_n 3, 1) := by decide +kernel
theorem dX9_busy_78 : decode cX9_busy 78 = .ok (.iinc 4 1, 3) := by decide +kernel
theorem dX9_busy_81 : decode cX9_busy 81 = .ok (.goto (-76), 3) := by decide +kernel
theorem dX9_busy_84 : decode cX9_busy 84 = .ok (.iload_n 3, 1) := by decide +kernel
theorem dX9_busy_85 : decode cX9_busy 85 = .ok (.ireturn, 1) := by decide +kernel
set_option maxRecDepth 20000 in
theorem ggX9_nextTask_X9_lag : GoodIn wsX9_nextTask wsX9_lag := goodIn_r _ [6] (by decide +kernel) (by decide +kernel)
set_option maxRecDepth 20000 in
theorem gX9_nextTask_X9_lag : GoodIn wsX9_nextTask (va_wsS RX9 63 yX9_lag wsX9_lag) := goodIn_app (goodIn_of _ (by decide +kernel)) ggX9_nextTask_X9_lag
theorem dX9_nextTask_0 : decode cX9_nextTask 0 = .ok (.iconst (-1), 1) := by decide +kernel
theorem dX9_nextTask_1 : decode cX9_nextTask 1 = .ok (.istore_n 2, 1) := by decide +kernel
theorem dX9_nextTask_2 : decode cX9_nextTask 2 = .ok (.iconst 0, 1) := by decide +kernel
theorem dX9_nextTask_3 : decode cX9_nextTask 3 = .ok (.istore_n 3, 1) := by decide +kernel
theorem dX9_nextTask_4 : decode cX9_nextTask 4 = .ok (.iload_n 3, 1) := by decide +kernel
theorem dX9_nextTask_5 : decode cX9_nextTask 5 = .ok (.aload_n 1, 1) := by decide +kernel
theorem dX9_nextTask_6 : decode cX9_nextTask 6 = .ok (.iconst 0, 1) := by decide +kernel
theorem dX9_nextTask_7 : decode cX9_nextTask 7 = .ok (.iaload, 1) := by decide +kernel
theorem dX9_nextTask_8 : decode cX9_nextTask 8 = .ok (.if_icmp .ge 104, 3) := by decide +kernel
theorem dX9_nextTask_11 : decode cX9_nextTask 11 = .ok (.aload_n 0, 1) := by decide +kernel
theorem dX9_nextTask_12 : decode cX9_nextTask 12 = .ok (.getfield 31, 3) := by decide +kernel
theorem dX9_nextTask_15 : decode cX9_nextTask 15 = .ok (.iload_n 3, 1) := by decide +kernel
theorem dX9_nextTask_16 : decode cX9_nextTask 16 = .ok (.iaload, 1) := by decide +kernel
theorem dX9_nextTask_17 : decode cX9_nextTask 17 = .ok (.ifCond .ge 7, 3) := by decide +kernel
theorem dX9_nextTask_20 : decode cX9_nextTask 20 = .ok (.iconst 1, 1) := by decide +kernel
theorem dX9_nextTask_21 : decode cX9_nextTask 21 = .ok (.goto 4, 3) := by decide +kernel
theorem dX9_nextTask_24 : decode cX9_nextTask 24 = .ok (.iconst 0, 1) := by decide +kernel
theorem dX9_nextTask_25 : decode cX9_nextTask 25 = .ok (.istore 4, 2) := by decide +kernel
theorem dX9_nextTask_27 : decode cX9_nextTask 27 = .ok (.iconst 0, 1) := by decide +kernel
theorem dX9_nextTask_28 : decode cX9_nextTask 28 = .ok (.istore 5, 2) := by decide +kernel
theorem dX9_nextTask_30 : decode cX9_nextTask 30 = .ok (.iload 5, 2) := by decide +kernel
theorem dX9_nextTask_32 : decode cX9_nextTask 32 = .ok (.aload_n 1, 1) := by decide +kernel
theorem dX9_nextTask_33 : decode cX9_nextTask 33 = .ok (.iconst 0, 1) := by decide +kernel
theorem dX9_nextTask_34 : decode cX9_nextTask 34 = .ok (.iaload, 1) := by decide +kernel
theorem dX9_nextTask_35 : decode cX9_nextTask 35 = .ok (.if_icmp .ge 41, 3) := by decide +kernel
theorem dX9_nextTask_38 : decode cX9_nextTask 38 = .ok (.iload 4, 2) := by decide +kernel
theorem dX9_nextTask_40 : decode cX9_nextTask 40 = .ok (.ifCond .eq 36, 3) := by decide +kernel
theorem dX9_nextTask_43 : decode cX9_nextTask 43 = .ok (.aload_n 1, 1) := by decide +kernel
theorem dX9_nextTask_44 : decode cX9_nextTask 44 = .ok (.iload 5, 2) := by decide +kernel
theorem dX9_nextTask_46 : decode cX9_nextTask 46 = .ok (.iload_n 3, 1) := by decide +kernel
theorem dX9_nextTask_47 : decode cX9_nextTask 47 = .ok (.invokestatic 63, 3) := by decide +kernel
theorem dX9_nextTask_50 : decode cX9_nextTask 50 = .ok (.ifCond .lt 13, 3) := by decide +kernel
theorem dX9_nextTask_53 : decode cX9_nextTask 53 = .ok (.aload_n 0, 1) := by decide +kernel
theorem dX9_nextTask_54 : decode cX9_nextTask 54 = .ok (.getfield 31, 3) := by decide +kernel
theorem dX9_nextTask_57 : decode cX9_nextTask 57 = .ok (.iload 5, 2) := by decide +kernel
theorem dX9_nextTask_59 : decode cX9_nextTask 59 = .ok (.iaload, 1) := by decide +kernel
theorem dX9_nextTask_60 : decode cX9_nextTask 60 = .ok (.ifCond .lt 7, 3) := by decide +kernel
theorem dX9_nextTask_63 : decode cX9_nextTask 63 = .ok (.iconst 1, 1) := by decide +kernel
theorem dX9_nextTask_64 : decode cX9_nextTask 64 = .ok (.goto 4, 3) := by decide +kernel
theorem dX9_nextTask_67 : decode cX9_nextTask 67 = .ok (.iconst 0, 1) := by decide +kernel
theorem dX9_nextTask_68 : decode cX9_nextTask 68 = .ok (.istore 4, 2) := by decide +kernel
theorem dX9_nextTask_70 : decode cX9_nextTask 70 = .ok (.iinc 5 1, 3) := by decide +kernel
theorem dX9_nextTask_73 : decode cX9_nextTask 73 = .ok (.goto (-43), 3) := by decide +kernel
theorem dX9_nextTask_76 : decode cX9_nextTask 76 = .ok (.iload 4, 2) := by decide +kernel
theorem dX9_nextTask_78 : decode cX9_nextTask 78 = .ok (.ifCond .eq 26, 3) := by decide +kernel
theorem dX9_nextTask_81 : decode cX9_nextTask 81 = .ok (.iload_n 2, 1) := by decide +kernel
theorem dX9_nextTask_82 : decode cX9_nextTask 82 = .ok (.ifCond .lt 18, 3) := by decide +kernel
theorem dX9_nextTask_85 : decode cX9_nextTask 85 = .ok (.aload_n 0, 1) := by decide +kernel
theorem dX9_nextTask_86 : decode cX9_nextTask 86 = .ok (.getfield 28, 3) := by decide +kernel
theorem dX9_nextTask_89 : decode cX9_nextTask 89 = .ok (.iload_n 3, 1) := by decide +kernel
theorem dX9_nextTask_90 : decode cX9_nextTask 90 = .ok (.iaload, 1) := by decide +kernel
theorem dX9_nextTask_91 : decode cX9_nextTask 91 = .ok (.aload_n 0, 1) := by decide +kernel
theorem dX9_nextTask_92 : decode cX9_nextTask 92 = .ok (.getfield 28, 3) := by decide +kernel
theorem dX9_nextTask_95 : decode cX9_nextTask 95 = .ok (.iload_n 2, 1) := by decide +kernel
theorem dX9_nextTask_96 : decode cX9_nextTask 96 = .ok (.iaload, 1) := by decide +kernel
theorem dX9_nextTask_97 : decode cX9_nextTask 97 = .ok (.if_icmp .ge 7, 3) := by decide +kernel
theorem dX9_nextTask_100 : decode cX9_nextTask 100 = .ok (.iload_n 3, 1) := by decide +kernel
theorem dX9_nextTask_101 : decode cX9_nextTask 101 = .ok (.goto 4, 3) := by decide +kernel
theorem dX9_nextTask_104 : decode cX9_nextTask 104 = .ok (.iload_n 2, 1) := by decide +kernel
theorem dX9_nextTask_105 : decode cX9_nextTask 105 = .ok (.istore_n 2, 1) := by decide +kernel
theorem dX9_nextTask_106 : decode cX9_nextTask 106 = .ok (.iinc 3 1, 3) := by decide +kernel
theorem dX9_nextTask_109 : decode cX9_nextTask 109 = .ok (.goto (-105), 3) := by decide +kernel
theorem dX9_nextTask_112 : decode cX9_nextTask 112 = .ok (.iload_n 2, 1) := by decide +kernel
theorem dX9_nextTask_113 : decode cX9_nextTask 113 = .ok (.ireturn, 1) := by decide +kernel
set_option maxRecDepth 20000 in
theorem ggX9_firstDay_X9_lag : GoodIn wsX9_firstDay wsX9_lag := goodIn_r _ [5] (by decide +kernel) (by decide +kernel)
set_option maxRecDepth 20000 in
theorem gX9_firstDay_X9_lag : GoodIn wsX9_firstDay (va_wsS RX9 63 yX9_lag wsX9_lag) := goodIn_app (goodIn_of _ (by decide +kernel)) ggX9_firstDay_X9_lag
set_option maxRecDepth 20000 in
theorem ggX9_firstDay_X9_busy : GoodIn wsX9_firstDay wsX9_busy := goodIn_r _ [9, 1, 10, 11, 12, 13, 14, 15, 16, 17, 18, 19, 20, 21, 22, 23, 24, 25] (by decide +kernel) (by decide +kernel)
set_option maxRecDepth 20000 in
theorem gX9_firstDay_X9_busy : GoodIn wsX9_firstDay (wsV RX9 67 RX9 yX9_busy wsX9_busy) := goodIn_app (goodIn_of _ (by decide +kernel)) ggX9_firstDay_X9_busy
theorem dX9_firstDay_0 : decode cX9_firstDay 0 = .ok (.iconst 0, 1) := by decide +kernel
theorem dX9_firstDay_1 : decode cX9_firstDay 1 = .ok (.istore_n 3, 1) := by decide +kernel
theorem dX9_firstDay_2 : decode cX9_firstDay 2 = .ok (.iconst 0, 1) := by decide +kernel
theorem dX9_firstDay_3 : decode cX9_firstDay 3 = .ok (.istore 4, 2) := by decide +kernel
theorem dX9_firstDay_5 : decode cX9_firstDay 5 = .ok (.iload 4, 2) := by decide +kernel
theorem dX9_firstDay_7 : decode cX9_firstDay 7 = .ok (.aload_n 1, 1) := by decide +kernel
theorem dX9_firstDay_8 : decode cX9_firstDay 8 = .ok (.iconst 0, 1) := by decide +kernel
theorem dX9_firstDay_9 : decode cX9_firstDay 9 = .ok (.iaload, 1) := by decide +kernel
theorem dX9_firstDay_10 : decode cX9_firstDay 10 = .ok (.if_icmp .ge 56, 3) := by decide +kernel
theorem dX9_firstDay_13 : decode cX9_firstDay 13 = .ok (.aload_n 0, 1) := by decide +kernel
theorem dX9_firstDay_14 : decode cX9_firstDay 14 = .ok (.getfield 31, 3) := by decide +kernel
theorem dX9_firstDay_17 : decode cX9_firstDay 17 = .ok (.iload 4, 2) := by decide +kernel
theorem dX9_firstDay_19 : decode cX9_firstDay 19 = .ok (.iaload, 1) := by decide +kernel
theorem dX9_firstDay_20 : decode cX9_firstDay 20 = .ok (.aload_n 1, 1) := by decide +kernel
theorem dX9_firstDay_21 : decode cX9_firstDay 21 = .ok (.iconst 2, 1) := by decide +kernel
theorem dX9_firstDay_22 : decode cX9_firstDay 22 = .ok (.iload 4, 2) := by decide +kernel
theorem dX9_firstDay_24 : decode cX9_firstDay 24 = .ok (.iadd, 1) := by decide +kernel
theorem dX9_firstDay_25 : decode cX9_firstDay 25 = .ok (.iaload, 1) := by decide +kernel
theorem dX9_firstDay_26 : decode cX9_firstDay 26 = .ok (.iadd, 1) := by decide +kernel
theorem dX9_firstDay_27 : decode cX9_firstDay 27 = .ok (.aload_n 1, 1) := by decide +kernel
theorem dX9_firstDay_28 : decode cX9_firstDay 28 = .ok (.iload 4, 2) := by decide +kernel
theorem dX9_firstDay_30 : decode cX9_firstDay 30 = .ok (.iload_n 2, 1) := by decide +kernel
theorem dX9_firstDay_31 : decode cX9_firstDay 31 = .ok (.invokestatic 63, 3) := by decide +kernel
theorem dX9_firstDay_34 : decode cX9_firstDay 34 = .ok (.iadd, 1) := by decide +kernel
theorem dX9_firstDay_35 : decode cX9_firstDay 35 = .ok (.istore 5, 2) := by decide +kernel
theorem dX9_firstDay_37 : decode cX9_firstDay 37 = .ok (.aload_n 1, 1) := by decide +kernel
theorem dX9_firstDay_38 : decode cX9_firstDay 38 = .ok (.iload 4, 2) := by decide +kernel
theorem dX9_firstDay_40 : decode cX9_firstDay 40 = .ok (.iload_n 2, 1) := by decide +kernel
theorem dX9_firstDay_41 : decode cX9_firstDay 41 = .ok (.invokestatic 63, 3) := by decide +kernel
theorem dX9_firstDay_44 : decode cX9_firstDay 44 = .ok (.ifCond .lt 14, 3) := by decide +kernel
theorem dX9_firstDay_47 : decode cX9_firstDay 47 = .ok (.iload 5, 2) := by decide +kernel
theorem dX9_firstDay_49 : decode cX9_firstDay 49 = .ok (.iload_n 3, 1) := by decide +kernel
theorem dX9_firstDay_50 : decode cX9_firstDay 50 = .ok (.if_icmp .le 8, 3) := by decide +kernel
theorem dX9_firstDay_53 : decode cX9_firstDay 53 = .ok (.iload 5, 2) := by decide +kernel
theorem dX9_firstDay_55 : decode cX9_firstDay 55 = .ok (.goto 4, 3) := by decide +kernel
theorem dX9_firstDay_58 : decode cX9_firstDay 58 = .ok (.iload_n 3, 1) := by decide +kernel
theorem dX9_firstDay_59 : decode cX9_firstDay 59 = .ok (.istore_n 3, 1) := by decide +kernel
theorem dX9_firstDay_60 : decode cX9_firstDay 60 = .ok (.iinc 4 1, 3) := by decide +kernel
theorem dX9_firstDay_63 : decode cX9_firstDay 63 = .ok (.goto (-58), 3) := by decide +kernel
theorem dX9_firstDay_66 : decode cX9_firstDay 66 = .ok (.iconst 0, 1) := by decide +kernel
theorem dX9_firstDay_67 : decode cX9_firstDay 67 = .ok (.istore 4, 2) := by decide +kernel
theorem dX9_firstDay_69 : decode cX9_firstDay 69 = .ok (.iload_n 3, 1) := by decide +kernel
theorem dX9_firstDay_70 : decode cX9_firstDay 70 = .ok (.istore 5, 2) := by decide +kernel
theorem dX9_firstDay_72 : decode cX9_firstDay 72 = .ok (.iload 4, 2) := by decide +kernel
theorem dX9_firstDay_74 : decode cX9_firstDay 74 = .ok (.aload_n 1, 1) := by decide +kernel
theorem dX9_firstDay_75 : decode cX9_firstDay 75 = .ok (.iconst 2, 1) := by decide +kernel
theorem dX9_firstDay_76 : decode cX9_firstDay 76 = .ok (.iload_n 2, 1) := by decide +kernel
theorem dX9_firstDay_77 : decode cX9_firstDay 77 = .ok (.iadd, 1) := by decide +kernel
theorem dX9_firstDay_78 : decode cX9_firstDay 78 = .ok (.iaload, 1) := by decide +kernel
theorem dX9_firstDay_79 : decode cX9_firstDay 79 = .ok (.if_icmp .ge 39, 3) := by decide +kernel
theorem dX9_firstDay_82 : decode cX9_firstDay 82 = .ok (.aload_n 0, 1) := by decide +kernel
theorem dX9_firstDay_83 : decode cX9_firstDay 83 = .ok (.aload_n 1, 1) := by decide +kernel
theorem dX9_firstDay_84 : decode cX9_firstDay 84 = .ok (.iload 5, 2) := by decide +kernel
theorem dX9_firstDay_86 : decode cX9_firstDay 86 = .ok (.invokevirtual 67, 3) := by decide +kernel
theorem dX9_firstDay_89 : decode cX9_firstDay 89 = .ok (.aload_n 1, 1) := by decide +kernel
theorem dX9_firstDay_90 : decode cX9_firstDay 90 = .ok (.bipush 22, 2) := by decide +kernel
theorem dX9_firstDay_92 : decode cX9_firstDay 92 = .ok (.iload_n 2, 1) := by decide +kernel
theorem dX9_firstDay_93 : decode cX9_firstDay 93 = .ok (.iadd, 1) := by decide +kernel
theorem dX9_firstDay_94 : decode cX9_firstDay 94 = .ok (.iaload, 1) := by decide +kernel
theorem dX9_firstDay_95 : decode cX9_firstDay 95 = .ok (.iadd, 1) := by decide +kernel
theorem dX9_firstDay_96 : decode cX9_firstDay 96 = .ok (.aload_n 1, 1) := by decide +kernel
theorem dX9_firstDay_97 : decode cX9_firstDay 97 = .ok (.iconst 1, 1) := by decide +kernel
theorem dX9_firstDay_98 : decode cX9_firstDay 98 = .ok (.iaload, 1) := by decide +kernel
theorem dX9_firstDay_99 : decode cX9_firstDay 99 = .ok (.if_icmp .gt 10, 3) := by decide +kernel
theorem dX9_firstDay_102 : decode cX9_firstDay 102 = .ok (.iload 4, 2) := by decide +kernel
theorem dX9_firstDay_104 : decode cX9_firstDay 104 = .ok (.iconst 1, 1) := by decide +kernel
theorem dX9_firstDay_105 : decode cX9_firstDay 105 = .ok (.iadd, 1) := by decide +kernel
theorem dX9_firstDay_106 : decode cX9_firstDay 106 = .ok (.goto 4, 3) := by decide +kernel
theorem dX9_firstDay_109 : decode cX9_firstDay 109 = .ok (.iconst 0, 1) := by decide +kernel
theorem dX9_firstDay_110 : decode cX9_firstDay 110 = .ok (.istore 4, 2) := by decide +kernel
theorem dX9_firstDay_112 : decode cX9_firstDay 112 = .ok (.iinc 5 1, 3) := by decide +kernel
theorem dX9_firstDay_115 : decode cX9_firstDay 115 = .ok (.goto (-43), 3) := by decide +kernel
theorem dX9_firstDay_118 : decode cX9_firstDay 118 = .ok (.iload 5, 2) := by decide +kernel
theorem dX9_firstDay_120 : decode cX9_firstDay 120 = .ok (.iload 4, 2) := by decide +kernel
theorem dX9_firstDay_122 : decode cX9_firstDay 122 = .ok (.isub, 1) := by decide +kernel
theorem dX9_firstDay_123 : decode cX9_firstDay 123 = .ok (.ireturn, 1) := by decide +kernel
set_option maxRecDepth 20000 in
theorem ggX9_plans_X9_days : GoodIn wsX9_plans wsX9_days := goodIn_r _ [6, 7, 8, 9, 10, 5, 11, 12, 28, 29, 30, 31, 32, 33, 34, 35, 36, 37, 38, 39, 40, 41, 42, 43] (by decide +kernel) (by decide +kernel)
set_option maxRecDepth 20000 in
theorem gX9_plans_X9_days : GoodIn wsX9_plans (wsV RX9 71 RX9 yX9_days wsX9_days) := goodIn_app (goodIn_of _ (by decide +kernel)) ggX9_plans_X9_days
set_option maxRecDepth 20000 in
theorem ggX9_plans_X9_nextTask : GoodIn wsX9_plans wsX9_nextTask := goodIn_r _ [16, 1, 7, 17, 18, 5, 19, 28, 29, 30, 31, 32, 33, 34, 35, 36, 37, 38, 39, 40, 41, 42, 43] (by decide +kernel) (by decide +kernel)
set_option maxRecDepth 20000 in
theorem gX9_plans_X9_nextTask : GoodIn wsX9_plans (wsV RX9 74 RX9 yX9_nextTask wsX9_nextTask) := goodIn_app (goodIn_of _ (by decide +kernel)) ggX9_plans_X9_nextTask
set_option maxRecDepth 20000 in
theorem ggX9_plans_X9_firstDay : GoodIn wsX9_plans wsX9_firstDay := goodIn_r _ [23, 1, 17, 18, 5, 19, 24, 25, 26, 27, 28, 29, 30, 31, 32, 33, 34, 35, 36, 37, 38, 39, 40, 41, 42, 43] (by decide +kernel) (by decide +kernel)
set_option maxRecDepth 20000 in
theorem gX9_plans_X9_firstDay : GoodIn wsX9_plans (wsV RX9 77 RX9 yX9_firstDay wsX9_firstDay) := goodIn_app (goodIn_of _ (by decide +kernel)) ggX9_plans_X9_firstDay
theorem dX9_plans_0 : decode cX9_plans 0 = .ok (.iconst 0, 1) := by decide +kernel
theorem dX9_plans_1 : decode cX9_plans 1 = .ok (.istore_n 2, 1) := by decide +kernel
theorem dX9_plans_2 : decode cX9_plans 2 = .ok (.iconst 0, 1) := by decide +kernel
theorem dX9_plans_3 : decode cX9_plans 3 = .ok (.istore_n 3, 1) := by decide +kernel
theorem dX9_plans_4 : decode cX9_plans 4 = .ok (.iload_n 3, 1) := by decide +kernel
theorem dX9_plans_5 : decode cX9_plans 5 = .ok (.bipush 20, 2) := by decide +kernel
theorem dX9_plans_7 : decode cX9_plans 7 = .ok (.if_icmp .ge 37, 3) := by decide +kernel
theorem dX9_plans_10 : decode cX9_plans 10 = .ok (.aload_n 0, 1) := by decide +kernel
theorem dX9_plans_11 : decode cX9_plans 11 = .ok (.getfield 31, 3) := by decide +kernel
theorem dX9_plans_14 : decode cX9_plans 14 = .ok (.iload_n 3, 1) := by decide +kernel
theorem dX9_plans_15 : decode cX9_plans 15 = .ok (.iconst (-1), 1) := by decide +kernel
theorem dX9_plans_16 : decode cX9_plans 16 = .ok (.iastore, 1) := by decide +kernel
theorem dX9_plans_17 : decode cX9_plans 17 = .ok (.iload_n 3, 1) := by decide +kernel
theorem dX9_plans_18 : decode cX9_plans 18 = .ok (.aload_n 1, 1) := by decide +kernel
theorem dX9_plans_19 : decode cX9_plans 19 = .ok (.iconst 0, 1) := by decide +kernel
theorem dX9_plans_20 : decode cX9_plans 20 = .ok (.iaload, 1) := by decide +kernel
theorem dX9_plans_21 : decode cX9_plans 21 = .ok (.if_icmp .ge 17, 3) := by decide +kernel
theorem dX9_plans_24 : decode cX9_plans 24 = .ok (.aload_n 1, 1) := by decide +kernel
theorem dX9_plans_25 : decode cX9_plans 25 = .ok (.bipush 22, 2) := by decide +kernel
theorem dX9_plans_27 : decode cX9_plans 27 = .ok (.iload_n 3, 1) := by decide +kernel
theorem dX9_plans_28 : decode cX9_plans 28 = .ok (.iadd, 1) := by decide +kernel
theorem dX9_plans_29 : decode cX9_plans 29 = .ok (.iaload, 1) := by decide +kernel
theorem dX9_plans_30 : decode cX9_plans 30 = .ok (.aload_n 1, 1) := by decide +kernel
theorem dX9_plans_31 : decode cX9_plans 31 = .ok (.iconst 1, 1) := by decide +kernel
theorem dX9_plans_32 : decode cX9_plans 32 = .ok (.iaload, 1) := by decide +kernel
theorem dX9_plans_33 : decode cX9_plans 33 = .ok (.if_icmp .le 5, 3) := by decide +kernel
theorem dX9_plans_36 : decode cX9_plans 36 = .ok (.iconst (-1), 1) := by decide +kernel
theorem dX9_plans_37 : decode cX9_plans 37 = .ok (.ireturn, 1) := by decide +kernel
theorem dX9_plans_38 : decode cX9_plans 38 = .ok (.iinc 3 1, 3) := by decide +kernel
theorem dX9_plans_41 : decode cX9_plans 41 = .ok (.goto (-37), 3) := by decide +kernel
theorem dX9_plans_44 : decode cX9_plans 44 = .ok (.aload_n 0, 1) := by decide +kernel
theorem dX9_plans_45 : decode cX9_plans 45 = .ok (.aload_n 1, 1) := by decide +kernel
theorem dX9_plans_46 : decode cX9_plans 46 = .ok (.invokevirtual 71, 3) := by decide +kernel
theorem dX9_plans_49 : decode cX9_plans 49 = .ok (.pop, 1) := by decide +kernel
theorem dX9_plans_50 : decode cX9_plans 50 = .ok (.aload_n 0, 1) := by decide +kernel
theorem dX9_plans_51 : decode cX9_plans 51 = .ok (.aload_n 1, 1) := by decide +kernel
theorem dX9_plans_52 : decode cX9_plans 52 = .ok (.invokevirtual 74, 3) := by decide +kernel
theorem dX9_plans_55 : decode cX9_plans 55 = .ok (.istore_n 3, 1) := by decide +kernel
theorem dX9_plans_56 : decode cX9_plans 56 = .ok (.iload_n 3, 1) := by decide +kernel
theorem dX9_plans_57 : decode cX9_plans 57 = .ok (.ifCond .lt 57, 3) := by decide +kernel
theorem dX9_plans_60 : decode cX9_plans 60 = .ok (.aload_n 0, 1) := by decide +kernel
theorem dX9_plans_61 : decode cX9_plans 61 = .ok (.getfield 31, 3) := by decide +kernel
theorem dX9_plans_64 : decode cX9_plans 64 = .ok (.iload_n 3, 1) := by decide +kernel
theorem dX9_plans_65 : decode cX9_plans 65 = .ok (.aload_n 0, 1) := by decide +kernel
theorem dX9_plans_66 : decode cX9_plans 66 = .ok (.aload_n 1, 1) := by decide +kernel
theorem dX9_plans_67 : decode cX9_plans 67 = .ok (.iload_n 3, 1) := by decide +kernel
theorem dX9_plans_68 : decode cX9_plans 68 = .ok (.invokevirtual 77, 3) := by decide +kernel
theorem dX9_plans_71 : decode cX9_plans 71 = .ok (.iastore, 1) := by decide +kernel
theorem dX9_plans_72 : decode cX9_plans 72 = .ok (.aload_n 0, 1) := by decide +kernel
theorem dX9_plans_73 : decode cX9_plans 73 = .ok (.getfield 31, 3) := by decide +kernel
theorem dX9_plans_76 : decode cX9_plans 76 = .ok (.iload_n 3, 1) := by decide +kernel
theorem dX9_plans_77 : decode cX9_plans 77 = .ok (.iaload, 1) := by decide +kernel
theorem dX9_plans_78 : decode cX9_plans 78 = .ok (.aload_n 1, 1) := by decide +kernel
theorem dX9_plans_79 : decode cX9_plans 79 = .ok (.iconst 2, 1) := by decide +kernel
theorem dX9_plans_80 : decode cX9_plans 80 = .ok (.iload_n 3, 1) := by decide +kernel
theorem dX9_plans_81 : decode cX9_plans 81 = .ok (.iadd, 1) := by decide +kernel
theorem dX9_plans_82 : decode cX9_plans 82 = .ok (.iaload, 1) := by decide +kernel
theorem dX9_plans_83 : decode cX9_plans 83 = .ok (.iadd, 1) := by decide +kernel
theorem dX9_plans_84 : decode cX9_plans 84 = .ok (.iload_n 2, 1) := by decide +kernel
theorem dX9_plans_85 : decode cX9_plans 85 = .ok (.if_icmp .le 18, 3) := by decide +kernel
theorem dX9_plans_88 : decode cX9_plans 88 = .ok (.aload_n 0, 1) := by decide +kernel
theorem dX9_plans_89 : decode cX9_plans 89 = .ok (.getfield 31, 3) := by decide +kernel
theorem dX9_plans_92 : decode cX9_plans 92 = .ok (.iload_n 3, 1) := by decide +kernel
theorem dX9_plans_93 : decode cX9_plans 93 = .ok (.iaload, 1) := by decide +kernel
theorem dX9_plans_94 : decode cX9_plans 94 = .ok (.aload_n 1, 1) := by decide +kernel
theorem dX9_plans_95 : decode cX9_plans 95 = .ok (.iconst 2, 1) := by decide +kernel
theorem dX9_plans_96 : decode cX9_plans 96 = .ok (.iload_n 3, 1) := by decide +kernel
theorem dX9_plans_97 : decode cX9_plans 97 = .ok (.iadd, 1) := by decide +kernel
theorem dX9_plans_98 : decode cX9_plans 98 = .ok (.iaload, 1) := by decide +kernel
theorem dX9_plans_99 : decode cX9_plans 99 = .ok (.iadd, 1) := by decide +kernel
theorem dX9_plans_100 : decode cX9_plans 100 = .ok (.goto 4, 3) := by decide +kernel
theorem dX9_plans_103 : decode cX9_plans 103 = .ok (.iload_n 2, 1) := by decide +kernel
theorem dX9_plans_104 : decode cX9_plans 104 = .ok (.istore_n 2, 1) := by decide +kernel
theorem dX9_plans_105 : decode cX9_plans 105 = .ok (.aload_n 0, 1) := by decide +kernel
theorem dX9_plans_106 : decode cX9_plans 106 = .ok (.aload_n 1, 1) := by decide +kernel
theorem dX9_plans_107 : decode cX9_plans 107 = .ok (.invokevirtual 74, 3) := by decide +kernel
theorem dX9_plans_110 : decode cX9_plans 110 = .ok (.istore_n 3, 1) := by decide +kernel
theorem dX9_plans_111 : decode cX9_plans 111 = .ok (.goto (-55), 3) := by decide +kernel
theorem dX9_plans_114 : decode cX9_plans 114 = .ok (.iload_n 2, 1) := by decide +kernel
theorem dX9_plans_115 : decode cX9_plans 115 = .ok (.ireturn, 1) := by decide +kernel
theorem dX9_allWork_0 : decode cX9_allWork 0 = .ok (.iconst 0, 1) := by decide +kernel
theorem dX9_allWork_1 : decode cX9_allWork 1 = .ok (.istore_n 1, 1) := by decide +kernel
theorem dX9_allWork_2 : decode cX9_allWork 2 = .ok (.iconst 0, 1) := by decide +kernel
theorem dX9_allWork_3 : decode cX9_allWork 3 = .ok (.istore_n 2, 1) := by decide +kernel
theorem dX9_allWork_4 : decode cX9_allWork 4 = .ok (.iload_n 2, 1) := by decide +kernel
theorem dX9_allWork_5 : decode cX9_allWork 5 = .ok (.aload_n 0, 1) := by decide +kernel
theorem dX9_allWork_6 : decode cX9_allWork 6 = .ok (.getfield 7, 3) := by decide +kernel
theorem dX9_allWork_9 : decode cX9_allWork 9 = .ok (.iconst 0, 1) := by decide +kernel
theorem dX9_allWork_10 : decode cX9_allWork 10 = .ok (.iaload, 1) := by decide +kernel
theorem dX9_allWork_11 : decode cX9_allWork 11 = .ok (.if_icmp .ge 30, 3) := by decide +kernel
theorem dX9_allWork_14 : decode cX9_allWork 14 = .ok (.iload_n 1, 1) := by decide +kernel
theorem dX9_allWork_15 : decode cX9_allWork 15 = .ok (.aload_n 0, 1) := by decide +kernel
theorem dX9_allWork_16 : decode cX9_allWork 16 = .ok (.getfield 7, 3) := by decide +kernel
theorem dX9_allWork_19 : decode cX9_allWork 19 = .ok (.iconst 2, 1) := by decide +kernel
theorem dX9_allWork_20 : decode cX9_allWork 20 = .ok (.iload_n 2, 1) := by decide +kernel
theorem dX9_allWork_21 : decode cX9_allWork 21 = .ok (.iadd, 1) := by decide +kernel
theorem dX9_allWork_22 : decode cX9_allWork 22 = .ok (.iaload, 1) := by decide +kernel
theorem dX9_allWork_23 : decode cX9_allWork 23 = .ok (.aload_n 0, 1) := by decide +kernel
theorem dX9_allWork_24 : decode cX9_allWork 24 = .ok (.getfield 7, 3) := by decide +kernel
theorem dX9_allWork_27 : decode cX9_allWork 27 = .ok (.bipush 22, 2) := by decide +kernel
theorem dX9_allWork_29 : decode cX9_allWork 29 = .ok (.iload_n 2, 1) := by decide +kernel
theorem dX9_allWork_30 : decode cX9_allWork 30 = .ok (.iadd, 1) := by decide +kernel
theorem dX9_allWork_31 : decode cX9_allWork 31 = .ok (.iaload, 1) := by decide +kernel
theorem dX9_allWork_32 : decode cX9_allWork 32 = .ok (.imul, 1) := by decide +kernel
theorem dX9_allWork_33 : decode cX9_allWork 33 = .ok (.iadd, 1) := by decide +kernel
theorem dX9_allWork_34 : decode cX9_allWork 34 = .ok (.istore_n 1, 1) := by decide +kernel
theorem dX9_allWork_35 : decode cX9_allWork 35 = .ok (.iinc 2 1, 3) := by decide +kernel
theorem dX9_allWork_38 : decode cX9_allWork 38 = .ok (.goto (-34), 3) := by decide +kernel
theorem dX9_allWork_41 : decode cX9_allWork 41 = .ok (.iload_n 1, 1) := by decide +kernel
theorem dX9_allWork_42 : decode cX9_allWork 42 = .ok (.ireturn, 1) := by decide +kernel
theorem dX9_adds_0 : decode cX9_adds 0 = .ok (.aload_n 0, 1) := by decide +kernel
theorem dX9_adds_1 : decode cX9_adds 1 = .ok (.iconst 2, 1) := by decide +kernel
theorem dX9_adds_2 : decode cX9_adds 2 = .ok (.aload_n 0, 1) := by decide +kernel
theorem dX9_adds_3 : decode cX9_adds 3 = .ok (.iconst 0, 1) := by decide +kernel
theorem dX9_adds_4 : decode cX9_adds 4 = .ok (.iaload, 1) := by decide +kernel
theorem dX9_adds_5 : decode cX9_adds 5 = .ok (.iadd, 1) := by decide +kernel
theorem dX9_adds_6 : decode cX9_adds 6 = .ok (.iload_n 1, 1) := by decide +kernel
theorem dX9_adds_7 : decode cX9_adds 7 = .ok (.iastore, 1) := by decide +kernel
theorem dX9_adds_8 : decode cX9_adds 8 = .ok (.aload_n 0, 1) := by decide +kernel
theorem dX9_adds_9 : decode cX9_adds 9 = .ok (.bipush 22, 2) := by decide +kernel
theorem dX9_adds_11 : decode cX9_adds 11 = .ok (.aload_n 0, 1) := by decide +kernel
theorem dX9_adds_12 : decode cX9_adds 12 = .ok (.iconst 0, 1) := by decide +kernel
theorem dX9_adds_13 : decode cX9_adds 13 = .ok (.iaload, 1) := by decide +kernel
theorem dX9_adds_14 : decode cX9_adds 14 = .ok (.iadd, 1) := by decide +kernel
theorem dX9_adds_15 : decode cX9_adds 15 = .ok (.iload_n 2, 1) := by decide +kernel
theorem dX9_adds_16 : decode cX9_adds 16 = .ok (.iastore, 1) := by decide +kernel
theorem dX9_adds_17 : decode cX9_adds 17 = .ok (.aload_n 0, 1) := by decide +kernel
theorem dX9_adds_18 : decode cX9_adds 18 = .ok (.iconst 0, 1) := by decide +kernel
theorem dX9_adds_19 : decode cX9_adds 19 = .ok (.dup2, 1) := by decide +kernel
theorem dX9_adds_20 : decode cX9_adds 20 = .ok (.iaload, 1) := by decide +kernel
theorem dX9_adds_21 : decode cX9_adds 21 = .ok (.iconst 1, 1) := by decide +kernel
theorem dX9_adds_22 : decode cX9_adds 22 = .ok (.iadd, 1) := by decide +kernel
theorem dX9_adds_23 : decode cX9_adds 23 = .ok (.iastore, 1) := by decide +kernel
theorem dX9_adds_24 : decode cX9_adds 24 = .ok (.aload_n 0, 1) := by decide +kernel
theorem dX9_adds_25 : decode cX9_adds 25 = .ok (.iconst 0, 1) := by decide +kernel
theorem dX9_adds_26 : decode cX9_adds 26 = .ok (.iaload, 1) := by decide +kernel
theorem dX9_adds_27 : decode cX9_adds 27 = .ok (.iconst 1, 1) := by decide +kernel
theorem dX9_adds_28 : decode cX9_adds 28 = .ok (.isub, 1) := by decide +kernel
theorem dX9_adds_29 : decode cX9_adds 29 = .ok (.ireturn, 1) := by decide +kernel
set_option maxRecDepth 20000 in
theorem ggX9_addTask_X9_in : GoodIn wsX9_addTask wsX9_in := goodIn_r _ [6] (by decide +kernel) (by decide +kernel)
set_option maxRecDepth 20000 in
theorem gX9_addTask_X9_in : GoodIn wsX9_addTask (va_wsS RX9 48 yX9_in wsX9_in) := goodIn_app (goodIn_of _ (by decide +kernel)) ggX9_addTask_X9_in
set_option maxRecDepth 20000 in
theorem ggX9_addTask_X9_fails : GoodIn wsX9_addTask wsX9_fails := goodIn_r _ [10, 1, 23, 24, 25, 26, 27, 28, 29, 30, 31, 32, 33, 34, 35, 36, 37, 38] (by decide +kernel) (by decide +kernel)
set_option maxRecDepth 20000 in
theorem gX9_addTask_X9_fails : GoodIn wsX9_addTask (wsV RX9 80 RX9 yX9_fails wsX9_fails) := goodIn_app (goodIn_of _ (by decide +kernel)) ggX9_addTask_X9_fails
set_option maxRecDepth 20000 in
theorem ggX9_addTask_X9_keepsState : GoodIn wsX9_addTask wsX9_keepsState := goodIn_r _ [14, 15, 16, 2, 17, 18, 5, 19, 23, 24, 25, 26, 27, 28, 29, 30, 31, 32, 33, 34, 35, 36, 37, 38] (by decide +kernel) (by decide +kernel)
set_option maxRecDepth 20000 in
theorem gX9_addTask_X9_keepsState : GoodIn wsX9_addTask (wsV RX9 84 RX9 yX9_keepsState wsX9_keepsState) := goodIn_app (goodIn_of _ (by decide +kernel)) ggX9_addTask_X9_keepsState
set_option maxRecDepth 20000 in
theorem ggX9_addTask_X9_adds : GoodIn wsX9_addTask wsX9_adds := goodIn_r _ [22] (by decide +kernel) (by decide +kernel)
set_option maxRecDepth 20000 in
theorem gX9_addTask_X9_adds : GoodIn wsX9_addTask (va_wsS RX9 87 yX9_adds wsX9_adds) := goodIn_app (goodIn_of _ (by decide +kernel)) ggX9_addTask_X9_adds
theorem dX9_addTask_0 : decode cX9_addTask 0 = .ok (.aload_n 0, 1) := by decide +kernel
theorem dX9_addTask_1 : decode cX9_addTask 1 = .ok (.iconst 0, 1) := by decide +kernel
theorem dX9_addTask_2 : decode cX9_addTask 2 = .ok (.putfield 44, 3) := by decide +kernel
theorem dX9_addTask_5 : decode cX9_addTask 5 = .ok (.iload_n 1, 1) := by decide +kernel
theorem dX9_addTask_6 : decode cX9_addTask 6 = .ok (.iconst 0, 1) := by decide +kernel
theorem dX9_addTask_7 : decode cX9_addTask 7 = .ok (.bipush 30, 2) := by decide +kernel
theorem dX9_addTask_9 : decode cX9_addTask 9 = .ok (.invokestatic 48, 3) := by decide +kernel
theorem dX9_addTask_12 : decode cX9_addTask 12 = .ok (.ifCond .eq 12, 3) := by decide +kernel
theorem dX9_addTask_15 : decode cX9_addTask 15 = .ok (.iload_n 2, 1) := by decide +kernel
theorem dX9_addTask_16 : decode cX9_addTask 16 = .ok (.iconst 0, 1) := by decide +kernel
theorem dX9_addTask_17 : decode cX9_addTask 17 = .ok (.iconst 5, 1) := by decide +kernel
theorem dX9_addTask_18 : decode cX9_addTask 18 = .ok (.invokestatic 48, 3) := by decide +kernel
theorem dX9_addTask_21 : decode cX9_addTask 21 = .ok (.ifCond .ne 9, 3) := by decide +kernel
theorem dX9_addTask_24 : decode cX9_addTask 24 = .ok (.aload_n 0, 1) := by decide +kernel
theorem dX9_addTask_25 : decode cX9_addTask 25 = .ok (.iconst 1, 1) := by decide +kernel
theorem dX9_addTask_26 : decode cX9_addTask 26 = .ok (.invokevirtual 80, 3) := by decide +kernel
theorem dX9_addTask_29 : decode cX9_addTask 29 = .ok (.ireturn, 1) := by decide +kernel
theorem dX9_addTask_30 : decode cX9_addTask 30 = .ok (.aload_n 0, 1) := by decide +kernel
theorem dX9_addTask_31 : decode cX9_addTask 31 = .ok (.getfield 7, 3) := by decide +kernel
theorem dX9_addTask_34 : decode cX9_addTask 34 = .ok (.iconst 0, 1) := by decide +kernel
theorem dX9_addTask_35 : decode cX9_addTask 35 = .ok (.iaload, 1) := by decide +kernel
theorem dX9_addTask_36 : decode cX9_addTask 36 = .ok (.bipush 20, 2) := by decide +kernel
theorem dX9_addTask_38 : decode cX9_addTask 38 = .ok (.if_icmp .ne 9, 3) := by decide +kernel
theorem dX9_addTask_41 : decode cX9_addTask 41 = .ok (.aload_n 0, 1) := by decide +kernel
theorem dX9_addTask_42 : decode cX9_addTask 42 = .ok (.iconst 2, 1) := by decide +kernel
theorem dX9_addTask_43 : decode cX9_addTask 43 = .ok (.invokevirtual 80, 3) := by decide +kernel
theorem dX9_addTask_46 : decode cX9_addTask 46 = .ok (.ireturn, 1) := by decide +kernel
theorem dX9_addTask_47 : decode cX9_addTask 47 = .ok (.aload_n 0, 1) := by decide +kernel
theorem dX9_addTask_48 : decode cX9_addTask 48 = .ok (.invokevirtual 84, 3) := by decide +kernel
theorem dX9_addTask_51 : decode cX9_addTask 51 = .ok (.aload_n 0, 1) := by decide +kernel
theorem dX9_addTask_52 : decode cX9_addTask 52 = .ok (.getfield 7, 3) := by decide +kernel
theorem dX9_addTask_55 : decode cX9_addTask 55 = .ok (.iload_n 1, 1) := by decide +kernel
theorem dX9_addTask_56 : decode cX9_addTask 56 = .ok (.iload_n 2, 1) := by decide +kernel
theorem dX9_addTask_57 : decode cX9_addTask 57 = .ok (.invokestatic 87, 3) := by decide +kernel
theorem dX9_addTask_60 : decode cX9_addTask 60 = .ok (.ireturn, 1) := by decide +kernel
set_option maxRecDepth 20000 in
theorem ggX9_removeTask_X9_fails : GoodIn wsX9_removeTask wsX9_fails := goodIn_r _ [7, 1, 20, 21, 22, 23, 24, 25, 26, 27, 28, 29, 30, 31, 32, 33, 34, 35] (by decide +kernel) (by decide +kernel)
set_option maxRecDepth 20000 in
theorem gX9_removeTask_X9_fails : GoodIn wsX9_removeTask (wsV RX9 80 RX9 yX9_fails wsX9_fails) := goodIn_app (goodIn_of _ (by decide +kernel)) ggX9_removeTask_X9_fails
set_option maxRecDepth 20000 in
theorem ggX9_removeTask_X9_keepsState : GoodIn wsX9_removeTask wsX9_keepsState := goodIn_r _ [11, 12, 13, 2, 14, 15, 6, 16, 20, 21, 22, 23, 24, 25, 26, 27, 28, 29, 30, 31, 32, 33, 34, 35] (by decide +kernel) (by decide +kernel)
set_option maxRecDepth 20000 in
theorem gX9_removeTask_X9_keepsState : GoodIn wsX9_removeTask (wsV RX9 84 RX9 yX9_keepsState wsX9_keepsState) := goodIn_app (goodIn_of _ (by decide +kernel)) ggX9_removeTask_X9_keepsState
set_option maxRecDepth 20000 in
theorem ggX9_removeTask_X9_links : GoodIn wsX9_removeTask wsX9_links := goodIn_r _ [19] (by decide +kernel) (by decide +kernel)
set_option maxRecDepth 20000 in
theorem gX9_removeTask_X9_links : GoodIn wsX9_removeTask (va_wsS RX9 90 yX9_links wsX9_links) := goodIn_app (goodIn_of _ (by decide +kernel)) ggX9_removeTask_X9_links
theorem dX9_removeTask_0 : decode cX9_removeTask 0 = .ok (.aload_n 0, 1) := by decide +kernel
theorem dX9_removeTask_1 : decode cX9_removeTask 1 = .ok (.iconst 0, 1) := by decide +kernel
theorem dX9_removeTask_2 : decode cX9_removeTask 2 = .ok (.putfield 44, 3) := by decide +kernel
theorem dX9_removeTask_5 : decode cX9_removeTask 5 = .ok (.aload_n 0, 1) := by decide +kernel
theorem dX9_removeTask_6 : decode cX9_removeTask 6 = .ok (.getfield 7, 3) := by decide +kernel
theorem dX9_removeTask_9 : decode cX9_removeTask 9 = .ok (.iconst 0, 1) := by decide +kernel
theorem dX9_removeTask_10 : decode cX9_removeTask 10 = .ok (.iaload, 1) := by decide +kernel
theorem dX9_removeTask_11 : decode cX9_removeTask 11 = .ok (.ifCond .ne 9, 3) := by decide +kernel
theorem dX9_removeTask_14 : decode cX9_removeTask 14 = .ok (.aload_n 0, 1) := by decide +kernel
theorem dX9_removeTask_15 : decode cX9_removeTask 15 = .ok (.iconst 1, 1) := by decide +kernel
theorem dX9_removeTask_16 : decode cX9_removeTask 16 = .ok (.invokevirtual 80, 3) := by decide +kernel
theorem dX9_removeTask_19 : decode cX9_removeTask 19 = .ok (.ireturn, 1) := by decide +kernel
theorem dX9_removeTask_20 : decode cX9_removeTask 20 = .ok (.aload_n 0, 1) := by decide +kernel
theorem dX9_removeTask_21 : decode cX9_removeTask 21 = .ok (.invokevirtual 84, 3) := by decide +kernel
theorem dX9_removeTask_24 : decode cX9_removeTask 24 = .ok (.aload_n 0, 1) := by decide +kernel
theorem dX9_removeTask_25 : decode cX9_removeTask 25 = .ok (.getfield 7, 3) := by decide +kernel
theorem dX9_removeTask_28 : decode cX9_removeTask 28 = .ok (.iconst 0, 1) := by decide +kernel
theorem dX9_removeTask_29 : decode cX9_removeTask 29 = .ok (.dup2, 1) := by decide +kernel
theorem dX9_removeTask_30 : decode cX9_removeTask 30 = .ok (.iaload, 1) := by decide +kernel
theorem dX9_removeTask_31 : decode cX9_removeTask 31 = .ok (.iconst 1, 1) := by decide +kernel
theorem dX9_removeTask_32 : decode cX9_removeTask 32 = .ok (.isub, 1) := by decide +kernel
theorem dX9_removeTask_33 : decode cX9_removeTask 33 = .ok (.iastore, 1) := by decide +kernel
theorem dX9_removeTask_34 : decode cX9_removeTask 34 = .ok (.aload_n 0, 1) := by decide +kernel
theorem dX9_removeTask_35 : decode cX9_removeTask 35 = .ok (.getfield 7, 3) := by decide +kernel
theorem dX9_removeTask_38 : decode cX9_removeTask 38 = .ok (.iconst 2, 1) := by decide +kernel
theorem dX9_removeTask_39 : decode cX9_removeTask 39 = .ok (.aload_n 0, 1) := by decide +kernel
theorem dX9_removeTask_40 : decode cX9_removeTask 40 = .ok (.getfield 7, 3) := by decide +kernel
theorem dX9_removeTask_43 : decode cX9_removeTask 43 = .ok (.iconst 0, 1) := by decide +kernel
theorem dX9_removeTask_44 : decode cX9_removeTask 44 = .ok (.iaload, 1) := by decide +kernel
theorem dX9_removeTask_45 : decode cX9_removeTask 45 = .ok (.iadd, 1) := by decide +kernel
theorem dX9_removeTask_46 : decode cX9_removeTask 46 = .ok (.iconst 0, 1) := by decide +kernel
theorem dX9_removeTask_47 : decode cX9_removeTask 47 = .ok (.iastore, 1) := by decide +kernel
theorem dX9_removeTask_48 : decode cX9_removeTask 48 = .ok (.aload_n 0, 1) := by decide +kernel
theorem dX9_removeTask_49 : decode cX9_removeTask 49 = .ok (.getfield 7, 3) := by decide +kernel
theorem dX9_removeTask_52 : decode cX9_removeTask 52 = .ok (.bipush 22, 2) := by decide +kernel
theorem dX9_removeTask_54 : decode cX9_removeTask 54 = .ok (.aload_n 0, 1) := by decide +kernel
theorem dX9_removeTask_55 : decode cX9_removeTask 55 = .ok (.getfield 7, 3) := by decide +kernel
theorem dX9_removeTask_58 : decode cX9_removeTask 58 = .ok (.iconst 0, 1) := by decide +kernel
theorem dX9_removeTask_59 : decode cX9_removeTask 59 = .ok (.iaload, 1) := by decide +kernel
theorem dX9_removeTask_60 : decode cX9_removeTask 60 = .ok (.iadd, 1) := by decide +kernel
theorem dX9_removeTask_61 : decode cX9_removeTask 61 = .ok (.iconst 0, 1) := by decide +kernel
theorem dX9_removeTask_62 : decode cX9_removeTask 62 = .ok (.iastore, 1) := by decide +kernel
theorem dX9_removeTask_63 : decode cX9_removeTask 63 = .ok (.iconst 0, 1) := by decide +kernel
theorem dX9_removeTask_64 : decode cX9_removeTask 64 = .ok (.istore_n 1, 1) := by decide +kernel
theorem dX9_removeTask_65 : decode cX9_removeTask 65 = .ok (.iload_n 1, 1) := by decide +kernel
theorem dX9_removeTask_66 : decode cX9_removeTask 66 = .ok (.bipush 20, 2) := by decide +kernel
theorem dX9_removeTask_68 : decode cX9_removeTask 68 = .ok (.if_icmp .ge 49, 3) := by decide +kernel
theorem dX9_removeTask_71 : decode cX9_removeTask 71 = .ok (.aload_n 0, 1) := by decide +kernel
theorem dX9_removeTask_72 : decode cX9_removeTask 72 = .ok (.getfield 7, 3) := by decide +kernel
theorem dX9_removeTask_75 : decode cX9_removeTask 75 = .ok (.bipush 42, 2) := by decide +kernel
theorem dX9_removeTask_77 : decode cX9_removeTask 77 = .ok (.bipush 20, 2) := by decide +kernel
theorem dX9_removeTask_79 : decode cX9_removeTask 79 = .ok (.iload_n 1, 1) := by decide +kernel
theorem dX9_removeTask_80 : decode cX9_removeTask 80 = .ok (.imul, 1) := by decide +kernel
theorem dX9_removeTask_81 : decode cX9_removeTask 81 = .ok (.iadd, 1) := by decide +kernel
theorem dX9_removeTask_82 : decode cX9_removeTask 82 = .ok (.aload_n 0, 1) := by decide +kernel
theorem dX9_removeTask_83 : decode cX9_removeTask 83 = .ok (.getfield 7, 3) := by decide +kernel
theorem dX9_removeTask_86 : decode cX9_removeTask 86 = .ok (.iconst 0, 1) := by decide +kernel
theorem dX9_removeTask_87 : decode cX9_removeTask 87 = .ok (.iaload, 1) := by decide +kernel
theorem dX9_removeTask_88 : decode cX9_removeTask 88 = .ok (.iadd, 1) := by decide +kernel
theorem dX9_removeTask_89 : decode cX9_removeTask 89 = .ok (.iconst (-1), 1) := by decide +kernel
theorem dX9_removeTask_90 : decode cX9_removeTask 90 = .ok (.iastore, 1) := by decide +kernel
theorem dX9_removeTask_91 : decode cX9_removeTask 91 = .ok (.aload_n 0, 1) := by decide +kernel
theorem dX9_removeTask_92 : decode cX9_removeTask 92 = .ok (.getfield 7, 3) := by decide +kernel
theorem dX9_removeTask_95 : decode cX9_removeTask 95 = .ok (.bipush 42, 2) := by decide +kernel
theorem dX9_removeTask_97 : decode cX9_removeTask 97 = .ok (.bipush 20, 2) := by decide +kernel
theorem dX9_removeTask_99 : decode cX9_removeTask 99 = .ok (.aload_n 0, 1) := by decide +kernel
theorem dX9_removeTask_100 : decode cX9_removeTask 100 = .ok (.getfield 7, 3) := by decide +kernel
theorem dX9_removeTask_103 : decode cX9_removeTask 103 = .ok (.iconst 0, 1) := by decide +kernel
theorem dX9_removeTask_104 : decode cX9_removeTask 104 = .ok (.iaload, 1) := by decide +kernel
theorem dX9_removeTask_105 : decode cX9_removeTask 105 = .ok (.imul, 1) := by decide +kernel
theorem dX9_removeTask_106 : decode cX9_removeTask 106 = .ok (.iadd, 1) := by decide +kernel
theorem dX9_removeTask_107 : decode cX9_removeTask 107 = .ok (.iload_n 1, 1) := by decide +kernel
theorem dX9_removeTask_108 : decode cX9_removeTask 108 = .ok (.iadd, 1) := by decide +kernel
theorem dX9_removeTask_109 : decode cX9_removeTask 109 = .ok (.iconst (-1), 1) := by decide +kernel
theorem dX9_removeTask_110 : decode cX9_removeTask 110 = .ok (.iastore, 1) := by decide +kernel
theorem dX9_removeTask_111 : decode cX9_removeTask 111 = .ok (.iinc 1 1, 3) := by decide +kernel
theorem dX9_removeTask_114 : decode cX9_removeTask 114 = .ok (.goto (-49), 3) := by decide +kernel
theorem dX9_removeTask_117 : decode cX9_removeTask 117 = .ok (.aload_n 0, 1) := by decide +kernel
theorem dX9_removeTask_118 : decode cX9_removeTask 118 = .ok (.getfield 7, 3) := by decide +kernel
theorem dX9_removeTask_121 : decode cX9_removeTask 121 = .ok (.invokestatic 90, 3) := by decide +kernel
theorem dX9_removeTask_124 : decode cX9_removeTask 124 = .ok (.ireturn, 1) := by decide +kernel
set_option maxRecDepth 20000 in
theorem ggX9_setLength_X9_isTask : GoodIn wsX9_setLength wsX9_isTask := goodIn_r _ [6, 1, 7, 8, 9, 5, 10, 29, 30, 31, 32, 33, 34, 35, 36, 37, 38, 39, 40, 41, 42, 43, 44] (by decide +kernel) (by decide +kernel)
set_option maxRecDepth 20000 in
theorem gX9_setLength_X9_isTask : GoodIn wsX9_setLength (wsV RX9 93 RX9 yX9_isTask wsX9_isTask) := goodIn_app (goodIn_of _ (by decide +kernel)) ggX9_setLength_X9_isTask
set_option maxRecDepth 20000 in
theorem ggX9_setLength_X9_in : GoodIn wsX9_setLength wsX9_in := goodIn_r _ [10] (by decide +kernel) (by decide +kernel)
set_option maxRecDepth 20000 in
theorem gX9_setLength_X9_in : GoodIn wsX9_setLength (va_wsS RX9 48 yX9_in wsX9_in) := goodIn_app (goodIn_of _ (by decide +kernel)) ggX9_setLength_X9_in
set_option maxRecDepth 20000 in
theorem ggX9_setLength_X9_fails : GoodIn wsX9_setLength wsX9_fails := goodIn_r _ [14, 7, 29, 30, 31, 32, 33, 34, 35, 36, 37, 38, 39, 40, 41, 42, 43, 44] (by decide +kernel) (by decide +kernel)
set_option maxRecDepth 20000 in
theorem gX9_setLength_X9_fails : GoodIn wsX9_setLength (wsV RX9 80 RX9 yX9_fails wsX9_fails) := goodIn_app (goodIn_of _ (by decide +kernel)) ggX9_setLength_X9_fails
set_option maxRecDepth 20000 in
theorem ggX9_setLength_X9_keepsState : GoodIn wsX9_setLength wsX9_keepsState := goodIn_r _ [18, 19, 20, 1, 21, 22, 5, 23, 29, 30, 31, 32, 33, 34, 35, 36, 37, 38, 39, 40, 41, 42, 43, 44] (by decide +kernel) (by decide +kernel)
set_option maxRecDepth 20000 in
theorem gX9_setLength_X9_keepsState : GoodIn wsX9_setLength (wsV RX9 84 RX9 yX9_keepsState wsX9_keepsState) := goodIn_app (goodIn_of _ (by decide +kernel)) ggX9_setLength_X9_keepsState
set_option maxRecDepth 20000 in
theorem ggX9_setLength_X9_starts : GoodIn wsX9_setLength wsX9_starts := goodIn_r _ [27, 28, 29, 30, 31, 32, 33, 34, 35, 36, 37, 38, 39, 40, 41, 42, 43, 44] (by decide +kernel) (by decide +kernel)
set_option maxRecDepth 20000 in
theorem gX9_setLength_X9_starts : GoodIn wsX9_setLength (wsV RX9 59 RX9 yX9_starts wsX9_starts) := goodIn_app (goodIn_of _ (by decide +kernel)) ggX9_setLength_X9_starts
theorem dX9_setLength_0 : decode cX9_setLength 0 = .ok (.aload_n 0, 1) := by decide +kernel
theorem dX9_setLength_1 : decode cX9_setLength 1 = .ok (.iload_n 1, 1) := by decide +kernel
theorem dX9_setLength_2 : decode cX9_setLength 2 = .ok (.invokevirtual 93, 3) := by decide +kernel
theorem dX9_setLength_5 : decode cX9_setLength 5 = .ok (.ifCond .ne 5, 3) := by decide +kernel
theorem dX9_setLength_8 : decode cX9_setLength 8 = .ok (.iconst 0, 1) := by decide +kernel
theorem dX9_setLength_9 : decode cX9_setLength 9 = .ok (.ireturn, 1) := by decide +kernel
theorem dX9_setLength_10 : decode cX9_setLength 10 = .ok (.iload_n 2, 1) := by decide +kernel
theorem dX9_setLength_11 : decode cX9_setLength 11 = .ok (.iconst 0, 1) := by decide +kernel
theorem dX9_setLength_12 : decode cX9_setLength 12 = .ok (.bipush 30, 2) := by decide +kernel
theorem dX9_setLength_14 : decode cX9_setLength 14 = .ok (.invokestatic 48, 3) := by decide +kernel
theorem dX9_setLength_17 : decode cX9_setLength 17 = .ok (.ifCond .ne 9, 3) := by decide +kernel
theorem dX9_setLength_20 : decode cX9_setLength 20 = .ok (.aload_n 0, 1) := by decide +kernel
theorem dX9_setLength_21 : decode cX9_setLength 21 = .ok (.iconst 2, 1) := by decide +kernel
theorem dX9_setLength_22 : decode cX9_setLength 22 = .ok (.invokevirtual 80, 3) := by decide +kernel
theorem dX9_setLength_25 : decode cX9_setLength 25 = .ok (.ireturn, 1) := by decide +kernel
theorem dX9_setLength_26 : decode cX9_setLength 26 = .ok (.aload_n 0, 1) := by decide +kernel
theorem dX9_setLength_27 : decode cX9_setLength 27 = .ok (.invokevirtual 84, 3) := by decide +kernel
theorem dX9_setLength_30 : decode cX9_setLength 30 = .ok (.aload_n 0, 1) := by decide +kernel
theorem dX9_setLength_31 : decode cX9_setLength 31 = .ok (.getfield 7, 3) := by decide +kernel
theorem dX9_setLength_34 : decode cX9_setLength 34 = .ok (.iconst 2, 1) := by decide +kernel
theorem dX9_setLength_35 : decode cX9_setLength 35 = .ok (.iload_n 1, 1) := by decide +kernel
theorem dX9_setLength_36 : decode cX9_setLength 36 = .ok (.iadd, 1) := by decide +kernel
theorem dX9_setLength_37 : decode cX9_setLength 37 = .ok (.iload_n 2, 1) := by decide +kernel
theorem dX9_setLength_38 : decode cX9_setLength 38 = .ok (.iastore, 1) := by decide +kernel
theorem dX9_setLength_39 : decode cX9_setLength 39 = .ok (.aload_n 0, 1) := by decide +kernel
theorem dX9_setLength_40 : decode cX9_setLength 40 = .ok (.aload_n 0, 1) := by decide +kernel
theorem dX9_setLength_41 : decode cX9_setLength 41 = .ok (.getfield 7, 3) := by decide +kernel
theorem dX9_setLength_44 : decode cX9_setLength 44 = .ok (.invokevirtual 59, 3) := by decide +kernel
theorem dX9_setLength_47 : decode cX9_setLength 47 = .ok (.ireturn, 1) := by decide +kernel
set_option maxRecDepth 20000 in
theorem ggX9_depend_X9_are : GoodIn wsX9_depend wsX9_are := goodIn_r _ [6, 1, 7, 8, 9, 5, 10, 38, 39, 40, 41, 42, 43, 44, 45, 46, 47, 48, 49, 50, 51, 52, 53] (by decide +kernel) (by decide +kernel)
set_option maxRecDepth 20000 in
theorem gX9_depend_X9_are : GoodIn wsX9_depend (wsV RX9 97 RX9 yX9_are wsX9_are) := goodIn_app (goodIn_of _ (by decide +kernel)) ggX9_depend_X9_are
set_option maxRecDepth 20000 in
theorem ggX9_depend_X9_in : GoodIn wsX9_depend wsX9_in := goodIn_r _ [10] (by decide +kernel) (by decide +kernel)
set_option maxRecDepth 20000 in
theorem gX9_depend_X9_in : GoodIn wsX9_depend (va_wsS RX9 48 yX9_in wsX9_in) := goodIn_app (goodIn_of _ (by decide +kernel)) ggX9_depend_X9_in
set_option maxRecDepth 20000 in
theorem ggX9_depend_X9_fails : GoodIn wsX9_depend wsX9_fails := goodIn_r _ [14, 7, 38, 39, 40, 41, 42, 43, 44, 45, 46, 47, 48, 49, 50, 51, 52, 53] (by decide +kernel) (by decide +kernel)
set_option maxRecDepth 20000 in
theorem gX9_depend_X9_fails : GoodIn wsX9_depend (wsV RX9 80 RX9 yX9_fails wsX9_fails) := goodIn_app (goodIn_of _ (by decide +kernel)) ggX9_depend_X9_fails
set_option maxRecDepth 20000 in
theorem ggX9_depend_X9_links : GoodIn wsX9_depend wsX9_links := goodIn_r _ [17] (by decide +kernel) (by decide +kernel)
set_option maxRecDepth 20000 in
theorem gX9_depend_X9_links : GoodIn wsX9_depend (va_wsS RX9 90 yX9_links wsX9_links) := goodIn_app (goodIn_of _ (by decide +kernel)) ggX9_depend_X9_links
set_option maxRecDepth 20000 in
theorem ggX9_depend_X9_lag : GoodIn wsX9_depend wsX9_lag := goodIn_r _ [20] (by decide +kernel) (by decide +kernel)
set_option maxRecDepth 20000 in
theorem gX9_depend_X9_lag : GoodIn wsX9_depend (va_wsS RX9 63 yX9_lag wsX9_lag) := goodIn_app (goodIn_of _ (by decide +kernel)) ggX9_depend_X9_lag
set_option maxRecDepth 20000 in
theorem ggX9_depend_X9_ahead : GoodIn wsX9_depend wsX9_ahead := goodIn_r _ [23] (by decide +kernel) (by decide +kernel)
set_option maxRecDepth 20000 in
theorem gX9_depend_X9_ahead : GoodIn wsX9_depend (va_wsS RX9 101 yX9_ahead wsX9_ahead) := goodIn_app (goodIn_of _ (by decide +kernel)) ggX9_depend_X9_ahead
set_option maxRecDepth 20000 in
theorem ggX9_depend_X9_keepsState : GoodIn wsX9_depend wsX9_keepsState := goodIn_r _ [27, 28, 29, 1, 30, 31, 5, 32, 38, 39, 40, 41, 42, 43, 44, 45, 46, 47, 48, 49, 50, 51, 52, 53] (by decide +kernel) (by decide +kernel)
set_option maxRecDepth 20000 in
theorem gX9_depend_X9_keepsState : GoodIn wsX9_depend (wsV RX9 84 RX9 yX9_keepsState wsX9_keepsState) := goodIn_app (goodIn_of _ (by decide +kernel)) ggX9_depend_X9_keepsState
set_option maxRecDepth 20000 in
theorem ggX9_depend_X9_starts : GoodIn wsX9_depend wsX9_starts := goodIn_r _ [36, 37, 38, 39, 40, 41, 42, 43, 44, 45, 46, 47, 48, 49, 50, 51, 52, 53] (by decide +kernel) (by decide +kernel)
set_option maxRecDepth 20000 in
theorem gX9_depend_X9_starts : GoodIn wsX9_depend (wsV RX9 59 RX9 yX9_starts wsX9_starts) := goodIn_app (goodIn_of _ (by decide +kernel)) ggX9_depend_X9_starts
theorem dX9_depend_0 : decode cX9_depend 0 = .ok (.aload_n 0, 1) := by decide +kernel
theorem dX9_depend_1 : decode cX9_depend 1 = .ok (.iload_n 1, 1) := by decide +kernel
theorem dX9_depend_2 : decode cX9_depend 2 = .ok (.iload_n 2, 1) := by decide +kernel
theorem dX9_depend_3 : decode cX9_depend 3 = .ok (.invokevirtual 97, 3) := by decide +kernel
theorem dX9_depend_6 : decode cX9_depend 6 = .ok (.ifCond .ne 5, 3) := by decide +kernel
theorem dX9_depend_9 : decode cX9_depend 9 = .ok (.iconst 0, 1) := by decide +kernel
theorem dX9_depend_10 : decode cX9_depend 10 = .ok (.ireturn, 1) := by decide +kernel
theorem dX9_depend_11 : decode cX9_depend 11 = .ok (.iload_n 3, 1) := by decide +kernel
theorem dX9_depend_12 : decode cX9_depend 12 = .ok (.iconst 0, 1) := by decide +kernel
theorem dX9_depend_13 : decode cX9_depend 13 = .ok (.bipush 9, 2) := by decide +kernel
theorem dX9_depend_15 : decode cX9_depend 15 = .ok (.invokestatic 48, 3) := by decide +kernel
theorem dX9_depend_18 : decode cX9_depend 18 = .ok (.ifCond .eq 8, 3) := by decide +kernel
theorem dX9_depend_21 : decode cX9_depend 21 = .ok (.iload_n 1, 1) := by decide +kernel
theorem dX9_depend_22 : decode cX9_depend 22 = .ok (.iload_n 2, 1) := by decide +kernel
theorem dX9_depend_23 : decode cX9_depend 23 = .ok (.if_icmp .ne 9, 3) := by decide +kernel
theorem dX9_depend_26 : decode cX9_depend 26 = .ok (.aload_n 0, 1) := by decide +kernel
theorem dX9_depend_27 : decode cX9_depend 27 = .ok (.iconst 2, 1) := by decide +kernel
theorem dX9_depend_28 : decode cX9_depend 28 = .ok (.invokevirtual 80, 3) := by decide +kernel
theorem dX9_depend_31 : decode cX9_depend 31 = .ok (.ireturn, 1) := by decide +kernel
theorem dX9_depend_32 : decode cX9_depend 32 = .ok (.aload_n 0, 1) := by decide +kernel
theorem dX9_depend_33 : decode cX9_depend 33 = .ok (.getfield 7, 3) := by decide +kernel
theorem dX9_depend_36 : decode cX9_depend 36 = .ok (.invokestatic 90, 3) := by decide +kernel
theorem dX9_depend_39 : decode cX9_depend 39 = .ok (.bipush 40, 2) := by decide +kernel
theorem dX9_depend_41 : decode cX9_depend 41 = .ok (.if_icmp .ne 15, 3) := by decide +kernel
theorem dX9_depend_44 : decode cX9_depend 44 = .ok (.aload_n 0, 1) := by decide +kernel
theorem dX9_depend_45 : decode cX9_depend 45 = .ok (.getfield 7, 3) := by decide +kernel
theorem dX9_depend_48 : decode cX9_depend 48 = .ok (.iload_n 1, 1) := by decide +kernel
theorem dX9_depend_49 : decode cX9_depend 49 = .ok (.iload_n 2, 1) := by decide +kernel
theorem dX9_depend_50 : decode cX9_depend 50 = .ok (.invokestatic 63, 3) := by decide +kernel
theorem dX9_depend_53 : decode cX9_depend 53 = .ok (.ifCond .lt 15, 3) := by decide +kernel
theorem dX9_depend_56 : decode cX9_depend 56 = .ok (.aload_n 0, 1) := by decide +kernel
theorem dX9_depend_57 : decode cX9_depend 57 = .ok (.getfield 7, 3) := by decide +kernel
theorem dX9_depend_60 : decode cX9_depend 60 = .ok (.iload_n 2, 1) := by decide +kernel
theorem dX9_depend_61 : decode cX9_depend 61 = .ok (.iload_n 1, 1) := by decide +kernel
theorem dX9_depend_62 : decode cX9_depend 62 = .ok (.invokestatic 101, 3) := by decide +kernel
theorem dX9_depend_65 : decode cX9_depend 65 = .ok (.ifCond .eq 9, 3) := by decide +kernel
theorem dX9_depend_68 : decode cX9_depend 68 = .ok (.aload_n 0, 1) := by decide +kernel
theorem dX9_depend_69 : decode cX9_depend 69 = .ok (.iconst 3, 1) := by decide +kernel
theorem dX9_depend_70 : decode cX9_depend 70 = .ok (.invokevirtual 80, 3) := by decide +kernel
theorem dX9_depend_73 : decode cX9_depend 73 = .ok (.ireturn, 1) := by decide +kernel
theorem dX9_depend_74 : decode cX9_depend 74 = .ok (.aload_n 0, 1) := by decide +kernel
theorem dX9_depend_75 : decode cX9_depend 75 = .ok (.invokevirtual 84, 3) := by decide +kernel
theorem dX9_depend_78 : decode cX9_depend 78 = .ok (.aload_n 0, 1) := by decide +kernel
theorem dX9_depend_79 : decode cX9_depend 79 = .ok (.getfield 7, 3) := by decide +kernel
theorem dX9_depend_82 : decode cX9_depend 82 = .ok (.bipush 42, 2) := by decide +kernel
theorem dX9_depend_84 : decode cX9_depend 84 = .ok (.bipush 20, 2) := by decide +kernel
theorem dX9_depend_86 : decode cX9_depend 86 = .ok (.iload_n 1, 1) := by decide +kernel
theorem dX9_depend_87 : decode cX9_depend 87 = .ok (.imul, 1) := by decide +kernel
theorem dX9_depend_88 : decode cX9_depend 88 = .ok (.iadd, 1) := by decide +kernel
theorem dX9_depend_89 : decode cX9_depend 89 = .ok (.iload_n 2, 1) := by decide +kernel
theorem dX9_depend_90 : decode cX9_depend 90 = .ok (.iadd, 1) := by decide +kernel
theorem dX9_depend_91 : decode cX9_depend 91 = .ok (.iload_n 3, 1) := by decide +kernel
theorem dX9_depend_92 : decode cX9_depend 92 = .ok (.iastore, 1) := by decide +kernel
theorem dX9_depend_93 : decode cX9_depend 93 = .ok (.aload_n 0, 1) := by decide +kernel
theorem dX9_depend_94 : decode cX9_depend 94 = .ok (.aload_n 0, 1) := by decide +kernel
theorem dX9_depend_95 : decode cX9_depend 95 = .ok (.getfield 7, 3) := by decide +kernel
theorem dX9_depend_98 : decode cX9_depend 98 = .ok (.invokevirtual 59, 3) := by decide +kernel
theorem dX9_depend_101 : decode cX9_depend 101 = .ok (.ireturn, 1) := by decide +kernel
set_option maxRecDepth 20000 in
theorem ggX9_release_X9_are : GoodIn wsX9_release wsX9_are := goodIn_r _ [6, 1, 7, 8, 9, 5, 10, 27, 28, 29, 30, 31, 32, 33, 34, 35, 36, 37, 38, 39, 40, 41, 42] (by decide +kernel) (by decide +kernel)
set_option maxRecDepth 20000 in
theorem gX9_release_X9_are : GoodIn wsX9_release (wsV RX9 97 RX9 yX9_are wsX9_are) := goodIn_app (goodIn_of _ (by decide +kernel)) ggX9_release_X9_are
set_option maxRecDepth 20000 in
theorem ggX9_release_X9_lag : GoodIn wsX9_release wsX9_lag := goodIn_r _ [13] (by decide +kernel) (by decide +kernel)
set_option maxRecDepth 20000 in
theorem gX9_release_X9_lag : GoodIn wsX9_release (va_wsS RX9 63 yX9_lag wsX9_lag) := goodIn_app (goodIn_of _ (by decide +kernel)) ggX9_release_X9_lag
set_option maxRecDepth 20000 in
theorem ggX9_release_X9_fails : GoodIn wsX9_release wsX9_fails := goodIn_r _ [17, 7, 27, 28, 29, 30, 31, 32, 33, 34, 35, 36, 37, 38, 39, 40, 41, 42] (by decide +kernel) (by decide +kernel)
set_option maxRecDepth 20000 in
theorem gX9_release_X9_fails : GoodIn wsX9_release (wsV RX9 80 RX9 yX9_fails wsX9_fails) := goodIn_app (goodIn_of _ (by decide +kernel)) ggX9_release_X9_fails
set_option maxRecDepth 20000 in
theorem ggX9_release_X9_keepsState : GoodIn wsX9_release wsX9_keepsState := goodIn_r _ [21, 22, 23, 1, 24, 25, 5, 26, 27, 28, 29, 30, 31, 32, 33, 34, 35, 36, 37, 38, 39, 40, 41, 42] (by decide +kernel) (by decide +kernel)
set_option maxRecDepth 20000 in
theorem gX9_release_X9_keepsState : GoodIn wsX9_release (wsV RX9 84 RX9 yX9_keepsState wsX9_keepsState) := goodIn_app (goodIn_of _ (by decide +kernel)) ggX9_release_X9_keepsState
theorem dX9_release_0 : decode cX9_release 0 = .ok (.aload_n 0, 1) := by decide +kernel
theorem dX9_release_1 : decode cX9_release 1 = .ok (.iload_n 1, 1) := by decide +kernel
theorem dX9_release_2 : decode cX9_release 2 = .ok (.iload_n 2, 1) := by decide +kernel
theorem dX9_release_3 : decode cX9_release 3 = .ok (.invokevirtual 97, 3) := by decide +kernel
theorem dX9_release_6 : decode cX9_release 6 = .ok (.ifCond .ne 5, 3) := by decide +kernel
theorem dX9_release_9 : decode cX9_release 9 = .ok (.iconst 0, 1) := by decide +kernel
theorem dX9_release_10 : decode cX9_release 10 = .ok (.ireturn, 1) := by decide +kernel
theorem dX9_release_11 : decode cX9_release 11 = .ok (.aload_n 0, 1) := by decide +kernel
theorem dX9_release_12 : decode cX9_release 12 = .ok (.getfield 7, 3) := by decide +kernel
theorem dX9_release_15 : decode cX9_release 15 = .ok (.iload_n 1, 1) := by decide +kernel
theorem dX9_release_16 : decode cX9_release 16 = .ok (.iload_n 2, 1) := by decide +kernel
theorem dX9_release_17 : decode cX9_release 17 = .ok (.invokestatic 63, 3) := by decide +kernel
theorem dX9_release_20 : decode cX9_release 20 = .ok (.ifCond .ge 9, 3) := by decide +kernel
theorem dX9_release_23 : decode cX9_release 23 = .ok (.aload_n 0, 1) := by decide +kernel
theorem dX9_release_24 : decode cX9_release 24 = .ok (.iconst 2, 1) := by decide +kernel
theorem dX9_release_25 : decode cX9_release 25 = .ok (.invokevirtual 80, 3) := by decide +kernel
theorem dX9_release_28 : decode cX9_release 28 = .ok (.ireturn, 1) := by decide +kernel
theorem dX9_release_29 : decode cX9_release 29 = .ok (.aload_n 0, 1) := by decide +kernel
theorem dX9_release_30 : decode cX9_release 30 = .ok (.invokevirtual 84, 3) := by decide +kernel
theorem dX9_release_33 : decode cX9_release 33 = .ok (.aload_n 0, 1) := by decide +kernel
theorem dX9_release_34 : decode cX9_release 34 = .ok (.getfield 7, 3) := by decide +kernel
theorem dX9_release_37 : decode cX9_release 37 = .ok (.iload_n 1, 1) := by decide +kernel
theorem dX9_release_38 : decode cX9_release 38 = .ok (.iload_n 2, 1) := by decide +kernel
theorem dX9_release_39 : decode cX9_release 39 = .ok (.invokestatic 63, 3) := by decide +kernel
theorem dX9_release_42 : decode cX9_release 42 = .ok (.istore_n 3, 1) := by decide +kernel
theorem dX9_release_43 : decode cX9_release 43 = .ok (.aload_n 0, 1) := by decide +kernel
theorem dX9_release_44 : decode cX9_release 44 = .ok (.getfield 7, 3) := by decide +kernel
theorem dX9_release_47 : decode cX9_release 47 = .ok (.bipush 42, 2) := by decide +kernel
theorem dX9_release_49 : decode cX9_release 49 = .ok (.bipush 20, 2) := by decide +kernel
theorem dX9_release_51 : decode cX9_release 51 = .ok (.iload_n 1, 1) := by decide +kernel
theorem dX9_release_52 : decode cX9_release 52 = .ok (.imul, 1) := by decide +kernel
theorem dX9_release_53 : decode cX9_release 53 = .ok (.iadd, 1) := by decide +kernel
theorem dX9_release_54 : decode cX9_release 54 = .ok (.iload_n 2, 1) := by decide +kernel
theorem dX9_release_55 : decode cX9_release 55 = .ok (.iadd, 1) := by decide +kernel
theorem dX9_release_56 : decode cX9_release 56 = .ok (.iconst (-1), 1) := by decide +kernel
theorem dX9_release_57 : decode cX9_release 57 = .ok (.iastore, 1) := by decide +kernel
theorem dX9_release_58 : decode cX9_release 58 = .ok (.iload_n 3, 1) := by decide +kernel
theorem dX9_release_59 : decode cX9_release 59 = .ok (.ireturn, 1) := by decide +kernel
set_option maxRecDepth 20000 in
theorem ggX9_setCrews_X9_in : GoodIn wsX9_setCrews wsX9_in := goodIn_r _ [6] (by decide +kernel) (by decide +kernel)
set_option maxRecDepth 20000 in
theorem gX9_setCrews_X9_in : GoodIn wsX9_setCrews (va_wsS RX9 48 yX9_in wsX9_in) := goodIn_app (goodIn_of _ (by decide +kernel)) ggX9_setCrews_X9_in
set_option maxRecDepth 20000 in
theorem ggX9_setCrews_X9_fails : GoodIn wsX9_setCrews wsX9_fails := goodIn_r _ [10, 1, 20, 21, 22, 23, 24, 25, 26, 27, 28, 29, 30, 31, 32, 33, 34, 35] (by decide +kernel) (by decide +kernel)
set_option maxRecDepth 20000 in
theorem gX9_setCrews_X9_fails : GoodIn wsX9_setCrews (wsV RX9 80 RX9 yX9_fails wsX9_fails) := goodIn_app (goodIn_of _ (by decide +kernel)) ggX9_setCrews_X9_fails
set_option maxRecDepth 20000 in
theorem ggX9_setCrews_X9_keepsState : GoodIn wsX9_setCrews wsX9_keepsState := goodIn_r _ [14, 15, 16, 2, 17, 18, 5, 19, 20, 21, 22, 23, 24, 25, 26, 27, 28, 29, 30, 31, 32, 33, 34, 35] (by decide +kernel) (by decide +kernel)
set_option maxRecDepth 20000 in
theorem gX9_setCrews_X9_keepsState : GoodIn wsX9_setCrews (wsV RX9 84 RX9 yX9_keepsState wsX9_keepsState) := goodIn_app (goodIn_of _ (by decide +kernel)) ggX9_setCrews_X9_keepsState
theorem dX9_setCrews_0 : decode cX9_setCrews 0 = .ok (.aload_n 0, 1) := by decide +kernel
theorem dX9_setCrews_1 : decode cX9_setCrews 1 = .ok (.iconst 0, 1) := by decide +kernel
theorem dX9_setCrews_2 : decode cX9_setCrews 2 = .ok (.putfield 44, 3) := by decide +kernel
theorem dX9_setCrews_5 : decode cX9_setCrews 5 = .ok (.iload_n 1, 1) := by decide +kernel
theorem dX9_setCrews_6 : decode cX9_setCrews 6 = .ok (.iconst 1, 1) := by decide +kernel
theorem dX9_setCrews_7 : decode cX9_setCrews 7 = .ok (.bipush 9, 2) := by decide +kernel
theorem dX9_setCrews_9 : decode cX9_setCrews 9 = .ok (.invokestatic 48, 3) := by decide +kernel
theorem dX9_setCrews_12 : decode cX9_setCrews 12 = .ok (.ifCond .ne 9, 3) := by decide +kernel
theorem dX9_setCrews_15 : decode cX9_setCrews 15 = .ok (.aload_n 0, 1) := by decide +kernel
theorem dX9_setCrews_16 : decode cX9_setCrews 16 = .ok (.iconst 1, 1) := by decide +kernel
theorem dX9_setCrews_17 : decode cX9_setCrews 17 = .ok (.invokevirtual 80, 3) := by decide +kernel
theorem dX9_setCrews_20 : decode cX9_setCrews 20 = .ok (.ireturn, 1) := by decide +kernel
theorem dX9_setCrews_21 : decode cX9_setCrews 21 = .ok (.aload_n 0, 1) := by decide +kernel
theorem dX9_setCrews_22 : decode cX9_setCrews 22 = .ok (.invokevirtual 84, 3) := by decide +kernel
theorem dX9_setCrews_25 : decode cX9_setCrews 25 = .ok (.aload_n 0, 1) := by decide +kernel
theorem dX9_setCrews_26 : decode cX9_setCrews 26 = .ok (.getfield 7, 3) := by decide +kernel
theorem dX9_setCrews_29 : decode cX9_setCrews 29 = .ok (.iconst 1, 1) := by decide +kernel
theorem dX9_setCrews_30 : decode cX9_setCrews 30 = .ok (.iaload, 1) := by decide +kernel
theorem dX9_setCrews_31 : decode cX9_setCrews 31 = .ok (.istore_n 2, 1) := by decide +kernel
theorem dX9_setCrews_32 : decode cX9_setCrews 32 = .ok (.aload_n 0, 1) := by decide +kernel
theorem dX9_setCrews_33 : decode cX9_setCrews 33 = .ok (.getfield 7, 3) := by decide +kernel
theorem dX9_setCrews_36 : decode cX9_setCrews 36 = .ok (.iconst 1, 1) := by decide +kernel
theorem dX9_setCrews_37 : decode cX9_setCrews 37 = .ok (.iload_n 1, 1) := by decide +kernel
theorem dX9_setCrews_38 : decode cX9_setCrews 38 = .ok (.iastore, 1) := by decide +kernel
theorem dX9_setCrews_39 : decode cX9_setCrews 39 = .ok (.iload_n 2, 1) := by decide +kernel
theorem dX9_setCrews_40 : decode cX9_setCrews 40 = .ok (.ireturn, 1) := by decide +kernel
set_option maxRecDepth 20000 in
theorem ggX9_next_X9_in : GoodIn wsX9_next wsX9_in := goodIn_r _ [7] (by decide +kernel) (by decide +kernel)
set_option maxRecDepth 20000 in
theorem gX9_next_X9_in : GoodIn wsX9_next (va_wsS RX9 48 yX9_in wsX9_in) := goodIn_app (goodIn_of _ (by decide +kernel)) ggX9_next_X9_in
theorem dX9_next_0 : decode cX9_next 0 = .ok (.aload_n 0, 1) := by decide +kernel
theorem dX9_next_1 : decode cX9_next 1 = .ok (.getfield 105, 3) := by decide +kernel
theorem dX9_next_4 : decode cX9_next 4 = .ok (.aload_n 0, 1) := by decide +kernel
theorem dX9_next_5 : decode cX9_next 5 = .ok (.getfield 108, 3) := by decide +kernel
theorem dX9_next_8 : decode cX9_next 8 = .ok (.if_icmp .ge 44, 3) := by decide +kernel
theorem dX9_next_11 : decode cX9_next 11 = .ok (.aload_n 0, 1) := by decide +kernel
theorem dX9_next_12 : decode cX9_next 12 = .ok (.getfield 22, 3) := by decide +kernel
theorem dX9_next_15 : decode cX9_next 15 = .ok (.aload_n 0, 1) := by decide +kernel
theorem dX9_next_16 : decode cX9_next 16 = .ok (.getfield 105, 3) := by decide +kernel
theorem dX9_next_19 : decode cX9_next 19 = .ok (.iaload, 1) := by decide +kernel
theorem dX9_next_20 : decode cX9_next 20 = .ok (.iload_n 1, 1) := by decide +kernel
theorem dX9_next_21 : decode cX9_next 21 = .ok (.iload_n 2, 1) := by decide +kernel
theorem dX9_next_22 : decode cX9_next 22 = .ok (.invokestatic 48, 3) := by decide +kernel
theorem dX9_next_25 : decode cX9_next 25 = .ok (.ifCond .eq 27, 3) := by decide +kernel
theorem dX9_next_28 : decode cX9_next 28 = .ok (.aload_n 0, 1) := by decide +kernel
theorem dX9_next_29 : decode cX9_next 29 = .ok (.dup, 1) := by decide +kernel
theorem dX9_next_30 : decode cX9_next 30 = .ok (.getfield 105, 3) := by decide +kernel
theorem dX9_next_33 : decode cX9_next 33 = .ok (.iconst 1, 1) := by decide +kernel
theorem dX9_next_34 : decode cX9_next 34 = .ok (.iadd, 1) := by decide +kernel
theorem dX9_next_35 : decode cX9_next 35 = .ok (.putfield 105, 3) := by decide +kernel
theorem dX9_next_38 : decode cX9_next 38 = .ok (.aload_n 0, 1) := by decide +kernel
theorem dX9_next_39 : decode cX9_next 39 = .ok (.getfield 22, 3) := by decide +kernel
theorem dX9_next_42 : decode cX9_next 42 = .ok (.aload_n 0, 1) := by decide +kernel
theorem dX9_next_43 : decode cX9_next 43 = .ok (.getfield 105, 3) := by decide +kernel
theorem dX9_next_46 : decode cX9_next 46 = .ok (.iconst 1, 1) := by decide +kernel
theorem dX9_next_47 : decode cX9_next 47 = .ok (.isub, 1) := by decide +kernel
theorem dX9_next_48 : decode cX9_next 48 = .ok (.iaload, 1) := by decide +kernel
theorem dX9_next_49 : decode cX9_next 49 = .ok (.iload_n 1, 1) := by decide +kernel
theorem dX9_next_50 : decode cX9_next 50 = .ok (.isub, 1) := by decide +kernel
theorem dX9_next_51 : decode cX9_next 51 = .ok (.ireturn, 1) := by decide +kernel
theorem dX9_next_52 : decode cX9_next 52 = .ok (.iconst (-1), 1) := by decide +kernel
theorem dX9_next_53 : decode cX9_next 53 = .ok (.ireturn, 1) := by decide +kernel
set_option maxRecDepth 20000 in
theorem ggX9_number_X9_next : GoodIn wsX9_number wsX9_next := goodIn_r _ [5, 6, 7, 8, 9, 10, 4, 11, 12, 13, 14, 15, 16, 17, 18, 19, 20, 21, 22, 23, 24, 25, 26, 27] (by decide +kernel) (by decide +kernel)
set_option maxRecDepth 20000 in
theorem gX9_number_X9_next : GoodIn wsX9_number (wsV RX9 111 RX9 yX9_next wsX9_next) := goodIn_app (goodIn_of _ (by decide +kernel)) ggX9_number_X9_next
theorem dX9_number_0 : decode cX9_number 0 = .ok (.aload_n 0, 1) := by decide +kernel
theorem dX9_number_1 : decode cX9_number 1 = .ok (.bipush 48, 2) := by decide +kernel
theorem dX9_number_3 : decode cX9_number 3 = .ok (.bipush 57, 2) := by decide +kernel
theorem dX9_number_5 : decode cX9_number 5 = .ok (.invokevirtual 111, 3) := by decide +kernel
theorem dX9_number_8 : decode cX9_number 8 = .ok (.istore_n 1, 1) := by decide +kernel
theorem dX9_number_9 : decode cX9_number 9 = .ok (.iload_n 1, 1) := by decide +kernel
theorem dX9_number_10 : decode cX9_number 10 = .ok (.iconst 1, 1) := by decide +kernel
theorem dX9_number_11 : decode cX9_number 11 = .ok (.if_icmp .eq 8, 3) := by decide +kernel
theorem dX9_number_14 : decode cX9_number 14 = .ok (.iload_n 1, 1) := by decide +kernel
theorem dX9_number_15 : decode cX9_number 15 = .ok (.iconst 2, 1) := by decide +kernel
theorem dX9_number_16 : decode cX9_number 16 = .ok (.if_icmp .ne 14, 3) := by decide +kernel
theorem dX9_number_19 : decode cX9_number 19 = .ok (.aload_n 0, 1) := by decide +kernel
theorem dX9_number_20 : decode cX9_number 20 = .ok (.bipush 48, 2) := by decide +kernel
theorem dX9_number_22 : decode cX9_number 22 = .ok (.bipush 57, 2) := by decide +kernel
theorem dX9_number_24 : decode cX9_number 24 = .ok (.invokevirtual 111, 3) := by decide +kernel
theorem dX9_number_27 : decode cX9_number 27 = .ok (.goto 20, 3) := by decide +kernel
theorem dX9_number_30 : decode cX9_number 30 = .ok (.iload_n 1, 1) := by decide +kernel
theorem dX9_number_31 : decode cX9_number 31 = .ok (.iconst 3, 1) := by decide +kernel
theorem dX9_number_32 : decode cX9_number 32 = .ok (.if_icmp .ne 14, 3) := by decide +kernel
theorem dX9_number_35 : decode cX9_number 35 = .ok (.aload_n 0, 1) := by decide +kernel
theorem dX9_number_36 : decode cX9_number 36 = .ok (.bipush 48, 2) := by decide +kernel
theorem dX9_number_38 : decode cX9_number 38 = .ok (.bipush 48, 2) := by decide +kernel
theorem dX9_number_40 : decode cX9_number 40 = .ok (.invokevirtual 111, 3) := by decide +kernel
theorem dX9_number_43 : decode cX9_number 43 = .ok (.goto 4, 3) := by decide +kernel
theorem dX9_number_46 : decode cX9_number 46 = .ok (.iconst (-1), 1) := by decide +kernel
theorem dX9_number_47 : decode cX9_number 47 = .ok (.istore_n 2, 1) := by decide +kernel
theorem dX9_number_48 : decode cX9_number 48 = .ok (.iload_n 2, 1) := by decide +kernel
theorem dX9_number_49 : decode cX9_number 49 = .ok (.ifCond .ge 7, 3) := by decide +kernel
theorem dX9_number_52 : decode cX9_number 52 = .ok (.iload_n 1, 1) := by decide +kernel
theorem dX9_number_53 : decode cX9_number 53 = .ok (.goto 9, 3) := by decide +kernel
theorem dX9_number_56 : decode cX9_number 56 = .ok (.bipush 10, 2) := by decide +kernel
theorem dX9_number_58 : decode cX9_number 58 = .ok (.iload_n 1, 1) := by decide +kernel
theorem dX9_number_59 : decode cX9_number 59 = .ok (.imul, 1) := by decide +kernel
theorem dX9_number_60 : decode cX9_number 60 = .ok (.iload_n 2, 1) := by decide +kernel
theorem dX9_number_61 : decode cX9_number 61 = .ok (.iadd, 1) := by decide +kernel
theorem dX9_number_62 : decode cX9_number 62 = .ok (.ireturn, 1) := by decide +kernel
set_option maxRecDepth 20000 in
theorem ggX9_befores_X9_next : GoodIn wsX9_befores wsX9_next := goodIn_r _ [6, 7, 8, 9, 10, 11, 5, 12, 13, 14, 15, 16, 17, 18, 19, 20, 21, 22, 23, 24, 25, 26, 27, 28] (by decide +kernel) (by decide +kernel)
set_option maxRecDepth 20000 in
theorem gX9_befores_X9_next : GoodIn wsX9_befores (wsV RX9 111 RX9 yX9_next wsX9_next) := goodIn_app (goodIn_of _ (by decide +kernel)) ggX9_befores_X9_next
theorem dX9_befores_0 : decode cX9_befores 0 = .ok (.iconst (-1), 1) := by decide +kernel
theorem dX9_befores_1 : decode cX9_befores 1 = .ok (.istore_n 2, 1) := by decide +kernel
theorem dX9_befores_2 : decode cX9_befores 2 = .ok (.iconst 1, 1) := by decide +kernel
theorem dX9_befores_3 : decode cX9_befores 3 = .ok (.istore_n 3, 1) := by decide +kernel
theorem dX9_befores_4 : decode cX9_befores 4 = .ok (.iload_n 3, 1) := by decide +kernel
theorem dX9_befores_5 : decode cX9_befores 5 = .ok (.ifCond .eq 110, 3) := by decide +kernel
theorem dX9_befores_8 : decode cX9_befores 8 = .ok (.iload_n 2, 1) := by decide +kernel
theorem dX9_befores_9 : decode cX9_befores 9 = .ok (.iconst 1, 1) := by decide +kernel
theorem dX9_befores_10 : decode cX9_befores 10 = .ok (.iadd, 1) := by decide +kernel
theorem dX9_befores_11 : decode cX9_befores 11 = .ok (.iload_n 1, 1) := by decide +kernel
theorem dX9_befores_12 : decode cX9_befores 12 = .ok (.if_icmp .ge 24, 3) := by decide +kernel
theorem dX9_befores_15 : decode cX9_befores 15 = .ok (.aload_n 0, 1) := by decide +kernel
theorem dX9_befores_16 : decode cX9_befores 16 = .ok (.bipush 97, 2) := by decide +kernel
theorem dX9_befores_18 : decode cX9_befores 18 = .ok (.iload_n 2, 1) := by decide +kernel
theorem dX9_befores_19 : decode cX9_befores 19 = .ok (.iadd, 1) := by decide +kernel
theorem dX9_befores_20 : decode cX9_befores 20 = .ok (.iconst 1, 1) := by decide +kernel
theorem dX9_befores_21 : decode cX9_befores 21 = .ok (.iadd, 1) := by decide +kernel
theorem dX9_befores_22 : decode cX9_befores 22 = .ok (.i2c, 1) := by decide +kernel
theorem dX9_befores_23 : decode cX9_befores 23 = .ok (.bipush 97, 2) := by decide +kernel
theorem dX9_befores_25 : decode cX9_befores 25 = .ok (.iload_n 1, 1) := by decide +kernel
theorem dX9_befores_26 : decode cX9_befores 26 = .ok (.iadd, 1) := by decide +kernel
theorem dX9_befores_27 : decode cX9_befores 27 = .ok (.iconst 1, 1) := by decide +kernel
theorem dX9_befores_28 : decode cX9_befores 28 = .ok (.isub, 1) := by decide +kernel
theorem dX9_befores_29 : decode cX9_befores 29 = .ok (.i2c, 1) := by decide +kernel
theorem dX9_befores_30 : decode cX9_befores 30 = .ok (.invokevirtual 111, 3) := by decide +kernel
theorem dX9_befores_33 : decode cX9_befores 33 = .ok (.goto 4, 3) := by decide +kernel
theorem dX9_befores_36 : decode cX9_befores 36 = .ok (.iconst (-1), 1) := by decide +kernel
theorem dX9_befores_37 : decode cX9_befores 37 = .ok (.istore 4, 2) := by decide +kernel
theorem dX9_befores_39 : decode cX9_befores 39 = .ok (.iload 4, 2) := by decide +kernel
theorem dX9_befores_41 : decode cX9_befores 41 = .ok (.ifCond .ge 5, 3) := by decide +kernel
theorem dX9_befores_44 : decode cX9_befores 44 = .ok (.iconst 0, 1) := by decide +kernel
theorem dX9_befores_45 : decode cX9_befores 45 = .ok (.ireturn, 1) := by decide +kernel
theorem dX9_befores_46 : decode cX9_befores 46 = .ok (.iload_n 2, 1) := by decide +kernel
theorem dX9_befores_47 : decode cX9_befores 47 = .ok (.iload 4, 2) := by decide +kernel
theorem dX9_befores_49 : decode cX9_befores 49 = .ok (.iconst 1, 1) := by decide +kernel
theorem dX9_befores_50 : decode cX9_befores 50 = .ok (.iadd, 1) := by decide +kernel
theorem dX9_befores_51 : decode cX9_befores 51 = .ok (.iadd, 1) := by decide +kernel
theorem dX9_befores_52 : decode cX9_befores 52 = .ok (.istore_n 2, 1) := by decide +kernel
theorem dX9_befores_53 : decode cX9_befores 53 = .ok (.aload_n 0, 1) := by decide +kernel
theorem dX9_befores_54 : decode cX9_befores 54 = .ok (.bipush 48, 2) := by decide +kernel
theorem dX9_befores_56 : decode cX9_befores 56 = .ok (.bipush 57, 2) := by decide +kernel
theorem dX9_befores_58 : decode cX9_befores 58 = .ok (.invokevirtual 111, 3) := by decide +kernel
theorem dX9_befores_61 : decode cX9_befores 61 = .ok (.istore 5, 2) := by decide +kernel
theorem dX9_befores_63 : decode cX9_befores 63 = .ok (.aload_n 0, 1) := by decide +kernel
theorem dX9_befores_64 : decode cX9_befores 64 = .ok (.getfield 13, 3) := by decide +kernel
theorem dX9_befores_67 : decode cX9_befores 67 = .ok (.bipush 42, 2) := by decide +kernel
theorem dX9_befores_69 : decode cX9_befores 69 = .ok (.bipush 20, 2) := by decide +kernel
theorem dX9_befores_71 : decode cX9_befores 71 = .ok (.iload_n 2, 1) := by decide +kernel
theorem dX9_befores_72 : decode cX9_befores 72 = .ok (.imul, 1) := by decide +kernel
theorem dX9_befores_73 : decode cX9_befores 73 = .ok (.iadd, 1) := by decide +kernel
theorem dX9_befores_74 : decode cX9_befores 74 = .ok (.iload_n 1, 1) := by decide +kernel
theorem dX9_befores_75 : decode cX9_befores 75 = .ok (.iadd, 1) := by decide +kernel
theorem dX9_befores_76 : decode cX9_befores 76 = .ok (.iload 5, 2) := by decide +kernel
theorem dX9_befores_78 : decode cX9_befores 78 = .ok (.ifCond .ge 7, 3) := by decide +kernel
theorem dX9_befores_81 : decode cX9_befores 81 = .ok (.iconst 0, 1) := by decide +kernel
theorem dX9_befores_82 : decode cX9_befores 82 = .ok (.goto 5, 3) := by decide +kernel
theorem dX9_befores_85 : decode cX9_befores 85 = .ok (.iload 5, 2) := by decide +kernel
theorem dX9_befores_87 : decode cX9_befores 87 = .ok (.iastore, 1) := by decide +kernel
theorem dX9_befores_88 : decode cX9_befores 88 = .ok (.iload_n 2, 1) := by decide +kernel
theorem dX9_befores_89 : decode cX9_befores 89 = .ok (.iload_n 1, 1) := by decide +kernel
theorem dX9_befores_90 : decode cX9_befores 90 = .ok (.iconst 1, 1) := by decide +kernel
theorem dX9_befores_91 : decode cX9_befores 91 = .ok (.isub, 1) := by decide +kernel
theorem dX9_befores_92 : decode cX9_befores 92 = .ok (.if_icmp .ge 18, 3) := by decide +kernel
theorem dX9_befores_95 : decode cX9_befores 95 = .ok (.aload_n 0, 1) := by decide +kernel
theorem dX9_befores_96 : decode cX9_befores 96 = .ok (.bipush 43, 2) := by decide +kernel
theorem dX9_befores_98 : decode cX9_befores 98 = .ok (.bipush 43, 2) := by decide +kernel
theorem dX9_befores_100 : decode cX9_befores 100 = .ok (.invokevirtual 111, 3) := by decide +kernel
theorem dX9_befores_103 : decode cX9_befores 103 = .ok (.ifCond .ne 7, 3) := by decide +kernel
theorem dX9_befores_106 : decode cX9_befores 106 = .ok (.iconst 1, 1) := by decide +kernel
theorem dX9_befores_107 : decode cX9_befores 107 = .ok (.goto 4, 3) := by decide +kernel
theorem dX9_befores_110 : decode cX9_befores 110 = .ok (.iconst 0, 1) := by decide +kernel
theorem dX9_befores_111 : decode cX9_befores 111 = .ok (.istore_n 3, 1) := by decide +kernel
theorem dX9_befores_112 : decode cX9_befores 112 = .ok (.goto (-108), 3) := by decide +kernel
theorem dX9_befores_115 : decode cX9_befores 115 = .ok (.iconst 1, 1) := by decide +kernel
theorem dX9_befores_116 : decode cX9_befores 116 = .ok (.ireturn, 1) := by decide +kernel
set_option maxRecDepth 20000 in
theorem ggX9_task_X9_next : GoodIn wsX9_task wsX9_next := goodIn_r _ [6, 7, 8, 9, 10, 11, 5, 12, 24, 25, 26, 27, 28, 29, 30, 31, 32, 33, 34, 35, 36, 37, 38, 39] (by decide +kernel) (by decide +kernel)
set_option maxRecDepth 20000 in
theorem gX9_task_X9_next : GoodIn wsX9_task (wsV RX9 111 RX9 yX9_next wsX9_next) := goodIn_app (goodIn_of _ (by decide +kernel)) ggX9_task_X9_next
set_option maxRecDepth 20000 in
theorem ggX9_task_X9_number : GoodIn wsX9_task wsX9_number := goodIn_r _ [16, 2, 3, 4, 5, 6, 7, 8, 9, 10, 11, 12, 24, 25, 26, 27, 28, 29, 30, 31, 32, 33, 34, 35, 36, 37, 38, 39] (by decide +kernel) (by decide +kernel)
set_option maxRecDepth 20000 in
theorem gX9_task_X9_number : GoodIn wsX9_task (wsV RX9 115 RX9 yX9_number wsX9_number) := goodIn_app (goodIn_of _ (by decide +kernel)) ggX9_task_X9_number
set_option maxRecDepth 20000 in
theorem ggX9_task_X9_adds : GoodIn wsX9_task wsX9_adds := goodIn_r _ [19] (by decide +kernel) (by decide +kernel)
set_option maxRecDepth 20000 in
theorem gX9_task_X9_adds : GoodIn wsX9_task (va_wsS RX9 87 yX9_adds wsX9_adds) := goodIn_app (goodIn_of _ (by decide +kernel)) ggX9_task_X9_adds
set_option maxRecDepth 20000 in
theorem ggX9_task_X9_befores : GoodIn wsX9_task wsX9_befores := goodIn_r _ [23, 1, 2, 3, 4, 5, 6, 7, 8, 9, 10, 11, 12, 24, 25, 26, 27, 28, 29, 30, 31, 32, 33, 34, 35, 36, 37, 38, 39] (by decide +kernel) (by decide +kernel)
set_option maxRecDepth 20000 in
theorem gX9_task_X9_befores : GoodIn wsX9_task (wsV RX9 119 RX9 yX9_befores wsX9_befores) := goodIn_app (goodIn_of _ (by decide +kernel)) ggX9_task_X9_befores
theorem dX9_task_0 : decode cX9_task 0 = .ok (.aload_n 0, 1) := by decide +kernel
theorem dX9_task_1 : decode cX9_task 1 = .ok (.bipush 97, 2) := by decide +kernel
theorem dX9_task_3 : decode cX9_task 3 = .ok (.iload_n 1, 1) := by decide +kernel
theorem dX9_task_4 : decode cX9_task 4 = .ok (.iadd, 1) := by decide +kernel
theorem dX9_task_5 : decode cX9_task 5 = .ok (.i2c, 1) := by decide +kernel
theorem dX9_task_6 : decode cX9_task 6 = .ok (.bipush 97, 2) := by decide +kernel
theorem dX9_task_8 : decode cX9_task 8 = .ok (.iload_n 1, 1) := by decide +kernel
theorem dX9_task_9 : decode cX9_task 9 = .ok (.iadd, 1) := by decide +kernel
theorem dX9_task_10 : decode cX9_task 10 = .ok (.i2c, 1) := by decide +kernel
theorem dX9_task_11 : decode cX9_task 11 = .ok (.invokevirtual 111, 3) := by decide +kernel
theorem dX9_task_14 : decode cX9_task 14 = .ok (.ifCond .ge 7, 3) := by decide +kernel
theorem dX9_task_17 : decode cX9_task 17 = .ok (.iconst (-1), 1) := by decide +kernel
theorem dX9_task_18 : decode cX9_task 18 = .ok (.goto 7, 3) := by decide +kernel
theorem dX9_task_21 : decode cX9_task 21 = .ok (.aload_n 0, 1) := by decide +kernel
theorem dX9_task_22 : decode cX9_task 22 = .ok (.invokevirtual 115, 3) := by decide +kernel
theorem dX9_task_25 : decode cX9_task 25 = .ok (.istore_n 2, 1) := by decide +kernel
theorem dX9_task_26 : decode cX9_task 26 = .ok (.iload_n 2, 1) := by decide +kernel
theorem dX9_task_27 : decode cX9_task 27 = .ok (.ifCond .lt 18, 3) := by decide +kernel
theorem dX9_task_30 : decode cX9_task 30 = .ok (.aload_n 0, 1) := by decide +kernel
theorem dX9_task_31 : decode cX9_task 31 = .ok (.bipush 42, 2) := by decide +kernel
theorem dX9_task_33 : decode cX9_task 33 = .ok (.bipush 42, 2) := by decide +kernel
theorem dX9_task_35 : decode cX9_task 35 = .ok (.invokevirtual 111, 3) := by decide +kernel
theorem dX9_task_38 : decode cX9_task 38 = .ok (.ifCond .ne 7, 3) := by decide +kernel
theorem dX9_task_41 : decode cX9_task 41 = .ok (.iconst 1, 1) := by decide +kernel
theorem dX9_task_42 : decode cX9_task 42 = .ok (.goto 4, 3) := by decide +kernel
theorem dX9_task_45 : decode cX9_task 45 = .ok (.iconst 0, 1) := by decide +kernel
theorem dX9_task_46 : decode cX9_task 46 = .ok (.istore_n 3, 1) := by decide +kernel
theorem dX9_task_47 : decode cX9_task 47 = .ok (.iload_n 3, 1) := by decide +kernel
theorem dX9_task_48 : decode cX9_task 48 = .ok (.ifCond .eq 14, 3) := by decide +kernel
theorem dX9_task_51 : decode cX9_task 51 = .ok (.aload_n 0, 1) := by decide +kernel
theorem dX9_task_52 : decode cX9_task 52 = .ok (.bipush 48, 2) := by decide +kernel
theorem dX9_task_54 : decode cX9_task 54 = .ok (.bipush 53, 2) := by decide +kernel
theorem dX9_task_56 : decode cX9_task 56 = .ok (.invokevirtual 111, 3) := by decide +kernel
theorem dX9_task_59 : decode cX9_task 59 = .ok (.goto 4, 3) := by decide +kernel
theorem dX9_task_62 : decode cX9_task 62 = .ok (.iconst 1, 1) := by decide +kernel
theorem dX9_task_63 : decode cX9_task 63 = .ok (.istore 4, 2) := by decide +kernel
theorem dX9_task_65 : decode cX9_task 65 = .ok (.iload_n 2, 1) := by decide +kernel
theorem dX9_task_66 : decode cX9_task 66 = .ok (.ifCond .lt 8, 3) := by decide +kernel
theorem dX9_task_69 : decode cX9_task 69 = .ok (.iload 4, 2) := by decide +kernel
theorem dX9_task_71 : decode cX9_task 71 = .ok (.ifCond .ge 5, 3) := by decide +kernel
theorem dX9_task_74 : decode cX9_task 74 = .ok (.iconst 0, 1) := by decide +kernel
theorem dX9_task_75 : decode cX9_task 75 = .ok (.ireturn, 1) := by decide +kernel
theorem dX9_task_76 : decode cX9_task 76 = .ok (.aload_n 0, 1) := by decide +kernel
theorem dX9_task_77 : decode cX9_task 77 = .ok (.getfield 13, 3) := by decide +kernel
theorem dX9_task_80 : decode cX9_task 80 = .ok (.iload_n 2, 1) := by decide +kernel
theorem dX9_task_81 : decode cX9_task 81 = .ok (.iload 4, 2) := by decide +kernel
theorem dX9_task_83 : decode cX9_task 83 = .ok (.invokestatic 87, 3) := by decide +kernel
theorem dX9_task_86 : decode cX9_task 86 = .ok (.pop, 1) := by decide +kernel
theorem dX9_task_87 : decode cX9_task 87 = .ok (.iload_n 1, 1) := by decide +kernel
theorem dX9_task_88 : decode cX9_task 88 = .ok (.ifCond .eq 22, 3) := by decide +kernel
theorem dX9_task_91 : decode cX9_task 91 = .ok (.aload_n 0, 1) := by decide +kernel
theorem dX9_task_92 : decode cX9_task 92 = .ok (.bipush 60, 2) := by decide +kernel
theorem dX9_task_94 : decode cX9_task 94 = .ok (.bipush 60, 2) := by decide +kernel
theorem dX9_task_96 : decode cX9_task 96 = .ok (.invokevirtual 111, 3) := by decide +kernel
theorem dX9_task_99 : decode cX9_task 99 = .ok (.ifCond .lt 11, 3) := by decide +kernel
theorem dX9_task_102 : decode cX9_task 102 = .ok (.aload_n 0, 1) := by decide +kernel
theorem dX9_task_103 : decode cX9_task 103 = .ok (.iload_n 1, 1) := by decide +kernel
theorem dX9_task_104 : decode cX9_task 104 = .ok (.invokevirtual 119, 3) := by decide +kernel
theorem dX9_task_107 : decode cX9_task 107 = .ok (.ifCond .eq 7, 3) := by decide +kernel
theorem dX9_task_110 : decode cX9_task 110 = .ok (.iconst 1, 1) := by decide +kernel
theorem dX9_task_111 : decode cX9_task 111 = .ok (.goto 4, 3) := by decide +kernel
theorem dX9_task_114 : decode cX9_task 114 = .ok (.iconst 0, 1) := by decide +kernel
theorem dX9_task_115 : decode cX9_task 115 = .ok (.ireturn, 1) := by decide +kernel
set_option maxRecDepth 20000 in
theorem ggX9_reads_X9_task : GoodIn wsX9_reads wsX9_task := goodIn_r _ [9, 1, 10, 11, 12, 8, 13, 3, 4, 14, 15, 16, 17, 18, 19, 20, 21, 22, 23, 24, 25, 26, 27, 28, 29, 30, 31, 32, 33, 34, 35, 36, 37, 38, 39, 40, 41, 42, 43, 44] (by decide +kernel) (by decide +kernel)
set_option maxRecDepth 20000 in
theorem gX9_reads_X9_task : GoodIn wsX9_reads (wsV RX9 122 RX9 yX9_task wsX9_task) := goodIn_app (goodIn_of _ (by decide +kernel)) ggX9_reads_X9_task
set_option maxRecDepth 20000 in
theorem ggX9_reads_X9_next : GoodIn wsX9_reads wsX9_next := goodIn_r _ [13, 3, 4, 14, 15, 16, 8, 17, 29, 30, 31, 32, 33, 34, 35, 36, 37, 38, 39, 40, 41, 42, 43, 44] (by decide +kernel) (by decide +kernel)
set_option maxRecDepth 20000 in
theorem gX9_reads_X9_next : GoodIn wsX9_reads (wsV RX9 111 RX9 yX9_next wsX9_next) := goodIn_app (goodIn_of _ (by decide +kernel)) ggX9_reads_X9_next
theorem dX9_reads_0 : decode cX9_reads 0 = .ok (.iconst 0, 1) := by decide +kernel
theorem dX9_reads_1 : decode cX9_reads 1 = .ok (.istore_n 1, 1) := by decide +kernel
theorem dX9_reads_2 : decode cX9_reads 2 = .ok (.iload_n 1, 1) := by decide +kernel
theorem dX9_reads_3 : decode cX9_reads 3 = .ok (.sipush 442, 3) := by decide +kernel
theorem dX9_reads_6 : decode cX9_reads 6 = .ok (.if_icmp .ge 26, 3) := by decide +kernel
theorem dX9_reads_9 : decode cX9_reads 9 = .ok (.aload_n 0, 1) := by decide +kernel
theorem dX9_reads_10 : decode cX9_reads 10 = .ok (.getfield 13, 3) := by decide +kernel
theorem dX9_reads_13 : decode cX9_reads 13 = .ok (.iload_n 1, 1) := by decide +kernel
theorem dX9_reads_14 : decode cX9_reads 14 = .ok (.iload_n 1, 1) := by decide +kernel
theorem dX9_reads_15 : decode cX9_reads 15 = .ok (.bipush 42, 2) := by decide +kernel
theorem dX9_reads_17 : decode cX9_reads 17 = .ok (.if_icmp .ge 7, 3) := by decide +kernel
theorem dX9_reads_20 : decode cX9_reads 20 = .ok (.iconst 0, 1) := by decide +kernel
theorem dX9_reads_21 : decode cX9_reads 21 = .ok (.goto 4, 3) := by decide +kernel
theorem dX9_reads_24 : decode cX9_reads 24 = .ok (.iconst (-1), 1) := by decide +kernel
theorem dX9_reads_25 : decode cX9_reads 25 = .ok (.iastore, 1) := by decide +kernel
theorem dX9_reads_26 : decode cX9_reads 26 = .ok (.iinc 1 1, 3) := by decide +kernel
theorem dX9_reads_29 : decode cX9_reads 29 = .ok (.goto (-27), 3) := by decide +kernel
theorem dX9_reads_32 : decode cX9_reads 32 = .ok (.aload_n 0, 1) := by decide +kernel
theorem dX9_reads_33 : decode cX9_reads 33 = .ok (.getfield 13, 3) := by decide +kernel
theorem dX9_reads_36 : decode cX9_reads 36 = .ok (.iconst 1, 1) := by decide +kernel
theorem dX9_reads_37 : decode cX9_reads 37 = .ok (.aload_n 0, 1) := by decide +kernel
theorem dX9_reads_38 : decode cX9_reads 38 = .ok (.getfield 7, 3) := by decide +kernel
theorem dX9_reads_41 : decode cX9_reads 41 = .ok (.iconst 1, 1) := by decide +kernel
theorem dX9_reads_42 : decode cX9_reads 42 = .ok (.iaload, 1) := by decide +kernel
theorem dX9_reads_43 : decode cX9_reads 43 = .ok (.iastore, 1) := by decide +kernel
theorem dX9_reads_44 : decode cX9_reads 44 = .ok (.aload_n 0, 1) := by decide +kernel
theorem dX9_reads_45 : decode cX9_reads 45 = .ok (.iconst 0, 1) := by decide +kernel
theorem dX9_reads_46 : decode cX9_reads 46 = .ok (.putfield 105, 3) := by decide +kernel
theorem dX9_reads_49 : decode cX9_reads 49 = .ok (.aload_n 0, 1) := by decide +kernel
theorem dX9_reads_50 : decode cX9_reads 50 = .ok (.iconst 0, 1) := by decide +kernel
theorem dX9_reads_51 : decode cX9_reads 51 = .ok (.invokevirtual 122, 3) := by decide +kernel
theorem dX9_reads_54 : decode cX9_reads 54 = .ok (.istore_n 1, 1) := by decide +kernel
theorem dX9_reads_55 : decode cX9_reads 55 = .ok (.iload_n 1, 1) := by decide +kernel
theorem dX9_reads_56 : decode cX9_reads 56 = .ok (.ifCond .eq 39, 3) := by decide +kernel
theorem dX9_reads_59 : decode cX9_reads 59 = .ok (.aload_n 0, 1) := by decide +kernel
theorem dX9_reads_60 : decode cX9_reads 60 = .ok (.getfield 13, 3) := by decide +kernel
theorem dX9_reads_63 : decode cX9_reads 63 = .ok (.iconst 0, 1) := by decide +kernel
theorem dX9_reads_64 : decode cX9_reads 64 = .ok (.iaload, 1) := by decide +kernel
theorem dX9_reads_65 : decode cX9_reads 65 = .ok (.bipush 20, 2) := by decide +kernel
theorem dX9_reads_67 : decode cX9_reads 67 = .ok (.if_icmp .ge 28, 3) := by decide +kernel
theorem dX9_reads_70 : decode cX9_reads 70 = .ok (.aload_n 0, 1) := by decide +kernel
theorem dX9_reads_71 : decode cX9_reads 71 = .ok (.bipush 59, 2) := by decide +kernel
theorem dX9_reads_73 : decode cX9_reads 73 = .ok (.bipush 59, 2) := by decide +kernel
theorem dX9_reads_75 : decode cX9_reads 75 = .ok (.invokevirtual 111, 3) := by decide +kernel
theorem dX9_reads_78 : decode cX9_reads 78 = .ok (.ifCond .ne 17, 3) := by decide +kernel
theorem dX9_reads_81 : decode cX9_reads 81 = .ok (.aload_n 0, 1) := by decide +kernel
theorem dX9_reads_82 : decode cX9_reads 82 = .ok (.aload_n 0, 1) := by decide +kernel
theorem dX9_reads_83 : decode cX9_reads 83 = .ok (.getfield 13, 3) := by decide +kernel
theorem dX9_reads_86 : decode cX9_reads 86 = .ok (.iconst 0, 1) := by decide +kernel
theorem dX9_reads_87 : decode cX9_reads 87 = .ok (.iaload, 1) := by decide +kernel
theorem dX9_reads_88 : decode cX9_reads 88 = .ok (.invokevirtual 122, 3) := by decide +kernel
theorem dX9_reads_91 : decode cX9_reads 91 = .ok (.istore_n 1, 1) := by decide +kernel
theorem dX9_reads_92 : decode cX9_reads 92 = .ok (.goto (-37), 3) := by decide +kernel
theorem dX9_reads_95 : decode cX9_reads 95 = .ok (.iload_n 1, 1) := by decide +kernel
theorem dX9_reads_96 : decode cX9_reads 96 = .ok (.ifCond .eq 18, 3) := by decide +kernel
theorem dX9_reads_99 : decode cX9_reads 99 = .ok (.aload_n 0, 1) := by decide +kernel
theorem dX9_reads_100 : decode cX9_reads 100 = .ok (.getfield 105, 3) := by decide +kernel
theorem dX9_reads_103 : decode cX9_reads 103 = .ok (.aload_n 0, 1) := by decide +kernel
theorem dX9_reads_104 : decode cX9_reads 104 = .ok (.getfield 108, 3) := by decide +kernel
theorem dX9_reads_107 : decode cX9_reads 107 = .ok (.if_icmp .ne 7, 3) := by decide +kernel
theorem dX9_reads_110 : decode cX9_reads 110 = .ok (.iconst 1, 1) := by decide +kernel
theorem dX9_reads_111 : decode cX9_reads 111 = .ok (.goto 4, 3) := by decide +kernel
theorem dX9_reads_114 : decode cX9_reads 114 = .ok (.iconst 0, 1) := by decide +kernel
theorem dX9_reads_115 : decode cX9_reads 115 = .ok (.ireturn, 1) := by decide +kernel
set_option maxRecDepth 20000 in
theorem ggX9_readPlan_X9_reads : GoodIn wsX9_readPlan wsX9_reads := goodIn_r _ [8, 2, 3, 9, 10, 11, 12, 13, 7, 14, 15, 16, 17, 18, 19, 20, 21, 22, 23, 24, 25, 26, 27, 28, 29, 30, 31, 32, 33, 47, 48, 49, 50, 51, 52, 53, 54, 55, 56, 57, 58, 59, 60, 61, 62] (by decide +kernel) (by decide +kernel)
set_option maxRecDepth 20000 in
theorem gX9_readPlan_X9_reads : GoodIn wsX9_readPlan (wsV RX9 125 RX9 yX9_reads wsX9_reads) := goodIn_app (goodIn_of _ (by decide +kernel)) ggX9_readPlan_X9_reads
set_option maxRecDepth 20000 in
theorem ggX9_readPlan_X9_fails : GoodIn wsX9_readPlan wsX9_fails := goodIn_r _ [37, 1, 47, 48, 49, 50, 51, 52, 53, 54, 55, 56, 57, 58, 59, 60, 61, 62] (by decide +kernel) (by decide +kernel)
set_option maxRecDepth 20000 in
theorem gX9_readPlan_X9_fails : GoodIn wsX9_readPlan (wsV RX9 80 RX9 yX9_fails wsX9_fails) := goodIn_app (goodIn_of _ (by decide +kernel)) ggX9_readPlan_X9_fails
set_option maxRecDepth 20000 in
theorem ggX9_readPlan_X9_keepsState : GoodIn wsX9_readPlan wsX9_keepsState := goodIn_r _ [41, 42, 43, 3, 44, 45, 7, 46, 47, 48, 49, 50, 51, 52, 53, 54, 55, 56, 57, 58, 59, 60, 61, 62] (by decide +kernel) (by decide +kernel)
set_option maxRecDepth 20000 in
theorem gX9_readPlan_X9_keepsState : GoodIn wsX9_readPlan (wsV RX9 84 RX9 yX9_keepsState wsX9_keepsState) := goodIn_app (goodIn_of _ (by decide +kernel)) ggX9_readPlan_X9_keepsState
set_option maxRecDepth 20000 in
theorem ggX9_readPlan_X9_copies : GoodIn wsX9_readPlan wsX9_copies := goodIn_r _ [46] (by decide +kernel) (by decide +kernel)
set_option maxRecDepth 20000 in
theorem gX9_readPlan_X9_copies : GoodIn wsX9_readPlan (va_wsS RX9 55 yX9_copies wsX9_copies) := goodIn_app (goodIn_of _ (by decide +kernel)) ggX9_readPlan_X9_copies
theorem dX9_readPlan_0 : decode cX9_readPlan 0 = .ok (.aload_n 0, 1) := by decide +kernel
theorem dX9_readPlan_1 : decode cX9_readPlan 1 = .ok (.iconst 0, 1) := by decide +kernel
theorem dX9_readPlan_2 : decode cX9_readPlan 2 = .ok (.putfield 44, 3) := by decide +kernel
theorem dX9_readPlan_5 : decode cX9_readPlan 5 = .ok (.aload_n 0, 1) := by decide +kernel
theorem dX9_readPlan_6 : decode cX9_readPlan 6 = .ok (.invokevirtual 125, 3) := by decide +kernel
theorem dX9_readPlan_9 : decode cX9_readPlan 9 = .ok (.ifCond .ne 9, 3) := by decide +kernel
theorem dX9_readPlan_12 : decode cX9_readPlan 12 = .ok (.aload_n 0, 1) := by decide +kernel
theorem dX9_readPlan_13 : decode cX9_readPlan 13 = .ok (.iconst 1, 1) := by decide +kernel
theorem dX9_readPlan_14 : decode cX9_readPlan 14 = .ok (.invokevirtual 80, 3) := by decide +kernel
theorem dX9_readPlan_17 : decode cX9_readPlan 17 = .ok (.ireturn, 1) := by decide +kernel
theorem dX9_readPlan_18 : decode cX9_readPlan 18 = .ok (.aload_n 0, 1) := by decide +kernel
theorem dX9_readPlan_19 : decode cX9_readPlan 19 = .ok (.invokevirtual 84, 3) := by decide +kernel
theorem dX9_readPlan_22 : decode cX9_readPlan 22 = .ok (.aload_n 0, 1) := by decide +kernel
theorem dX9_readPlan_23 : decode cX9_readPlan 23 = .ok (.getfield 13, 3) := by decide +kernel
theorem dX9_readPlan_26 : decode cX9_readPlan 26 = .ok (.iconst 0, 1) := by decide +kernel
theorem dX9_readPlan_27 : decode cX9_readPlan 27 = .ok (.aload_n 0, 1) := by decide +kernel
theorem dX9_readPlan_28 : decode cX9_readPlan 28 = .ok (.getfield 7, 3) := by decide +kernel
theorem dX9_readPlan_31 : decode cX9_readPlan 31 = .ok (.iconst 0, 1) := by decide +kernel
theorem dX9_readPlan_32 : decode cX9_readPlan 32 = .ok (.invokestatic 55, 3) := by decide +kernel
theorem dX9_readPlan_35 : decode cX9_readPlan 35 = .ok (.aload_n 0, 1) := by decide +kernel
theorem dX9_readPlan_36 : decode cX9_readPlan 36 = .ok (.getfield 7, 3) := by decide +kernel
theorem dX9_readPlan_39 : decode cX9_readPlan 39 = .ok (.iconst 0, 1) := by decide +kernel
theorem dX9_readPlan_40 : decode cX9_readPlan 40 = .ok (.iaload, 1) := by decide +kernel
theorem dX9_readPlan_41 : decode cX9_readPlan 41 = .ok (.ireturn, 1) := by decide +kernel
set_option maxRecDepth 20000 in
theorem ggX9_append_X9_fails : GoodIn wsX9_append wsX9_fails := goodIn_r _ [8, 1, 9, 10, 11, 12, 13, 14, 15, 16, 17, 18, 19, 20, 21, 22, 23, 24] (by decide +kernel) (by decide +kernel)
set_option maxRecDepth 20000 in
theorem gX9_append_X9_fails : GoodIn wsX9_append (wsV RX9 80 RX9 yX9_fails wsX9_fails) := goodIn_app (goodIn_of _ (by decide +kernel)) ggX9_append_X9_fails
theorem dX9_append_0 : decode cX9_append 0 = .ok (.aload_n 0, 1) := by decide +kernel
theorem dX9_append_1 : decode cX9_append 1 = .ok (.iconst 0, 1) := by decide +kernel
theorem dX9_append_2 : decode cX9_append 2 = .ok (.putfield 44, 3) := by decide +kernel
theorem dX9_append_5 : decode cX9_append 5 = .ok (.aload_n 0, 1) := by decide +kernel
theorem dX9_append_6 : decode cX9_append 6 = .ok (.getfield 108, 3) := by decide +kernel
theorem dX9_append_9 : decode cX9_append 9 = .ok (.bipush 60, 2) := by decide +kernel
theorem dX9_append_11 : decode cX9_append 11 = .ok (.if_icmp .ne 9, 3) := by decide +kernel
theorem dX9_append_14 : decode cX9_append 14 = .ok (.aload_n 0, 1) := by decide +kernel
theorem dX9_append_15 : decode cX9_append 15 = .ok (.iconst 1, 1) := by decide +kernel
theorem dX9_append_16 : decode cX9_append 16 = .ok (.invokevirtual 80, 3) := by decide +kernel
theorem dX9_append_19 : decode cX9_append 19 = .ok (.ireturn, 1) := by decide +kernel
theorem dX9_append_20 : decode cX9_append 20 = .ok (.aload_n 0, 1) := by decide +kernel
theorem dX9_append_21 : decode cX9_append 21 = .ok (.getfield 22, 3) := by decide +kernel
theorem dX9_append_24 : decode cX9_append 24 = .ok (.aload_n 0, 1) := by decide +kernel
theorem dX9_append_25 : decode cX9_append 25 = .ok (.getfield 108, 3) := by decide +kernel
theorem dX9_append_28 : decode cX9_append 28 = .ok (.iload_n 1, 1) := by decide +kernel
theorem dX9_append_29 : decode cX9_append 29 = .ok (.iastore, 1) := by decide +kernel
theorem dX9_append_30 : decode cX9_append 30 = .ok (.aload_n 0, 1) := by decide +kernel
theorem dX9_append_31 : decode cX9_append 31 = .ok (.dup, 1) := by decide +kernel
theorem dX9_append_32 : decode cX9_append 32 = .ok (.getfield 108, 3) := by decide +kernel
theorem dX9_append_35 : decode cX9_append 35 = .ok (.iconst 1, 1) := by decide +kernel
theorem dX9_append_36 : decode cX9_append 36 = .ok (.iadd, 1) := by decide +kernel
theorem dX9_append_37 : decode cX9_append 37 = .ok (.putfield 108, 3) := by decide +kernel
theorem dX9_append_40 : decode cX9_append 40 = .ok (.aload_n 0, 1) := by decide +kernel
theorem dX9_append_41 : decode cX9_append 41 = .ok (.getfield 108, 3) := by decide +kernel
theorem dX9_append_44 : decode cX9_append 44 = .ok (.ireturn, 1) := by decide +kernel
theorem dX9_clearText_0 : decode cX9_clearText 0 = .ok (.aload_n 0, 1) := by decide +kernel
theorem dX9_clearText_1 : decode cX9_clearText 1 = .ok (.iconst 0, 1) := by decide +kernel
theorem dX9_clearText_2 : decode cX9_clearText 2 = .ok (.putfield 44, 3) := by decide +kernel
theorem dX9_clearText_5 : decode cX9_clearText 5 = .ok (.aload_n 0, 1) := by decide +kernel
theorem dX9_clearText_6 : decode cX9_clearText 6 = .ok (.getfield 108, 3) := by decide +kernel
theorem dX9_clearText_9 : decode cX9_clearText 9 = .ok (.istore_n 1, 1) := by decide +kernel
theorem dX9_clearText_10 : decode cX9_clearText 10 = .ok (.aload_n 0, 1) := by decide +kernel
theorem dX9_clearText_11 : decode cX9_clearText 11 = .ok (.iconst 0, 1) := by decide +kernel
theorem dX9_clearText_12 : decode cX9_clearText 12 = .ok (.putfield 108, 3) := by decide +kernel
theorem dX9_clearText_15 : decode cX9_clearText 15 = .ok (.iload_n 1, 1) := by decide +kernel
theorem dX9_clearText_16 : decode cX9_clearText 16 = .ok (.ireturn, 1) := by decide +kernel
set_option maxRecDepth 20000 in
theorem ggX9_isValid_X9_reads : GoodIn wsX9_isValid wsX9_reads := goodIn_r _ [6, 7, 8, 9, 10, 11, 12, 13, 5, 14, 15, 16, 17, 18, 19, 20, 21, 22, 23, 24, 25, 26, 27, 28, 29, 30, 31, 32, 33, 34, 35, 36, 37, 38, 39, 40, 41, 42, 43, 44, 45, 46, 47, 48, 49] (by decide +kernel) (by decide +kernel)
set_option maxRecDepth 20000 in
theorem gX9_isValid_X9_reads : GoodIn wsX9_isValid (wsV RX9 125 RX9 yX9_reads wsX9_reads) := goodIn_app (goodIn_of _ (by decide +kernel)) ggX9_isValid_X9_reads
theorem dX9_isValid_0 : decode cX9_isValid 0 = .ok (.aload_n 0, 1) := by decide +kernel
theorem dX9_isValid_1 : decode cX9_isValid 1 = .ok (.iconst 0, 1) := by decide +kernel
theorem dX9_isValid_2 : decode cX9_isValid 2 = .ok (.putfield 44, 3) := by decide +kernel
theorem dX9_isValid_5 : decode cX9_isValid 5 = .ok (.aload_n 0, 1) := by decide +kernel
theorem dX9_isValid_6 : decode cX9_isValid 6 = .ok (.invokevirtual 125, 3) := by decide +kernel
theorem dX9_isValid_9 : decode cX9_isValid 9 = .ok (.ireturn, 1) := by decide +kernel
set_option maxRecDepth 20000 in
theorem ggX9_firstError_X9_reads : GoodIn wsX9_firstError wsX9_reads := goodIn_r _ [7, 8, 9, 2, 10, 11, 12, 13, 6, 14, 15, 16, 17, 18, 19, 20, 21, 22, 23, 24, 25, 26, 27, 28, 29, 30, 31, 32, 33, 38, 39, 40, 41, 42, 43, 44, 45, 46, 47, 48, 49, 50, 51, 52, 53] (by decide +kernel) (by decide +kernel)
set_option maxRecDepth 20000 in
theorem gX9_firstError_X9_reads : GoodIn wsX9_firstError (wsV RX9 125 RX9 yX9_reads wsX9_reads) := goodIn_app (goodIn_of _ (by decide +kernel)) ggX9_firstError_X9_reads
set_option maxRecDepth 20000 in
theorem ggX9_firstError_X9_fails : GoodIn wsX9_firstError wsX9_fails := goodIn_r _ [37, 1, 38, 39, 40, 41, 42, 43, 44, 45, 46, 47, 48, 49, 50, 51, 52, 53] (by decide +kernel) (by decide +kernel)
set_option maxRecDepth 20000 in
theorem gX9_firstError_X9_fails : GoodIn wsX9_firstError (wsV RX9 80 RX9 yX9_fails wsX9_fails) := goodIn_app (goodIn_of _ (by decide +kernel)) ggX9_firstError_X9_fails
theorem dX9_firstError_0 : decode cX9_firstError 0 = .ok (.aload_n 0, 1) := by decide +kernel
theorem dX9_firstError_1 : decode cX9_firstError 1 = .ok (.iconst 0, 1) := by decide +kernel
theorem dX9_firstError_2 : decode cX9_firstError 2 = .ok (.putfield 44, 3) := by decide +kernel
theorem dX9_firstError_5 : decode cX9_firstError 5 = .ok (.aload_n 0, 1) := by decide +kernel
theorem dX9_firstError_6 : decode cX9_firstError 6 = .ok (.invokevirtual 125, 3) := by decide +kernel
theorem dX9_firstError_9 : decode cX9_firstError 9 = .ok (.ifCond .eq 11, 3) := by decide +kernel
theorem dX9_firstError_12 : decode cX9_firstError 12 = .ok (.aload_n 0, 1) := by decide +kernel
theorem dX9_firstError_13 : decode cX9_firstError 13 = .ok (.iconst 1, 1) := by decide +kernel
theorem dX9_firstError_14 : decode cX9_firstError 14 = .ok (.invokevirtual 80, 3) := by decide +kernel
theorem dX9_firstError_17 : decode cX9_firstError 17 = .ok (.goto 7, 3) := by decide +kernel
theorem dX9_firstError_20 : decode cX9_firstError 20 = .ok (.aload_n 0, 1) := by decide +kernel
theorem dX9_firstError_21 : decode cX9_firstError 21 = .ok (.getfield 105, 3) := by decide +kernel
theorem dX9_firstError_24 : decode cX9_firstError 24 = .ok (.ireturn, 1) := by decide +kernel
set_option maxRecDepth 20000 in
theorem ggX9_undo_X9_fails : GoodIn wsX9_undo wsX9_fails := goodIn_r _ [9, 1, 13, 14, 15, 16, 17, 18, 19, 20, 21, 22, 23, 24, 25, 26, 27, 28] (by decide +kernel) (by decide +kernel)
set_option maxRecDepth 20000 in
theorem gX9_undo_X9_fails : GoodIn wsX9_undo (wsV RX9 80 RX9 yX9_fails wsX9_fails) := goodIn_app (goodIn_of _ (by decide +kernel)) ggX9_undo_X9_fails
set_option maxRecDepth 20000 in
theorem ggX9_undo_X9_copies : GoodIn wsX9_undo wsX9_copies := goodIn_r _ [12] (by decide +kernel) (by decide +kernel)
set_option maxRecDepth 20000 in
theorem gX9_undo_X9_copies : GoodIn wsX9_undo (va_wsS RX9 55 yX9_copies wsX9_copies) := goodIn_app (goodIn_of _ (by decide +kernel)) ggX9_undo_X9_copies
theorem dX9_undo_0 : decode cX9_undo 0 = .ok (.aload_n 0, 1) := by decide +kernel
theorem dX9_undo_1 : decode cX9_undo 1 = .ok (.iconst 0, 1) := by decide +kernel
theorem dX9_undo_2 : decode cX9_undo 2 = .ok (.putfield 44, 3) := by decide +kernel
theorem dX9_undo_5 : decode cX9_undo 5 = .ok (.aload_n 0, 1) := by decide +kernel
theorem dX9_undo_6 : decode cX9_undo 6 = .ok (.getfield 52, 3) := by decide +kernel
theorem dX9_undo_9 : decode cX9_undo 9 = .ok (.ifCond .ne 9, 3) := by decide +kernel
theorem dX9_undo_12 : decode cX9_undo 12 = .ok (.aload_n 0, 1) := by decide +kernel
theorem dX9_undo_13 : decode cX9_undo 13 = .ok (.iconst 1, 1) := by decide +kernel
theorem dX9_undo_14 : decode cX9_undo 14 = .ok (.invokevirtual 80, 3) := by decide +kernel
theorem dX9_undo_17 : decode cX9_undo 17 = .ok (.ireturn, 1) := by decide +kernel
theorem dX9_undo_18 : decode cX9_undo 18 = .ok (.aload_n 0, 1) := by decide +kernel
theorem dX9_undo_19 : decode cX9_undo 19 = .ok (.dup, 1) := by decide +kernel
theorem dX9_undo_20 : decode cX9_undo 20 = .ok (.getfield 52, 3) := by decide +kernel
theorem dX9_undo_23 : decode cX9_undo 23 = .ok (.iconst 1, 1) := by decide +kernel
theorem dX9_undo_24 : decode cX9_undo 24 = .ok (.isub, 1) := by decide +kernel
theorem dX9_undo_25 : decode cX9_undo 25 = .ok (.putfield 52, 3) := by decide +kernel
theorem dX9_undo_28 : decode cX9_undo 28 = .ok (.aload_n 0, 1) := by decide +kernel
theorem dX9_undo_29 : decode cX9_undo 29 = .ok (.getfield 16, 3) := by decide +kernel
theorem dX9_undo_32 : decode cX9_undo 32 = .ok (.sipush 442, 3) := by decide +kernel
theorem dX9_undo_35 : decode cX9_undo 35 = .ok (.aload_n 0, 1) := by decide +kernel
theorem dX9_undo_36 : decode cX9_undo 36 = .ok (.getfield 52, 3) := by decide +kernel
theorem dX9_undo_39 : decode cX9_undo 39 = .ok (.imul, 1) := by decide +kernel
theorem dX9_undo_40 : decode cX9_undo 40 = .ok (.aload_n 0, 1) := by decide +kernel
theorem dX9_undo_41 : decode cX9_undo 41 = .ok (.getfield 7, 3) := by decide +kernel
theorem dX9_undo_44 : decode cX9_undo 44 = .ok (.iconst 0, 1) := by decide +kernel
theorem dX9_undo_45 : decode cX9_undo 45 = .ok (.invokestatic 55, 3) := by decide +kernel
theorem dX9_undo_48 : decode cX9_undo 48 = .ok (.aload_n 0, 1) := by decide +kernel
theorem dX9_undo_49 : decode cX9_undo 49 = .ok (.getfield 52, 3) := by decide +kernel
theorem dX9_undo_52 : decode cX9_undo 52 = .ok (.ireturn, 1) := by decide +kernel
set_option maxRecDepth 20000 in
theorem ggX9_takeSnapshot_X9_copies : GoodIn wsX9_takeSnapshot wsX9_copies := goodIn_r _ [8] (by decide +kernel) (by decide +kernel)
set_option maxRecDepth 20000 in
theorem gX9_takeSnapshot_X9_copies : GoodIn wsX9_takeSnapshot (va_wsS RX9 55 yX9_copies wsX9_copies) := goodIn_app (goodIn_of _ (by decide +kernel)) ggX9_takeSnapshot_X9_copies
theorem dX9_takeSnapshot_0 : decode cX9_takeSnapshot 0 = .ok (.aload_n 0, 1) := by decide +kernel
theorem dX9_takeSnapshot_1 : decode cX9_takeSnapshot 1 = .ok (.iconst 0, 1) := by decide +kernel
theorem dX9_takeSnapshot_2 : decode cX9_takeSnapshot 2 = .ok (.putfield 44, 3) := by decide +kernel
theorem dX9_takeSnapshot_5 : decode cX9_takeSnapshot 5 = .ok (.aload_n 0, 1) := by decide +kernel
theorem dX9_takeSnapshot_6 : decode cX9_takeSnapshot 6 = .ok (.getfield 7, 3) := by decide +kernel
theorem dX9_takeSnapshot_9 : decode cX9_takeSnapshot 9 = .ok (.iconst 0, 1) := by decide +kernel
theorem dX9_takeSnapshot_10 : decode cX9_takeSnapshot 10 = .ok (.aload_n 0, 1) := by decide +kernel
theorem dX9_takeSnapshot_11 : decode cX9_takeSnapshot 11 = .ok (.getfield 19, 3) := by decide +kernel
theorem dX9_takeSnapshot_14 : decode cX9_takeSnapshot 14 = .ok (.iconst 0, 1) := by decide +kernel
theorem dX9_takeSnapshot_15 : decode cX9_takeSnapshot 15 = .ok (.invokestatic 55, 3) := by decide +kernel
theorem dX9_takeSnapshot_18 : decode cX9_takeSnapshot 18 = .ok (.aload_n 0, 1) := by decide +kernel
theorem dX9_takeSnapshot_19 : decode cX9_takeSnapshot 19 = .ok (.iconst 1, 1) := by decide +kernel
theorem dX9_takeSnapshot_20 : decode cX9_takeSnapshot 20 = .ok (.putfield 129, 3) := by decide +kernel
theorem dX9_takeSnapshot_23 : decode cX9_takeSnapshot 23 = .ok (.aload_n 0, 1) := by decide +kernel
theorem dX9_takeSnapshot_24 : decode cX9_takeSnapshot 24 = .ok (.getfield 7, 3) := by decide +kernel
theorem dX9_takeSnapshot_27 : decode cX9_takeSnapshot 27 = .ok (.iconst 0, 1) := by decide +kernel
theorem dX9_takeSnapshot_28 : decode cX9_takeSnapshot 28 = .ok (.iaload, 1) := by decide +kernel
theorem dX9_takeSnapshot_29 : decode cX9_takeSnapshot 29 = .ok (.ireturn, 1) := by decide +kernel
set_option maxRecDepth 20000 in
theorem ggX9_restoreSnapshot_X9_fails : GoodIn wsX9_restoreSnapshot wsX9_fails := goodIn_r _ [9, 1, 19, 20, 21, 22, 23, 24, 25, 26, 27, 28, 29, 30, 31, 32, 33, 34] (by decide +kernel) (by decide +kernel)
set_option maxRecDepth 20000 in
theorem gX9_restoreSnapshot_X9_fails : GoodIn wsX9_restoreSnapshot (wsV RX9 80 RX9 yX9_fails wsX9_fails) := goodIn_app (goodIn_of _ (by decide +kernel)) ggX9_restoreSnapshot_X9_fails
set_option maxRecDepth 20000 in
theorem ggX9_restoreSnapshot_X9_keepsState : GoodIn wsX9_restoreSnapshot wsX9_keepsState := goodIn_r _ [13, 14, 15, 4, 16, 17, 8, 18, 19, 20, 21, 22, 23, 24, 25, 26, 27, 28, 29, 30, 31, 32, 33, 34] (by decide +kernel) (by decide +kernel)
set_option maxRecDepth 20000 in
theorem gX9_restoreSnapshot_X9_keepsState : GoodIn wsX9_restoreSnapshot (wsV RX9 84 RX9 yX9_keepsState wsX9_keepsState) := goodIn_app (goodIn_of _ (by decide +kernel)) ggX9_restoreSnapshot_X9_keepsState
set_option maxRecDepth 20000 in
theorem ggX9_restoreSnapshot_X9_copies : GoodIn wsX9_restoreSnapshot wsX9_copies := goodIn_r _ [18] (by decide +kernel) (by decide +kernel)
set_option maxRecDepth 20000 in
theorem gX9_restoreSnapshot_X9_copies : GoodIn wsX9_restoreSnapshot (va_wsS RX9 55 yX9_copies wsX9_copies) := goodIn_app (goodIn_of _ (by decide +kernel)) ggX9_restoreSnapshot_X9_copies
theorem dX9_restoreSnapshot_0 : decode cX9_restoreSnapshot 0 = .ok (.aload_n 0, 1) := by decide +kernel
theorem dX9_restoreSnapshot_1 : decode cX9_restoreSnapshot 1 = .ok (.iconst 0, 1) := by decide +kernel
theorem dX9_restoreSnapshot_2 : decode cX9_restoreSnapshot 2 = .ok (.putfield 44, 3) := by decide +kernel
theorem dX9_restoreSnapshot_5 : decode cX9_restoreSnapshot 5 = .ok (.aload_n 0, 1) := by decide +kernel
theorem dX9_restoreSnapshot_6 : decode cX9_restoreSnapshot 6 = .ok (.getfield 129, 3) := by decide +kernel
theorem dX9_restoreSnapshot_9 : decode cX9_restoreSnapshot 9 = .ok (.ifCond .ne 9, 3) := by decide +kernel
theorem dX9_restoreSnapshot_12 : decode cX9_restoreSnapshot 12 = .ok (.aload_n 0, 1) := by decide +kernel
theorem dX9_restoreSnapshot_13 : decode cX9_restoreSnapshot 13 = .ok (.iconst 1, 1) := by decide +kernel
theorem dX9_restoreSnapshot_14 : decode cX9_restoreSnapshot 14 = .ok (.invokevirtual 80, 3) := by decide +kernel
theorem dX9_restoreSnapshot_17 : decode cX9_restoreSnapshot 17 = .ok (.ireturn, 1) := by decide +kernel
theorem dX9_restoreSnapshot_18 : decode cX9_restoreSnapshot 18 = .ok (.aload_n 0, 1) := by decide +kernel
theorem dX9_restoreSnapshot_19 : decode cX9_restoreSnapshot 19 = .ok (.invokevirtual 84, 3) := by decide +kernel
theorem dX9_restoreSnapshot_22 : decode cX9_restoreSnapshot 22 = .ok (.aload_n 0, 1) := by decide +kernel
theorem dX9_restoreSnapshot_23 : decode cX9_restoreSnapshot 23 = .ok (.getfield 19, 3) := by decide +kernel
theorem dX9_restoreSnapshot_26 : decode cX9_restoreSnapshot 26 = .ok (.iconst 0, 1) := by decide +kernel
theorem dX9_restoreSnapshot_27 : decode cX9_restoreSnapshot 27 = .ok (.aload_n 0, 1) := by decide +kernel
theorem dX9_restoreSnapshot_28 : decode cX9_restoreSnapshot 28 = .ok (.getfield 7, 3) := by decide +kernel
theorem dX9_restoreSnapshot_31 : decode cX9_restoreSnapshot 31 = .ok (.iconst 0, 1) := by decide +kernel
theorem dX9_restoreSnapshot_32 : decode cX9_restoreSnapshot 32 = .ok (.invokestatic 55, 3) := by decide +kernel
theorem dX9_restoreSnapshot_35 : decode cX9_restoreSnapshot 35 = .ok (.aload_n 0, 1) := by decide +kernel
theorem dX9_restoreSnapshot_36 : decode cX9_restoreSnapshot 36 = .ok (.getfield 7, 3) := by decide +kernel
theorem dX9_restoreSnapshot_39 : decode cX9_restoreSnapshot 39 = .ok (.iconst 0, 1) := by decide +kernel
theorem dX9_restoreSnapshot_40 : decode cX9_restoreSnapshot 40 = .ok (.iaload, 1) := by decide +kernel
theorem dX9_restoreSnapshot_41 : decode cX9_restoreSnapshot 41 = .ok (.ireturn, 1) := by decide +kernel
theorem dX9_taskCount_0 : decode cX9_taskCount 0 = .ok (.aload_n 0, 1) := by decide +kernel
theorem dX9_taskCount_1 : decode cX9_taskCount 1 = .ok (.iconst 0, 1) := by decide +kernel
theorem dX9_taskCount_2 : decode cX9_taskCount 2 = .ok (.putfield 44, 3) := by decide +kernel
theorem dX9_taskCount_5 : decode cX9_taskCount 5 = .ok (.aload_n 0, 1) := by decide +kernel
theorem dX9_taskCount_6 : decode cX9_taskCount 6 = .ok (.getfield 7, 3) := by decide +kernel
theorem dX9_taskCount_9 : decode cX9_taskCount 9 = .ok (.iconst 0, 1) := by decide +kernel
theorem dX9_taskCount_10 : decode cX9_taskCount 10 = .ok (.iaload, 1) := by decide +kernel
theorem dX9_taskCount_11 : decode cX9_taskCount 11 = .ok (.ireturn, 1) := by decide +kernel
set_option maxRecDepth 20000 in
theorem ggX9_dependencyCount_X9_links : GoodIn wsX9_dependencyCount wsX9_links := goodIn_r _ [6] (by decide +kernel) (by decide +kernel)
set_option maxRecDepth 20000 in
theorem gX9_dependencyCount_X9_links : GoodIn wsX9_dependencyCount (va_wsS RX9 90 yX9_links wsX9_links) := goodIn_app (goodIn_of _ (by decide +kernel)) ggX9_dependencyCount_X9_links
theorem dX9_dependencyCount_0 : decode cX9_dependencyCount 0 = .ok (.aload_n 0, 1) := by decide +kernel
theorem dX9_dependencyCount_1 : decode cX9_dependencyCount 1 = .ok (.iconst 0, 1) := by decide +kernel
theorem dX9_dependencyCount_2 : decode cX9_dependencyCount 2 = .ok (.putfield 44, 3) := by decide +kernel
theorem dX9_dependencyCount_5 : decode cX9_dependencyCount 5 = .ok (.aload_n 0, 1) := by decide +kernel
theorem dX9_dependencyCount_6 : decode cX9_dependencyCount 6 = .ok (.getfield 7, 3) := by decide +kernel
theorem dX9_dependencyCount_9 : decode cX9_dependencyCount 9 = .ok (.invokestatic 90, 3) := by decide +kernel
theorem dX9_dependencyCount_12 : decode cX9_dependencyCount 12 = .ok (.ireturn, 1) := by decide +kernel
set_option maxRecDepth 20000 in
theorem ggX9_lengthOf_X9_isTask : GoodIn wsX9_lengthOf wsX9_isTask := goodIn_r _ [6, 1, 7, 8, 9, 5, 10, 11, 12, 13, 14, 15, 16, 17, 18, 19, 20, 21, 22, 23, 24, 25, 26] (by decide +kernel) (by decide +kernel)
set_option maxRecDepth 20000 in
theorem gX9_lengthOf_X9_isTask : GoodIn wsX9_lengthOf (wsV RX9 93 RX9 yX9_isTask wsX9_isTask) := goodIn_app (goodIn_of _ (by decide +kernel)) ggX9_lengthOf_X9_isTask
theorem dX9_lengthOf_0 : decode cX9_lengthOf 0 = .ok (.aload_n 0, 1) := by decide +kernel
theorem dX9_lengthOf_1 : decode cX9_lengthOf 1 = .ok (.iload_n 1, 1) := by decide +kernel
theorem dX9_lengthOf_2 : decode cX9_lengthOf 2 = .ok (.invokevirtual 93, 3) := by decide +kernel
theorem dX9_lengthOf_5 : decode cX9_lengthOf 5 = .ok (.ifCond .eq 14, 3) := by decide +kernel
theorem dX9_lengthOf_8 : decode cX9_lengthOf 8 = .ok (.aload_n 0, 1) := by decide +kernel
theorem dX9_lengthOf_9 : decode cX9_lengthOf 9 = .ok (.getfield 7, 3) := by decide +kernel
theorem dX9_lengthOf_12 : decode cX9_lengthOf 12 = .ok (.iconst 2, 1) := by decide +kernel
theorem dX9_lengthOf_13 : decode cX9_lengthOf 13 = .ok (.iload_n 1, 1) := by decide +kernel
theorem dX9_lengthOf_14 : decode cX9_lengthOf 14 = .ok (.iadd, 1) := by decide +kernel
theorem dX9_lengthOf_15 : decode cX9_lengthOf 15 = .ok (.iaload, 1) := by decide +kernel
theorem dX9_lengthOf_16 : decode cX9_lengthOf 16 = .ok (.goto 4, 3) := by decide +kernel
theorem dX9_lengthOf_19 : decode cX9_lengthOf 19 = .ok (.iconst 0, 1) := by decide +kernel
theorem dX9_lengthOf_20 : decode cX9_lengthOf 20 = .ok (.ireturn, 1) := by decide +kernel
set_option maxRecDepth 20000 in
theorem ggX9_crewsOf_X9_isTask : GoodIn wsX9_crewsOf wsX9_isTask := goodIn_r _ [6, 1, 7, 8, 9, 5, 10, 11, 12, 13, 14, 15, 16, 17, 18, 19, 20, 21, 22, 23, 24, 25, 26] (by decide +kernel) (by decide +kernel)
set_option maxRecDepth 20000 in
theorem gX9_crewsOf_X9_isTask : GoodIn wsX9_crewsOf (wsV RX9 93 RX9 yX9_isTask wsX9_isTask) := goodIn_app (goodIn_of _ (by decide +kernel)) ggX9_crewsOf_X9_isTask
theorem dX9_crewsOf_0 : decode cX9_crewsOf 0 = .ok (.aload_n 0, 1) := by decide +kernel
theorem dX9_crewsOf_1 : decode cX9_crewsOf 1 = .ok (.iload_n 1, 1) := by decide +kernel
theorem dX9_crewsOf_2 : decode cX9_crewsOf 2 = .ok (.invokevirtual 93, 3) := by decide +kernel
theorem dX9_crewsOf_5 : decode cX9_crewsOf 5 = .ok (.ifCond .eq 15, 3) := by decide +kernel
theorem dX9_crewsOf_8 : decode cX9_crewsOf 8 = .ok (.aload_n 0, 1) := by decide +kernel
theorem dX9_crewsOf_9 : decode cX9_crewsOf 9 = .ok (.getfield 7, 3) := by decide +kernel
theorem dX9_crewsOf_12 : decode cX9_crewsOf 12 = .ok (.bipush 22, 2) := by decide +kernel
theorem dX9_crewsOf_14 : decode cX9_crewsOf 14 = .ok (.iload_n 1, 1) := by decide +kernel
theorem dX9_crewsOf_15 : decode cX9_crewsOf 15 = .ok (.iadd, 1) := by decide +kernel
theorem dX9_crewsOf_16 : decode cX9_crewsOf 16 = .ok (.iaload, 1) := by decide +kernel
theorem dX9_crewsOf_17 : decode cX9_crewsOf 17 = .ok (.goto 4, 3) := by decide +kernel
theorem dX9_crewsOf_20 : decode cX9_crewsOf 20 = .ok (.iconst 0, 1) := by decide +kernel
theorem dX9_crewsOf_21 : decode cX9_crewsOf 21 = .ok (.ireturn, 1) := by decide +kernel
set_option maxRecDepth 20000 in
theorem ggX9_lagOf_X9_are : GoodIn wsX9_lagOf wsX9_are := goodIn_r _ [6, 1, 7, 8, 9, 5, 10, 18, 19, 20, 21, 22, 23, 24, 25, 26, 27, 28, 29, 30, 31, 32, 33] (by decide +kernel) (by decide +kernel)
set_option maxRecDepth 20000 in
theorem gX9_lagOf_X9_are : GoodIn wsX9_lagOf (wsV RX9 97 RX9 yX9_are wsX9_are) := goodIn_app (goodIn_of _ (by decide +kernel)) ggX9_lagOf_X9_are
set_option maxRecDepth 20000 in
theorem ggX9_lagOf_X9_lag : GoodIn wsX9_lagOf wsX9_lag := goodIn_r _ [13] (by decide +kernel) (by decide +kernel)
set_option maxRecDepth 20000 in
theorem gX9_lagOf_X9_lag : GoodIn wsX9_lagOf (va_wsS RX9 63 yX9_lag wsX9_lag) := goodIn_app (goodIn_of _ (by decide +kernel)) ggX9_lagOf_X9_lag
set_option maxRecDepth 20000 in
theorem ggX9_lagOf_X9_fails : GoodIn wsX9_lagOf wsX9_fails := goodIn_r _ [17, 7, 18, 19, 20, 21, 22, 23, 24, 25, 26, 27, 28, 29, 30, 31, 32, 33] (by decide +kernel) (by decide +kernel)
set_option maxRecDepth 20000 in
theorem gX9_lagOf_X9_fails : GoodIn wsX9_lagOf (wsV RX9 80 RX9 yX9_fails wsX9_fails) := goodIn_app (goodIn_of _ (by decide +kernel)) ggX9_lagOf_X9_fails
theorem dX9_lagOf_0 : decode cX9_lagOf 0 = .ok (.aload_n 0, 1) := by decide +kernel
theorem dX9_lagOf_1 : decode cX9_lagOf 1 = .ok (.iload_n 1, 1) := by decide +kernel
theorem dX9_lagOf_2 : decode cX9_lagOf 2 = .ok (.iload_n 2, 1) := by decide +kernel
theorem dX9_lagOf_3 : decode cX9_lagOf 3 = .ok (.invokevirtual 97, 3) := by decide +kernel
theorem dX9_lagOf_6 : decode cX9_lagOf 6 = .ok (.ifCond .ne 5, 3) := by decide +kernel
theorem dX9_lagOf_9 : decode cX9_lagOf 9 = .ok (.iconst 0, 1) := by decide +kernel
theorem dX9_lagOf_10 : decode cX9_lagOf 10 = .ok (.ireturn, 1) := by decide +kernel
theorem dX9_lagOf_11 : decode cX9_lagOf 11 = .ok (.aload_n 0, 1) := by decide +kernel
theorem dX9_lagOf_12 : decode cX9_lagOf 12 = .ok (.getfield 7, 3) := by decide +kernel
theorem dX9_lagOf_15 : decode cX9_lagOf 15 = .ok (.iload_n 1, 1) := by decide +kernel
theorem dX9_lagOf_16 : decode cX9_lagOf 16 = .ok (.iload_n 2, 1) := by decide +kernel
theorem dX9_lagOf_17 : decode cX9_lagOf 17 = .ok (.invokestatic 63, 3) := by decide +kernel
theorem dX9_lagOf_20 : decode cX9_lagOf 20 = .ok (.ifCond .ge 11, 3) := by decide +kernel
theorem dX9_lagOf_23 : decode cX9_lagOf 23 = .ok (.aload_n 0, 1) := by decide +kernel
theorem dX9_lagOf_24 : decode cX9_lagOf 24 = .ok (.iconst 2, 1) := by decide +kernel
theorem dX9_lagOf_25 : decode cX9_lagOf 25 = .ok (.invokevirtual 80, 3) := by decide +kernel
theorem dX9_lagOf_28 : decode cX9_lagOf 28 = .ok (.goto 12, 3) := by decide +kernel
theorem dX9_lagOf_31 : decode cX9_lagOf 31 = .ok (.aload_n 0, 1) := by decide +kernel
theorem dX9_lagOf_32 : decode cX9_lagOf 32 = .ok (.getfield 7, 3) := by decide +kernel
theorem dX9_lagOf_35 : decode cX9_lagOf 35 = .ok (.iload_n 1, 1) := by decide +kernel
theorem dX9_lagOf_36 : decode cX9_lagOf 36 = .ok (.iload_n 2, 1) := by decide +kernel
theorem dX9_lagOf_37 : decode cX9_lagOf 37 = .ok (.invokestatic 63, 3) := by decide +kernel
theorem dX9_lagOf_40 : decode cX9_lagOf 40 = .ok (.ireturn, 1) := by decide +kernel
set_option maxRecDepth 20000 in
theorem ggX9_isAhead_X9_are : GoodIn wsX9_isAhead wsX9_are := goodIn_r _ [6, 1, 7, 8, 9, 5, 10, 14, 15, 16, 17, 18, 19, 20, 21, 22, 23, 24, 25, 26, 27, 28, 29] (by decide +kernel) (by decide +kernel)
set_option maxRecDepth 20000 in
theorem gX9_isAhead_X9_are : GoodIn wsX9_isAhead (wsV RX9 97 RX9 yX9_are wsX9_are) := goodIn_app (goodIn_of _ (by decide +kernel)) ggX9_isAhead_X9_are
set_option maxRecDepth 20000 in
theorem ggX9_isAhead_X9_ahead : GoodIn wsX9_isAhead wsX9_ahead := goodIn_r _ [13] (by decide +kernel) (by decide +kernel)
set_option maxRecDepth 20000 in
theorem gX9_isAhead_X9_ahead : GoodIn wsX9_isAhead (va_wsS RX9 101 yX9_ahead wsX9_ahead) := goodIn_app (goodIn_of _ (by decide +kernel)) ggX9_isAhead_X9_ahead
theorem dX9_isAhead_0 : decode cX9_isAhead 0 = .ok (.aload_n 0, 1) := by decide +kernel
theorem dX9_isAhead_1 : decode cX9_isAhead 1 = .ok (.iload_n 1, 1) := by decide +kernel
theorem dX9_isAhead_2 : decode cX9_isAhead 2 = .ok (.iload_n 2, 1) := by decide +kernel
theorem dX9_isAhead_3 : decode cX9_isAhead 3 = .ok (.invokevirtual 97, 3) := by decide +kernel
theorem dX9_isAhead_6 : decode cX9_isAhead 6 = .ok (.ifCond .eq 19, 3) := by decide +kernel
theorem dX9_isAhead_9 : decode cX9_isAhead 9 = .ok (.aload_n 0, 1) := by decide +kernel
theorem dX9_isAhead_10 : decode cX9_isAhead 10 = .ok (.getfield 7, 3) := by decide +kernel
theorem dX9_isAhead_13 : decode cX9_isAhead 13 = .ok (.iload_n 1, 1) := by decide +kernel
theorem dX9_isAhead_14 : decode cX9_isAhead 14 = .ok (.iload_n 2, 1) := by decide +kernel
theorem dX9_isAhead_15 : decode cX9_isAhead 15 = .ok (.invokestatic 101, 3) := by decide +kernel
theorem dX9_isAhead_18 : decode cX9_isAhead 18 = .ok (.ifCond .eq 7, 3) := by decide +kernel
theorem dX9_isAhead_21 : decode cX9_isAhead 21 = .ok (.iconst 1, 1) := by decide +kernel
theorem dX9_isAhead_22 : decode cX9_isAhead 22 = .ok (.goto 4, 3) := by decide +kernel
theorem dX9_isAhead_25 : decode cX9_isAhead 25 = .ok (.iconst 0, 1) := by decide +kernel
theorem dX9_isAhead_26 : decode cX9_isAhead 26 = .ok (.ireturn, 1) := by decide +kernel
set_option maxRecDepth 20000 in
theorem ggX9_earliestStart_X9_isTask : GoodIn wsX9_earliestStart wsX9_isTask := goodIn_r _ [7, 1, 8, 9, 10, 6, 11, 16, 17, 18, 19, 20, 21, 22, 23, 24, 25, 26, 27, 28, 29, 30, 31] (by decide +kernel) (by decide +kernel)
set_option maxRecDepth 20000 in
theorem gX9_earliestStart_X9_isTask : GoodIn wsX9_earliestStart (wsV RX9 93 RX9 yX9_isTask wsX9_isTask) := goodIn_app (goodIn_of _ (by decide +kernel)) ggX9_earliestStart_X9_isTask
set_option maxRecDepth 20000 in
theorem ggX9_earliestStart_X9_starts : GoodIn wsX9_earliestStart wsX9_starts := goodIn_r _ [15, 2, 16, 17, 18, 19, 20, 21, 22, 23, 24, 25, 26, 27, 28, 29, 30, 31] (by decide +kernel) (by decide +kernel)
set_option maxRecDepth 20000 in
theorem gX9_earliestStart_X9_starts : GoodIn wsX9_earliestStart (wsV RX9 59 RX9 yX9_starts wsX9_starts) := goodIn_app (goodIn_of _ (by decide +kernel)) ggX9_earliestStart_X9_starts
theorem dX9_earliestStart_0 : decode cX9_earliestStart 0 = .ok (.aload_n 0, 1) := by decide +kernel
theorem dX9_earliestStart_1 : decode cX9_earliestStart 1 = .ok (.iload_n 1, 1) := by decide +kernel
theorem dX9_earliestStart_2 : decode cX9_earliestStart 2 = .ok (.invokevirtual 93, 3) := by decide +kernel
theorem dX9_earliestStart_5 : decode cX9_earliestStart 5 = .ok (.ifCond .ne 5, 3) := by decide +kernel
theorem dX9_earliestStart_8 : decode cX9_earliestStart 8 = .ok (.iconst 0, 1) := by decide +kernel
theorem dX9_earliestStart_9 : decode cX9_earliestStart 9 = .ok (.ireturn, 1) := by decide +kernel
theorem dX9_earliestStart_10 : decode cX9_earliestStart 10 = .ok (.aload_n 0, 1) := by decide +kernel
theorem dX9_earliestStart_11 : decode cX9_earliestStart 11 = .ok (.aload_n 0, 1) := by decide +kernel
theorem dX9_earliestStart_12 : decode cX9_earliestStart 12 = .ok (.getfield 7, 3) := by decide +kernel
theorem dX9_earliestStart_15 : decode cX9_earliestStart 15 = .ok (.invokevirtual 59, 3) := by decide +kernel
theorem dX9_earliestStart_18 : decode cX9_earliestStart 18 = .ok (.pop, 1) := by decide +kernel
theorem dX9_earliestStart_19 : decode cX9_earliestStart 19 = .ok (.aload_n 0, 1) := by decide +kernel
theorem dX9_earliestStart_20 : decode cX9_earliestStart 20 = .ok (.getfield 25, 3) := by decide +kernel
theorem dX9_earliestStart_23 : decode cX9_earliestStart 23 = .ok (.iload_n 1, 1) := by decide +kernel
theorem dX9_earliestStart_24 : decode cX9_earliestStart 24 = .ok (.iaload, 1) := by decide +kernel
theorem dX9_earliestStart_25 : decode cX9_earliestStart 25 = .ok (.ireturn, 1) := by decide +kernel
set_option maxRecDepth 20000 in
theorem ggX9_latestStart_X9_isTask : GoodIn wsX9_latestStart wsX9_isTask := goodIn_r _ [7, 1, 8, 9, 10, 6, 11, 21, 22, 23, 24, 25, 26, 27, 28, 29, 30, 31, 32, 33, 34, 35, 36] (by decide +kernel) (by decide +kernel)
set_option maxRecDepth 20000 in
theorem gX9_latestStart_X9_isTask : GoodIn wsX9_latestStart (wsV RX9 93 RX9 yX9_isTask wsX9_isTask) := goodIn_app (goodIn_of _ (by decide +kernel)) ggX9_latestStart_X9_isTask
set_option maxRecDepth 20000 in
theorem ggX9_latestStart_X9_days : GoodIn wsX9_latestStart wsX9_days := goodIn_r _ [15, 2, 16, 17, 18, 6, 19, 20, 21, 22, 23, 24, 25, 26, 27, 28, 29, 30, 31, 32, 33, 34, 35, 36] (by decide +kernel) (by decide +kernel)
set_option maxRecDepth 20000 in
theorem gX9_latestStart_X9_days : GoodIn wsX9_latestStart (wsV RX9 71 RX9 yX9_days wsX9_days) := goodIn_app (goodIn_of _ (by decide +kernel)) ggX9_latestStart_X9_days
theorem dX9_latestStart_0 : decode cX9_latestStart 0 = .ok (.aload_n 0, 1) := by decide +kernel
theorem dX9_latestStart_1 : decode cX9_latestStart 1 = .ok (.iload_n 1, 1) := by decide +kernel
theorem dX9_latestStart_2 : decode cX9_latestStart 2 = .ok (.invokevirtual 93, 3) := by decide +kernel
theorem dX9_latestStart_5 : decode cX9_latestStart 5 = .ok (.ifCond .ne 5, 3) := by decide +kernel
theorem dX9_latestStart_8 : decode cX9_latestStart 8 = .ok (.iconst 0, 1) := by decide +kernel
theorem dX9_latestStart_9 : decode cX9_latestStart 9 = .ok (.ireturn, 1) := by decide +kernel
theorem dX9_latestStart_10 : decode cX9_latestStart 10 = .ok (.aload_n 0, 1) := by decide +kernel
theorem dX9_latestStart_11 : decode cX9_latestStart 11 = .ok (.aload_n 0, 1) := by decide +kernel
theorem dX9_latestStart_12 : decode cX9_latestStart 12 = .ok (.getfield 7, 3) := by decide +kernel
theorem dX9_latestStart_15 : decode cX9_latestStart 15 = .ok (.invokevirtual 71, 3) := by decide +kernel
theorem dX9_latestStart_18 : decode cX9_latestStart 18 = .ok (.pop, 1) := by decide +kernel
theorem dX9_latestStart_19 : decode cX9_latestStart 19 = .ok (.aload_n 0, 1) := by decide +kernel
theorem dX9_latestStart_20 : decode cX9_latestStart 20 = .ok (.getfield 28, 3) := by decide +kernel
theorem dX9_latestStart_23 : decode cX9_latestStart 23 = .ok (.iload_n 1, 1) := by decide +kernel
theorem dX9_latestStart_24 : decode cX9_latestStart 24 = .ok (.iaload, 1) := by decide +kernel
theorem dX9_latestStart_25 : decode cX9_latestStart 25 = .ok (.ireturn, 1) := by decide +kernel
set_option maxRecDepth 20000 in
theorem ggX9_planLength_X9_starts : GoodIn wsX9_planLength wsX9_starts := goodIn_r _ [7, 8, 9, 10, 11, 12, 13, 14, 15, 16, 17, 18, 19, 20, 21, 22, 23, 24] (by decide +kernel) (by decide +kernel)
set_option maxRecDepth 20000 in
theorem gX9_planLength_X9_starts : GoodIn wsX9_planLength (wsV RX9 59 RX9 yX9_starts wsX9_starts) := goodIn_app (goodIn_of _ (by decide +kernel)) ggX9_planLength_X9_starts
theorem dX9_planLength_0 : decode cX9_planLength 0 = .ok (.aload_n 0, 1) := by decide +kernel
theorem dX9_planLength_1 : decode cX9_planLength 1 = .ok (.iconst 0, 1) := by decide +kernel
theorem dX9_planLength_2 : decode cX9_planLength 2 = .ok (.putfield 44, 3) := by decide +kernel
theorem dX9_planLength_5 : decode cX9_planLength 5 = .ok (.aload_n 0, 1) := by decide +kernel
theorem dX9_planLength_6 : decode cX9_planLength 6 = .ok (.aload_n 0, 1) := by decide +kernel
theorem dX9_planLength_7 : decode cX9_planLength 7 = .ok (.getfield 7, 3) := by decide +kernel
theorem dX9_planLength_10 : decode cX9_planLength 10 = .ok (.invokevirtual 59, 3) := by decide +kernel
theorem dX9_planLength_13 : decode cX9_planLength 13 = .ok (.ireturn, 1) := by decide +kernel
set_option maxRecDepth 20000 in
theorem ggX9_planLengthByRounds_X9_starts : GoodIn wsX9_planLengthByRounds wsX9_starts := goodIn_r _ [7, 8, 9, 10, 11, 12, 13, 14, 15, 16, 17, 18, 19, 20, 21, 22, 23, 24] (by decide +kernel) (by decide +kernel)
set_option maxRecDepth 20000 in
theorem gX9_planLengthByRounds_X9_starts : GoodIn wsX9_planLengthByRounds (wsV RX9 59 RX9 yX9_starts wsX9_starts) := goodIn_app (goodIn_of _ (by decide +kernel)) ggX9_planLengthByRounds_X9_starts
theorem dX9_planLengthByRounds_0 : decode cX9_planLengthByRounds 0 = .ok (.aload_n 0, 1) := by decide +kernel
theorem dX9_planLengthByRounds_1 : decode cX9_planLengthByRounds 1 = .ok (.iconst 0, 1) := by decide +kernel
theorem dX9_planLengthByRounds_2 : decode cX9_planLengthByRounds 2 = .ok (.putfield 44, 3) := by decide +kernel
theorem dX9_planLengthByRounds_5 : decode cX9_planLengthByRounds 5 = .ok (.aload_n 0, 1) := by decide +kernel
theorem dX9_planLengthByRounds_6 : decode cX9_planLengthByRounds 6 = .ok (.aload_n 0, 1) := by decide +kernel
theorem dX9_planLengthByRounds_7 : decode cX9_planLengthByRounds 7 = .ok (.getfield 7, 3) := by decide +kernel
theorem dX9_planLengthByRounds_10 : decode cX9_planLengthByRounds 10 = .ok (.invokevirtual 59, 3) := by decide +kernel
theorem dX9_planLengthByRounds_13 : decode cX9_planLengthByRounds 13 = .ok (.ireturn, 1) := by decide +kernel
set_option maxRecDepth 20000 in
theorem ggX9_left_X9_isTask : GoodIn wsX9_left wsX9_isTask := goodIn_r _ [8, 1, 9, 10, 11, 7, 12, 21, 22, 23, 24, 25, 26, 27, 28, 29, 30, 31, 32, 33, 34, 35, 36] (by decide +kernel) (by decide +kernel)
set_option maxRecDepth 20000 in
theorem gX9_left_X9_isTask : GoodIn wsX9_left (wsV RX9 93 RX9 yX9_isTask wsX9_isTask) := goodIn_app (goodIn_of _ (by decide +kernel)) ggX9_left_X9_isTask
set_option maxRecDepth 20000 in
theorem ggX9_left_X9_days : GoodIn wsX9_left wsX9_days := goodIn_r _ [16, 2, 17, 18, 19, 7, 20, 3, 21, 22, 23, 24, 25, 26, 27, 28, 29, 30, 31, 32, 33, 34, 35, 36] (by decide +kernel) (by decide +kernel)
set_option maxRecDepth 20000 in
theorem gX9_left_X9_days : GoodIn wsX9_left (wsV RX9 71 RX9 yX9_days wsX9_days) := goodIn_app (goodIn_of _ (by decide +kernel)) ggX9_left_X9_days
theorem dX9_left_0 : decode cX9_left 0 = .ok (.aload_n 0, 1) := by decide +kernel
theorem dX9_left_1 : decode cX9_left 1 = .ok (.iload_n 1, 1) := by decide +kernel
theorem dX9_left_2 : decode cX9_left 2 = .ok (.invokevirtual 93, 3) := by decide +kernel
theorem dX9_left_5 : decode cX9_left 5 = .ok (.ifCond .ne 5, 3) := by decide +kernel
theorem dX9_left_8 : decode cX9_left 8 = .ok (.iconst 0, 1) := by decide +kernel
theorem dX9_left_9 : decode cX9_left 9 = .ok (.ireturn, 1) := by decide +kernel
theorem dX9_left_10 : decode cX9_left 10 = .ok (.aload_n 0, 1) := by decide +kernel
theorem dX9_left_11 : decode cX9_left 11 = .ok (.aload_n 0, 1) := by decide +kernel
theorem dX9_left_12 : decode cX9_left 12 = .ok (.getfield 7, 3) := by decide +kernel
theorem dX9_left_15 : decode cX9_left 15 = .ok (.invokevirtual 71, 3) := by decide +kernel
theorem dX9_left_18 : decode cX9_left 18 = .ok (.pop, 1) := by decide +kernel
theorem dX9_left_19 : decode cX9_left 19 = .ok (.aload_n 0, 1) := by decide +kernel
theorem dX9_left_20 : decode cX9_left 20 = .ok (.getfield 28, 3) := by decide +kernel
theorem dX9_left_23 : decode cX9_left 23 = .ok (.iload_n 1, 1) := by decide +kernel
theorem dX9_left_24 : decode cX9_left 24 = .ok (.iaload, 1) := by decide +kernel
theorem dX9_left_25 : decode cX9_left 25 = .ok (.aload_n 0, 1) := by decide +kernel
theorem dX9_left_26 : decode cX9_left 26 = .ok (.getfield 25, 3) := by decide +kernel
theorem dX9_left_29 : decode cX9_left 29 = .ok (.iload_n 1, 1) := by decide +kernel
theorem dX9_left_30 : decode cX9_left 30 = .ok (.iaload, 1) := by decide +kernel
theorem dX9_left_31 : decode cX9_left 31 = .ok (.isub, 1) := by decide +kernel
theorem dX9_left_32 : decode cX9_left 32 = .ok (.ireturn, 1) := by decide +kernel
set_option maxRecDepth 20000 in
theorem ggX9_slack_X9_left : GoodIn wsX9_slack wsX9_left := goodIn_r _ [5, 6, 7, 8, 9, 10, 11, 4, 12, 13, 14, 15, 16, 17, 18, 19, 20, 21, 22, 23, 24, 25, 26, 27, 28, 29, 30, 31, 32, 33, 34, 35, 36, 37, 38, 39, 40] (by decide +kernel) (by decide +kernel)
set_option maxRecDepth 20000 in
theorem gX9_slack_X9_left : GoodIn wsX9_slack (wsV RX9 133 RX9 yX9_left wsX9_left) := goodIn_app (goodIn_of _ (by decide +kernel)) ggX9_slack_X9_left
theorem dX9_slack_0 : decode cX9_slack 0 = .ok (.aload_n 0, 1) := by decide +kernel
theorem dX9_slack_1 : decode cX9_slack 1 = .ok (.iload_n 1, 1) := by decide +kernel
theorem dX9_slack_2 : decode cX9_slack 2 = .ok (.invokevirtual 133, 3) := by decide +kernel
theorem dX9_slack_5 : decode cX9_slack 5 = .ok (.ireturn, 1) := by decide +kernel
set_option maxRecDepth 20000 in
theorem ggX9_slackByChain_X9_left : GoodIn wsX9_slackByChain wsX9_left := goodIn_r _ [5, 6, 7, 8, 9, 10, 11, 4, 12, 13, 14, 15, 16, 17, 18, 19, 20, 21, 22, 23, 24, 25, 26, 27, 28, 29, 30, 31, 32, 33, 34, 35, 36, 37, 38, 39, 40] (by decide +kernel) (by decide +kernel)
set_option maxRecDepth 20000 in
theorem gX9_slackByChain_X9_left : GoodIn wsX9_slackByChain (wsV RX9 133 RX9 yX9_left wsX9_left) := goodIn_app (goodIn_of _ (by decide +kernel)) ggX9_slackByChain_X9_left
theorem dX9_slackByChain_0 : decode cX9_slackByChain 0 = .ok (.aload_n 0, 1) := by decide +kernel
theorem dX9_slackByChain_1 : decode cX9_slackByChain 1 = .ok (.iload_n 1, 1) := by decide +kernel
theorem dX9_slackByChain_2 : decode cX9_slackByChain 2 = .ok (.invokevirtual 133, 3) := by decide +kernel
theorem dX9_slackByChain_5 : decode cX9_slackByChain 5 = .ok (.ireturn, 1) := by decide +kernel
set_option maxRecDepth 20000 in
theorem ggX9_freeSlack_X9_isTask : GoodIn wsX9_freeSlack wsX9_isTask := goodIn_r _ [7, 1, 8, 9, 10, 6, 11, 19, 20, 21, 22, 23, 24, 25, 26, 27, 28, 29, 30, 31, 32, 33, 34] (by decide +kernel) (by decide +kernel)
set_option maxRecDepth 20000 in
theorem gX9_freeSlack_X9_isTask : GoodIn wsX9_freeSlack (wsV RX9 93 RX9 yX9_isTask wsX9_isTask) := goodIn_app (goodIn_of _ (by decide +kernel)) ggX9_freeSlack_X9_isTask
set_option maxRecDepth 20000 in
theorem ggX9_freeSlack_X9_starts : GoodIn wsX9_freeSlack wsX9_starts := goodIn_r _ [15, 2, 19, 20, 21, 22, 23, 24, 25, 26, 27, 28, 29, 30, 31, 32, 33, 34] (by decide +kernel) (by decide +kernel)
set_option maxRecDepth 20000 in
theorem gX9_freeSlack_X9_starts : GoodIn wsX9_freeSlack (wsV RX9 59 RX9 yX9_starts wsX9_starts) := goodIn_app (goodIn_of _ (by decide +kernel)) ggX9_freeSlack_X9_starts
set_option maxRecDepth 20000 in
theorem ggX9_freeSlack_X9_lag : GoodIn wsX9_freeSlack wsX9_lag := goodIn_r _ [18] (by decide +kernel) (by decide +kernel)
set_option maxRecDepth 20000 in
theorem gX9_freeSlack_X9_lag : GoodIn wsX9_freeSlack (va_wsS RX9 63 yX9_lag wsX9_lag) := goodIn_app (goodIn_of _ (by decide +kernel)) ggX9_freeSlack_X9_lag
theorem dX9_freeSlack_0 : decode cX9_freeSlack 0 = .ok (.aload_n 0, 1) := by decide +kernel
theorem dX9_freeSlack_1 : decode cX9_freeSlack 1 = .ok (.iload_n 1, 1) := by decide +kernel
theorem dX9_freeSlack_2 : decode cX9_freeSlack 2 = .ok (.invokevirtual 93, 3) := by decide +kernel
theorem dX9_freeSlack_5 : decode cX9_freeSlack 5 = .ok (.ifCond .ne 5, 3) := by decide +kernel
theorem dX9_freeSlack_8 : decode cX9_freeSlack 8 = .ok (.iconst 0, 1) := by decide +kernel
theorem dX9_freeSlack_9 : decode cX9_freeSlack 9 = .ok (.ireturn, 1) := by decide +kernel
theorem dX9_freeSlack_10 : decode cX9_freeSlack 10 = .ok (.aload_n 0, 1) := by decide +kernel
theorem dX9_freeSlack_11 : decode cX9_freeSlack 11 = .ok (.aload_n 0, 1) := by decide +kernel
theorem dX9_freeSlack_12 : decode cX9_freeSlack 12 = .ok (.getfield 7, 3) := by decide +kernel
theorem dX9_freeSlack_15 : decode cX9_freeSlack 15 = .ok (.invokevirtual 59, 3) := by decide +kernel
theorem dX9_freeSlack_18 : decode cX9_freeSlack 18 = .ok (.istore_n 2, 1) := by decide +kernel
theorem dX9_freeSlack_19 : decode cX9_freeSlack 19 = .ok (.aload_n 0, 1) := by decide +kernel
theorem dX9_freeSlack_20 : decode cX9_freeSlack 20 = .ok (.getfield 25, 3) := by decide +kernel
theorem dX9_freeSlack_23 : decode cX9_freeSlack 23 = .ok (.iload_n 1, 1) := by decide +kernel
theorem dX9_freeSlack_24 : decode cX9_freeSlack 24 = .ok (.iaload, 1) := by decide +kernel
theorem dX9_freeSlack_25 : decode cX9_freeSlack 25 = .ok (.aload_n 0, 1) := by decide +kernel
theorem dX9_freeSlack_26 : decode cX9_freeSlack 26 = .ok (.getfield 7, 3) := by decide +kernel
theorem dX9_freeSlack_29 : decode cX9_freeSlack 29 = .ok (.iconst 2, 1) := by decide +kernel
theorem dX9_freeSlack_30 : decode cX9_freeSlack 30 = .ok (.iload_n 1, 1) := by decide +kernel
theorem dX9_freeSlack_31 : decode cX9_freeSlack 31 = .ok (.iadd, 1) := by decide +kernel
theorem dX9_freeSlack_32 : decode cX9_freeSlack 32 = .ok (.iaload, 1) := by decide +kernel
theorem dX9_freeSlack_33 : decode cX9_freeSlack 33 = .ok (.iadd, 1) := by decide +kernel
theorem dX9_freeSlack_34 : decode cX9_freeSlack 34 = .ok (.istore_n 3, 1) := by decide +kernel
theorem dX9_freeSlack_35 : decode cX9_freeSlack 35 = .ok (.iload_n 2, 1) := by decide +kernel
theorem dX9_freeSlack_36 : decode cX9_freeSlack 36 = .ok (.iload_n 3, 1) := by decide +kernel
theorem dX9_freeSlack_37 : decode cX9_freeSlack 37 = .ok (.isub, 1) := by decide +kernel
theorem dX9_freeSlack_38 : decode cX9_freeSlack 38 = .ok (.istore 4, 2) := by decide +kernel
theorem dX9_freeSlack_40 : decode cX9_freeSlack 40 = .ok (.iconst 0, 1) := by decide +kernel
theorem dX9_freeSlack_41 : decode cX9_freeSlack 41 = .ok (.istore 5, 2) := by decide +kernel
theorem dX9_freeSlack_43 : decode cX9_freeSlack 43 = .ok (.iload 5, 2) := by decide +kernel
theorem dX9_freeSlack_45 : decode cX9_freeSlack 45 = .ok (.aload_n 0, 1) := by decide +kernel
theorem dX9_freeSlack_46 : decode cX9_freeSlack 46 = .ok (.getfield 7, 3) := by decide +kernel
theorem dX9_freeSlack_49 : decode cX9_freeSlack 49 = .ok (.iconst 0, 1) := by decide +kernel
theorem dX9_freeSlack_50 : decode cX9_freeSlack 50 = .ok (.iaload, 1) := by decide +kernel
theorem dX9_freeSlack_51 : decode cX9_freeSlack 51 = .ok (.if_icmp .ge 60, 3) := by decide +kernel
theorem dX9_freeSlack_54 : decode cX9_freeSlack 54 = .ok (.aload_n 0, 1) := by decide +kernel
theorem dX9_freeSlack_55 : decode cX9_freeSlack 55 = .ok (.getfield 25, 3) := by decide +kernel
theorem dX9_freeSlack_58 : decode cX9_freeSlack 58 = .ok (.iload 5, 2) := by decide +kernel
theorem dX9_freeSlack_60 : decode cX9_freeSlack 60 = .ok (.iaload, 1) := by decide +kernel
theorem dX9_freeSlack_61 : decode cX9_freeSlack 61 = .ok (.aload_n 0, 1) := by decide +kernel
theorem dX9_freeSlack_62 : decode cX9_freeSlack 62 = .ok (.getfield 7, 3) := by decide +kernel
theorem dX9_freeSlack_65 : decode cX9_freeSlack 65 = .ok (.iload_n 1, 1) := by decide +kernel
theorem dX9_freeSlack_66 : decode cX9_freeSlack 66 = .ok (.iload 5, 2) := by decide +kernel
theorem dX9_freeSlack_68 : decode cX9_freeSlack 68 = .ok (.invokestatic 63, 3) := by decide +kernel
theorem dX9_freeSlack_71 : decode cX9_freeSlack 71 = .ok (.isub, 1) := by decide +kernel
theorem dX9_freeSlack_72 : decode cX9_freeSlack 72 = .ok (.iload_n 3, 1) := by decide +kernel
theorem dX9_freeSlack_73 : decode cX9_freeSlack 73 = .ok (.isub, 1) := by decide +kernel
theorem dX9_freeSlack_74 : decode cX9_freeSlack 74 = .ok (.istore 6, 2) := by decide +kernel
theorem dX9_freeSlack_76 : decode cX9_freeSlack 76 = .ok (.aload_n 0, 1) := by decide +kernel
theorem dX9_freeSlack_77 : decode cX9_freeSlack 77 = .ok (.getfield 7, 3) := by decide +kernel
theorem dX9_freeSlack_80 : decode cX9_freeSlack 80 = .ok (.iload_n 1, 1) := by decide +kernel
theorem dX9_freeSlack_81 : decode cX9_freeSlack 81 = .ok (.iload 5, 2) := by decide +kernel
theorem dX9_freeSlack_83 : decode cX9_freeSlack 83 = .ok (.invokestatic 63, 3) := by decide +kernel
theorem dX9_freeSlack_86 : decode cX9_freeSlack 86 = .ok (.ifCond .lt 15, 3) := by decide +kernel
theorem dX9_freeSlack_89 : decode cX9_freeSlack 89 = .ok (.iload 6, 2) := by decide +kernel
theorem dX9_freeSlack_91 : decode cX9_freeSlack 91 = .ok (.iload 4, 2) := by decide +kernel
theorem dX9_freeSlack_93 : decode cX9_freeSlack 93 = .ok (.if_icmp .ge 8, 3) := by decide +kernel
theorem dX9_freeSlack_96 : decode cX9_freeSlack 96 = .ok (.iload 6, 2) := by decide +kernel
theorem dX9_freeSlack_98 : decode cX9_freeSlack 98 = .ok (.goto 5, 3) := by decide +kernel
theorem dX9_freeSlack_101 : decode cX9_freeSlack 101 = .ok (.iload 4, 2) := by decide +kernel
theorem dX9_freeSlack_103 : decode cX9_freeSlack 103 = .ok (.istore 4, 2) := by decide +kernel
theorem dX9_freeSlack_105 : decode cX9_freeSlack 105 = .ok (.iinc 5 1, 3) := by decide +kernel
theorem dX9_freeSlack_108 : decode cX9_freeSlack 108 = .ok (.goto (-65), 3) := by decide +kernel
theorem dX9_freeSlack_111 : decode cX9_freeSlack 111 = .ok (.iload 4, 2) := by decide +kernel
theorem dX9_freeSlack_113 : decode cX9_freeSlack 113 = .ok (.ireturn, 1) := by decide +kernel
set_option maxRecDepth 20000 in
theorem ggX9_criticalTasks_X9_days : GoodIn wsX9_criticalTasks wsX9_days := goodIn_r _ [9, 3, 10, 11, 12, 8, 13, 4, 14, 15, 16, 17, 18, 19, 20, 21, 22, 23, 24, 25, 26, 27, 28, 29] (by decide +kernel) (by decide +kernel)
set_option maxRecDepth 20000 in
theorem gX9_criticalTasks_X9_days : GoodIn wsX9_criticalTasks (wsV RX9 71 RX9 yX9_days wsX9_days) := goodIn_app (goodIn_of _ (by decide +kernel)) ggX9_criticalTasks_X9_days
theorem dX9_criticalTasks_0 : decode cX9_criticalTasks 0 = .ok (.aload_n 0, 1) := by decide +kernel
theorem dX9_criticalTasks_1 : decode cX9_criticalTasks 1 = .ok (.iconst 0, 1) := by decide +kernel
theorem dX9_criticalTasks_2 : decode cX9_criticalTasks 2 = .ok (.putfield 44, 3) := by decide +kernel
theorem dX9_criticalTasks_5 : decode cX9_criticalTasks 5 = .ok (.aload_n 0, 1) := by decide +kernel
theorem dX9_criticalTasks_6 : decode cX9_criticalTasks 6 = .ok (.aload_n 0, 1) := by decide +kernel
theorem dX9_criticalTasks_7 : decode cX9_criticalTasks 7 = .ok (.getfield 7, 3) := by decide +kernel
theorem dX9_criticalTasks_10 : decode cX9_criticalTasks 10 = .ok (.invokevirtual 71, 3) := by decide +kernel
theorem dX9_criticalTasks_13 : decode cX9_criticalTasks 13 = .ok (.pop, 1) := by decide +kernel
theorem dX9_criticalTasks_14 : decode cX9_criticalTasks 14 = .ok (.iconst 0, 1) := by decide +kernel
theorem dX9_criticalTasks_15 : decode cX9_criticalTasks 15 = .ok (.istore_n 1, 1) := by decide +kernel
theorem dX9_criticalTasks_16 : decode cX9_criticalTasks 16 = .ok (.iconst 0, 1) := by decide +kernel
theorem dX9_criticalTasks_17 : decode cX9_criticalTasks 17 = .ok (.istore_n 2, 1) := by decide +kernel
theorem dX9_criticalTasks_18 : decode cX9_criticalTasks 18 = .ok (.iload_n 2, 1) := by decide +kernel
theorem dX9_criticalTasks_19 : decode cX9_criticalTasks 19 = .ok (.aload_n 0, 1) := by decide +kernel
theorem dX9_criticalTasks_20 : decode cX9_criticalTasks 20 = .ok (.getfield 7, 3) := by decide +kernel
theorem dX9_criticalTasks_23 : decode cX9_criticalTasks 23 = .ok (.iconst 0, 1) := by decide +kernel
theorem dX9_criticalTasks_24 : decode cX9_criticalTasks 24 = .ok (.iaload, 1) := by decide +kernel
theorem dX9_criticalTasks_25 : decode cX9_criticalTasks 25 = .ok (.if_icmp .ge 32, 3) := by decide +kernel
theorem dX9_criticalTasks_28 : decode cX9_criticalTasks 28 = .ok (.iload_n 1, 1) := by decide +kernel
theorem dX9_criticalTasks_29 : decode cX9_criticalTasks 29 = .ok (.aload_n 0, 1) := by decide +kernel
theorem dX9_criticalTasks_30 : decode cX9_criticalTasks 30 = .ok (.getfield 28, 3) := by decide +kernel
theorem dX9_criticalTasks_33 : decode cX9_criticalTasks 33 = .ok (.iload_n 2, 1) := by decide +kernel
theorem dX9_criticalTasks_34 : decode cX9_criticalTasks 34 = .ok (.iaload, 1) := by decide +kernel
theorem dX9_criticalTasks_35 : decode cX9_criticalTasks 35 = .ok (.aload_n 0, 1) := by decide +kernel
theorem dX9_criticalTasks_36 : decode cX9_criticalTasks 36 = .ok (.getfield 25, 3) := by decide +kernel
theorem dX9_criticalTasks_39 : decode cX9_criticalTasks 39 = .ok (.iload_n 2, 1) := by decide +kernel
theorem dX9_criticalTasks_40 : decode cX9_criticalTasks 40 = .ok (.iaload, 1) := by decide +kernel
theorem dX9_criticalTasks_41 : decode cX9_criticalTasks 41 = .ok (.if_icmp .ne 7, 3) := by decide +kernel
theorem dX9_criticalTasks_44 : decode cX9_criticalTasks 44 = .ok (.iconst 1, 1) := by decide +kernel
theorem dX9_criticalTasks_45 : decode cX9_criticalTasks 45 = .ok (.goto 4, 3) := by decide +kernel
theorem dX9_criticalTasks_48 : decode cX9_criticalTasks 48 = .ok (.iconst 0, 1) := by decide +kernel
theorem dX9_criticalTasks_49 : decode cX9_criticalTasks 49 = .ok (.iadd, 1) := by decide +kernel
theorem dX9_criticalTasks_50 : decode cX9_criticalTasks 50 = .ok (.istore_n 1, 1) := by decide +kernel
theorem dX9_criticalTasks_51 : decode cX9_criticalTasks 51 = .ok (.iinc 2 1, 3) := by decide +kernel
theorem dX9_criticalTasks_54 : decode cX9_criticalTasks 54 = .ok (.goto (-36), 3) := by decide +kernel
theorem dX9_criticalTasks_57 : decode cX9_criticalTasks 57 = .ok (.iload_n 1, 1) := by decide +kernel
theorem dX9_criticalTasks_58 : decode cX9_criticalTasks 58 = .ok (.ireturn, 1) := by decide +kernel
set_option maxRecDepth 20000 in
theorem ggX9_isEnd_X9_lag : GoodIn wsX9_isEnd wsX9_lag := goodIn_r _ [5] (by decide +kernel) (by decide +kernel)
set_option maxRecDepth 20000 in
theorem gX9_isEnd_X9_lag : GoodIn wsX9_isEnd (va_wsS RX9 63 yX9_lag wsX9_lag) := goodIn_app (goodIn_of _ (by decide +kernel)) ggX9_isEnd_X9_lag
theorem dX9_isEnd_0 : decode cX9_isEnd 0 = .ok (.iconst 1, 1) := by decide +kernel
theorem dX9_isEnd_1 : decode cX9_isEnd 1 = .ok (.istore_n 3, 1) := by decide +kernel
theorem dX9_isEnd_2 : decode cX9_isEnd 2 = .ok (.iconst 0, 1) := by decide +kernel
theorem dX9_isEnd_3 : decode cX9_isEnd 3 = .ok (.istore 4, 2) := by decide +kernel
theorem dX9_isEnd_5 : decode cX9_isEnd 5 = .ok (.iload 4, 2) := by decide +kernel
theorem dX9_isEnd_7 : decode cX9_isEnd 7 = .ok (.aload_n 0, 1) := by decide +kernel
theorem dX9_isEnd_8 : decode cX9_isEnd 8 = .ok (.getfield 7, 3) := by decide +kernel
theorem dX9_isEnd_11 : decode cX9_isEnd 11 = .ok (.iconst 0, 1) := by decide +kernel
theorem dX9_isEnd_12 : decode cX9_isEnd 12 = .ok (.iaload, 1) := by decide +kernel
theorem dX9_isEnd_13 : decode cX9_isEnd 13 = .ok (.if_icmp .ge 49, 3) := by decide +kernel
theorem dX9_isEnd_16 : decode cX9_isEnd 16 = .ok (.iload_n 3, 1) := by decide +kernel
theorem dX9_isEnd_17 : decode cX9_isEnd 17 = .ok (.ifCond .eq 37, 3) := by decide +kernel
theorem dX9_isEnd_20 : decode cX9_isEnd 20 = .ok (.iload_n 2, 1) := by decide +kernel
theorem dX9_isEnd_21 : decode cX9_isEnd 21 = .ok (.ifCond .eq 16, 3) := by decide +kernel
theorem dX9_isEnd_24 : decode cX9_isEnd 24 = .ok (.aload_n 0, 1) := by decide +kernel
theorem dX9_isEnd_25 : decode cX9_isEnd 25 = .ok (.getfield 7, 3) := by decide +kernel
theorem dX9_isEnd_28 : decode cX9_isEnd 28 = .ok (.iload 4, 2) := by decide +kernel
theorem dX9_isEnd_30 : decode cX9_isEnd 30 = .ok (.iload_n 1, 1) := by decide +kernel
theorem dX9_isEnd_31 : decode cX9_isEnd 31 = .ok (.invokestatic 63, 3) := by decide +kernel
theorem dX9_isEnd_34 : decode cX9_isEnd 34 = .ok (.goto 13, 3) := by decide +kernel
theorem dX9_isEnd_37 : decode cX9_isEnd 37 = .ok (.aload_n 0, 1) := by decide +kernel
theorem dX9_isEnd_38 : decode cX9_isEnd 38 = .ok (.getfield 7, 3) := by decide +kernel
theorem dX9_isEnd_41 : decode cX9_isEnd 41 = .ok (.iload_n 1, 1) := by decide +kernel
theorem dX9_isEnd_42 : decode cX9_isEnd 42 = .ok (.iload 4, 2) := by decide +kernel
theorem dX9_isEnd_44 : decode cX9_isEnd 44 = .ok (.invokestatic 63, 3) := by decide +kernel
theorem dX9_isEnd_47 : decode cX9_isEnd 47 = .ok (.ifCond .ge 7, 3) := by decide +kernel
theorem dX9_isEnd_50 : decode cX9_isEnd 50 = .ok (.iconst 1, 1) := by decide +kernel
theorem dX9_isEnd_51 : decode cX9_isEnd 51 = .ok (.goto 4, 3) := by decide +kernel
theorem dX9_isEnd_54 : decode cX9_isEnd 54 = .ok (.iconst 0, 1) := by decide +kernel
theorem dX9_isEnd_55 : decode cX9_isEnd 55 = .ok (.istore_n 3, 1) := by decide +kernel
theorem dX9_isEnd_56 : decode cX9_isEnd 56 = .ok (.iinc 4 1, 3) := by decide +kernel
theorem dX9_isEnd_59 : decode cX9_isEnd 59 = .ok (.goto (-54), 3) := by decide +kernel
theorem dX9_isEnd_62 : decode cX9_isEnd 62 = .ok (.iload_n 3, 1) := by decide +kernel
theorem dX9_isEnd_63 : decode cX9_isEnd 63 = .ok (.ireturn, 1) := by decide +kernel
set_option maxRecDepth 20000 in
theorem ggX9_criticalChains_X9_starts : GoodIn wsX9_criticalChains wsX9_starts := goodIn_r _ [9, 4, 22, 23, 24, 25, 26, 27, 28, 29, 30, 31, 32, 33, 34, 35, 36, 37] (by decide +kernel) (by decide +kernel)
set_option maxRecDepth 20000 in
theorem gX9_criticalChains_X9_starts : GoodIn wsX9_criticalChains (wsV RX9 59 RX9 yX9_starts wsX9_starts) := goodIn_app (goodIn_of _ (by decide +kernel)) ggX9_criticalChains_X9_starts
set_option maxRecDepth 20000 in
theorem ggX9_criticalChains_X9_isEnd : GoodIn wsX9_criticalChains wsX9_isEnd := goodIn_r _ [13, 2, 14, 15, 8, 16, 22, 23, 24, 25, 26, 27, 28, 29, 30, 31, 32, 33, 34, 35, 36, 37] (by decide +kernel) (by decide +kernel)
set_option maxRecDepth 20000 in
theorem gX9_criticalChains_X9_isEnd : GoodIn wsX9_criticalChains (wsV RX9 136 RX9 yX9_isEnd wsX9_isEnd) := goodIn_app (goodIn_of _ (by decide +kernel)) ggX9_criticalChains_X9_isEnd
set_option maxRecDepth 20000 in
theorem ggX9_criticalChains_X9_grows : GoodIn wsX9_criticalChains wsX9_grows := goodIn_r _ [20, 21, 2, 4, 3, 22, 23, 24, 25, 26, 27, 28, 29, 30, 31, 32, 33, 34, 35, 36, 37] (by decide +kernel) (by decide +kernel)
set_option maxRecDepth 20000 in
theorem gX9_criticalChains_X9_grows : GoodIn wsX9_criticalChains (wsV RX9 140 RX9 yX9_grows wsX9_grows) := goodIn_app (goodIn_of _ (by decide +kernel)) ggX9_criticalChains_X9_grows
theorem dX9_criticalChains_0 : decode cX9_criticalChains 0 = .ok (.aload_n 0, 1) := by decide +kernel
theorem dX9_criticalChains_1 : decode cX9_criticalChains 1 = .ok (.iconst 0, 1) := by decide +kernel
theorem dX9_criticalChains_2 : decode cX9_criticalChains 2 = .ok (.putfield 44, 3) := by decide +kernel
theorem dX9_criticalChains_5 : decode cX9_criticalChains 5 = .ok (.aload_n 0, 1) := by decide +kernel
theorem dX9_criticalChains_6 : decode cX9_criticalChains 6 = .ok (.aload_n 0, 1) := by decide +kernel
theorem dX9_criticalChains_7 : decode cX9_criticalChains 7 = .ok (.getfield 7, 3) := by decide +kernel
theorem dX9_criticalChains_10 : decode cX9_criticalChains 10 = .ok (.invokevirtual 59, 3) := by decide +kernel
theorem dX9_criticalChains_13 : decode cX9_criticalChains 13 = .ok (.istore_n 1, 1) := by decide +kernel
theorem dX9_criticalChains_14 : decode cX9_criticalChains 14 = .ok (.iconst 0, 1) := by decide +kernel
theorem dX9_criticalChains_15 : decode cX9_criticalChains 15 = .ok (.istore_n 2, 1) := by decide +kernel
theorem dX9_criticalChains_16 : decode cX9_criticalChains 16 = .ok (.iload_n 2, 1) := by decide +kernel
theorem dX9_criticalChains_17 : decode cX9_criticalChains 17 = .ok (.bipush 20, 2) := by decide +kernel
theorem dX9_criticalChains_19 : decode cX9_criticalChains 19 = .ok (.if_icmp .ge 39, 3) := by decide +kernel
theorem dX9_criticalChains_22 : decode cX9_criticalChains 22 = .ok (.aload_n 0, 1) := by decide +kernel
theorem dX9_criticalChains_23 : decode cX9_criticalChains 23 = .ok (.getfield 37, 3) := by decide +kernel
theorem dX9_criticalChains_26 : decode cX9_criticalChains 26 = .ok (.iload_n 2, 1) := by decide +kernel
theorem dX9_criticalChains_27 : decode cX9_criticalChains 27 = .ok (.iload_n 2, 1) := by decide +kernel
theorem dX9_criticalChains_28 : decode cX9_criticalChains 28 = .ok (.aload_n 0, 1) := by decide +kernel
theorem dX9_criticalChains_29 : decode cX9_criticalChains 29 = .ok (.getfield 7, 3) := by decide +kernel
theorem dX9_criticalChains_32 : decode cX9_criticalChains 32 = .ok (.iconst 0, 1) := by decide +kernel
theorem dX9_criticalChains_33 : decode cX9_criticalChains 33 = .ok (.iaload, 1) := by decide +kernel
theorem dX9_criticalChains_34 : decode cX9_criticalChains 34 = .ok (.if_icmp .ge 16, 3) := by decide +kernel
theorem dX9_criticalChains_37 : decode cX9_criticalChains 37 = .ok (.aload_n 0, 1) := by decide +kernel
theorem dX9_criticalChains_38 : decode cX9_criticalChains 38 = .ok (.iload_n 2, 1) := by decide +kernel
theorem dX9_criticalChains_39 : decode cX9_criticalChains 39 = .ok (.iconst 1, 1) := by decide +kernel
theorem dX9_criticalChains_40 : decode cX9_criticalChains 40 = .ok (.invokevirtual 136, 3) := by decide +kernel
theorem dX9_criticalChains_43 : decode cX9_criticalChains 43 = .ok (.ifCond .eq 7, 3) := by decide +kernel
theorem dX9_criticalChains_46 : decode cX9_criticalChains 46 = .ok (.lconst 1, 1) := by decide +kernel
theorem dX9_criticalChains_47 : decode cX9_criticalChains 47 = .ok (.goto 4, 3) := by decide +kernel
theorem dX9_criticalChains_50 : decode cX9_criticalChains 50 = .ok (.lconst 0, 1) := by decide +kernel
theorem dX9_criticalChains_51 : decode cX9_criticalChains 51 = .ok (.lastore, 1) := by decide +kernel
theorem dX9_criticalChains_52 : decode cX9_criticalChains 52 = .ok (.iinc 2 1, 3) := by decide +kernel
theorem dX9_criticalChains_55 : decode cX9_criticalChains 55 = .ok (.goto (-39), 3) := by decide +kernel
theorem dX9_criticalChains_58 : decode cX9_criticalChains 58 = .ok (.lconst 0, 1) := by decide +kernel
theorem dX9_criticalChains_59 : decode cX9_criticalChains 59 = .ok (.lstore_n 2, 1) := by decide +kernel
theorem dX9_criticalChains_60 : decode cX9_criticalChains 60 = .ok (.iconst 0, 1) := by decide +kernel
theorem dX9_criticalChains_61 : decode cX9_criticalChains 61 = .ok (.istore 4, 2) := by decide +kernel
theorem dX9_criticalChains_63 : decode cX9_criticalChains 63 = .ok (.iload 4, 2) := by decide +kernel
theorem dX9_criticalChains_65 : decode cX9_criticalChains 65 = .ok (.aload_n 0, 1) := by decide +kernel
theorem dX9_criticalChains_66 : decode cX9_criticalChains 66 = .ok (.getfield 7, 3) := by decide +kernel
theorem dX9_criticalChains_69 : decode cX9_criticalChains 69 = .ok (.iconst 0, 1) := by decide +kernel
theorem dX9_criticalChains_70 : decode cX9_criticalChains 70 = .ok (.iaload, 1) := by decide +kernel
theorem dX9_criticalChains_71 : decode cX9_criticalChains 71 = .ok (.if_icmp .ge 78, 3) := by decide +kernel
theorem dX9_criticalChains_74 : decode cX9_criticalChains 74 = .ok (.iconst 0, 1) := by decide +kernel
theorem dX9_criticalChains_75 : decode cX9_criticalChains 75 = .ok (.istore 5, 2) := by decide +kernel
theorem dX9_criticalChains_77 : decode cX9_criticalChains 77 = .ok (.iload 5, 2) := by decide +kernel
theorem dX9_criticalChains_79 : decode cX9_criticalChains 79 = .ok (.aload_n 0, 1) := by decide +kernel
theorem dX9_criticalChains_80 : decode cX9_criticalChains 80 = .ok (.getfield 7, 3) := by decide +kernel
theorem dX9_criticalChains_83 : decode cX9_criticalChains 83 = .ok (.iconst 0, 1) := by decide +kernel
theorem dX9_criticalChains_84 : decode cX9_criticalChains 84 = .ok (.iaload, 1) := by decide +kernel
theorem dX9_criticalChains_85 : decode cX9_criticalChains 85 = .ok (.if_icmp .ge 54, 3) := by decide +kernel
theorem dX9_criticalChains_88 : decode cX9_criticalChains 88 = .ok (.lload_n 2, 1) := by decide +kernel
theorem dX9_criticalChains_89 : decode cX9_criticalChains 89 = .ok (.aload_n 0, 1) := by decide +kernel
theorem dX9_criticalChains_90 : decode cX9_criticalChains 90 = .ok (.iload 5, 2) := by decide +kernel
theorem dX9_criticalChains_92 : decode cX9_criticalChains 92 = .ok (.iconst 0, 1) := by decide +kernel
theorem dX9_criticalChains_93 : decode cX9_criticalChains 93 = .ok (.invokevirtual 136, 3) := by decide +kernel
theorem dX9_criticalChains_96 : decode cX9_criticalChains 96 = .ok (.ifCond .eq 34, 3) := by decide +kernel
theorem dX9_criticalChains_99 : decode cX9_criticalChains 99 = .ok (.aload_n 0, 1) := by decide +kernel
theorem dX9_criticalChains_100 : decode cX9_criticalChains 100 = .ok (.getfield 25, 3) := by decide +kernel
theorem dX9_criticalChains_103 : decode cX9_criticalChains 103 = .ok (.iload 5, 2) := by decide +kernel
theorem dX9_criticalChains_105 : decode cX9_criticalChains 105 = .ok (.iaload, 1) := by decide +kernel
theorem dX9_criticalChains_106 : decode cX9_criticalChains 106 = .ok (.aload_n 0, 1) := by decide +kernel
theorem dX9_criticalChains_107 : decode cX9_criticalChains 107 = .ok (.getfield 7, 3) := by decide +kernel
theorem dX9_criticalChains_110 : decode cX9_criticalChains 110 = .ok (.iconst 2, 1) := by decide +kernel
theorem dX9_criticalChains_111 : decode cX9_criticalChains 111 = .ok (.iload 5, 2) := by decide +kernel
theorem dX9_criticalChains_113 : decode cX9_criticalChains 113 = .ok (.iadd, 1) := by decide +kernel
theorem dX9_criticalChains_114 : decode cX9_criticalChains 114 = .ok (.iaload, 1) := by decide +kernel
theorem dX9_criticalChains_115 : decode cX9_criticalChains 115 = .ok (.iadd, 1) := by decide +kernel
theorem dX9_criticalChains_116 : decode cX9_criticalChains 116 = .ok (.iload_n 1, 1) := by decide +kernel
theorem dX9_criticalChains_117 : decode cX9_criticalChains 117 = .ok (.if_icmp .ne 13, 3) := by decide +kernel
theorem dX9_criticalChains_120 : decode cX9_criticalChains 120 = .ok (.aload_n 0, 1) := by decide +kernel
theorem dX9_criticalChains_121 : decode cX9_criticalChains 121 = .ok (.getfield 37, 3) := by decide +kernel
theorem dX9_criticalChains_124 : decode cX9_criticalChains 124 = .ok (.iload 5, 2) := by decide +kernel
theorem dX9_criticalChains_126 : decode cX9_criticalChains 126 = .ok (.laload, 1) := by decide +kernel
theorem dX9_criticalChains_127 : decode cX9_criticalChains 127 = .ok (.goto 4, 3) := by decide +kernel
theorem dX9_criticalChains_130 : decode cX9_criticalChains 130 = .ok (.lconst 0, 1) := by decide +kernel
theorem dX9_criticalChains_131 : decode cX9_criticalChains 131 = .ok (.ladd, 1) := by decide +kernel
theorem dX9_criticalChains_132 : decode cX9_criticalChains 132 = .ok (.lstore_n 2, 1) := by decide +kernel
theorem dX9_criticalChains_133 : decode cX9_criticalChains 133 = .ok (.iinc 5 1, 3) := by decide +kernel
theorem dX9_criticalChains_136 : decode cX9_criticalChains 136 = .ok (.goto (-59), 3) := by decide +kernel
theorem dX9_criticalChains_139 : decode cX9_criticalChains 139 = .ok (.aload_n 0, 1) := by decide +kernel
theorem dX9_criticalChains_140 : decode cX9_criticalChains 140 = .ok (.invokevirtual 140, 3) := by decide +kernel
theorem dX9_criticalChains_143 : decode cX9_criticalChains 143 = .ok (.iinc 4 1, 3) := by decide +kernel
theorem dX9_criticalChains_146 : decode cX9_criticalChains 146 = .ok (.goto (-83), 3) := by decide +kernel
theorem dX9_criticalChains_149 : decode cX9_criticalChains 149 = .ok (.lload_n 2, 1) := by decide +kernel
theorem dX9_criticalChains_150 : decode cX9_criticalChains 150 = .ok (.lreturn, 1) := by decide +kernel
theorem dX9_grows_0 : decode cX9_grows 0 = .ok (.iconst 0, 1) := by decide +kernel
theorem dX9_grows_1 : decode cX9_grows 1 = .ok (.istore_n 1, 1) := by decide +kernel
theorem dX9_grows_2 : decode cX9_grows 2 = .ok (.iload_n 1, 1) := by decide +kernel
theorem dX9_grows_3 : decode cX9_grows 3 = .ok (.bipush 20, 2) := by decide +kernel
theorem dX9_grows_5 : decode cX9_grows 5 = .ok (.if_icmp .ge 16, 3) := by decide +kernel
theorem dX9_grows_8 : decode cX9_grows 8 = .ok (.aload_n 0, 1) := by decide +kernel
theorem dX9_grows_9 : decode cX9_grows 9 = .ok (.getfield 41, 3) := by decide +kernel
theorem dX9_grows_12 : decode cX9_grows 12 = .ok (.iload_n 1, 1) := by decide +kernel
theorem dX9_grows_13 : decode cX9_grows 13 = .ok (.lconst 0, 1) := by decide +kernel
theorem dX9_grows_14 : decode cX9_grows 14 = .ok (.lastore, 1) := by decide +kernel
theorem dX9_grows_15 : decode cX9_grows 15 = .ok (.iinc 1 1, 3) := by decide +kernel
theorem dX9_grows_18 : decode cX9_grows 18 = .ok (.goto (-16), 3) := by decide +kernel
theorem dX9_grows_21 : decode cX9_grows 21 = .ok (.iconst 0, 1) := by decide +kernel
theorem dX9_grows_22 : decode cX9_grows 22 = .ok (.istore_n 1, 1) := by decide +kernel
theorem dX9_grows_23 : decode cX9_grows 23 = .ok (.iload_n 1, 1) := by decide +kernel
theorem dX9_grows_24 : decode cX9_grows 24 = .ok (.sipush 400, 3) := by decide +kernel
theorem dX9_grows_27 : decode cX9_grows 27 = .ok (.if_icmp .ge 91, 3) := by decide +kernel
theorem dX9_grows_30 : decode cX9_grows 30 = .ok (.iload_n 1, 1) := by decide +kernel
theorem dX9_grows_31 : decode cX9_grows 31 = .ok (.bipush 20, 2) := by decide +kernel
theorem dX9_grows_33 : decode cX9_grows 33 = .ok (.idiv, 1) := by decide +kernel
theorem dX9_grows_34 : decode cX9_grows 34 = .ok (.istore_n 2, 1) := by decide +kernel
theorem dX9_grows_35 : decode cX9_grows 35 = .ok (.aload_n 0, 1) := by decide +kernel
theorem dX9_grows_36 : decode cX9_grows 36 = .ok (.getfield 7, 3) := by decide +kernel
theorem dX9_grows_39 : decode cX9_grows 39 = .ok (.bipush 42, 2) := by decide +kernel
theorem dX9_grows_41 : decode cX9_grows 41 = .ok (.iload_n 1, 1) := by decide +kernel
theorem dX9_grows_42 : decode cX9_grows 42 = .ok (.iadd, 1) := by decide +kernel
theorem dX9_grows_43 : decode cX9_grows 43 = .ok (.iaload, 1) := by decide +kernel
theorem dX9_grows_44 : decode cX9_grows 44 = .ok (.istore_n 3, 1) := by decide +kernel
theorem dX9_grows_45 : decode cX9_grows 45 = .ok (.iload_n 3, 1) := by decide +kernel
theorem dX9_grows_46 : decode cX9_grows 46 = .ok (.ifCond .lt 36, 3) := by decide +kernel
theorem dX9_grows_49 : decode cX9_grows 49 = .ok (.aload_n 0, 1) := by decide +kernel
theorem dX9_grows_50 : decode cX9_grows 50 = .ok (.getfield 25, 3) := by decide +kernel
theorem dX9_grows_53 : decode cX9_grows 53 = .ok (.iload_n 2, 1) := by decide +kernel
theorem dX9_grows_54 : decode cX9_grows 54 = .ok (.iaload, 1) := by decide +kernel
theorem dX9_grows_55 : decode cX9_grows 55 = .ok (.aload_n 0, 1) := by decide +kernel
theorem dX9_grows_56 : decode cX9_grows 56 = .ok (.getfield 7, 3) := by decide +kernel
theorem dX9_grows_59 : decode cX9_grows 59 = .ok (.iconst 2, 1) := by decide +kernel
theorem dX9_grows_60 : decode cX9_grows 60 = .ok (.iload_n 2, 1) := by decide +kernel
theorem dX9_grows_61 : decode cX9_grows 61 = .ok (.iadd, 1) := by decide +kernel
theorem dX9_grows_62 : decode cX9_grows 62 = .ok (.iaload, 1) := by decide +kernel
theorem dX9_grows_63 : decode cX9_grows 63 = .ok (.iadd, 1) := by decide +kernel
theorem dX9_grows_64 : decode cX9_grows 64 = .ok (.iload_n 3, 1) := by decide +kernel
theorem dX9_grows_65 : decode cX9_grows 65 = .ok (.iadd, 1) := by decide +kernel
theorem dX9_grows_66 : decode cX9_grows 66 = .ok (.aload_n 0, 1) := by decide +kernel
theorem dX9_grows_67 : decode cX9_grows 67 = .ok (.getfield 25, 3) := by decide +kernel
theorem dX9_grows_70 : decode cX9_grows 70 = .ok (.iload_n 1, 1) := by decide +kernel
theorem dX9_grows_71 : decode cX9_grows 71 = .ok (.bipush 20, 2) := by decide +kernel
theorem dX9_grows_73 : decode cX9_grows 73 = .ok (.irem, 1) := by decide +kernel
theorem dX9_grows_74 : decode cX9_grows 74 = .ok (.iaload, 1) := by decide +kernel
theorem dX9_grows_75 : decode cX9_grows 75 = .ok (.if_icmp .ne 7, 3) := by decide +kernel
theorem dX9_grows_78 : decode cX9_grows 78 = .ok (.iconst 1, 1) := by decide +kernel
theorem dX9_grows_79 : decode cX9_grows 79 = .ok (.goto 4, 3) := by decide +kernel
theorem dX9_grows_82 : decode cX9_grows 82 = .ok (.iconst 0, 1) := by decide +kernel
theorem dX9_grows_83 : decode cX9_grows 83 = .ok (.istore 4, 2) := by decide +kernel
theorem dX9_grows_85 : decode cX9_grows 85 = .ok (.aload_n 0, 1) := by decide +kernel
theorem dX9_grows_86 : decode cX9_grows 86 = .ok (.getfield 41, 3) := by decide +kernel
theorem dX9_grows_89 : decode cX9_grows 89 = .ok (.iload_n 1, 1) := by decide +kernel
theorem dX9_grows_90 : decode cX9_grows 90 = .ok (.bipush 20, 2) := by decide +kernel
theorem dX9_grows_92 : decode cX9_grows 92 = .ok (.irem, 1) := by decide +kernel
theorem dX9_grows_93 : decode cX9_grows 93 = .ok (.dup2, 1) := by decide +kernel
theorem dX9_grows_94 : decode cX9_grows 94 = .ok (.laload, 1) := by decide +kernel
theorem dX9_grows_95 : decode cX9_grows 95 = .ok (.iload 4, 2) := by decide +kernel
theorem dX9_grows_97 : decode cX9_grows 97 = .ok (.ifCond .eq 12, 3) := by decide +kernel
theorem dX9_grows_100 : decode cX9_grows 100 = .ok (.aload_n 0, 1) := by decide +kernel
theorem dX9_grows_101 : decode cX9_grows 101 = .ok (.getfield 37, 3) := by decide +kernel
theorem dX9_grows_104 : decode cX9_grows 104 = .ok (.iload_n 2, 1) := by decide +kernel
theorem dX9_grows_105 : decode cX9_grows 105 = .ok (.laload, 1) := by decide +kernel
theorem dX9_grows_106 : decode cX9_grows 106 = .ok (.goto 4, 3) := by decide +kernel
theorem dX9_grows_109 : decode cX9_grows 109 = .ok (.lconst 0, 1) := by decide +kernel
theorem dX9_grows_110 : decode cX9_grows 110 = .ok (.ladd, 1) := by decide +kernel
theorem dX9_grows_111 : decode cX9_grows 111 = .ok (.lastore, 1) := by decide +kernel
theorem dX9_grows_112 : decode cX9_grows 112 = .ok (.iinc 1 1, 3) := by decide +kernel
theorem dX9_grows_115 : decode cX9_grows 115 = .ok (.goto (-92), 3) := by decide +kernel
theorem dX9_grows_118 : decode cX9_grows 118 = .ok (.iconst 0, 1) := by decide +kernel
theorem dX9_grows_119 : decode cX9_grows 119 = .ok (.istore_n 1, 1) := by decide +kernel
theorem dX9_grows_120 : decode cX9_grows 120 = .ok (.iload_n 1, 1) := by decide +kernel
theorem dX9_grows_121 : decode cX9_grows 121 = .ok (.bipush 20, 2) := by decide +kernel
theorem dX9_grows_123 : decode cX9_grows 123 = .ok (.if_icmp .ge 21, 3) := by decide +kernel
theorem dX9_grows_126 : decode cX9_grows 126 = .ok (.aload_n 0, 1) := by decide +kernel
theorem dX9_grows_127 : decode cX9_grows 127 = .ok (.getfield 37, 3) := by decide +kernel
theorem dX9_grows_130 : decode cX9_grows 130 = .ok (.iload_n 1, 1) := by decide +kernel
theorem dX9_grows_131 : decode cX9_grows 131 = .ok (.aload_n 0, 1) := by decide +kernel
theorem dX9_grows_132 : decode cX9_grows 132 = .ok (.getfield 41, 3) := by decide +kernel
theorem dX9_grows_135 : decode cX9_grows 135 = .ok (.iload_n 1, 1) := by decide +kernel
theorem dX9_grows_136 : decode cX9_grows 136 = .ok (.laload, 1) := by decide +kernel
theorem dX9_grows_137 : decode cX9_grows 137 = .ok (.lastore, 1) := by decide +kernel
theorem dX9_grows_138 : decode cX9_grows 138 = .ok (.iinc 1 1, 3) := by decide +kernel
theorem dX9_grows_141 : decode cX9_grows 141 = .ok (.goto (-21), 3) := by decide +kernel
theorem dX9_grows_144 : decode cX9_grows 144 = .ok (.return_, 1) := by decide +kernel
set_option maxRecDepth 20000 in
theorem ggX9_longestHarmless_X9_left : GoodIn wsX9_longestHarmless wsX9_left := goodIn_r _ [7, 2, 8, 9, 10, 11, 12, 6, 13, 1, 14, 15, 16, 17, 18, 19, 20, 21, 22, 23, 24, 25, 26, 27, 28, 29, 30, 31, 32, 33, 34, 35, 36, 37, 38, 39, 40] (by decide +kernel) (by decide +kernel)
set_option maxRecDepth 20000 in
theorem gX9_longestHarmless_X9_left : GoodIn wsX9_longestHarmless (wsV RX9 133 RX9 yX9_left wsX9_left) := goodIn_app (goodIn_of _ (by decide +kernel)) ggX9_longestHarmless_X9_left
theorem dX9_longestHarmless_0 : decode cX9_longestHarmless 0 = .ok (.aload_n 0, 1) := by decide +kernel
theorem dX9_longestHarmless_1 : decode cX9_longestHarmless 1 = .ok (.iload_n 1, 1) := by decide +kernel
theorem dX9_longestHarmless_2 : decode cX9_longestHarmless 2 = .ok (.invokevirtual 133, 3) := by decide +kernel
theorem dX9_longestHarmless_5 : decode cX9_longestHarmless 5 = .ok (.istore_n 2, 1) := by decide +kernel
theorem dX9_longestHarmless_6 : decode cX9_longestHarmless 6 = .ok (.aload_n 0, 1) := by decide +kernel
theorem dX9_longestHarmless_7 : decode cX9_longestHarmless 7 = .ok (.getfield 44, 3) := by decide +kernel
theorem dX9_longestHarmless_10 : decode cX9_longestHarmless 10 = .ok (.ifCond .le 7, 3) := by decide +kernel
theorem dX9_longestHarmless_13 : decode cX9_longestHarmless 13 = .ok (.iconst 0, 1) := by decide +kernel
theorem dX9_longestHarmless_14 : decode cX9_longestHarmless 14 = .ok (.goto 13, 3) := by decide +kernel
theorem dX9_longestHarmless_17 : decode cX9_longestHarmless 17 = .ok (.aload_n 0, 1) := by decide +kernel
theorem dX9_longestHarmless_18 : decode cX9_longestHarmless 18 = .ok (.getfield 7, 3) := by decide +kernel
theorem dX9_longestHarmless_21 : decode cX9_longestHarmless 21 = .ok (.iconst 2, 1) := by decide +kernel
theorem dX9_longestHarmless_22 : decode cX9_longestHarmless 22 = .ok (.iload_n 1, 1) := by decide +kernel
theorem dX9_longestHarmless_23 : decode cX9_longestHarmless 23 = .ok (.iadd, 1) := by decide +kernel
theorem dX9_longestHarmless_24 : decode cX9_longestHarmless 24 = .ok (.iaload, 1) := by decide +kernel
theorem dX9_longestHarmless_25 : decode cX9_longestHarmless 25 = .ok (.iload_n 2, 1) := by decide +kernel
theorem dX9_longestHarmless_26 : decode cX9_longestHarmless 26 = .ok (.iadd, 1) := by decide +kernel
theorem dX9_longestHarmless_27 : decode cX9_longestHarmless 27 = .ok (.ireturn, 1) := by decide +kernel
set_option maxRecDepth 20000 in
theorem ggX9_delays_X9_starts : GoodIn wsX9_delays wsX9_starts := goodIn_r _ [9, 3, 13, 14, 15, 16, 17, 18, 19, 20, 21, 22, 23, 24, 25, 26, 27, 28] (by decide +kernel) (by decide +kernel)
set_option maxRecDepth 20000 in
theorem gX9_delays_X9_starts : GoodIn wsX9_delays (wsV RX9 59 RX9 yX9_starts wsX9_starts) := goodIn_app (goodIn_of _ (by decide +kernel)) ggX9_delays_X9_starts
set_option maxRecDepth 20000 in
theorem ggX9_delays_X9_copies : GoodIn wsX9_delays wsX9_copies := goodIn_r _ [12] (by decide +kernel) (by decide +kernel)
set_option maxRecDepth 20000 in
theorem gX9_delays_X9_copies : GoodIn wsX9_delays (va_wsS RX9 55 yX9_copies wsX9_copies) := goodIn_app (goodIn_of _ (by decide +kernel)) ggX9_delays_X9_copies
theorem dX9_delays_0 : decode cX9_delays 0 = .ok (.aload_n 0, 1) := by decide +kernel
theorem dX9_delays_1 : decode cX9_delays 1 = .ok (.aload_n 0, 1) := by decide +kernel
theorem dX9_delays_2 : decode cX9_delays 2 = .ok (.getfield 7, 3) := by decide +kernel
theorem dX9_delays_5 : decode cX9_delays 5 = .ok (.invokevirtual 59, 3) := by decide +kernel
theorem dX9_delays_8 : decode cX9_delays 8 = .ok (.istore_n 3, 1) := by decide +kernel
theorem dX9_delays_9 : decode cX9_delays 9 = .ok (.iconst 0, 1) := by decide +kernel
theorem dX9_delays_10 : decode cX9_delays 10 = .ok (.istore 4, 2) := by decide +kernel
theorem dX9_delays_12 : decode cX9_delays 12 = .ok (.iload 4, 2) := by decide +kernel
theorem dX9_delays_14 : decode cX9_delays 14 = .ok (.bipush 20, 2) := by decide +kernel
theorem dX9_delays_16 : decode cX9_delays 16 = .ok (.if_icmp .ge 23, 3) := by decide +kernel
theorem dX9_delays_19 : decode cX9_delays 19 = .ok (.aload_n 0, 1) := by decide +kernel
theorem dX9_delays_20 : decode cX9_delays 20 = .ok (.getfield 34, 3) := by decide +kernel
theorem dX9_delays_23 : decode cX9_delays 23 = .ok (.iload 4, 2) := by decide +kernel
theorem dX9_delays_25 : decode cX9_delays 25 = .ok (.aload_n 0, 1) := by decide +kernel
theorem dX9_delays_26 : decode cX9_delays 26 = .ok (.getfield 25, 3) := by decide +kernel
theorem dX9_delays_29 : decode cX9_delays 29 = .ok (.iload 4, 2) := by decide +kernel
theorem dX9_delays_31 : decode cX9_delays 31 = .ok (.iaload, 1) := by decide +kernel
theorem dX9_delays_32 : decode cX9_delays 32 = .ok (.iastore, 1) := by decide +kernel
theorem dX9_delays_33 : decode cX9_delays 33 = .ok (.iinc 4 1, 3) := by decide +kernel
theorem dX9_delays_36 : decode cX9_delays 36 = .ok (.goto (-24), 3) := by decide +kernel
theorem dX9_delays_39 : decode cX9_delays 39 = .ok (.aload_n 0, 1) := by decide +kernel
theorem dX9_delays_40 : decode cX9_delays 40 = .ok (.getfield 7, 3) := by decide +kernel
theorem dX9_delays_43 : decode cX9_delays 43 = .ok (.iconst 0, 1) := by decide +kernel
theorem dX9_delays_44 : decode cX9_delays 44 = .ok (.aload_n 0, 1) := by decide +kernel
theorem dX9_delays_45 : decode cX9_delays 45 = .ok (.getfield 13, 3) := by decide +kernel
theorem dX9_delays_48 : decode cX9_delays 48 = .ok (.iconst 0, 1) := by decide +kernel
theorem dX9_delays_49 : decode cX9_delays 49 = .ok (.invokestatic 55, 3) := by decide +kernel
theorem dX9_delays_52 : decode cX9_delays 52 = .ok (.aload_n 0, 1) := by decide +kernel
theorem dX9_delays_53 : decode cX9_delays 53 = .ok (.getfield 13, 3) := by decide +kernel
theorem dX9_delays_56 : decode cX9_delays 56 = .ok (.iconst 2, 1) := by decide +kernel
theorem dX9_delays_57 : decode cX9_delays 57 = .ok (.iload_n 1, 1) := by decide +kernel
theorem dX9_delays_58 : decode cX9_delays 58 = .ok (.iadd, 1) := by decide +kernel
theorem dX9_delays_59 : decode cX9_delays 59 = .ok (.dup2, 1) := by decide +kernel
theorem dX9_delays_60 : decode cX9_delays 60 = .ok (.iaload, 1) := by decide +kernel
theorem dX9_delays_61 : decode cX9_delays 61 = .ok (.iload_n 2, 1) := by decide +kernel
theorem dX9_delays_62 : decode cX9_delays 62 = .ok (.iadd, 1) := by decide +kernel
theorem dX9_delays_63 : decode cX9_delays 63 = .ok (.iastore, 1) := by decide +kernel
theorem dX9_delays_64 : decode cX9_delays 64 = .ok (.aload_n 0, 1) := by decide +kernel
theorem dX9_delays_65 : decode cX9_delays 65 = .ok (.aload_n 0, 1) := by decide +kernel
theorem dX9_delays_66 : decode cX9_delays 66 = .ok (.getfield 13, 3) := by decide +kernel
theorem dX9_delays_69 : decode cX9_delays 69 = .ok (.invokevirtual 59, 3) := by decide +kernel
theorem dX9_delays_72 : decode cX9_delays 72 = .ok (.iload_n 3, 1) := by decide +kernel
theorem dX9_delays_73 : decode cX9_delays 73 = .ok (.isub, 1) := by decide +kernel
theorem dX9_delays_74 : decode cX9_delays 74 = .ok (.ireturn, 1) := by decide +kernel
set_option maxRecDepth 20000 in
theorem ggX9_delayed_X9_isTask : GoodIn wsX9_delayed wsX9_isTask := goodIn_r _ [5, 6, 7, 8, 9, 4, 10, 29, 30, 31, 32, 33, 34, 35, 36, 37, 38, 39, 40, 41, 42, 43, 44] (by decide +kernel) (by decide +kernel)
set_option maxRecDepth 20000 in
theorem gX9_delayed_X9_isTask : GoodIn wsX9_delayed (wsV RX9 93 RX9 yX9_isTask wsX9_isTask) := goodIn_app (goodIn_of _ (by decide +kernel)) ggX9_delayed_X9_isTask
set_option maxRecDepth 20000 in
theorem ggX9_delayed_X9_in : GoodIn wsX9_delayed wsX9_in := goodIn_r _ [10] (by decide +kernel) (by decide +kernel)
set_option maxRecDepth 20000 in
theorem gX9_delayed_X9_in : GoodIn wsX9_delayed (va_wsS RX9 48 yX9_in wsX9_in) := goodIn_app (goodIn_of _ (by decide +kernel)) ggX9_delayed_X9_in
set_option maxRecDepth 20000 in
theorem ggX9_delayed_X9_delays : GoodIn wsX9_delayed wsX9_delays := goodIn_r _ [14, 6, 15, 16, 17, 18, 19, 20, 4, 21, 22, 23, 24, 29, 30, 31, 32, 33, 34, 35, 36, 37, 38, 39, 40, 41, 42, 43, 44] (by decide +kernel) (by decide +kernel)
set_option maxRecDepth 20000 in
theorem gX9_delayed_X9_delays : GoodIn wsX9_delayed (wsV RX9 143 RX9 yX9_delays wsX9_delays) := goodIn_app (goodIn_of _ (by decide +kernel)) ggX9_delayed_X9_delays
set_option maxRecDepth 20000 in
theorem ggX9_delayed_X9_fails : GoodIn wsX9_delayed wsX9_fails := goodIn_r _ [28, 7, 29, 30, 31, 32, 33, 34, 35, 36, 37, 38, 39, 40, 41, 42, 43, 44] (by decide +kernel) (by decide +kernel)
set_option maxRecDepth 20000 in
theorem gX9_delayed_X9_fails : GoodIn wsX9_delayed (wsV RX9 80 RX9 yX9_fails wsX9_fails) := goodIn_app (goodIn_of _ (by decide +kernel)) ggX9_delayed_X9_fails
theorem dX9_delayed_0 : decode cX9_delayed 0 = .ok (.aload_n 0, 1) := by decide +kernel
theorem dX9_delayed_1 : decode cX9_delayed 1 = .ok (.iload_n 1, 1) := by decide +kernel
theorem dX9_delayed_2 : decode cX9_delayed 2 = .ok (.invokevirtual 93, 3) := by decide +kernel
theorem dX9_delayed_5 : decode cX9_delayed 5 = .ok (.ifCond .ne 5, 3) := by decide +kernel
theorem dX9_delayed_8 : decode cX9_delayed 8 = .ok (.iconst 0, 1) := by decide +kernel
theorem dX9_delayed_9 : decode cX9_delayed 9 = .ok (.ireturn, 1) := by decide +kernel
theorem dX9_delayed_10 : decode cX9_delayed 10 = .ok (.iload_n 2, 1) := by decide +kernel
theorem dX9_delayed_11 : decode cX9_delayed 11 = .ok (.iconst 0, 1) := by decide +kernel
theorem dX9_delayed_12 : decode cX9_delayed 12 = .ok (.bipush 99, 2) := by decide +kernel
theorem dX9_delayed_14 : decode cX9_delayed 14 = .ok (.invokestatic 48, 3) := by decide +kernel
theorem dX9_delayed_17 : decode cX9_delayed 17 = .ok (.ifCond .eq 12, 3) := by decide +kernel
theorem dX9_delayed_20 : decode cX9_delayed 20 = .ok (.aload_n 0, 1) := by decide +kernel
theorem dX9_delayed_21 : decode cX9_delayed 21 = .ok (.iload_n 1, 1) := by decide +kernel
theorem dX9_delayed_22 : decode cX9_delayed 22 = .ok (.iload_n 2, 1) := by decide +kernel
theorem dX9_delayed_23 : decode cX9_delayed 23 = .ok (.invokevirtual 143, 3) := by decide +kernel
theorem dX9_delayed_26 : decode cX9_delayed 26 = .ok (.goto 8, 3) := by decide +kernel
theorem dX9_delayed_29 : decode cX9_delayed 29 = .ok (.aload_n 0, 1) := by decide +kernel
theorem dX9_delayed_30 : decode cX9_delayed 30 = .ok (.iconst 2, 1) := by decide +kernel
theorem dX9_delayed_31 : decode cX9_delayed 31 = .ok (.invokevirtual 80, 3) := by decide +kernel
theorem dX9_delayed_34 : decode cX9_delayed 34 = .ok (.ireturn, 1) := by decide +kernel
set_option maxRecDepth 20000 in
theorem ggX9_delayOfPlan_X9_delayed : GoodIn wsX9_delayOfPlan wsX9_delayed := goodIn_r _ [5, 6, 7, 8, 4, 9, 10, 11, 12, 13, 14, 15, 16, 17, 18, 19, 20, 21, 22, 23, 24, 25, 26, 27, 28, 29, 30, 31, 32, 33, 34, 35, 36, 37, 38, 39, 40, 41, 42, 43, 44, 45, 46, 47, 48] (by decide +kernel) (by decide +kernel)
set_option maxRecDepth 20000 in
theorem gX9_delayOfPlan_X9_delayed : GoodIn wsX9_delayOfPlan (wsV RX9 147 RX9 yX9_delayed wsX9_delayed) := goodIn_app (goodIn_of _ (by decide +kernel)) ggX9_delayOfPlan_X9_delayed
theorem dX9_delayOfPlan_0 : decode cX9_delayOfPlan 0 = .ok (.aload_n 0, 1) := by decide +kernel
theorem dX9_delayOfPlan_1 : decode cX9_delayOfPlan 1 = .ok (.iload_n 1, 1) := by decide +kernel
theorem dX9_delayOfPlan_2 : decode cX9_delayOfPlan 2 = .ok (.iload_n 2, 1) := by decide +kernel
theorem dX9_delayOfPlan_3 : decode cX9_delayOfPlan 3 = .ok (.invokevirtual 147, 3) := by decide +kernel
theorem dX9_delayOfPlan_6 : decode cX9_delayOfPlan 6 = .ok (.ireturn, 1) := by decide +kernel
set_option maxRecDepth 20000 in
theorem ggX9_delayBySlack_X9_delayed : GoodIn wsX9_delayBySlack wsX9_delayed := goodIn_r _ [5, 6, 7, 8, 4, 9, 10, 11, 12, 13, 14, 15, 16, 17, 18, 19, 20, 21, 22, 23, 24, 25, 26, 27, 28, 29, 30, 31, 32, 33, 34, 35, 36, 37, 38, 39, 40, 41, 42, 43, 44, 45, 46, 47, 48] (by decide +kernel) (by decide +kernel)
set_option maxRecDepth 20000 in
theorem gX9_delayBySlack_X9_delayed : GoodIn wsX9_delayBySlack (wsV RX9 147 RX9 yX9_delayed wsX9_delayed) := goodIn_app (goodIn_of _ (by decide +kernel)) ggX9_delayBySlack_X9_delayed
theorem dX9_delayBySlack_0 : decode cX9_delayBySlack 0 = .ok (.aload_n 0, 1) := by decide +kernel
theorem dX9_delayBySlack_1 : decode cX9_delayBySlack 1 = .ok (.iload_n 1, 1) := by decide +kernel
theorem dX9_delayBySlack_2 : decode cX9_delayBySlack 2 = .ok (.iload_n 2, 1) := by decide +kernel
theorem dX9_delayBySlack_3 : decode cX9_delayBySlack 3 = .ok (.invokevirtual 147, 3) := by decide +kernel
theorem dX9_delayBySlack_6 : decode cX9_delayBySlack 6 = .ok (.ireturn, 1) := by decide +kernel
set_option maxRecDepth 20000 in
theorem ggX9_tasksMoved_X9_delayed : GoodIn wsX9_tasksMoved wsX9_delayed := goodIn_r _ [9, 10, 11, 12, 8, 13, 1, 2, 14, 15, 16, 17, 18, 19, 20, 4, 3, 21, 22, 23, 24, 25, 26, 27, 28, 29, 30, 31, 32, 33, 34, 35, 36, 37, 38, 39, 40, 41, 42, 43, 44, 45, 46, 47, 48] (by decide +kernel) (by decide +kernel)
set_option maxRecDepth 20000 in
theorem gX9_tasksMoved_X9_delayed : GoodIn wsX9_tasksMoved (wsV RX9 147 RX9 yX9_delayed wsX9_delayed) := goodIn_app (goodIn_of _ (by decide +kernel)) ggX9_tasksMoved_X9_delayed
theorem dX9_tasksMoved_0 : decode cX9_tasksMoved 0 = .ok (.aload_n 0, 1) := by decide +kernel
theorem dX9_tasksMoved_1 : decode cX9_tasksMoved 1 = .ok (.iload_n 1, 1) := by decide +kernel
theorem dX9_tasksMoved_2 : decode cX9_tasksMoved 2 = .ok (.iload_n 2, 1) := by decide +kernel
theorem dX9_tasksMoved_3 : decode cX9_tasksMoved 3 = .ok (.invokevirtual 147, 3) := by decide +kernel
theorem dX9_tasksMoved_6 : decode cX9_tasksMoved 6 = .ok (.pop, 1) := by decide +kernel
theorem dX9_tasksMoved_7 : decode cX9_tasksMoved 7 = .ok (.iconst 0, 1) := by decide +kernel
theorem dX9_tasksMoved_8 : decode cX9_tasksMoved 8 = .ok (.istore_n 3, 1) := by decide +kernel
theorem dX9_tasksMoved_9 : decode cX9_tasksMoved 9 = .ok (.iconst 0, 1) := by decide +kernel
theorem dX9_tasksMoved_10 : decode cX9_tasksMoved 10 = .ok (.istore 4, 2) := by decide +kernel
theorem dX9_tasksMoved_12 : decode cX9_tasksMoved 12 = .ok (.iload 4, 2) := by decide +kernel
theorem dX9_tasksMoved_14 : decode cX9_tasksMoved 14 = .ok (.aload_n 0, 1) := by decide +kernel
theorem dX9_tasksMoved_15 : decode cX9_tasksMoved 15 = .ok (.getfield 7, 3) := by decide +kernel
theorem dX9_tasksMoved_18 : decode cX9_tasksMoved 18 = .ok (.iconst 0, 1) := by decide +kernel
theorem dX9_tasksMoved_19 : decode cX9_tasksMoved 19 = .ok (.iaload, 1) := by decide +kernel
theorem dX9_tasksMoved_20 : decode cX9_tasksMoved 20 = .ok (.if_icmp .ge 41, 3) := by decide +kernel
theorem dX9_tasksMoved_23 : decode cX9_tasksMoved 23 = .ok (.aload_n 0, 1) := by decide +kernel
theorem dX9_tasksMoved_24 : decode cX9_tasksMoved 24 = .ok (.getfield 44, 3) := by decide +kernel
theorem dX9_tasksMoved_27 : decode cX9_tasksMoved 27 = .ok (.ifCond .ne 34, 3) := by decide +kernel
theorem dX9_tasksMoved_30 : decode cX9_tasksMoved 30 = .ok (.iload_n 3, 1) := by decide +kernel
theorem dX9_tasksMoved_31 : decode cX9_tasksMoved 31 = .ok (.aload_n 0, 1) := by decide +kernel
theorem dX9_tasksMoved_32 : decode cX9_tasksMoved 32 = .ok (.getfield 25, 3) := by decide +kernel
theorem dX9_tasksMoved_35 : decode cX9_tasksMoved 35 = .ok (.iload 4, 2) := by decide +kernel
theorem dX9_tasksMoved_37 : decode cX9_tasksMoved 37 = .ok (.iaload, 1) := by decide +kernel
theorem dX9_tasksMoved_38 : decode cX9_tasksMoved 38 = .ok (.aload_n 0, 1) := by decide +kernel
theorem dX9_tasksMoved_39 : decode cX9_tasksMoved 39 = .ok (.getfield 34, 3) := by decide +kernel
theorem dX9_tasksMoved_42 : decode cX9_tasksMoved 42 = .ok (.iload 4, 2) := by decide +kernel
theorem dX9_tasksMoved_44 : decode cX9_tasksMoved 44 = .ok (.iaload, 1) := by decide +kernel
theorem dX9_tasksMoved_45 : decode cX9_tasksMoved 45 = .ok (.if_icmp .le 7, 3) := by decide +kernel
theorem dX9_tasksMoved_48 : decode cX9_tasksMoved 48 = .ok (.iconst 1, 1) := by decide +kernel
theorem dX9_tasksMoved_49 : decode cX9_tasksMoved 49 = .ok (.goto 4, 3) := by decide +kernel
theorem dX9_tasksMoved_52 : decode cX9_tasksMoved 52 = .ok (.iconst 0, 1) := by decide +kernel
theorem dX9_tasksMoved_53 : decode cX9_tasksMoved 53 = .ok (.iadd, 1) := by decide +kernel
theorem dX9_tasksMoved_54 : decode cX9_tasksMoved 54 = .ok (.istore_n 3, 1) := by decide +kernel
theorem dX9_tasksMoved_55 : decode cX9_tasksMoved 55 = .ok (.iinc 4 1, 3) := by decide +kernel
theorem dX9_tasksMoved_58 : decode cX9_tasksMoved 58 = .ok (.goto (-46), 3) := by decide +kernel
theorem dX9_tasksMoved_61 : decode cX9_tasksMoved 61 = .ok (.iload_n 3, 1) := by decide +kernel
theorem dX9_tasksMoved_62 : decode cX9_tasksMoved 62 = .ok (.ireturn, 1) := by decide +kernel
set_option maxRecDepth 20000 in
theorem ggX9_scheduledStart_X9_isTask : GoodIn wsX9_scheduledStart wsX9_isTask := goodIn_r _ [7, 1, 8, 9, 10, 6, 11, 45, 46, 47, 48, 49, 50, 51, 52, 53, 54, 55, 56, 57, 58, 59, 60] (by decide +kernel) (by decide +kernel)
set_option maxRecDepth 20000 in
theorem gX9_scheduledStart_X9_isTask : GoodIn wsX9_scheduledStart (wsV RX9 93 RX9 yX9_isTask wsX9_isTask) := goodIn_app (goodIn_of _ (by decide +kernel)) ggX9_scheduledStart_X9_isTask
set_option maxRecDepth 20000 in
theorem ggX9_scheduledStart_X9_plans : GoodIn wsX9_scheduledStart wsX9_plans := goodIn_r _ [15, 2, 16, 17, 18, 6, 19, 20, 21, 22, 23, 24, 25, 26, 27, 28, 29, 30, 31, 32, 33, 34, 35, 36, 37, 38, 39, 40, 45, 46, 47, 48, 49, 50, 51, 52, 53, 54, 55, 56, 57, 58, 59, 60] (by decide +kernel) (by decide +kernel)
set_option maxRecDepth 20000 in
theorem gX9_scheduledStart_X9_plans : GoodIn wsX9_scheduledStart (wsV RX9 150 RX9 yX9_plans wsX9_plans) := goodIn_app (goodIn_of _ (by decide +kernel)) ggX9_scheduledStart_X9_plans
set_option maxRecDepth 20000 in
theorem ggX9_scheduledStart_X9_fails : GoodIn wsX9_scheduledStart wsX9_fails := goodIn_r _ [44, 8, 45, 46, 47, 48, 49, 50, 51, 52, 53, 54, 55, 56, 57, 58, 59, 60] (by decide +kernel) (by decide +kernel)
set_option maxRecDepth 20000 in
theorem gX9_scheduledStart_X9_fails : GoodIn wsX9_scheduledStart (wsV RX9 80 RX9 yX9_fails wsX9_fails) := goodIn_app (goodIn_of _ (by decide +kernel)) ggX9_scheduledStart_X9_fails
theorem dX9_scheduledStart_0 : decode cX9_scheduledStart 0 = .ok (.aload_n 0, 1) := by decide +kernel
theorem dX9_scheduledStart_1 : decode cX9_scheduledStart 1 = .ok (.iload_n 1, 1) := by decide +kernel
theorem dX9_scheduledStart_2 : decode cX9_scheduledStart 2 = .ok (.invokevirtual 93, 3) := by decide +kernel
theorem dX9_scheduledStart_5 : decode cX9_scheduledStart 5 = .ok (.ifCond .ne 5, 3) := by decide +kernel
theorem dX9_scheduledStart_8 : decode cX9_scheduledStart 8 = .ok (.iconst 0, 1) := by decide +kernel
theorem dX9_scheduledStart_9 : decode cX9_scheduledStart 9 = .ok (.ireturn, 1) := by decide +kernel
theorem dX9_scheduledStart_10 : decode cX9_scheduledStart 10 = .ok (.aload_n 0, 1) := by decide +kernel
theorem dX9_scheduledStart_11 : decode cX9_scheduledStart 11 = .ok (.aload_n 0, 1) := by decide +kernel
theorem dX9_scheduledStart_12 : decode cX9_scheduledStart 12 = .ok (.getfield 7, 3) := by decide +kernel
theorem dX9_scheduledStart_15 : decode cX9_scheduledStart 15 = .ok (.invokevirtual 150, 3) := by decide +kernel
theorem dX9_scheduledStart_18 : decode cX9_scheduledStart 18 = .ok (.ifCond .ge 11, 3) := by decide +kernel
theorem dX9_scheduledStart_21 : decode cX9_scheduledStart 21 = .ok (.aload_n 0, 1) := by decide +kernel
theorem dX9_scheduledStart_22 : decode cX9_scheduledStart 22 = .ok (.iconst 2, 1) := by decide +kernel
theorem dX9_scheduledStart_23 : decode cX9_scheduledStart 23 = .ok (.invokevirtual 80, 3) := by decide +kernel
theorem dX9_scheduledStart_26 : decode cX9_scheduledStart 26 = .ok (.goto 9, 3) := by decide +kernel
theorem dX9_scheduledStart_29 : decode cX9_scheduledStart 29 = .ok (.aload_n 0, 1) := by decide +kernel
theorem dX9_scheduledStart_30 : decode cX9_scheduledStart 30 = .ok (.getfield 31, 3) := by decide +kernel
theorem dX9_scheduledStart_33 : decode cX9_scheduledStart 33 = .ok (.iload_n 1, 1) := by decide +kernel
theorem dX9_scheduledStart_34 : decode cX9_scheduledStart 34 = .ok (.iaload, 1) := by decide +kernel
theorem dX9_scheduledStart_35 : decode cX9_scheduledStart 35 = .ok (.ireturn, 1) := by decide +kernel
set_option maxRecDepth 20000 in
theorem ggX9_crewsOn_X9_in : GoodIn wsX9_crewsOn wsX9_in := goodIn_r _ [6] (by decide +kernel) (by decide +kernel)
set_option maxRecDepth 20000 in
theorem gX9_crewsOn_X9_in : GoodIn wsX9_crewsOn (va_wsS RX9 48 yX9_in wsX9_in) := goodIn_app (goodIn_of _ (by decide +kernel)) ggX9_crewsOn_X9_in
set_option maxRecDepth 20000 in
theorem ggX9_crewsOn_X9_fails : GoodIn wsX9_crewsOn wsX9_fails := goodIn_r _ [10, 1, 41, 42, 43, 44, 45, 46, 47, 48, 49, 50, 51, 52, 53, 54, 55, 56] (by decide +kernel) (by decide +kernel)
set_option maxRecDepth 20000 in
theorem gX9_crewsOn_X9_fails : GoodIn wsX9_crewsOn (wsV RX9 80 RX9 yX9_fails wsX9_fails) := goodIn_app (goodIn_of _ (by decide +kernel)) ggX9_crewsOn_X9_fails
set_option maxRecDepth 20000 in
theorem ggX9_crewsOn_X9_plans : GoodIn wsX9_crewsOn wsX9_plans := goodIn_r _ [14, 15, 16, 17, 18, 5, 19, 20, 21, 22, 23, 24, 25, 26, 27, 28, 29, 30, 31, 32, 33, 34, 35, 36, 37, 38, 39, 40, 41, 42, 43, 44, 45, 46, 47, 48, 49, 50, 51, 52, 53, 54, 55, 56] (by decide +kernel) (by decide +kernel)
set_option maxRecDepth 20000 in
theorem gX9_crewsOn_X9_plans : GoodIn wsX9_crewsOn (wsV RX9 150 RX9 yX9_plans wsX9_plans) := goodIn_app (goodIn_of _ (by decide +kernel)) ggX9_crewsOn_X9_plans
set_option maxRecDepth 20000 in
theorem ggX9_crewsOn_X9_busy : GoodIn wsX9_crewsOn wsX9_busy := goodIn_r _ [40, 15, 41, 42, 43, 44, 45, 46, 47, 48, 49, 50, 51, 52, 53, 54, 55, 56] (by decide +kernel) (by decide +kernel)
set_option maxRecDepth 20000 in
theorem gX9_crewsOn_X9_busy : GoodIn wsX9_crewsOn (wsV RX9 67 RX9 yX9_busy wsX9_busy) := goodIn_app (goodIn_of _ (by decide +kernel)) ggX9_crewsOn_X9_busy
theorem dX9_crewsOn_0 : decode cX9_crewsOn 0 = .ok (.aload_n 0, 1) := by decide +kernel
theorem dX9_crewsOn_1 : decode cX9_crewsOn 1 = .ok (.iconst 0, 1) := by decide +kernel
theorem dX9_crewsOn_2 : decode cX9_crewsOn 2 = .ok (.putfield 44, 3) := by decide +kernel
theorem dX9_crewsOn_5 : decode cX9_crewsOn 5 = .ok (.iload_n 1, 1) := by decide +kernel
theorem dX9_crewsOn_6 : decode cX9_crewsOn 6 = .ok (.iconst 0, 1) := by decide +kernel
theorem dX9_crewsOn_7 : decode cX9_crewsOn 7 = .ok (.sipush 999, 3) := by decide +kernel
theorem dX9_crewsOn_10 : decode cX9_crewsOn 10 = .ok (.invokestatic 48, 3) := by decide +kernel
theorem dX9_crewsOn_13 : decode cX9_crewsOn 13 = .ok (.ifCond .ne 9, 3) := by decide +kernel
theorem dX9_crewsOn_16 : decode cX9_crewsOn 16 = .ok (.aload_n 0, 1) := by decide +kernel
theorem dX9_crewsOn_17 : decode cX9_crewsOn 17 = .ok (.iconst 1, 1) := by decide +kernel
theorem dX9_crewsOn_18 : decode cX9_crewsOn 18 = .ok (.invokevirtual 80, 3) := by decide +kernel
theorem dX9_crewsOn_21 : decode cX9_crewsOn 21 = .ok (.ireturn, 1) := by decide +kernel
theorem dX9_crewsOn_22 : decode cX9_crewsOn 22 = .ok (.aload_n 0, 1) := by decide +kernel
theorem dX9_crewsOn_23 : decode cX9_crewsOn 23 = .ok (.aload_n 0, 1) := by decide +kernel
theorem dX9_crewsOn_24 : decode cX9_crewsOn 24 = .ok (.getfield 7, 3) := by decide +kernel
theorem dX9_crewsOn_27 : decode cX9_crewsOn 27 = .ok (.invokevirtual 150, 3) := by decide +kernel
theorem dX9_crewsOn_30 : decode cX9_crewsOn 30 = .ok (.ifCond .ge 11, 3) := by decide +kernel
theorem dX9_crewsOn_33 : decode cX9_crewsOn 33 = .ok (.aload_n 0, 1) := by decide +kernel
theorem dX9_crewsOn_34 : decode cX9_crewsOn 34 = .ok (.iconst 2, 1) := by decide +kernel
theorem dX9_crewsOn_35 : decode cX9_crewsOn 35 = .ok (.invokevirtual 80, 3) := by decide +kernel
theorem dX9_crewsOn_38 : decode cX9_crewsOn 38 = .ok (.goto 12, 3) := by decide +kernel
theorem dX9_crewsOn_41 : decode cX9_crewsOn 41 = .ok (.aload_n 0, 1) := by decide +kernel
theorem dX9_crewsOn_42 : decode cX9_crewsOn 42 = .ok (.aload_n 0, 1) := by decide +kernel
theorem dX9_crewsOn_43 : decode cX9_crewsOn 43 = .ok (.getfield 7, 3) := by decide +kernel
theorem dX9_crewsOn_46 : decode cX9_crewsOn 46 = .ok (.iload_n 1, 1) := by decide +kernel
theorem dX9_crewsOn_47 : decode cX9_crewsOn 47 = .ok (.invokevirtual 67, 3) := by decide +kernel
theorem dX9_crewsOn_50 : decode cX9_crewsOn 50 = .ok (.ireturn, 1) := by decide +kernel
set_option maxRecDepth 20000 in
theorem ggX9_scheduleLength_X9_plans : GoodIn wsX9_scheduleLength wsX9_plans := goodIn_r _ [7, 8, 9, 10, 11, 6, 12, 13, 14, 15, 16, 17, 18, 19, 20, 21, 22, 23, 24, 25, 26, 27, 28, 29, 30, 31, 32, 33, 38, 39, 40, 41, 42, 43, 44, 45, 46, 47, 48, 49, 50, 51, 52, 53] (by decide +kernel) (by decide +kernel)
set_option maxRecDepth 20000 in
theorem gX9_scheduleLength_X9_plans : GoodIn wsX9_scheduleLength (wsV RX9 150 RX9 yX9_plans wsX9_plans) := goodIn_app (goodIn_of _ (by decide +kernel)) ggX9_scheduleLength_X9_plans
set_option maxRecDepth 20000 in
theorem ggX9_scheduleLength_X9_fails : GoodIn wsX9_scheduleLength wsX9_fails := goodIn_r _ [37, 1, 38, 39, 40, 41, 42, 43, 44, 45, 46, 47, 48, 49, 50, 51, 52, 53] (by decide +kernel) (by decide +kernel)
set_option maxRecDepth 20000 in
theorem gX9_scheduleLength_X9_fails : GoodIn wsX9_scheduleLength (wsV RX9 80 RX9 yX9_fails wsX9_fails) := goodIn_app (goodIn_of _ (by decide +kernel)) ggX9_scheduleLength_X9_fails
theorem dX9_scheduleLength_0 : decode cX9_scheduleLength 0 = .ok (.aload_n 0, 1) := by decide +kernel
theorem dX9_scheduleLength_1 : decode cX9_scheduleLength 1 = .ok (.iconst 0, 1) := by decide +kernel
theorem dX9_scheduleLength_2 : decode cX9_scheduleLength 2 = .ok (.putfield 44, 3) := by decide +kernel
theorem dX9_scheduleLength_5 : decode cX9_scheduleLength 5 = .ok (.aload_n 0, 1) := by decide +kernel
theorem dX9_scheduleLength_6 : decode cX9_scheduleLength 6 = .ok (.aload_n 0, 1) := by decide +kernel
theorem dX9_scheduleLength_7 : decode cX9_scheduleLength 7 = .ok (.getfield 7, 3) := by decide +kernel
theorem dX9_scheduleLength_10 : decode cX9_scheduleLength 10 = .ok (.invokevirtual 150, 3) := by decide +kernel
theorem dX9_scheduleLength_13 : decode cX9_scheduleLength 13 = .ok (.istore_n 1, 1) := by decide +kernel
theorem dX9_scheduleLength_14 : decode cX9_scheduleLength 14 = .ok (.iload_n 1, 1) := by decide +kernel
theorem dX9_scheduleLength_15 : decode cX9_scheduleLength 15 = .ok (.ifCond .ge 11, 3) := by decide +kernel
theorem dX9_scheduleLength_18 : decode cX9_scheduleLength 18 = .ok (.aload_n 0, 1) := by decide +kernel
theorem dX9_scheduleLength_19 : decode cX9_scheduleLength 19 = .ok (.iconst 1, 1) := by decide +kernel
theorem dX9_scheduleLength_20 : decode cX9_scheduleLength 20 = .ok (.invokevirtual 80, 3) := by decide +kernel
theorem dX9_scheduleLength_23 : decode cX9_scheduleLength 23 = .ok (.goto 4, 3) := by decide +kernel
theorem dX9_scheduleLength_26 : decode cX9_scheduleLength 26 = .ok (.iload_n 1, 1) := by decide +kernel
theorem dX9_scheduleLength_27 : decode cX9_scheduleLength 27 = .ok (.ireturn, 1) := by decide +kernel
set_option maxRecDepth 20000 in
theorem ggX9_work_X9_allWork : GoodIn wsX9_work wsX9_allWork := goodIn_r _ [6, 7, 8, 9, 10, 11, 12, 13, 14, 15, 16, 17, 18, 19, 20, 21, 22, 23] (by decide +kernel) (by decide +kernel)
set_option maxRecDepth 20000 in
theorem gX9_work_X9_allWork : GoodIn wsX9_work (wsV RX9 153 RX9 yX9_allWork wsX9_allWork) := goodIn_app (goodIn_of _ (by decide +kernel)) ggX9_work_X9_allWork
theorem dX9_work_0 : decode cX9_work 0 = .ok (.aload_n 0, 1) := by decide +kernel
theorem dX9_work_1 : decode cX9_work 1 = .ok (.iconst 0, 1) := by decide +kernel
theorem dX9_work_2 : decode cX9_work 2 = .ok (.putfield 44, 3) := by decide +kernel
theorem dX9_work_5 : decode cX9_work 5 = .ok (.aload_n 0, 1) := by decide +kernel
theorem dX9_work_6 : decode cX9_work 6 = .ok (.invokevirtual 153, 3) := by decide +kernel
theorem dX9_work_9 : decode cX9_work 9 = .ok (.ireturn, 1) := by decide +kernel
set_option maxRecDepth 20000 in
theorem ggX9_workByDays_X9_plans : GoodIn wsX9_workByDays wsX9_plans := goodIn_r _ [7, 8, 9, 10, 11, 6, 12, 13, 14, 15, 16, 17, 18, 19, 20, 21, 22, 23, 24, 25, 26, 27, 28, 29, 30, 31, 32, 33, 42, 43, 44, 45, 46, 47, 48, 49, 50, 51, 52, 53, 54, 55, 56, 57] (by decide +kernel) (by decide +kernel)
set_option maxRecDepth 20000 in
theorem gX9_workByDays_X9_plans : GoodIn wsX9_workByDays (wsV RX9 150 RX9 yX9_plans wsX9_plans) := goodIn_app (goodIn_of _ (by decide +kernel)) ggX9_workByDays_X9_plans
set_option maxRecDepth 20000 in
theorem ggX9_workByDays_X9_fails : GoodIn wsX9_workByDays wsX9_fails := goodIn_r _ [37, 1, 42, 43, 44, 45, 46, 47, 48, 49, 50, 51, 52, 53, 54, 55, 56, 57] (by decide +kernel) (by decide +kernel)
set_option maxRecDepth 20000 in
theorem gX9_workByDays_X9_fails : GoodIn wsX9_workByDays (wsV RX9 80 RX9 yX9_fails wsX9_fails) := goodIn_app (goodIn_of _ (by decide +kernel)) ggX9_workByDays_X9_fails
set_option maxRecDepth 20000 in
theorem ggX9_workByDays_X9_allWork : GoodIn wsX9_workByDays wsX9_allWork := goodIn_r _ [41, 2, 42, 43, 44, 45, 46, 47, 48, 49, 50, 51, 52, 53, 54, 55, 56, 57] (by decide +kernel) (by decide +kernel)
set_option maxRecDepth 20000 in
theorem gX9_workByDays_X9_allWork : GoodIn wsX9_workByDays (wsV RX9 153 RX9 yX9_allWork wsX9_allWork) := goodIn_app (goodIn_of _ (by decide +kernel)) ggX9_workByDays_X9_allWork
theorem dX9_workByDays_0 : decode cX9_workByDays 0 = .ok (.aload_n 0, 1) := by decide +kernel
theorem dX9_workByDays_1 : decode cX9_workByDays 1 = .ok (.iconst 0, 1) := by decide +kernel
theorem dX9_workByDays_2 : decode cX9_workByDays 2 = .ok (.putfield 44, 3) := by decide +kernel
theorem dX9_workByDays_5 : decode cX9_workByDays 5 = .ok (.aload_n 0, 1) := by decide +kernel
theorem dX9_workByDays_6 : decode cX9_workByDays 6 = .ok (.aload_n 0, 1) := by decide +kernel
theorem dX9_workByDays_7 : decode cX9_workByDays 7 = .ok (.getfield 7, 3) := by decide +kernel
theorem dX9_workByDays_10 : decode cX9_workByDays 10 = .ok (.invokevirtual 150, 3) := by decide +kernel
theorem dX9_workByDays_13 : decode cX9_workByDays 13 = .ok (.ifCond .ge 11, 3) := by decide +kernel
theorem dX9_workByDays_16 : decode cX9_workByDays 16 = .ok (.aload_n 0, 1) := by decide +kernel
theorem dX9_workByDays_17 : decode cX9_workByDays 17 = .ok (.iconst 1, 1) := by decide +kernel
theorem dX9_workByDays_18 : decode cX9_workByDays 18 = .ok (.invokevirtual 80, 3) := by decide +kernel
theorem dX9_workByDays_21 : decode cX9_workByDays 21 = .ok (.goto 7, 3) := by decide +kernel
theorem dX9_workByDays_24 : decode cX9_workByDays 24 = .ok (.aload_n 0, 1) := by decide +kernel
theorem dX9_workByDays_25 : decode cX9_workByDays 25 = .ok (.invokevirtual 153, 3) := by decide +kernel
theorem dX9_workByDays_28 : decode cX9_workByDays 28 = .ok (.ireturn, 1) := by decide +kernel
set_option maxRecDepth 20000 in
theorem ggX9_leastCrews_X9_starts : GoodIn wsX9_leastCrews wsX9_starts := goodIn_r _ [8, 9, 42, 43, 44, 45, 46, 47, 48, 49, 50, 51, 52, 53, 54, 55, 56, 57] (by decide +kernel) (by decide +kernel)
set_option maxRecDepth 20000 in
theorem gX9_leastCrews_X9_starts : GoodIn wsX9_leastCrews (wsV RX9 59 RX9 yX9_starts wsX9_starts) := goodIn_app (goodIn_of _ (by decide +kernel)) ggX9_leastCrews_X9_starts
set_option maxRecDepth 20000 in
theorem ggX9_leastCrews_X9_copies : GoodIn wsX9_leastCrews wsX9_copies := goodIn_r _ [12] (by decide +kernel) (by decide +kernel)
set_option maxRecDepth 20000 in
theorem gX9_leastCrews_X9_copies : GoodIn wsX9_leastCrews (va_wsS RX9 55 yX9_copies wsX9_copies) := goodIn_app (goodIn_of _ (by decide +kernel)) ggX9_leastCrews_X9_copies
set_option maxRecDepth 20000 in
theorem ggX9_leastCrews_X9_plans : GoodIn wsX9_leastCrews wsX9_plans := goodIn_r _ [16, 17, 18, 19, 20, 7, 21, 22, 4, 5, 6, 8, 9, 23, 24, 25, 26, 27, 28, 29, 30, 31, 32, 33, 34, 35, 36, 37, 42, 43, 44, 45, 46, 47, 48, 49, 50, 51, 52, 53, 54, 55, 56, 57] (by decide +kernel) (by decide +kernel)
set_option maxRecDepth 20000 in
theorem gX9_leastCrews_X9_plans : GoodIn wsX9_leastCrews (wsV RX9 150 RX9 yX9_plans wsX9_plans) := goodIn_app (goodIn_of _ (by decide +kernel)) ggX9_leastCrews_X9_plans
set_option maxRecDepth 20000 in
theorem ggX9_leastCrews_X9_fails : GoodIn wsX9_leastCrews wsX9_fails := goodIn_r _ [41, 1, 42, 43, 44, 45, 46, 47, 48, 49, 50, 51, 52, 53, 54, 55, 56, 57] (by decide +kernel) (by decide +kernel)
set_option maxRecDepth 20000 in
theorem gX9_leastCrews_X9_fails : GoodIn wsX9_leastCrews (wsV RX9 80 RX9 yX9_fails wsX9_fails) := goodIn_app (goodIn_of _ (by decide +kernel)) ggX9_leastCrews_X9_fails
theorem dX9_leastCrews_0 : decode cX9_leastCrews 0 = .ok (.aload_n 0, 1) := by decide +kernel
theorem dX9_leastCrews_1 : decode cX9_leastCrews 1 = .ok (.iconst 0, 1) := by decide +kernel
theorem dX9_leastCrews_2 : decode cX9_leastCrews 2 = .ok (.putfield 44, 3) := by decide +kernel
theorem dX9_leastCrews_5 : decode cX9_leastCrews 5 = .ok (.aload_n 0, 1) := by decide +kernel
theorem dX9_leastCrews_6 : decode cX9_leastCrews 6 = .ok (.aload_n 0, 1) := by decide +kernel
theorem dX9_leastCrews_7 : decode cX9_leastCrews 7 = .ok (.getfield 7, 3) := by decide +kernel
theorem dX9_leastCrews_10 : decode cX9_leastCrews 10 = .ok (.invokevirtual 59, 3) := by decide +kernel
theorem dX9_leastCrews_13 : decode cX9_leastCrews 13 = .ok (.istore_n 1, 1) := by decide +kernel
theorem dX9_leastCrews_14 : decode cX9_leastCrews 14 = .ok (.aload_n 0, 1) := by decide +kernel
theorem dX9_leastCrews_15 : decode cX9_leastCrews 15 = .ok (.getfield 7, 3) := by decide +kernel
theorem dX9_leastCrews_18 : decode cX9_leastCrews 18 = .ok (.iconst 0, 1) := by decide +kernel
theorem dX9_leastCrews_19 : decode cX9_leastCrews 19 = .ok (.aload_n 0, 1) := by decide +kernel
theorem dX9_leastCrews_20 : decode cX9_leastCrews 20 = .ok (.getfield 13, 3) := by decide +kernel
theorem dX9_leastCrews_23 : decode cX9_leastCrews 23 = .ok (.iconst 0, 1) := by decide +kernel
theorem dX9_leastCrews_24 : decode cX9_leastCrews 24 = .ok (.invokestatic 55, 3) := by decide +kernel
theorem dX9_leastCrews_27 : decode cX9_leastCrews 27 = .ok (.iconst 1, 1) := by decide +kernel
theorem dX9_leastCrews_28 : decode cX9_leastCrews 28 = .ok (.istore_n 2, 1) := by decide +kernel
theorem dX9_leastCrews_29 : decode cX9_leastCrews 29 = .ok (.iload_n 2, 1) := by decide +kernel
theorem dX9_leastCrews_30 : decode cX9_leastCrews 30 = .ok (.bipush 9, 2) := by decide +kernel
theorem dX9_leastCrews_32 : decode cX9_leastCrews 32 = .ok (.if_icmp .gt 36, 3) := by decide +kernel
theorem dX9_leastCrews_35 : decode cX9_leastCrews 35 = .ok (.aload_n 0, 1) := by decide +kernel
theorem dX9_leastCrews_36 : decode cX9_leastCrews 36 = .ok (.getfield 13, 3) := by decide +kernel
theorem dX9_leastCrews_39 : decode cX9_leastCrews 39 = .ok (.iconst 1, 1) := by decide +kernel
theorem dX9_leastCrews_40 : decode cX9_leastCrews 40 = .ok (.iload_n 2, 1) := by decide +kernel
theorem dX9_leastCrews_41 : decode cX9_leastCrews 41 = .ok (.iastore, 1) := by decide +kernel
theorem dX9_leastCrews_42 : decode cX9_leastCrews 42 = .ok (.aload_n 0, 1) := by decide +kernel
theorem dX9_leastCrews_43 : decode cX9_leastCrews 43 = .ok (.aload_n 0, 1) := by decide +kernel
theorem dX9_leastCrews_44 : decode cX9_leastCrews 44 = .ok (.getfield 13, 3) := by decide +kernel
theorem dX9_leastCrews_47 : decode cX9_leastCrews 47 = .ok (.invokevirtual 150, 3) := by decide +kernel
theorem dX9_leastCrews_50 : decode cX9_leastCrews 50 = .ok (.istore_n 3, 1) := by decide +kernel
theorem dX9_leastCrews_51 : decode cX9_leastCrews 51 = .ok (.iload_n 3, 1) := by decide +kernel
theorem dX9_leastCrews_52 : decode cX9_leastCrews 52 = .ok (.ifCond .lt 10, 3) := by decide +kernel
theorem dX9_leastCrews_55 : decode cX9_leastCrews 55 = .ok (.iload_n 3, 1) := by decide +kernel
theorem dX9_leastCrews_56 : decode cX9_leastCrews 56 = .ok (.iload_n 1, 1) := by decide +kernel
theorem dX9_leastCrews_57 : decode cX9_leastCrews 57 = .ok (.if_icmp .gt 5, 3) := by decide +kernel
theorem dX9_leastCrews_60 : decode cX9_leastCrews 60 = .ok (.iload_n 2, 1) := by decide +kernel
theorem dX9_leastCrews_61 : decode cX9_leastCrews 61 = .ok (.ireturn, 1) := by decide +kernel
theorem dX9_leastCrews_62 : decode cX9_leastCrews 62 = .ok (.iinc 2 1, 3) := by decide +kernel
theorem dX9_leastCrews_65 : decode cX9_leastCrews 65 = .ok (.goto (-36), 3) := by decide +kernel
theorem dX9_leastCrews_68 : decode cX9_leastCrews 68 = .ok (.aload_n 0, 1) := by decide +kernel
theorem dX9_leastCrews_69 : decode cX9_leastCrews 69 = .ok (.iconst 1, 1) := by decide +kernel
theorem dX9_leastCrews_70 : decode cX9_leastCrews 70 = .ok (.invokevirtual 80, 3) := by decide +kernel
theorem dX9_leastCrews_73 : decode cX9_leastCrews 73 = .ok (.ireturn, 1) := by decide +kernel
set_option maxRecDepth 20000 in
theorem ggX9_usage_X9_plans : GoodIn wsX9_usage wsX9_plans := goodIn_r _ [7, 8, 9, 10, 11, 6, 12, 13, 14, 15, 16, 17, 18, 19, 20, 21, 22, 23, 24, 25, 26, 27, 28, 29, 30, 31, 32, 33, 42, 43, 44, 45, 46, 47, 48, 49, 50, 51, 52, 53, 54, 55, 56, 57] (by decide +kernel) (by decide +kernel)
set_option maxRecDepth 20000 in
theorem gX9_usage_X9_plans : GoodIn wsX9_usage (wsV RX9 150 RX9 yX9_plans wsX9_plans) := goodIn_app (goodIn_of _ (by decide +kernel)) ggX9_usage_X9_plans
set_option maxRecDepth 20000 in
theorem ggX9_usage_X9_fails : GoodIn wsX9_usage wsX9_fails := goodIn_r _ [37, 1, 42, 43, 44, 45, 46, 47, 48, 49, 50, 51, 52, 53, 54, 55, 56, 57] (by decide +kernel) (by decide +kernel)
set_option maxRecDepth 20000 in
theorem gX9_usage_X9_fails : GoodIn wsX9_usage (wsV RX9 80 RX9 yX9_fails wsX9_fails) := goodIn_app (goodIn_of _ (by decide +kernel)) ggX9_usage_X9_fails
set_option maxRecDepth 20000 in
theorem ggX9_usage_X9_allWork : GoodIn wsX9_usage wsX9_allWork := goodIn_r _ [41, 2, 42, 43, 44, 45, 46, 47, 48, 49, 50, 51, 52, 53, 54, 55, 56, 57] (by decide +kernel) (by decide +kernel)
set_option maxRecDepth 20000 in
theorem gX9_usage_X9_allWork : GoodIn wsX9_usage (wsV RX9 153 RX9 yX9_allWork wsX9_allWork) := goodIn_app (goodIn_of _ (by decide +kernel)) ggX9_usage_X9_allWork
theorem dX9_usage_0 : decode cX9_usage 0 = .ok (.aload_n 0, 1) := by decide +kernel
theorem dX9_usage_1 : decode cX9_usage 1 = .ok (.iconst 0, 1) := by decide +kernel
theorem dX9_usage_2 : decode cX9_usage 2 = .ok (.putfield 44, 3) := by decide +kernel
theorem dX9_usage_5 : decode cX9_usage 5 = .ok (.aload_n 0, 1) := by decide +kernel
theorem dX9_usage_6 : decode cX9_usage 6 = .ok (.aload_n 0, 1) := by decide +kernel
theorem dX9_usage_7 : decode cX9_usage 7 = .ok (.getfield 7, 3) := by decide +kernel
theorem dX9_usage_10 : decode cX9_usage 10 = .ok (.invokevirtual 150, 3) := by decide +kernel
theorem dX9_usage_13 : decode cX9_usage 13 = .ok (.istore_n 1, 1) := by decide +kernel
theorem dX9_usage_14 : decode cX9_usage 14 = .ok (.iload_n 1, 1) := by decide +kernel
theorem dX9_usage_15 : decode cX9_usage 15 = .ok (.ifCond .ge 10, 3) := by decide +kernel
theorem dX9_usage_18 : decode cX9_usage 18 = .ok (.aload_n 0, 1) := by decide +kernel
theorem dX9_usage_19 : decode cX9_usage 19 = .ok (.iconst 1, 1) := by decide +kernel
theorem dX9_usage_20 : decode cX9_usage 20 = .ok (.invokevirtual 80, 3) := by decide +kernel
theorem dX9_usage_23 : decode cX9_usage 23 = .ok (.i2d, 1) := by decide +kernel
theorem dX9_usage_24 : decode cX9_usage 24 = .ok (.dreturn, 1) := by decide +kernel
theorem dX9_usage_25 : decode cX9_usage 25 = .ok (.iload_n 1, 1) := by decide +kernel
theorem dX9_usage_26 : decode cX9_usage 26 = .ok (.ifCond .ne 7, 3) := by decide +kernel
theorem dX9_usage_29 : decode cX9_usage 29 = .ok (.dconst 0, 1) := by decide +kernel
theorem dX9_usage_30 : decode cX9_usage 30 = .ok (.goto 18, 3) := by decide +kernel
theorem dX9_usage_33 : decode cX9_usage 33 = .ok (.aload_n 0, 1) := by decide +kernel
theorem dX9_usage_34 : decode cX9_usage 34 = .ok (.invokevirtual 153, 3) := by decide +kernel
theorem dX9_usage_37 : decode cX9_usage 37 = .ok (.i2d, 1) := by decide +kernel
theorem dX9_usage_38 : decode cX9_usage 38 = .ok (.iload_n 1, 1) := by decide +kernel
theorem dX9_usage_39 : decode cX9_usage 39 = .ok (.aload_n 0, 1) := by decide +kernel
theorem dX9_usage_40 : decode cX9_usage 40 = .ok (.getfield 7, 3) := by decide +kernel
theorem dX9_usage_43 : decode cX9_usage 43 = .ok (.iconst 1, 1) := by decide +kernel
theorem dX9_usage_44 : decode cX9_usage 44 = .ok (.iaload, 1) := by decide +kernel
theorem dX9_usage_45 : decode cX9_usage 45 = .ok (.imul, 1) := by decide +kernel
theorem dX9_usage_46 : decode cX9_usage 46 = .ok (.i2d, 1) := by decide +kernel
theorem dX9_usage_47 : decode cX9_usage 47 = .ok (.ddiv, 1) := by decide +kernel
theorem dX9_usage_48 : decode cX9_usage 48 = .ok (.dreturn, 1) := by decide +kernel
theorem dX9_historySize_0 : decode cX9_historySize 0 = .ok (.aload_n 0, 1) := by decide +kernel
theorem dX9_historySize_1 : decode cX9_historySize 1 = .ok (.iconst 0, 1) := by decide +kernel
theorem dX9_historySize_2 : decode cX9_historySize 2 = .ok (.putfield 44, 3) := by decide +kernel
theorem dX9_historySize_5 : decode cX9_historySize 5 = .ok (.aload_n 0, 1) := by decide +kernel
theorem dX9_historySize_6 : decode cX9_historySize 6 = .ok (.getfield 52, 3) := by decide +kernel
theorem dX9_historySize_9 : decode cX9_historySize 9 = .ok (.ireturn, 1) := by decide +kernel
theorem dJ9_max_7cf53_0 : decode cJ9_max_7cf53 0 = .ok (.iload_n 0, 1) := by decide +kernel
theorem dJ9_max_7cf53_1 : decode cJ9_max_7cf53 1 = .ok (.iload_n 1, 1) := by decide +kernel
theorem dJ9_max_7cf53_2 : decode cJ9_max_7cf53 2 = .ok (.if_icmp .lt 7, 3) := by decide +kernel
theorem dJ9_max_7cf53_5 : decode cJ9_max_7cf53 5 = .ok (.iload_n 0, 1) := by decide +kernel
theorem dJ9_max_7cf53_6 : decode cJ9_max_7cf53 6 = .ok (.goto 4, 3) := by decide +kernel
theorem dJ9_max_7cf53_9 : decode cJ9_max_7cf53 9 = .ok (.iload_n 1, 1) := by decide +kernel
theorem dJ9_max_7cf53_10 : decode cJ9_max_7cf53 10 = .ok (.ireturn, 1) := by decide +kernel
theorem dJ9_min_7cf53_0 : decode cJ9_min_7cf53 0 = .ok (.iload_n 0, 1) := by decide +kernel
theorem dJ9_min_7cf53_1 : decode cJ9_min_7cf53 1 = .ok (.iload_n 1, 1) := by decide +kernel
theorem dJ9_min_7cf53_2 : decode cJ9_min_7cf53 2 = .ok (.if_icmp .gt 7, 3) := by decide +kernel
theorem dJ9_min_7cf53_5 : decode cJ9_min_7cf53 5 = .ok (.iload_n 0, 1) := by decide +kernel
theorem dJ9_min_7cf53_6 : decode cJ9_min_7cf53 6 = .ok (.goto 4, 3) := by decide +kernel
theorem dJ9_min_7cf53_9 : decode cJ9_min_7cf53 9 = .ok (.iload_n 1, 1) := by decide +kernel
theorem dJ9_min_7cf53_10 : decode cJ9_min_7cf53 10 = .ok (.ireturn, 1) := by decide +kernel
theorem dJ7_fill_53178_0 : decode cJ7_fill_53178 0 = .ok (.iconst 0, 1) := by decide +kernel
theorem dJ7_fill_53178_1 : decode cJ7_fill_53178 1 = .ok (.istore_n 2, 1) := by decide +kernel
theorem dJ7_fill_53178_2 : decode cJ7_fill_53178 2 = .ok (.aload_n 0, 1) := by decide +kernel
theorem dJ7_fill_53178_3 : decode cJ7_fill_53178 3 = .ok (.arraylength, 1) := by decide +kernel
theorem dJ7_fill_53178_4 : decode cJ7_fill_53178 4 = .ok (.istore_n 3, 1) := by decide +kernel
theorem dJ7_fill_53178_5 : decode cJ7_fill_53178 5 = .ok (.iload_n 2, 1) := by decide +kernel
theorem dJ7_fill_53178_6 : decode cJ7_fill_53178 6 = .ok (.iload_n 3, 1) := by decide +kernel
theorem dJ7_fill_53178_7 : decode cJ7_fill_53178 7 = .ok (.if_icmp .ge 13, 3) := by decide +kernel
theorem dJ7_fill_53178_10 : decode cJ7_fill_53178 10 = .ok (.aload_n 0, 1) := by decide +kernel
theorem dJ7_fill_53178_11 : decode cJ7_fill_53178 11 = .ok (.iload_n 2, 1) := by decide +kernel
theorem dJ7_fill_53178_12 : decode cJ7_fill_53178 12 = .ok (.iload_n 1, 1) := by decide +kernel
theorem dJ7_fill_53178_13 : decode cJ7_fill_53178 13 = .ok (.iastore, 1) := by decide +kernel
theorem dJ7_fill_53178_14 : decode cJ7_fill_53178 14 = .ok (.iinc 2 1, 3) := by decide +kernel
theorem dJ7_fill_53178_17 : decode cJ7_fill_53178 17 = .ok (.goto (-12), 3) := by decide +kernel
theorem dJ7_fill_53178_20 : decode cJ7_fill_53178 20 = .ok (.return_, 1) := by decide +kernel
