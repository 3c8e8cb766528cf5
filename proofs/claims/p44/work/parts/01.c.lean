set_option maxRecDepth 20000 in
theorem ggX0_init_X3_init : GoodIn wsX0_init wsX3_init := goodIn_r _ [16, 17, 2, 3, 18, 10, 19, 20, 21, 22, 23] (by decide +kernel) (by decide +kernel)
set_option maxRecDepth 20000 in
theorem gX0_init_X3_init_n11 : GoodIn wsX0_init (wsX3_init) := ggX0_init_X3_init
theorem dX0_init_0 : decode cX0_init 0 = .ok (.aload_n 0, 1) := by decide +kernel
theorem dX0_init_1 : decode cX0_init 1 = .ok (.invokespecial 3, 3) := by decide +kernel
theorem dX0_init_4 : decode cX0_init 4 = .ok (.aload_n 0, 1) := by decide +kernel
theorem dX0_init_5 : decode cX0_init 5 = .ok (.new 9, 3) := by decide +kernel
theorem dX0_init_8 : decode cX0_init 8 = .ok (.dup, 1) := by decide +kernel
theorem dX0_init_9 : decode cX0_init 9 = .ok (.invokespecial 11, 3) := by decide +kernel
theorem dX0_init_12 : decode cX0_init 12 = .ok (.putfield 12, 3) := by decide +kernel
theorem dX0_init_15 : decode cX0_init 15 = .ok (.aload_n 0, 1) := by decide +kernel
theorem dX0_init_16 : decode cX0_init 16 = .ok (.bipush 20, 2) := by decide +kernel
theorem dX0_init_18 : decode cX0_init 18 = .ok (.newarray .boolean, 2) := by decide +kernel
theorem dX0_init_20 : decode cX0_init 20 = .ok (.putfield 18, 3) := by decide +kernel
theorem dX0_init_23 : decode cX0_init 23 = .ok (.aload_n 0, 1) := by decide +kernel
theorem dX0_init_24 : decode cX0_init 24 = .ok (.bipush 20, 2) := by decide +kernel
theorem dX0_init_26 : decode cX0_init 26 = .ok (.newarray .int, 2) := by decide +kernel
theorem dX0_init_28 : decode cX0_init 28 = .ok (.putfield 22, 3) := by decide +kernel
theorem dX0_init_31 : decode cX0_init 31 = .ok (.aload_n 0, 1) := by decide +kernel
theorem dX0_init_32 : decode cX0_init 32 = .ok (.bipush 20, 2) := by decide +kernel
theorem dX0_init_34 : decode cX0_init 34 = .ok (.newarray .int, 2) := by decide +kernel
theorem dX0_init_36 : decode cX0_init 36 = .ok (.putfield 26, 3) := by decide +kernel
theorem dX0_init_39 : decode cX0_init 39 = .ok (.aload_n 0, 1) := by decide +kernel
theorem dX0_init_40 : decode cX0_init 40 = .ok (.bipush 20, 2) := by decide +kernel
theorem dX0_init_42 : decode cX0_init 42 = .ok (.newarray .long, 2) := by decide +kernel
theorem dX0_init_44 : decode cX0_init 44 = .ok (.putfield 29, 3) := by decide +kernel
theorem dX0_init_47 : decode cX0_init 47 = .ok (.return_, 1) := by decide +kernel
set_option maxRecDepth 20000 in
theorem ggX0_leads_X7_has : GoodIn wsX0_leads wsX7_has := goodIn_r _ [10, 11, 45, 46, 47, 48, 49, 50] (by decide +kernel) (by decide +kernel)
set_option maxRecDepth 20000 in
theorem gX0_leads_X7_has : GoodIn wsX0_leads (wsV RX0 33 RX7 yX7_has wsX7_has) := goodIn_app (goodIn_of _ (by decide +kernel)) ggX0_leads_X7_has
set_option maxRecDepth 20000 in
theorem ggX0_leads_X3_sort : GoodIn wsX0_leads wsX3_sort := goodIn_r _ [16, 17, 18, 19, 20, 21, 22, 23, 9, 24, 11, 25, 26, 27, 28, 29, 30, 7, 8, 10, 31, 32, 33, 15, 34, 35, 42, 43, 44, 45, 46, 47, 48, 49, 50] (by decide +kernel) (by decide +kernel)
set_option maxRecDepth 20000 in
theorem gX0_leads_X3_sort : GoodIn wsX0_leads (wsV RX0 39 RX3 yX3_sort wsX3_sort) := goodIn_app (goodIn_of _ (by decide +kernel)) ggX0_leads_X3_sort
set_option maxRecDepth 20000 in
theorem ggX0_leads_X7_lag : GoodIn wsX0_leads wsX7_lag := goodIn_r _ [28, 29, 30, 7, 8, 9, 10, 11, 45, 46, 47, 48, 49, 50] (by decide +kernel) (by decide +kernel)
set_option maxRecDepth 20000 in
theorem gX0_leads_X7_lag : GoodIn wsX0_leads (wsV RX0 52 RX7 yX7_lag wsX7_lag) := goodIn_app (goodIn_of _ (by decide +kernel)) ggX0_leads_X7_lag
theorem dX0_leads_0 : decode cX0_leads 0 = .ok (.aload_n 1, 1) := by decide +kernel
theorem dX0_leads_1 : decode cX0_leads 1 = .ok (.iload_n 2, 1) := by decide +kernel
theorem dX0_leads_2 : decode cX0_leads 2 = .ok (.invokevirtual 33, 3) := by decide +kernel
theorem dX0_leads_5 : decode cX0_leads 5 = .ok (.ifCond .eq 16, 3) := by decide +kernel
theorem dX0_leads_8 : decode cX0_leads 8 = .ok (.aload_n 1, 1) := by decide +kernel
theorem dX0_leads_9 : decode cX0_leads 9 = .ok (.iload_n 3, 1) := by decide +kernel
theorem dX0_leads_10 : decode cX0_leads 10 = .ok (.invokevirtual 33, 3) := by decide +kernel
theorem dX0_leads_13 : decode cX0_leads 13 = .ok (.ifCond .eq 8, 3) := by decide +kernel
theorem dX0_leads_16 : decode cX0_leads 16 = .ok (.iload_n 2, 1) := by decide +kernel
theorem dX0_leads_17 : decode cX0_leads 17 = .ok (.iload_n 3, 1) := by decide +kernel
theorem dX0_leads_18 : decode cX0_leads 18 = .ok (.if_icmp .ne 5, 3) := by decide +kernel
theorem dX0_leads_21 : decode cX0_leads 21 = .ok (.iconst 0, 1) := by decide +kernel
theorem dX0_leads_22 : decode cX0_leads 22 = .ok (.ireturn, 1) := by decide +kernel
theorem dX0_leads_23 : decode cX0_leads 23 = .ok (.iconst 0, 1) := by decide +kernel
theorem dX0_leads_24 : decode cX0_leads 24 = .ok (.istore 4, 2) := by decide +kernel
theorem dX0_leads_26 : decode cX0_leads 26 = .ok (.iload 4, 2) := by decide +kernel
theorem dX0_leads_28 : decode cX0_leads 28 = .ok (.bipush 20, 2) := by decide +kernel
theorem dX0_leads_30 : decode cX0_leads 30 = .ok (.if_icmp .ge 27, 3) := by decide +kernel
theorem dX0_leads_33 : decode cX0_leads 33 = .ok (.aload_n 0, 1) := by decide +kernel
theorem dX0_leads_34 : decode cX0_leads 34 = .ok (.getfield 18, 3) := by decide +kernel
theorem dX0_leads_37 : decode cX0_leads 37 = .ok (.iload 4, 2) := by decide +kernel
theorem dX0_leads_39 : decode cX0_leads 39 = .ok (.iload 4, 2) := by decide +kernel
theorem dX0_leads_41 : decode cX0_leads 41 = .ok (.iload_n 2, 1) := by decide +kernel
theorem dX0_leads_42 : decode cX0_leads 42 = .ok (.if_icmp .ne 7, 3) := by decide +kernel
theorem dX0_leads_45 : decode cX0_leads 45 = .ok (.iconst 1, 1) := by decide +kernel
theorem dX0_leads_46 : decode cX0_leads 46 = .ok (.goto 4, 3) := by decide +kernel
theorem dX0_leads_49 : decode cX0_leads 49 = .ok (.iconst 0, 1) := by decide +kernel
theorem dX0_leads_50 : decode cX0_leads 50 = .ok (.bastore, 1) := by decide +kernel
theorem dX0_leads_51 : decode cX0_leads 51 = .ok (.iinc 4 1, 3) := by decide +kernel
theorem dX0_leads_54 : decode cX0_leads 54 = .ok (.goto (-28), 3) := by decide +kernel
theorem dX0_leads_57 : decode cX0_leads 57 = .ok (.aload_n 0, 1) := by decide +kernel
theorem dX0_leads_58 : decode cX0_leads 58 = .ok (.getfield 12, 3) := by decide +kernel
theorem dX0_leads_61 : decode cX0_leads 61 = .ok (.aload_n 1, 1) := by decide +kernel
theorem dX0_leads_62 : decode cX0_leads 62 = .ok (.invokevirtual 39, 3) := by decide +kernel
theorem dX0_leads_65 : decode cX0_leads 65 = .ok (.iconst 0, 1) := by decide +kernel
theorem dX0_leads_66 : decode cX0_leads 66 = .ok (.istore 4, 2) := by decide +kernel
theorem dX0_leads_68 : decode cX0_leads 68 = .ok (.iload 4, 2) := by decide +kernel
theorem dX0_leads_70 : decode cX0_leads 70 = .ok (.aload_n 0, 1) := by decide +kernel
theorem dX0_leads_71 : decode cX0_leads 71 = .ok (.getfield 12, 3) := by decide +kernel
theorem dX0_leads_74 : decode cX0_leads 74 = .ok (.getfield 43, 3) := by decide +kernel
theorem dX0_leads_77 : decode cX0_leads 77 = .ok (.if_icmp .ge 69, 3) := by decide +kernel
theorem dX0_leads_80 : decode cX0_leads 80 = .ok (.aload_n 0, 1) := by decide +kernel
theorem dX0_leads_81 : decode cX0_leads 81 = .ok (.getfield 12, 3) := by decide +kernel
theorem dX0_leads_84 : decode cX0_leads 84 = .ok (.getfield 47, 3) := by decide +kernel
theorem dX0_leads_87 : decode cX0_leads 87 = .ok (.iload 4, 2) := by decide +kernel
theorem dX0_leads_89 : decode cX0_leads 89 = .ok (.iaload, 1) := by decide +kernel
theorem dX0_leads_90 : decode cX0_leads 90 = .ok (.istore 5, 2) := by decide +kernel
theorem dX0_leads_92 : decode cX0_leads 92 = .ok (.iconst 0, 1) := by decide +kernel
theorem dX0_leads_93 : decode cX0_leads 93 = .ok (.istore 6, 2) := by decide +kernel
theorem dX0_leads_95 : decode cX0_leads 95 = .ok (.iload 6, 2) := by decide +kernel
theorem dX0_leads_97 : decode cX0_leads 97 = .ok (.aload_n 1, 1) := by decide +kernel
theorem dX0_leads_98 : decode cX0_leads 98 = .ok (.getfield 50, 3) := by decide +kernel
theorem dX0_leads_101 : decode cX0_leads 101 = .ok (.if_icmp .ge 39, 3) := by decide +kernel
theorem dX0_leads_104 : decode cX0_leads 104 = .ok (.aload_n 0, 1) := by decide +kernel
theorem dX0_leads_105 : decode cX0_leads 105 = .ok (.getfield 18, 3) := by decide +kernel
theorem dX0_leads_108 : decode cX0_leads 108 = .ok (.iload 5, 2) := by decide +kernel
theorem dX0_leads_110 : decode cX0_leads 110 = .ok (.baload, 1) := by decide +kernel
theorem dX0_leads_111 : decode cX0_leads 111 = .ok (.ifCond .eq 23, 3) := by decide +kernel
theorem dX0_leads_114 : decode cX0_leads 114 = .ok (.aload_n 1, 1) := by decide +kernel
theorem dX0_leads_115 : decode cX0_leads 115 = .ok (.iload 5, 2) := by decide +kernel
theorem dX0_leads_117 : decode cX0_leads 117 = .ok (.iload 6, 2) := by decide +kernel
theorem dX0_leads_119 : decode cX0_leads 119 = .ok (.invokevirtual 52, 3) := by decide +kernel
theorem dX0_leads_122 : decode cX0_leads 122 = .ok (.iconst (-1), 1) := by decide +kernel
theorem dX0_leads_123 : decode cX0_leads 123 = .ok (.if_icmp .eq 11, 3) := by decide +kernel
theorem dX0_leads_126 : decode cX0_leads 126 = .ok (.aload_n 0, 1) := by decide +kernel
theorem dX0_leads_127 : decode cX0_leads 127 = .ok (.getfield 18, 3) := by decide +kernel
theorem dX0_leads_130 : decode cX0_leads 130 = .ok (.iload 6, 2) := by decide +kernel
theorem dX0_leads_132 : decode cX0_leads 132 = .ok (.iconst 1, 1) := by decide +kernel
theorem dX0_leads_133 : decode cX0_leads 133 = .ok (.bastore, 1) := by decide +kernel
theorem dX0_leads_134 : decode cX0_leads 134 = .ok (.iinc 6 1, 3) := by decide +kernel
theorem dX0_leads_137 : decode cX0_leads 137 = .ok (.goto (-42), 3) := by decide +kernel
theorem dX0_leads_140 : decode cX0_leads 140 = .ok (.iinc 4 1, 3) := by decide +kernel
theorem dX0_leads_143 : decode cX0_leads 143 = .ok (.goto (-75), 3) := by decide +kernel
theorem dX0_leads_146 : decode cX0_leads 146 = .ok (.aload_n 0, 1) := by decide +kernel
theorem dX0_leads_147 : decode cX0_leads 147 = .ok (.getfield 18, 3) := by decide +kernel
theorem dX0_leads_150 : decode cX0_leads 150 = .ok (.iload_n 3, 1) := by decide +kernel
theorem dX0_leads_151 : decode cX0_leads 151 = .ok (.baload, 1) := by decide +kernel
theorem dX0_leads_152 : decode cX0_leads 152 = .ok (.ireturn, 1) := by decide +kernel
set_option maxRecDepth 20000 in
theorem ggX0_longestWith_X7_has : GoodIn wsX0_longestWith wsX7_has := goodIn_r _ [11, 12, 60, 61, 62, 63, 64, 65] (by decide +kernel) (by decide +kernel)
set_option maxRecDepth 20000 in
theorem gX0_longestWith_X7_has : GoodIn wsX0_longestWith (wsV RX0 33 RX7 yX7_has wsX7_has) := goodIn_app (goodIn_of _ (by decide +kernel)) ggX0_longestWith_X7_has
set_option maxRecDepth 20000 in
theorem ggX0_longestWith_X3_sort : GoodIn wsX0_longestWith wsX3_sort := goodIn_r _ [17, 18, 19, 20, 21, 22, 23, 24, 10, 25, 12, 26, 27, 28, 29, 30, 31, 8, 9, 11, 32, 33, 34, 16, 35, 36, 57, 58, 59, 60, 61, 62, 63, 64, 65] (by decide +kernel) (by decide +kernel)
set_option maxRecDepth 20000 in
theorem gX0_longestWith_X3_sort : GoodIn wsX0_longestWith (wsV RX0 39 RX3 yX3_sort wsX3_sort) := goodIn_app (goodIn_of _ (by decide +kernel)) ggX0_longestWith_X3_sort
set_option maxRecDepth 20000 in
theorem ggX0_longestWith_X0_longestBefore : GoodIn wsX0_longestWith wsX0_longestBefore := goodIn_r _ [41, 42, 4, 43, 44, 45, 46, 47, 27, 28, 10, 29, 30, 31, 8, 9, 11, 12, 60, 61, 62, 63, 64, 65, 52, 53, 54, 55, 56] (by decide +kernel) (by decide +kernel)
set_option maxRecDepth 20000 in
theorem gX0_longestWith_X0_longestBefore : GoodIn wsX0_longestWith (wsV RX0 59 RX0 yX0_longestBefore wsX0_longestBefore) := goodIn_app (goodIn_of _ (by decide +kernel)) ggX0_longestWith_X0_longestBefore
set_option maxRecDepth 20000 in
theorem ggX0_longestWith_X0_longestBehind : GoodIn wsX0_longestWith wsX0_longestBehind := goodIn_r _ [51, 42, 6, 43, 44, 45, 46, 47, 27, 28, 10, 29, 30, 31, 8, 9, 11, 12, 60, 61, 62, 63, 64, 65, 52, 53, 54, 55, 56] (by decide +kernel) (by decide +kernel)
set_option maxRecDepth 20000 in
theorem gX0_longestWith_X0_longestBehind : GoodIn wsX0_longestWith (wsV RX0 63 RX0 yX0_longestBehind wsX0_longestBehind) := goodIn_app (goodIn_of _ (by decide +kernel)) ggX0_longestWith_X0_longestBehind
theorem dX0_longestWith_0 : decode cX0_longestWith 0 = .ok (.aload_n 1, 1) := by decide +kernel
theorem dX0_longestWith_1 : decode cX0_longestWith 1 = .ok (.iload_n 2, 1) := by decide +kernel
theorem dX0_longestWith_2 : decode cX0_longestWith 2 = .ok (.invokevirtual 33, 3) := by decide +kernel
theorem dX0_longestWith_5 : decode cX0_longestWith 5 = .ok (.ifCond .ne 5, 3) := by decide +kernel
theorem dX0_longestWith_8 : decode cX0_longestWith 8 = .ok (.iconst 0, 1) := by decide +kernel
theorem dX0_longestWith_9 : decode cX0_longestWith 9 = .ok (.ireturn, 1) := by decide +kernel
theorem dX0_longestWith_10 : decode cX0_longestWith 10 = .ok (.aload_n 0, 1) := by decide +kernel
theorem dX0_longestWith_11 : decode cX0_longestWith 11 = .ok (.getfield 12, 3) := by decide +kernel
theorem dX0_longestWith_14 : decode cX0_longestWith 14 = .ok (.aload_n 1, 1) := by decide +kernel
theorem dX0_longestWith_15 : decode cX0_longestWith 15 = .ok (.invokevirtual 39, 3) := by decide +kernel
theorem dX0_longestWith_18 : decode cX0_longestWith 18 = .ok (.iconst 0, 1) := by decide +kernel
theorem dX0_longestWith_19 : decode cX0_longestWith 19 = .ok (.istore_n 3, 1) := by decide +kernel
theorem dX0_longestWith_20 : decode cX0_longestWith 20 = .ok (.iload_n 3, 1) := by decide +kernel
theorem dX0_longestWith_21 : decode cX0_longestWith 21 = .ok (.aload_n 0, 1) := by decide +kernel
theorem dX0_longestWith_22 : decode cX0_longestWith 22 = .ok (.getfield 12, 3) := by decide +kernel
theorem dX0_longestWith_25 : decode cX0_longestWith 25 = .ok (.getfield 43, 3) := by decide +kernel
theorem dX0_longestWith_28 : decode cX0_longestWith 28 = .ok (.if_icmp .ge 42, 3) := by decide +kernel
theorem dX0_longestWith_31 : decode cX0_longestWith 31 = .ok (.aload_n 0, 1) := by decide +kernel
theorem dX0_longestWith_32 : decode cX0_longestWith 32 = .ok (.getfield 12, 3) := by decide +kernel
theorem dX0_longestWith_35 : decode cX0_longestWith 35 = .ok (.getfield 47, 3) := by decide +kernel
theorem dX0_longestWith_38 : decode cX0_longestWith 38 = .ok (.iload_n 3, 1) := by decide +kernel
theorem dX0_longestWith_39 : decode cX0_longestWith 39 = .ok (.iaload, 1) := by decide +kernel
theorem dX0_longestWith_40 : decode cX0_longestWith 40 = .ok (.istore 4, 2) := by decide +kernel
theorem dX0_longestWith_42 : decode cX0_longestWith 42 = .ok (.aload_n 0, 1) := by decide +kernel
theorem dX0_longestWith_43 : decode cX0_longestWith 43 = .ok (.getfield 22, 3) := by decide +kernel
theorem dX0_longestWith_46 : decode cX0_longestWith 46 = .ok (.iload 4, 2) := by decide +kernel
theorem dX0_longestWith_48 : decode cX0_longestWith 48 = .ok (.aload_n 1, 1) := by decide +kernel
theorem dX0_longestWith_49 : decode cX0_longestWith 49 = .ok (.getfield 56, 3) := by decide +kernel
theorem dX0_longestWith_52 : decode cX0_longestWith 52 = .ok (.iload 4, 2) := by decide +kernel
theorem dX0_longestWith_54 : decode cX0_longestWith 54 = .ok (.iaload, 1) := by decide +kernel
theorem dX0_longestWith_55 : decode cX0_longestWith 55 = .ok (.aload_n 0, 1) := by decide +kernel
theorem dX0_longestWith_56 : decode cX0_longestWith 56 = .ok (.aload_n 1, 1) := by decide +kernel
theorem dX0_longestWith_57 : decode cX0_longestWith 57 = .ok (.iload 4, 2) := by decide +kernel
theorem dX0_longestWith_59 : decode cX0_longestWith 59 = .ok (.invokevirtual 59, 3) := by decide +kernel
theorem dX0_longestWith_62 : decode cX0_longestWith 62 = .ok (.iadd, 1) := by decide +kernel
theorem dX0_longestWith_63 : decode cX0_longestWith 63 = .ok (.iastore, 1) := by decide +kernel
theorem dX0_longestWith_64 : decode cX0_longestWith 64 = .ok (.iinc 3 1, 3) := by decide +kernel
theorem dX0_longestWith_67 : decode cX0_longestWith 67 = .ok (.goto (-47), 3) := by decide +kernel
theorem dX0_longestWith_70 : decode cX0_longestWith 70 = .ok (.aload_n 0, 1) := by decide +kernel
theorem dX0_longestWith_71 : decode cX0_longestWith 71 = .ok (.getfield 12, 3) := by decide +kernel
theorem dX0_longestWith_74 : decode cX0_longestWith 74 = .ok (.getfield 43, 3) := by decide +kernel
theorem dX0_longestWith_77 : decode cX0_longestWith 77 = .ok (.iconst 1, 1) := by decide +kernel
theorem dX0_longestWith_78 : decode cX0_longestWith 78 = .ok (.isub, 1) := by decide +kernel
theorem dX0_longestWith_79 : decode cX0_longestWith 79 = .ok (.istore_n 3, 1) := by decide +kernel
theorem dX0_longestWith_80 : decode cX0_longestWith 80 = .ok (.iload_n 3, 1) := by decide +kernel
theorem dX0_longestWith_81 : decode cX0_longestWith 81 = .ok (.ifCond .lt 42, 3) := by decide +kernel
theorem dX0_longestWith_84 : decode cX0_longestWith 84 = .ok (.aload_n 0, 1) := by decide +kernel
theorem dX0_longestWith_85 : decode cX0_longestWith 85 = .ok (.getfield 12, 3) := by decide +kernel
theorem dX0_longestWith_88 : decode cX0_longestWith 88 = .ok (.getfield 47, 3) := by decide +kernel
theorem dX0_longestWith_91 : decode cX0_longestWith 91 = .ok (.iload_n 3, 1) := by decide +kernel
theorem dX0_longestWith_92 : decode cX0_longestWith 92 = .ok (.iaload, 1) := by decide +kernel
theorem dX0_longestWith_93 : decode cX0_longestWith 93 = .ok (.istore 4, 2) := by decide +kernel
theorem dX0_longestWith_95 : decode cX0_longestWith 95 = .ok (.aload_n 0, 1) := by decide +kernel
theorem dX0_longestWith_96 : decode cX0_longestWith 96 = .ok (.getfield 26, 3) := by decide +kernel
theorem dX0_longestWith_99 : decode cX0_longestWith 99 = .ok (.iload 4, 2) := by decide +kernel
theorem dX0_longestWith_101 : decode cX0_longestWith 101 = .ok (.aload_n 1, 1) := by decide +kernel
theorem dX0_longestWith_102 : decode cX0_longestWith 102 = .ok (.getfield 56, 3) := by decide +kernel
theorem dX0_longestWith_105 : decode cX0_longestWith 105 = .ok (.iload 4, 2) := by decide +kernel
theorem dX0_longestWith_107 : decode cX0_longestWith 107 = .ok (.iaload, 1) := by decide +kernel
theorem dX0_longestWith_108 : decode cX0_longestWith 108 = .ok (.aload_n 0, 1) := by decide +kernel
theorem dX0_longestWith_109 : decode cX0_longestWith 109 = .ok (.aload_n 1, 1) := by decide +kernel
theorem dX0_longestWith_110 : decode cX0_longestWith 110 = .ok (.iload 4, 2) := by decide +kernel
theorem dX0_longestWith_112 : decode cX0_longestWith 112 = .ok (.invokevirtual 63, 3) := by decide +kernel
theorem dX0_longestWith_115 : decode cX0_longestWith 115 = .ok (.iadd, 1) := by decide +kernel
theorem dX0_longestWith_116 : decode cX0_longestWith 116 = .ok (.iastore, 1) := by decide +kernel
theorem dX0_longestWith_117 : decode cX0_longestWith 117 = .ok (.iinc 3 (-1), 3) := by decide +kernel
theorem dX0_longestWith_120 : decode cX0_longestWith 120 = .ok (.goto (-40), 3) := by decide +kernel
theorem dX0_longestWith_123 : decode cX0_longestWith 123 = .ok (.aload_n 0, 1) := by decide +kernel
theorem dX0_longestWith_124 : decode cX0_longestWith 124 = .ok (.getfield 22, 3) := by decide +kernel
theorem dX0_longestWith_127 : decode cX0_longestWith 127 = .ok (.iload_n 2, 1) := by decide +kernel
theorem dX0_longestWith_128 : decode cX0_longestWith 128 = .ok (.iaload, 1) := by decide +kernel
theorem dX0_longestWith_129 : decode cX0_longestWith 129 = .ok (.aload_n 0, 1) := by decide +kernel
theorem dX0_longestWith_130 : decode cX0_longestWith 130 = .ok (.getfield 26, 3) := by decide +kernel
theorem dX0_longestWith_133 : decode cX0_longestWith 133 = .ok (.iload_n 2, 1) := by decide +kernel
theorem dX0_longestWith_134 : decode cX0_longestWith 134 = .ok (.iaload, 1) := by decide +kernel
theorem dX0_longestWith_135 : decode cX0_longestWith 135 = .ok (.iadd, 1) := by decide +kernel
theorem dX0_longestWith_136 : decode cX0_longestWith 136 = .ok (.aload_n 1, 1) := by decide +kernel
theorem dX0_longestWith_137 : decode cX0_longestWith 137 = .ok (.getfield 56, 3) := by decide +kernel
theorem dX0_longestWith_140 : decode cX0_longestWith 140 = .ok (.iload_n 2, 1) := by decide +kernel
theorem dX0_longestWith_141 : decode cX0_longestWith 141 = .ok (.iaload, 1) := by decide +kernel
theorem dX0_longestWith_142 : decode cX0_longestWith 142 = .ok (.isub, 1) := by decide +kernel
theorem dX0_longestWith_143 : decode cX0_longestWith 143 = .ok (.ireturn, 1) := by decide +kernel
set_option maxRecDepth 20000 in
theorem ggX0_longestBefore_X7_lag : GoodIn wsX0_longestBefore wsX7_lag := goodIn_r _ [11, 12, 13, 14, 15, 10, 16, 17, 18, 19, 20, 21, 22, 23] (by decide +kernel) (by decide +kernel)
set_option maxRecDepth 20000 in
theorem gX0_longestBefore_X7_lag : GoodIn wsX0_longestBefore (wsV RX0 52 RX7 yX7_lag wsX7_lag) := goodIn_app (goodIn_of _ (by decide +kernel)) ggX0_longestBefore_X7_lag
theorem dX0_longestBefore_0 : decode cX0_longestBefore 0 = .ok (.iconst 0, 1) := by decide +kernel
theorem dX0_longestBefore_1 : decode cX0_longestBefore 1 = .ok (.istore_n 3, 1) := by decide +kernel
theorem dX0_longestBefore_2 : decode cX0_longestBefore 2 = .ok (.iconst 0, 1) := by decide +kernel
theorem dX0_longestBefore_3 : decode cX0_longestBefore 3 = .ok (.istore 4, 2) := by decide +kernel
theorem dX0_longestBefore_5 : decode cX0_longestBefore 5 = .ok (.iload 4, 2) := by decide +kernel
theorem dX0_longestBefore_7 : decode cX0_longestBefore 7 = .ok (.aload_n 1, 1) := by decide +kernel
theorem dX0_longestBefore_8 : decode cX0_longestBefore 8 = .ok (.getfield 50, 3) := by decide +kernel
theorem dX0_longestBefore_11 : decode cX0_longestBefore 11 = .ok (.if_icmp .ge 39, 3) := by decide +kernel
theorem dX0_longestBefore_14 : decode cX0_longestBefore 14 = .ok (.aload_n 1, 1) := by decide +kernel
theorem dX0_longestBefore_15 : decode cX0_longestBefore 15 = .ok (.iload 4, 2) := by decide +kernel
theorem dX0_longestBefore_17 : decode cX0_longestBefore 17 = .ok (.iload_n 2, 1) := by decide +kernel
theorem dX0_longestBefore_18 : decode cX0_longestBefore 18 = .ok (.invokevirtual 52, 3) := by decide +kernel
theorem dX0_longestBefore_21 : decode cX0_longestBefore 21 = .ok (.istore 5, 2) := by decide +kernel
theorem dX0_longestBefore_23 : decode cX0_longestBefore 23 = .ok (.iload 5, 2) := by decide +kernel
theorem dX0_longestBefore_25 : decode cX0_longestBefore 25 = .ok (.iconst (-1), 1) := by decide +kernel
theorem dX0_longestBefore_26 : decode cX0_longestBefore 26 = .ok (.if_icmp .eq 18, 3) := by decide +kernel
theorem dX0_longestBefore_29 : decode cX0_longestBefore 29 = .ok (.iload_n 3, 1) := by decide +kernel
theorem dX0_longestBefore_30 : decode cX0_longestBefore 30 = .ok (.aload_n 0, 1) := by decide +kernel
theorem dX0_longestBefore_31 : decode cX0_longestBefore 31 = .ok (.getfield 22, 3) := by decide +kernel
theorem dX0_longestBefore_34 : decode cX0_longestBefore 34 = .ok (.iload 4, 2) := by decide +kernel
theorem dX0_longestBefore_36 : decode cX0_longestBefore 36 = .ok (.iaload, 1) := by decide +kernel
theorem dX0_longestBefore_37 : decode cX0_longestBefore 37 = .ok (.iload 5, 2) := by decide +kernel
theorem dX0_longestBefore_39 : decode cX0_longestBefore 39 = .ok (.iadd, 1) := by decide +kernel
theorem dX0_longestBefore_40 : decode cX0_longestBefore 40 = .ok (.invokestatic 66, 3) := by decide +kernel
theorem dX0_longestBefore_43 : decode cX0_longestBefore 43 = .ok (.istore_n 3, 1) := by decide +kernel
theorem dX0_longestBefore_44 : decode cX0_longestBefore 44 = .ok (.iinc 4 1, 3) := by decide +kernel
theorem dX0_longestBefore_47 : decode cX0_longestBefore 47 = .ok (.goto (-42), 3) := by decide +kernel
theorem dX0_longestBefore_50 : decode cX0_longestBefore 50 = .ok (.iload_n 3, 1) := by decide +kernel
theorem dX0_longestBefore_51 : decode cX0_longestBefore 51 = .ok (.ireturn, 1) := by decide +kernel
set_option maxRecDepth 20000 in
theorem ggX0_longestBehind_X7_lag : GoodIn wsX0_longestBehind wsX7_lag := goodIn_r _ [11, 12, 13, 14, 15, 10, 16, 17, 18, 19, 20, 21, 22, 23] (by decide +kernel) (by decide +kernel)
set_option maxRecDepth 20000 in
theorem gX0_longestBehind_X7_lag : GoodIn wsX0_longestBehind (wsV RX0 52 RX7 yX7_lag wsX7_lag) := goodIn_app (goodIn_of _ (by decide +kernel)) ggX0_longestBehind_X7_lag
theorem dX0_longestBehind_0 : decode cX0_longestBehind 0 = .ok (.iconst 0, 1) := by decide +kernel
theorem dX0_longestBehind_1 : decode cX0_longestBehind 1 = .ok (.istore_n 3, 1) := by decide +kernel
theorem dX0_longestBehind_2 : decode cX0_longestBehind 2 = .ok (.iconst 0, 1) := by decide +kernel
theorem dX0_longestBehind_3 : decode cX0_longestBehind 3 = .ok (.istore 4, 2) := by decide +kernel
theorem dX0_longestBehind_5 : decode cX0_longestBehind 5 = .ok (.iload 4, 2) := by decide +kernel
theorem dX0_longestBehind_7 : decode cX0_longestBehind 7 = .ok (.aload_n 1, 1) := by decide +kernel
theorem dX0_longestBehind_8 : decode cX0_longestBehind 8 = .ok (.getfield 50, 3) := by decide +kernel
theorem dX0_longestBehind_11 : decode cX0_longestBehind 11 = .ok (.if_icmp .ge 39, 3) := by decide +kernel
theorem dX0_longestBehind_14 : decode cX0_longestBehind 14 = .ok (.aload_n 1, 1) := by decide +kernel
theorem dX0_longestBehind_15 : decode cX0_longestBehind 15 = .ok (.iload_n 2, 1) := by decide +kernel
theorem dX0_longestBehind_16 : decode cX0_longestBehind 16 = .ok (.iload 4, 2) := by decide +kernel
theorem dX0_longestBehind_18 : decode cX0_longestBehind 18 = .ok (.invokevirtual 52, 3) := by decide +kernel
theorem dX0_longestBehind_21 : decode cX0_longestBehind 21 = .ok (.istore 5, 2) := by decide +kernel
theorem dX0_longestBehind_23 : decode cX0_longestBehind 23 = .ok (.iload 5, 2) := by decide +kernel
theorem dX0_longestBehind_25 : decode cX0_longestBehind 25 = .ok (.iconst (-1), 1) := by decide +kernel
theorem dX0_longestBehind_26 : decode cX0_longestBehind 26 = .ok (.if_icmp .eq 18, 3) := by decide +kernel
theorem dX0_longestBehind_29 : decode cX0_longestBehind 29 = .ok (.iload_n 3, 1) := by decide +kernel
theorem dX0_longestBehind_30 : decode cX0_longestBehind 30 = .ok (.iload 5, 2) := by decide +kernel
theorem dX0_longestBehind_32 : decode cX0_longestBehind 32 = .ok (.aload_n 0, 1) := by decide +kernel
theorem dX0_longestBehind_33 : decode cX0_longestBehind 33 = .ok (.getfield 26, 3) := by decide +kernel
theorem dX0_longestBehind_36 : decode cX0_longestBehind 36 = .ok (.iload 4, 2) := by decide +kernel
theorem dX0_longestBehind_38 : decode cX0_longestBehind 38 = .ok (.iaload, 1) := by decide +kernel
theorem dX0_longestBehind_39 : decode cX0_longestBehind 39 = .ok (.iadd, 1) := by decide +kernel
theorem dX0_longestBehind_40 : decode cX0_longestBehind 40 = .ok (.invokestatic 66, 3) := by decide +kernel
theorem dX0_longestBehind_43 : decode cX0_longestBehind 43 = .ok (.istore_n 3, 1) := by decide +kernel
theorem dX0_longestBehind_44 : decode cX0_longestBehind 44 = .ok (.iinc 4 1, 3) := by decide +kernel
theorem dX0_longestBehind_47 : decode cX0_longestBehind 47 = .ok (.goto (-42), 3) := by decide +kernel
theorem dX0_longestBehind_50 : decode cX0_longestBehind 50 = .ok (.iload_n 3, 1) := by decide +kernel
theorem dX0_longestBehind_51 : decode cX0_longestBehind 51 = .ok (.ireturn, 1) := by decide +kernel
set_option maxRecDepth 20000 in
theorem ggX0_countLongest_X7_countBefore : GoodIn wsX0_countLongest wsX7_countBefore := goodIn_r _ [13, 14, 15, 16, 17, 12, 18, 19, 20, 21, 22, 23, 40, 41, 42, 43, 44, 45] (by decide +kernel) (by decide +kernel)
set_option maxRecDepth 20000 in
theorem gX0_countLongest_X7_countBefore : GoodIn wsX0_countLongest (wsV RX0 71 RX7 yX7_countBefore wsX7_countBefore) := goodIn_app (goodIn_of _ (by decide +kernel)) ggX0_countLongest_X7_countBefore
set_option maxRecDepth 20000 in
theorem ggX0_countLongest_X3_sort : GoodIn wsX0_countLongest wsX3_sort := goodIn_r _ [28, 29, 30, 31, 32, 33, 10, 11, 12, 13, 14, 15, 16, 17, 18, 19, 20, 21, 22, 23, 34, 35, 36, 27, 37, 38, 51, 52, 53, 40, 41, 42, 43, 44, 45] (by decide +kernel) (by decide +kernel)
set_option maxRecDepth 20000 in
theorem gX0_countLongest_X3_sort : GoodIn wsX0_countLongest (wsV RX0 39 RX3 yX3_sort wsX3_sort) := goodIn_app (goodIn_of _ (by decide +kernel)) ggX0_countLongest_X3_sort
set_option maxRecDepth 20000 in
theorem ggX0_countLongest_X7_lag : GoodIn wsX0_countLongest wsX7_lag := goodIn_r _ [18, 19, 20, 21, 22, 12, 23, 14, 40, 41, 42, 43, 44, 45] (by decide +kernel) (by decide +kernel)
set_option maxRecDepth 20000 in
theorem gX0_countLongest_X7_lag : GoodIn wsX0_countLongest (wsV RX0 52 RX7 yX7_lag wsX7_lag) := goodIn_app (goodIn_of _ (by decide +kernel)) ggX0_countLongest_X7_lag
theorem dX0_countLongest_0 : decode cX0_countLongest 0 = .ok (.iconst 0, 1) := by decide +kernel
theorem dX0_countLongest_1 : decode cX0_countLongest 1 = .ok (.istore_n 3, 1) := by decide +kernel
theorem dX0_countLongest_2 : decode cX0_countLongest 2 = .ok (.iload_n 3, 1) := by decide +kernel
theorem dX0_countLongest_3 : decode cX0_countLongest 3 = .ok (.aload_n 1, 1) := by decide +kernel
theorem dX0_countLongest_4 : decode cX0_countLongest 4 = .ok (.getfield 50, 3) := by decide +kernel
theorem dX0_countLongest_7 : decode cX0_countLongest 7 = .ok (.if_icmp .ge 28, 3) := by decide +kernel
theorem dX0_countLongest_10 : decode cX0_countLongest 10 = .ok (.aload_n 0, 1) := by decide +kernel
theorem dX0_countLongest_11 : decode cX0_countLongest 11 = .ok (.getfield 29, 3) := by decide +kernel
theorem dX0_countLongest_14 : decode cX0_countLongest 14 = .ok (.iload_n 3, 1) := by decide +kernel
theorem dX0_countLongest_15 : decode cX0_countLongest 15 = .ok (.aload_n 1, 1) := by decide +kernel
theorem dX0_countLongest_16 : decode cX0_countLongest 16 = .ok (.iload_n 3, 1) := by decide +kernel
theorem dX0_countLongest_17 : decode cX0_countLongest 17 = .ok (.invokevirtual 71, 3) := by decide +kernel
theorem dX0_countLongest_20 : decode cX0_countLongest 20 = .ok (.ifCond .ne 7, 3) := by decide +kernel
theorem dX0_countLongest_23 : decode cX0_countLongest 23 = .ok (.lconst 1, 1) := by decide +kernel
theorem dX0_countLongest_24 : decode cX0_countLongest 24 = .ok (.goto 4, 3) := by decide +kernel
theorem dX0_countLongest_27 : decode cX0_countLongest 27 = .ok (.lconst 0, 1) := by decide +kernel
theorem dX0_countLongest_28 : decode cX0_countLongest 28 = .ok (.lastore, 1) := by decide +kernel
theorem dX0_countLongest_29 : decode cX0_countLongest 29 = .ok (.iinc 3 1, 3) := by decide +kernel
theorem dX0_countLongest_32 : decode cX0_countLongest 32 = .ok (.goto (-30), 3) := by decide +kernel
theorem dX0_countLongest_35 : decode cX0_countLongest 35 = .ok (.aload_n 0, 1) := by decide +kernel
theorem dX0_countLongest_36 : decode cX0_countLongest 36 = .ok (.getfield 12, 3) := by decide +kernel
theorem dX0_countLongest_39 : decode cX0_countLongest 39 = .ok (.aload_n 1, 1) := by decide +kernel
theorem dX0_countLongest_40 : decode cX0_countLongest 40 = .ok (.invokevirtual 39, 3) := by decide +kernel
theorem dX0_countLongest_43 : decode cX0_countLongest 43 = .ok (.lconst 0, 1) := by decide +kernel
theorem dX0_countLongest_44 : decode cX0_countLongest 44 = .ok (.lstore_n 3, 1) := by decide +kernel
theorem dX0_countLongest_45 : decode cX0_countLongest 45 = .ok (.iconst 0, 1) := by decide +kernel
theorem dX0_countLongest_46 : decode cX0_countLongest 46 = .ok (.istore 5, 2) := by decide +kernel
theorem dX0_countLongest_48 : decode cX0_countLongest 48 = .ok (.iload 5, 2) := by decide +kernel
theorem dX0_countLongest_50 : decode cX0_countLongest 50 = .ok (.aload_n 0, 1) := by decide +kernel
theorem dX0_countLongest_51 : decode cX0_countLongest 51 = .ok (.getfield 12, 3) := by decide +kernel
theorem dX0_countLongest_54 : decode cX0_countLongest 54 = .ok (.getfield 43, 3) := by decide +kernel
theorem dX0_countLongest_57 : decode cX0_countLongest 57 = .ok (.if_icmp .ge 142, 3) := by decide +kernel
theorem dX0_countLongest_60 : decode cX0_countLongest 60 = .ok (.aload_n 0, 1) := by decide +kernel
theorem dX0_countLongest_61 : decode cX0_countLongest 61 = .ok (.getfield 12, 3) := by decide +kernel
theorem dX0_countLongest_64 : decode cX0_countLongest 64 = .ok (.getfield 47, 3) := by decide +kernel
theorem dX0_countLongest_67 : decode cX0_countLongest 67 = .ok (.iload 5, 2) := by decide +kernel
theorem dX0_countLongest_69 : decode cX0_countLongest 69 = .ok (.iaload, 1) := by decide +kernel
theorem dX0_countLongest_70 : decode cX0_countLongest 70 = .ok (.istore 6, 2) := by decide +kernel
theorem dX0_countLongest_72 : decode cX0_countLongest 72 = .ok (.aload_n 2, 1) := by decide +kernel
theorem dX0_countLongest_73 : decode cX0_countLongest 73 = .ok (.getfield 75, 3) := by decide +kernel
theorem dX0_countLongest_76 : decode cX0_countLongest 76 = .ok (.iload 6, 2) := by decide +kernel
theorem dX0_countLongest_78 : decode cX0_countLongest 78 = .ok (.iaload, 1) := by decide +kernel
theorem dX0_countLongest_79 : decode cX0_countLongest 79 = .ok (.aload_n 1, 1) := by decide +kernel
theorem dX0_countLongest_80 : decode cX0_countLongest 80 = .ok (.getfield 56, 3) := by decide +kernel
theorem dX0_countLongest_83 : decode cX0_countLongest 83 = .ok (.iload 6, 2) := by decide +kernel
theorem dX0_countLongest_85 : decode cX0_countLongest 85 = .ok (.iaload, 1) := by decide +kernel
theorem dX0_countLongest_86 : decode cX0_countLongest 86 = .ok (.iadd, 1) := by decide +kernel
theorem dX0_countLongest_87 : decode cX0_countLongest 87 = .ok (.istore 7, 2) := by decide +kernel
theorem dX0_countLongest_89 : decode cX0_countLongest 89 = .ok (.iconst 1, 1) := by decide +kernel
theorem dX0_countLongest_90 : decode cX0_countLongest 90 = .ok (.istore 8, 2) := by decide +kernel
theorem dX0_countLongest_92 : decode cX0_countLongest 92 = .ok (.iconst 0, 1) := by decide +kernel
theorem dX0_countLongest_93 : decode cX0_countLongest 93 = .ok (.istore 9, 2) := by decide +kernel
theorem dX0_countLongest_95 : decode cX0_countLongest 95 = .ok (.iload 9, 2) := by decide +kernel
theorem dX0_countLongest_97 : decode cX0_countLongest 97 = .ok (.aload_n 1, 1) := by decide +kernel
theorem dX0_countLongest_98 : decode cX0_countLongest 98 = .ok (.getfield 50, 3) := by decide +kernel
theorem dX0_countLongest_101 : decode cX0_countLongest 101 = .ok (.if_icmp .ge 64, 3) := by decide +kernel
theorem dX0_countLongest_104 : decode cX0_countLongest 104 = .ok (.aload_n 1, 1) := by decide +kernel
theorem dX0_countLongest_105 : decode cX0_countLongest 105 = .ok (.iload 6, 2) := by decide +kernel
theorem dX0_countLongest_107 : decode cX0_countLongest 107 = .ok (.iload 9, 2) := by decide +kernel
theorem dX0_countLongest_109 : decode cX0_countLongest 109 = .ok (.invokevirtual 52, 3) := by decide +kernel
theorem dX0_countLongest_112 : decode cX0_countLongest 112 = .ok (.istore 10, 2) := by decide +kernel
theorem dX0_countLongest_114 : decode cX0_countLongest 114 = .ok (.iload 10, 2) := by decide +kernel
theorem dX0_countLongest_116 : decode cX0_countLongest 116 = .ok (.iconst (-1), 1) := by decide +kernel
theorem dX0_countLongest_117 : decode cX0_countLongest 117 = .ok (.if_icmp .eq 42, 3) := by decide +kernel
theorem dX0_countLongest_120 : decode cX0_countLongest 120 = .ok (.iconst 0, 1) := by decide +kernel
theorem dX0_countLongest_121 : decode cX0_countLongest 121 = .ok (.istore 8, 2) := by decide +kernel
theorem dX0_countLongest_123 : decode cX0_countLongest 123 = .ok (.aload_n 0, 1) := by decide +kernel
theorem dX0_countLongest_124 : decode cX0_countLongest 124 = .ok (.getfield 29, 3) := by decide +kernel
theorem dX0_countLongest_127 : decode cX0_countLongest 127 = .ok (.iload 9, 2) := by decide +kernel
theorem dX0_countLongest_129 : decode cX0_countLongest 129 = .ok (.dup2, 1) := by decide +kernel
theorem dX0_countLongest_130 : decode cX0_countLongest 130 = .ok (.laload, 1) := by decide +kernel
theorem dX0_countLongest_131 : decode cX0_countLongest 131 = .ok (.aload_n 2, 1) := by decide +kernel
theorem dX0_countLongest_132 : decode cX0_countLongest 132 = .ok (.getfield 75, 3) := by decide +kernel
theorem dX0_countLongest_135 : decode cX0_countLongest 135 = .ok (.iload 9, 2) := by decide +kernel
theorem dX0_countLongest_137 : decode cX0_countLongest 137 = .ok (.iaload, 1) := by decide +kernel
theorem dX0_countLongest_138 : decode cX0_countLongest 138 = .ok (.iload 7, 2) := by decide +kernel
theorem dX0_countLongest_140 : decode cX0_countLongest 140 = .ok (.iload 10, 2) := by decide +kernel
theorem dX0_countLongest_142 : decode cX0_countLongest 142 = .ok (.iadd, 1) := by decide +kernel
theorem dX0_countLongest_143 : decode cX0_countLongest 143 = .ok (.if_icmp .ne 13, 3) := by decide +kernel
theorem dX0_countLongest_146 : decode cX0_countLongest 146 = .ok (.aload_n 0, 1) := by decide +kernel
theorem dX0_countLongest_147 : decode cX0_countLongest 147 = .ok (.getfield 29, 3) := by decide +kernel
theorem dX0_countLongest_150 : decode cX0_countLongest 150 = .ok (.iload 6, 2) := by decide +kernel
theorem dX0_countLongest_152 : decode cX0_countLongest 152 = .ok (.laload, 1) := by decide +kernel
theorem dX0_countLongest_153 : decode cX0_countLongest 153 = .ok (.goto 4, 3) := by decide +kernel
theorem dX0_countLongest_156 : decode cX0_countLongest 156 = .ok (.lconst 0, 1) := by decide +kernel
theorem dX0_countLongest_157 : decode cX0_countLongest 157 = .ok (.ladd, 1) := by decide +kernel
theorem dX0_countLongest_158 : decode cX0_countLongest 158 = .ok (.lastore, 1) := by decide +kernel
theorem dX0_countLongest_159 : decode cX0_countLongest 159 = .ok (.iinc 9 1, 3) := by decide +kernel
theorem dX0_countLongest_162 : decode cX0_countLongest 162 = .ok (.goto (-67), 3) := by decide +kernel
theorem dX0_countLongest_165 : decode cX0_countLongest 165 = .ok (.lload_n 3, 1) := by decide +kernel
theorem dX0_countLongest_166 : decode cX0_countLongest 166 = .ok (.iload 8, 2) := by decide +kernel
theorem dX0_countLongest_168 : decode cX0_countLongest 168 = .ok (.ifCond .eq 22, 3) := by decide +kernel
theorem dX0_countLongest_171 : decode cX0_countLongest 171 = .ok (.iload 7, 2) := by decide +kernel
theorem dX0_countLongest_173 : decode cX0_countLongest 173 = .ok (.aload_n 2, 1) := by decide +kernel
theorem dX0_countLongest_174 : decode cX0_countLongest 174 = .ok (.getfield 80, 3) := by decide +kernel
theorem dX0_countLongest_177 : decode cX0_countLongest 177 = .ok (.if_icmp .ne 13, 3) := by decide +kernel
theorem dX0_countLongest_180 : decode cX0_countLongest 180 = .ok (.aload_n 0, 1) := by decide +kernel
theorem dX0_countLongest_181 : decode cX0_countLongest 181 = .ok (.getfield 29, 3) := by decide +kernel
theorem dX0_countLongest_184 : decode cX0_countLongest 184 = .ok (.iload 6, 2) := by decide +kernel
theorem dX0_countLongest_186 : decode cX0_countLongest 186 = .ok (.laload, 1) := by decide +kernel
theorem dX0_countLongest_187 : decode cX0_countLongest 187 = .ok (.goto 4, 3) := by decide +kernel
theorem dX0_countLongest_190 : decode cX0_countLongest 190 = .ok (.lconst 0, 1) := by decide +kernel
theorem dX0_countLongest_191 : decode cX0_countLongest 191 = .ok (.ladd, 1) := by decide +kernel
theorem dX0_countLongest_192 : decode cX0_countLongest 192 = .ok (.lstore_n 3, 1) := by decide +kernel
theorem dX0_countLongest_193 : decode cX0_countLongest 193 = .ok (.iinc 5 1, 3) := by decide +kernel
theorem dX0_countLongest_196 : decode cX0_countLongest 196 = .ok (.goto (-148), 3) := by decide +kernel
theorem dX0_countLongest_199 : decode cX0_countLongest 199 = .ok (.lload_n 3, 1) := by decide +kernel
theorem dX0_countLongest_200 : decode cX0_countLongest 200 = .ok (.lreturn, 1) := by decide +kernel
set_option maxRecDepth 20000 in
theorem ggX1_init_X3_init : GoodIn wsX1_init wsX3_init := goodIn_r _ [14, 15, 2, 3, 16, 4, 17, 18, 24, 25, 26] (by decide +kernel) (by decide +kernel)
set_option maxRecDepth 20000 in
theorem gX1_init_X3_init_n27 : GoodIn wsX1_init (wsX3_init) := ggX1_init_X3_init
theorem dX1_init_0 : decode cX1_init 0 = .ok (.aload_n 0, 1) := by decide +kernel
theorem dX1_init_1 : decode cX1_init 1 = .ok (.invokespecial 3, 3) := by decide +kernel
theorem dX1_init_4 : decode cX1_init 4 = .ok (.aload_n 0, 1) := by decide +kernel
theorem dX1_init_5 : decode cX1_init 5 = .ok (.bipush 20, 2) := by decide +kernel
theorem dX1_init_7 : decode cX1_init 7 = .ok (.newarray .int, 2) := by decide +kernel
theorem dX1_init_9 : decode cX1_init 9 = .ok (.putfield 9, 3) := by decide +kernel
theorem dX1_init_12 : decode cX1_init 12 = .ok (.aload_n 0, 1) := by decide +kernel
theorem dX1_init_13 : decode cX1_init 13 = .ok (.bipush 20, 2) := by decide +kernel
theorem dX1_init_15 : decode cX1_init 15 = .ok (.newarray .int, 2) := by decide +kernel
theorem dX1_init_17 : decode cX1_init 17 = .ok (.putfield 15, 3) := by decide +kernel
theorem dX1_init_20 : decode cX1_init 20 = .ok (.aload_n 0, 1) := by decide +kernel
theorem dX1_init_21 : decode cX1_init 21 = .ok (.iconst 0, 1) := by decide +kernel
theorem dX1_init_22 : decode cX1_init 22 = .ok (.putfield 18, 3) := by decide +kernel
theorem dX1_init_25 : decode cX1_init 25 = .ok (.aload_n 0, 1) := by decide +kernel
theorem dX1_init_26 : decode cX1_init 26 = .ok (.bipush 20, 2) := by decide +kernel
theorem dX1_init_28 : decode cX1_init 28 = .ok (.newarray .int, 2) := by decide +kernel
theorem dX1_init_30 : decode cX1_init 30 = .ok (.putfield 22, 3) := by decide +kernel
theorem dX1_init_33 : decode cX1_init 33 = .ok (.aload_n 0, 1) := by decide +kernel
theorem dX1_init_34 : decode cX1_init 34 = .ok (.new 25, 3) := by decide +kernel
theorem dX1_init_37 : decode cX1_init 37 = .ok (.dup, 1) := by decide +kernel
theorem dX1_init_38 : decode cX1_init 38 = .ok (.invokespecial 27, 3) := by decide +kernel
theorem dX1_init_41 : decode cX1_init 41 = .ok (.putfield 28, 3) := by decide +kernel
theorem dX1_init_44 : decode cX1_init 44 = .ok (.return_, 1) := by decide +kernel
set_option maxRecDepth 20000 in
theorem ggX1_find_X1_findAll : GoodIn wsX1_find wsX1_findAll := goodIn_r _ [11, 12, 13, 14, 15, 16, 17, 18, 19, 20, 21, 22, 23, 24, 25, 26, 27, 28, 29, 30, 31, 32, 33, 34, 35, 36, 37, 38, 39, 40, 41, 42, 43, 44, 45, 10, 46, 47, 48, 49, 2, 50, 51, 52, 53, 54, 55, 56, 57, 58, 59, 60, 61, 62, 63, 64, 65, 66, 67, 74, 75, 76, 77, 78, 79, 80, 81, 68, 69, 70, 71, 72, 73] (by decide +kernel) (by decide +kernel)
set_option maxRecDepth 20000 in
theorem gX1_find_X1_findAll : GoodIn wsX1_find (wsV RX1 41 RX1 yX1_findAll wsX1_findAll) := goodIn_app (goodIn_of _ (by decide +kernel)) ggX1_find_X1_findAll
theorem dX1_find_0 : decode cX1_find 0 = .ok (.aload_n 1, 1) := by decide +kernel
theorem dX1_find_1 : decode cX1_find 1 = .ok (.getfield 32, 3) := by decide +kernel
theorem dX1_find_4 : decode cX1_find 4 = .ok (.iconst 0, 1) := by decide +kernel
theorem dX1_find_5 : decode cX1_find 5 = .ok (.aload_n 0, 1) := by decide +kernel
theorem dX1_find_6 : decode cX1_find 6 = .ok (.getfield 22, 3) := by decide +kernel
theorem dX1_find_9 : decode cX1_find 9 = .ok (.iconst 0, 1) := by decide +kernel
theorem dX1_find_10 : decode cX1_find 10 = .ok (.bipush 20, 2) := by decide +kernel
theorem dX1_find_12 : decode cX1_find 12 = .ok (.invokestatic 35, 3) := by decide +kernel
theorem dX1_find_15 : decode cX1_find 15 = .ok (.aload_n 0, 1) := by decide +kernel
theorem dX1_find_16 : decode cX1_find 16 = .ok (.aload_n 1, 1) := by decide +kernel
theorem dX1_find_17 : decode cX1_find 17 = .ok (.invokevirtual 41, 3) := by decide +kernel
theorem dX1_find_20 : decode cX1_find 20 = .ok (.ireturn, 1) := by decide +kernel
set_option maxRecDepth 20000 in
theorem ggX1_findDelayed_X7_has : GoodIn wsX1_findDelayed wsX7_has := goodIn_r _ [11, 12, 69, 70, 71, 72, 73, 74] (by decide +kernel) (by decide +kernel)
set_option maxRecDepth 20000 in
theorem gX1_findDelayed_X7_has : GoodIn wsX1_findDelayed (wsV RX1 45 RX7 yX7_has wsX7_has) := goodIn_app (goodIn_of _ (by decide +kernel)) ggX1_findDelayed_X7_has
set_option maxRecDepth 20000 in
theorem ggX1_findDelayed_X1_findAll : GoodIn wsX1_findDelayed wsX1_findAll := goodIn_r _ [17, 18, 19, 20, 21, 22, 23, 24, 25, 26, 27, 28, 29, 30, 31, 10, 32, 12, 33, 34, 35, 36, 37, 38, 8, 9, 11, 39, 40, 41, 42, 43, 44, 45, 46, 16, 47, 48, 49, 50, 2, 51, 52, 53, 54, 55, 56, 57, 58, 59, 60, 61, 62, 63, 64, 65, 66, 67, 68, 75, 76, 77, 78, 79, 80, 81, 82, 69, 70, 71, 72, 73, 74] (by decide +kernel) (by decide +kernel)
set_option maxRecDepth 20000 in
theorem gX1_findDelayed_X1_findAll : GoodIn wsX1_findDelayed (wsV RX1 41 RX1 yX1_findAll wsX1_findAll) := goodIn_app (goodIn_of _ (by decide +kernel)) ggX1_findDelayed_X1_findAll
theorem dX1_findDelayed_0 : decode cX1_findDelayed 0 = .ok (.aload_n 1, 1) := by decide +kernel
theorem dX1_findDelayed_1 : decode cX1_findDelayed 1 = .ok (.getfield 32, 3) := by decide +kernel
theorem dX1_findDelayed_4 : decode cX1_findDelayed 4 = .ok (.iconst 0, 1) := by decide +kernel
theorem dX1_findDelayed_5 : decode cX1_findDelayed 5 = .ok (.aload_n 0, 1) := by decide +kernel
theorem dX1_findDelayed_6 : decode cX1_findDelayed 6 = .ok (.getfield 22, 3) := by decide +kernel
theorem dX1_findDelayed_9 : decode cX1_findDelayed 9 = .ok (.iconst 0, 1) := by decide +kernel
theorem dX1_findDelayed_10 : decode cX1_findDelayed 10 = .ok (.bipush 20, 2) := by decide +kernel
theorem dX1_findDelayed_12 : decode cX1_findDelayed 12 = .ok (.invokestatic 35, 3) := by decide +kernel
theorem dX1_findDelayed_15 : decode cX1_findDelayed 15 = .ok (.aload_n 1, 1) := by decide +kernel
theorem dX1_findDelayed_16 : decode cX1_findDelayed 16 = .ok (.iload_n 2, 1) := by decide +kernel
theorem dX1_findDelayed_17 : decode cX1_findDelayed 17 = .ok (.invokevirtual 45, 3) := by decide +kernel
theorem dX1_findDelayed_20 : decode cX1_findDelayed 20 = .ok (.ifCond .eq 13, 3) := by decide +kernel
theorem dX1_findDelayed_23 : decode cX1_findDelayed 23 = .ok (.aload_n 0, 1) := by decide +kernel
theorem dX1_findDelayed_24 : decode cX1_findDelayed 24 = .ok (.getfield 22, 3) := by decide +kernel
theorem dX1_findDelayed_27 : decode cX1_findDelayed 27 = .ok (.iload_n 2, 1) := by decide +kernel
theorem dX1_findDelayed_28 : decode cX1_findDelayed 28 = .ok (.dup2, 1) := by decide +kernel
theorem dX1_findDelayed_29 : decode cX1_findDelayed 29 = .ok (.iaload, 1) := by decide +kernel
theorem dX1_findDelayed_30 : decode cX1_findDelayed 30 = .ok (.iload_n 3, 1) := by decide +kernel
theorem dX1_findDelayed_31 : decode cX1_findDelayed 31 = .ok (.iadd, 1) := by decide +kernel
theorem dX1_findDelayed_32 : decode cX1_findDelayed 32 = .ok (.iastore, 1) := by decide +kernel
theorem dX1_findDelayed_33 : decode cX1_findDelayed 33 = .ok (.aload_n 0, 1) := by decide +kernel
theorem dX1_findDelayed_34 : decode cX1_findDelayed 34 = .ok (.aload_n 1, 1) := by decide +kernel
theorem dX1_findDelayed_35 : decode cX1_findDelayed 35 = .ok (.invokevirtual 41, 3) := by decide +kernel
theorem dX1_findDelayed_38 : decode cX1_findDelayed 38 = .ok (.ireturn, 1) := by decide +kernel
theorem dX1_slackAt_0 : decode cX1_slackAt 0 = .ok (.iload_n 1, 1) := by decide +kernel
theorem dX1_slackAt_1 : decode cX1_slackAt 1 = .ok (.ifCond .lt 25, 3) := by decide +kernel
theorem dX1_slackAt_4 : decode cX1_slackAt 4 = .ok (.iload_n 1, 1) := by decide +kernel
theorem dX1_slackAt_5 : decode cX1_slackAt 5 = .ok (.bipush 20, 2) := by decide +kernel
theorem dX1_slackAt_7 : decode cX1_slackAt 7 = .ok (.if_icmp .ge 19, 3) := by decide +kernel
theorem dX1_slackAt_10 : decode cX1_slackAt 10 = .ok (.aload_n 0, 1) := by decide +kernel
theorem dX1_slackAt_11 : decode cX1_slackAt 11 = .ok (.getfield 15, 3) := by decide +kernel
theorem dX1_slackAt_14 : decode cX1_slackAt 14 = .ok (.iload_n 1, 1) := by decide +kernel
theorem dX1_slackAt_15 : decode cX1_slackAt 15 = .ok (.iaload, 1) := by decide +kernel
theorem dX1_slackAt_16 : decode cX1_slackAt 16 = .ok (.aload_n 0, 1) := by decide +kernel
theorem dX1_slackAt_17 : decode cX1_slackAt 17 = .ok (.getfield 9, 3) := by decide +kernel
theorem dX1_slackAt_20 : decode cX1_slackAt 20 = .ok (.iload_n 1, 1) := by decide +kernel
theorem dX1_slackAt_21 : decode cX1_slackAt 21 = .ok (.iaload, 1) := by decide +kernel
theorem dX1_slackAt_22 : decode cX1_slackAt 22 = .ok (.isub, 1) := by decide +kernel
theorem dX1_slackAt_23 : decode cX1_slackAt 23 = .ok (.goto 4, 3) := by decide +kernel
theorem dX1_slackAt_26 : decode cX1_slackAt 26 = .ok (.iconst 0, 1) := by decide +kernel
theorem dX1_slackAt_27 : decode cX1_slackAt 27 = .ok (.ireturn, 1) := by decide +kernel
set_option maxRecDepth 20000 in
theorem ggX1_freeSlackAt_X7_has : GoodIn wsX1_freeSlackAt wsX7_has := goodIn_r _ [13, 14, 26, 27, 28, 29, 30, 31] (by decide +kernel) (by decide +kernel)
set_option maxRecDepth 20000 in
theorem gX1_freeSlackAt_X7_has : GoodIn wsX1_freeSlackAt (wsV RX1 45 RX7 yX7_has wsX7_has) := goodIn_app (goodIn_of _ (by decide +kernel)) ggX1_freeSlackAt_X7_has
set_option maxRecDepth 20000 in
theorem ggX1_freeSlackAt_X7_lag : GoodIn wsX1_freeSlackAt wsX7_lag := goodIn_r _ [18, 19, 20, 10, 11, 12, 13, 14, 26, 27, 28, 29, 30, 31] (by decide +kernel) (by decide +kernel)
set_option maxRecDepth 20000 in
theorem gX1_freeSlackAt_X7_lag : GoodIn wsX1_freeSlackAt (wsV RX1 52 RX7 yX7_lag wsX7_lag) := goodIn_app (goodIn_of _ (by decide +kernel)) ggX1_freeSlackAt_X7_lag
theorem dX1_freeSlackAt_0 : decode cX1_freeSlackAt 0 = .ok (.aload_n 1, 1) := by decide +kernel
theorem dX1_freeSlackAt_1 : decode cX1_freeSlackAt 1 = .ok (.iload_n 2, 1) := by decide +kernel
theorem dX1_freeSlackAt_2 : decode cX1_freeSlackAt 2 = .ok (.invokevirtual 45, 3) := by decide +kernel
theorem dX1_freeSlackAt_5 : decode cX1_freeSlackAt 5 = .ok (.ifCond .ne 5, 3) := by decide +kernel
theorem dX1_freeSlackAt_8 : decode cX1_freeSlackAt 8 = .ok (.iconst 0, 1) := by decide +kernel
theorem dX1_freeSlackAt_9 : decode cX1_freeSlackAt 9 = .ok (.ireturn, 1) := by decide +kernel
theorem dX1_freeSlackAt_10 : decode cX1_freeSlackAt 10 = .ok (.aload_n 0, 1) := by decide +kernel
theorem dX1_freeSlackAt_11 : decode cX1_freeSlackAt 11 = .ok (.getfield 9, 3) := by decide +kernel
theorem dX1_freeSlackAt_14 : decode cX1_freeSlackAt 14 = .ok (.iload_n 2, 1) := by decide +kernel
theorem dX1_freeSlackAt_15 : decode cX1_freeSlackAt 15 = .ok (.iaload, 1) := by decide +kernel
theorem dX1_freeSlackAt_16 : decode cX1_freeSlackAt 16 = .ok (.aload_n 0, 1) := by decide +kernel
theorem dX1_freeSlackAt_17 : decode cX1_freeSlackAt 17 = .ok (.getfield 22, 3) := by decide +kernel
theorem dX1_freeSlackAt_20 : decode cX1_freeSlackAt 20 = .ok (.iload_n 2, 1) := by decide +kernel
theorem dX1_freeSlackAt_21 : decode cX1_freeSlackAt 21 = .ok (.iaload, 1) := by decide +kernel
theorem dX1_freeSlackAt_22 : decode cX1_freeSlackAt 22 = .ok (.iadd, 1) := by decide +kernel
theorem dX1_freeSlackAt_23 : decode cX1_freeSlackAt 23 = .ok (.istore_n 3, 1) := by decide +kernel
theorem dX1_freeSlackAt_24 : decode cX1_freeSlackAt 24 = .ok (.aload_n 0, 1) := by decide +kernel
theorem dX1_freeSlackAt_25 : decode cX1_freeSlackAt 25 = .ok (.getfield 18, 3) := by decide +kernel
theorem dX1_freeSlackAt_28 : decode cX1_freeSlackAt 28 = .ok (.iload_n 3, 1) := by decide +kernel
theorem dX1_freeSlackAt_29 : decode cX1_freeSlackAt 29 = .ok (.isub, 1) := by decide +kernel
theorem dX1_freeSlackAt_30 : decode cX1_freeSlackAt 30 = .ok (.istore 4, 2) := by decide +kernel
theorem dX1_freeSlackAt_32 : decode cX1_freeSlackAt 32 = .ok (.iconst 0, 1) := by decide +kernel
theorem dX1_freeSlackAt_33 : decode cX1_freeSlackAt 33 = .ok (.istore 5, 2) := by decide +kernel
theorem dX1_freeSlackAt_35 : decode cX1_freeSlackAt 35 = .ok (.iload 5, 2) := by decide +kernel
theorem dX1_freeSlackAt_37 : decode cX1_freeSlackAt 37 = .ok (.aload_n 1, 1) := by decide +kernel
theorem dX1_freeSlackAt_38 : decode cX1_freeSlackAt 38 = .ok (.getfield 49, 3) := by decide +kernel
theorem dX1_freeSlackAt_41 : decode cX1_freeSlackAt 41 = .ok (.if_icmp .ge 43, 3) := by decide +kernel
theorem dX1_freeSlackAt_44 : decode cX1_freeSlackAt 44 = .ok (.aload_n 1, 1) := by decide +kernel
theorem dX1_freeSlackAt_45 : decode cX1_freeSlackAt 45 = .ok (.iload_n 2, 1) := by decide +kernel
theorem dX1_freeSlackAt_46 : decode cX1_freeSlackAt 46 = .ok (.iload 5, 2) := by decide +kernel
theorem dX1_freeSlackAt_48 : decode cX1_freeSlackAt 48 = .ok (.invokevirtual 52, 3) := by decide +kernel
theorem dX1_freeSlackAt_51 : decode cX1_freeSlackAt 51 = .ok (.istore 6, 2) := by decide +kernel
theorem dX1_freeSlackAt_53 : decode cX1_freeSlackAt 53 = .ok (.iload 6, 2) := by decide +kernel
theorem dX1_freeSlackAt_55 : decode cX1_freeSlackAt 55 = .ok (.iconst (-1), 1) := by decide +kernel
theorem dX1_freeSlackAt_56 : decode cX1_freeSlackAt 56 = .ok (.if_icmp .eq 22, 3) := by decide +kernel
theorem dX1_freeSlackAt_59 : decode cX1_freeSlackAt 59 = .ok (.iload 4, 2) := by decide +kernel
theorem dX1_freeSlackAt_61 : decode cX1_freeSlackAt 61 = .ok (.aload_n 0, 1) := by decide +kernel
theorem dX1_freeSlackAt_62 : decode cX1_freeSlackAt 62 = .ok (.getfield 9, 3) := by decide +kernel
theorem dX1_freeSlackAt_65 : decode cX1_freeSlackAt 65 = .ok (.iload 5, 2) := by decide +kernel
theorem dX1_freeSlackAt_67 : decode cX1_freeSlackAt 67 = .ok (.iaload, 1) := by decide +kernel
theorem dX1_freeSlackAt_68 : decode cX1_freeSlackAt 68 = .ok (.iload 6, 2) := by decide +kernel
theorem dX1_freeSlackAt_70 : decode cX1_freeSlackAt 70 = .ok (.isub, 1) := by decide +kernel
theorem dX1_freeSlackAt_71 : decode cX1_freeSlackAt 71 = .ok (.iload_n 3, 1) := by decide +kernel
theorem dX1_freeSlackAt_72 : decode cX1_freeSlackAt 72 = .ok (.isub, 1) := by decide +kernel
theorem dX1_freeSlackAt_73 : decode cX1_freeSlackAt 73 = .ok (.invokestatic 56, 3) := by decide +kernel
theorem dX1_freeSlackAt_76 : decode cX1_freeSlackAt 76 = .ok (.istore 4, 2) := by decide +kernel
theorem dX1_freeSlackAt_78 : decode cX1_freeSlackAt 78 = .ok (.iinc 5 1, 3) := by decide +kernel
theorem dX1_freeSlackAt_81 : decode cX1_freeSlackAt 81 = .ok (.goto (-46), 3) := by decide +kernel
theorem dX1_freeSlackAt_84 : decode cX1_freeSlackAt 84 = .ok (.iload 4, 2) := by decide +kernel
theorem dX1_freeSlackAt_86 : decode cX1_freeSlackAt 86 = .ok (.ireturn, 1) := by decide +kernel
set_option maxRecDepth 20000 in
theorem ggX1_findAll_X3_sort : GoodIn wsX1_findAll wsX3_sort := goodIn_r _ [7, 8, 9, 10, 11, 12, 13, 14, 15, 16, 17, 18, 19, 20, 21, 22, 23, 24, 25, 26, 27, 28, 29, 6, 30, 31, 64, 65, 66, 67, 68, 69, 70, 71, 72] (by decide +kernel) (by decide +kernel)
set_option maxRecDepth 20000 in
theorem gX1_findAll_X3_sort : GoodIn wsX1_findAll (wsV RX1 61 RX3 yX3_sort wsX3_sort) := goodIn_app (goodIn_of _ (by decide +kernel)) ggX1_findAll_X3_sort
set_option maxRecDepth 20000 in
theorem ggX1_findAll_X1_findEarliest : GoodIn wsX1_findAll wsX1_findEarliest := goodIn_r _ [36, 37, 2, 1, 38, 39, 40, 41, 42, 43, 44, 45, 46, 47, 48, 49, 50, 19, 20, 15, 21, 22, 23, 24, 25, 26, 17, 59, 60, 61, 62, 63, 64, 65, 66, 67, 68, 69, 70, 71, 72] (by decide +kernel) (by decide +kernel)
set_option maxRecDepth 20000 in
theorem gX1_findAll_X1_findEarliest : GoodIn wsX1_findAll (wsV RX1 65 RX1 yX1_findEarliest wsX1_findEarliest) := goodIn_app (goodIn_of _ (by decide +kernel)) ggX1_findAll_X1_findEarliest
set_option maxRecDepth 20000 in
theorem ggX1_findAll_X1_findLatest : GoodIn wsX1_findAll wsX1_findLatest := goodIn_r _ [54, 1, 38, 39, 2, 45, 55, 56, 57, 43, 58, 40, 50, 19, 20, 15, 21, 22, 23, 24, 25, 26, 17, 59, 60, 61, 62, 63, 64, 65, 66, 67, 68, 69, 70, 71, 72] (by decide +kernel) (by decide +kernel)
set_option maxRecDepth 20000 in
theorem gX1_findAll_X1_findLatest : GoodIn wsX1_findAll (wsV RX1 68 RX1 yX1_findLatest wsX1_findLatest) := goodIn_app (goodIn_of _ (by decide +kernel)) ggX1_findAll_X1_findLatest
theorem dX1_findAll_0 : decode cX1_findAll 0 = .ok (.aload_n 0, 1) := by decide +kernel
theorem dX1_findAll_1 : decode cX1_findAll 1 = .ok (.getfield 28, 3) := by decide +kernel
theorem dX1_findAll_4 : decode cX1_findAll 4 = .ok (.aload_n 1, 1) := by decide +kernel
theorem dX1_findAll_5 : decode cX1_findAll 5 = .ok (.invokevirtual 61, 3) := by decide +kernel
theorem dX1_findAll_8 : decode cX1_findAll 8 = .ok (.aload_n 0, 1) := by decide +kernel
theorem dX1_findAll_9 : decode cX1_findAll 9 = .ok (.aload_n 1, 1) := by decide +kernel
theorem dX1_findAll_10 : decode cX1_findAll 10 = .ok (.invokevirtual 65, 3) := by decide +kernel
theorem dX1_findAll_13 : decode cX1_findAll 13 = .ok (.aload_n 0, 1) := by decide +kernel
theorem dX1_findAll_14 : decode cX1_findAll 14 = .ok (.aload_n 1, 1) := by decide +kernel
theorem dX1_findAll_15 : decode cX1_findAll 15 = .ok (.invokevirtual 68, 3) := by decide +kernel
theorem dX1_findAll_18 : decode cX1_findAll 18 = .ok (.aload_n 0, 1) := by decide +kernel
theorem dX1_findAll_19 : decode cX1_findAll 19 = .ok (.getfield 18, 3) := by decide +kernel
theorem dX1_findAll_22 : decode cX1_findAll 22 = .ok (.ireturn, 1) := by decide +kernel
set_option maxRecDepth 20000 in
theorem ggX1_findEarliest_J7_fill_53178 : GoodIn wsX1_findEarliest wsJ7_fill_53178 := goodIn_r _ [15] (by decide +kernel) (by decide +kernel)
set_option maxRecDepth 20000 in
theorem gX1_findEarliest_J7_fill_53178 : GoodIn wsX1_findEarliest (va_wsS RX1 71 yJ7_fill_53178 wsJ7_fill_53178) := goodIn_app (goodIn_of _ (by decide +kernel)) ggX1_findEarliest_J7_fill_53178
set_option maxRecDepth 20000 in
theorem ggX1_findEarliest_X7_lag : GoodIn wsX1_findEarliest wsX7_lag := goodIn_r _ [20, 21, 22, 23, 24, 19, 25, 26, 35, 36, 37, 38, 39, 40] (by decide +kernel) (by decide +kernel)
set_option maxRecDepth 20000 in
theorem gX1_findEarliest_X7_lag : GoodIn wsX1_findEarliest (wsV RX1 52 RX7 yX7_lag wsX7_lag) := goodIn_app (goodIn_of _ (by decide +kernel)) ggX1_findEarliest_X7_lag
theorem dX1_findEarliest_0 : decode cX1_findEarliest 0 = .ok (.aload_n 0, 1) := by decide +kernel
theorem dX1_findEarliest_1 : decode cX1_findEarliest 1 = .ok (.getfield 9, 3) := by decide +kernel
theorem dX1_findEarliest_4 : decode cX1_findEarliest 4 = .ok (.iconst 0, 1) := by decide +kernel
theorem dX1_findEarliest_5 : decode cX1_findEarliest 5 = .ok (.invokestatic 71, 3) := by decide +kernel
theorem dX1_findEarliest_8 : decode cX1_findEarliest 8 = .ok (.aload_n 0, 1) := by decide +kernel
theorem dX1_findEarliest_9 : decode cX1_findEarliest 9 = .ok (.iconst 0, 1) := by decide +kernel
theorem dX1_findEarliest_10 : decode cX1_findEarliest 10 = .ok (.putfield 18, 3) := by decide +kernel
theorem dX1_findEarliest_13 : decode cX1_findEarliest 13 = .ok (.iconst 0, 1) := by decide +kernel
theorem dX1_findEarliest_14 : decode cX1_findEarliest 14 = .ok (.istore_n 2, 1) := by decide +kernel
theorem dX1_findEarliest_15 : decode cX1_findEarliest 15 = .ok (.iload_n 2, 1) := by decide +kernel
theorem dX1_findEarliest_16 : decode cX1_findEarliest 16 = .ok (.aload_n 0, 1) := by decide +kernel
theorem dX1_findEarliest_17 : decode cX1_findEarliest 17 = .ok (.getfield 28, 3) := by decide +kernel
theorem dX1_findEarliest_20 : decode cX1_findEarliest 20 = .ok (.getfield 77, 3) := by decide +kernel
theorem dX1_findEarliest_23 : decode cX1_findEarliest 23 = .ok (.if_icmp .ge 102, 3) := by decide +kernel
theorem dX1_findEarliest_26 : decode cX1_findEarliest 26 = .ok (.aload_n 0, 1) := by decide +kernel
theorem dX1_findEarliest_27 : decode cX1_findEarliest 27 = .ok (.getfield 28, 3) := by decide +kernel
theorem dX1_findEarliest_30 : decode cX1_findEarliest 30 = .ok (.getfield 80, 3) := by decide +kernel
theorem dX1_findEarliest_33 : decode cX1_findEarliest 33 = .ok (.iload_n 2, 1) := by decide +kernel
theorem dX1_findEarliest_34 : decode cX1_findEarliest 34 = .ok (.iaload, 1) := by decide +kernel
theorem dX1_findEarliest_35 : decode cX1_findEarliest 35 = .ok (.istore_n 3, 1) := by decide +kernel
theorem dX1_findEarliest_36 : decode cX1_findEarliest 36 = .ok (.aload_n 0, 1) := by decide +kernel
theorem dX1_findEarliest_37 : decode cX1_findEarliest 37 = .ok (.getfield 9, 3) := by decide +kernel
theorem dX1_findEarliest_40 : decode cX1_findEarliest 40 = .ok (.iload_n 3, 1) := by decide +kernel
theorem dX1_findEarliest_41 : decode cX1_findEarliest 41 = .ok (.iaload, 1) := by decide +kernel
theorem dX1_findEarliest_42 : decode cX1_findEarliest 42 = .ok (.aload_n 0, 1) := by decide +kernel
theorem dX1_findEarliest_43 : decode cX1_findEarliest 43 = .ok (.getfield 22, 3) := by decide +kernel
theorem dX1_findEarliest_46 : decode cX1_findEarliest 46 = .ok (.iload_n 3, 1) := by decide +kernel
theorem dX1_findEarliest_47 : decode cX1_findEarliest 47 = .ok (.iaload, 1) := by decide +kernel
theorem dX1_findEarliest_48 : decode cX1_findEarliest 48 = .ok (.iadd, 1) := by decide +kernel
theorem dX1_findEarliest_49 : decode cX1_findEarliest 49 = .ok (.istore 4, 2) := by decide +kernel
theorem dX1_findEarliest_51 : decode cX1_findEarliest 51 = .ok (.aload_n 0, 1) := by decide +kernel
theorem dX1_findEarliest_52 : decode cX1_findEarliest 52 = .ok (.aload_n 0, 1) := by decide +kernel
theorem dX1_findEarliest_53 : decode cX1_findEarliest 53 = .ok (.getfield 18, 3) := by decide +kernel
theorem dX1_findEarliest_56 : decode cX1_findEarliest 56 = .ok (.iload 4, 2) := by decide +kernel
theorem dX1_findEarliest_58 : decode cX1_findEarliest 58 = .ok (.invokestatic 82, 3) := by decide +kernel
theorem dX1_findEarliest_61 : decode cX1_findEarliest 61 = .ok (.putfield 18, 3) := by decide +kernel
theorem dX1_findEarliest_64 : decode cX1_findEarliest 64 = .ok (.iconst 0, 1) := by decide +kernel
theorem dX1_findEarliest_65 : decode cX1_findEarliest 65 = .ok (.istore 5, 2) := by decide +kernel
theorem dX1_findEarliest_67 : decode cX1_findEarliest 67 = .ok (.iload 5, 2) := by decide +kernel
theorem dX1_findEarliest_69 : decode cX1_findEarliest 69 = .ok (.aload_n 1, 1) := by decide +kernel
theorem dX1_findEarliest_70 : decode cX1_findEarliest 70 = .ok (.getfield 49, 3) := by decide +kernel
theorem dX1_findEarliest_73 : decode cX1_findEarliest 73 = .ok (.if_icmp .ge 46, 3) := by decide +kernel
theorem dX1_findEarliest_76 : decode cX1_findEarliest 76 = .ok (.aload_n 1, 1) := by decide +kernel
theorem dX1_findEarliest_77 : decode cX1_findEarliest 77 = .ok (.iload_n 3, 1) := by decide +kernel
theorem dX1_findEarliest_78 : decode cX1_findEarliest 78 = .ok (.iload 5, 2) := by decide +kernel
theorem dX1_findEarliest_80 : decode cX1_findEarliest 80 = .ok (.invokevirtual 52, 3) := by decide +kernel
theorem dX1_findEarliest_83 : decode cX1_findEarliest 83 = .ok (.istore 6, 2) := by decide +kernel
theorem dX1_findEarliest_85 : decode cX1_findEarliest 85 = .ok (.iload 6, 2) := by decide +kernel
theorem dX1_findEarliest_87 : decode cX1_findEarliest 87 = .ok (.iconst (-1), 1) := by decide +kernel
theorem dX1_findEarliest_88 : decode cX1_findEarliest 88 = .ok (.if_icmp .eq 25, 3) := by decide +kernel
theorem dX1_findEarliest_91 : decode cX1_findEarliest 91 = .ok (.aload_n 0, 1) := by decide +kernel
theorem dX1_findEarliest_92 : decode cX1_findEarliest 92 = .ok (.getfield 9, 3) := by decide +kernel
theorem dX1_findEarliest_95 : decode cX1_findEarliest 95 = .ok (.iload 5, 2) := by decide +kernel
theorem dX1_findEarliest_97 : decode cX1_findEarliest 97 = .ok (.aload_n 0, 1) := by decide +kernel
theorem dX1_findEarliest_98 : decode cX1_findEarliest 98 = .ok (.getfield 9, 3) := by decide +kernel
theorem dX1_findEarliest_101 : decode cX1_findEarliest 101 = .ok (.iload 5, 2) := by decide +kernel
theorem dX1_findEarliest_103 : decode cX1_findEarliest 103 = .ok (.iaload, 1) := by decide +kernel
theorem dX1_findEarliest_104 : decode cX1_findEarliest 104 = .ok (.iload 4, 2) := by decide +kernel
theorem dX1_findEarliest_106 : decode cX1_findEarliest 106 = .ok (.iload 6, 2) := by decide +kernel
theorem dX1_findEarliest_108 : decode cX1_findEarliest 108 = .ok (.iadd, 1) := by decide +kernel
theorem dX1_findEarliest_109 : decode cX1_findEarliest 109 = .ok (.invokestatic 82, 3) := by decide +kernel
theorem dX1_findEarliest_112 : decode cX1_findEarliest 112 = .ok (.iastore, 1) := by decide +kernel
theorem dX1_findEarliest_113 : decode cX1_findEarliest 113 = .ok (.iinc 5 1, 3) := by decide +kernel
theorem dX1_findEarliest_116 : decode cX1_findEarliest 116 = .ok (.goto (-49), 3) := by decide +kernel
theorem dX1_findEarliest_119 : decode cX1_findEarliest 119 = .ok (.iinc 2 1, 3) := by decide +kernel
theorem dX1_findEarliest_122 : decode cX1_findEarliest 122 = .ok (.goto (-107), 3) := by decide +kernel
theorem dX1_findEarliest_125 : decode cX1_findEarliest 125 = .ok (.return_, 1) := by decide +kernel
set_option maxRecDepth 20000 in
theorem ggX1_findLatest_X7_lag : GoodIn wsX1_findLatest wsX7_lag := goodIn_r _ [16, 17, 18, 19, 20, 15, 21, 22, 31, 32, 33, 34, 35, 36] (by decide +kernel) (by decide +kernel)
set_option maxRecDepth 20000 in
theorem gX1_findLatest_X7_lag : GoodIn wsX1_findLatest (wsV RX1 52 RX7 yX7_lag wsX7_lag) := goodIn_app (goodIn_of _ (by decide +kernel)) ggX1_findLatest_X7_lag
theorem dX1_findLatest_0 : decode cX1_findLatest 0 = .ok (.aload_n 0, 1) := by decide +kernel
theorem dX1_findLatest_1 : decode cX1_findLatest 1 = .ok (.getfield 28, 3) := by decide +kernel
theorem dX1_findLatest_4 : decode cX1_findLatest 4 = .ok (.getfield 77, 3) := by decide +kernel
theorem dX1_findLatest_7 : decode cX1_findLatest 7 = .ok (.iconst 1, 1) := by decide +kernel
theorem dX1_findLatest_8 : decode cX1_findLatest 8 = .ok (.isub, 1) := by decide +kernel
theorem dX1_findLatest_9 : decode cX1_findLatest 9 = .ok (.istore_n 2, 1) := by decide +kernel
theorem dX1_findLatest_10 : decode cX1_findLatest 10 = .ok (.iload_n 2, 1) := by decide +kernel
theorem dX1_findLatest_11 : decode cX1_findLatest 11 = .ok (.ifCond .lt 90, 3) := by decide +kernel
theorem dX1_findLatest_14 : decode cX1_findLatest 14 = .ok (.aload_n 0, 1) := by decide +kernel
theorem dX1_findLatest_15 : decode cX1_findLatest 15 = .ok (.getfield 28, 3) := by decide +kernel
theorem dX1_findLatest_18 : decode cX1_findLatest 18 = .ok (.getfield 80, 3) := by decide +kernel
theorem dX1_findLatest_21 : decode cX1_findLatest 21 = .ok (.iload_n 2, 1) := by decide +kernel
theorem dX1_findLatest_22 : decode cX1_findLatest 22 = .ok (.iaload, 1) := by decide +kernel
theorem dX1_findLatest_23 : decode cX1_findLatest 23 = .ok (.istore_n 3, 1) := by decide +kernel
theorem dX1_findLatest_24 : decode cX1_findLatest 24 = .ok (.aload_n 0, 1) := by decide +kernel
theorem dX1_findLatest_25 : decode cX1_findLatest 25 = .ok (.getfield 18, 3) := by decide +kernel
theorem dX1_findLatest_28 : decode cX1_findLatest 28 = .ok (.istore 4, 2) := by decide +kernel
theorem dX1_findLatest_30 : decode cX1_findLatest 30 = .ok (.iconst 0, 1) := by decide +kernel
theorem dX1_findLatest_31 : decode cX1_findLatest 31 = .ok (.istore 5, 2) := by decide +kernel
theorem dX1_findLatest_33 : decode cX1_findLatest 33 = .ok (.iload 5, 2) := by decide +kernel
theorem dX1_findLatest_35 : decode cX1_findLatest 35 = .ok (.aload_n 1, 1) := by decide +kernel
theorem dX1_findLatest_36 : decode cX1_findLatest 36 = .ok (.getfield 49, 3) := by decide +kernel
theorem dX1_findLatest_39 : decode cX1_findLatest 39 = .ok (.if_icmp .ge 41, 3) := by decide +kernel
theorem dX1_findLatest_42 : decode cX1_findLatest 42 = .ok (.aload_n 1, 1) := by decide +kernel
theorem dX1_findLatest_43 : decode cX1_findLatest 43 = .ok (.iload_n 3, 1) := by decide +kernel
theorem dX1_findLatest_44 : decode cX1_findLatest 44 = .ok (.iload 5, 2) := by decide +kernel
theorem dX1_findLatest_46 : decode cX1_findLatest 46 = .ok (.invokevirtual 52, 3) := by decide +kernel
theorem dX1_findLatest_49 : decode cX1_findLatest 49 = .ok (.istore 6, 2) := by decide +kernel
theorem dX1_findLatest_51 : decode cX1_findLatest 51 = .ok (.iload 6, 2) := by decide +kernel
theorem dX1_findLatest_53 : decode cX1_findLatest 53 = .ok (.iconst (-1), 1) := by decide +kernel
theorem dX1_findLatest_54 : decode cX1_findLatest 54 = .ok (.if_icmp .eq 20, 3) := by decide +kernel
theorem dX1_findLatest_57 : decode cX1_findLatest 57 = .ok (.iload 4, 2) := by decide +kernel
theorem dX1_findLatest_59 : decode cX1_findLatest 59 = .ok (.aload_n 0, 1) := by decide +kernel
theorem dX1_findLatest_60 : decode cX1_findLatest 60 = .ok (.getfield 15, 3) := by decide +kernel
theorem dX1_findLatest_63 : decode cX1_findLatest 63 = .ok (.iload 5, 2) := by decide +kernel
theorem dX1_findLatest_65 : decode cX1_findLatest 65 = .ok (.iaload, 1) := by decide +kernel
theorem dX1_findLatest_66 : decode cX1_findLatest 66 = .ok (.iload 6, 2) := by decide +kernel
theorem dX1_findLatest_68 : decode cX1_findLatest 68 = .ok (.isub, 1) := by decide +kernel
theorem dX1_findLatest_69 : decode cX1_findLatest 69 = .ok (.invokestatic 56, 3) := by decide +kernel
theorem dX1_findLatest_72 : decode cX1_findLatest 72 = .ok (.istore 4, 2) := by decide +kernel
theorem dX1_findLatest_74 : decode cX1_findLatest 74 = .ok (.iinc 5 1, 3) := by decide +kernel
theorem dX1_findLatest_77 : decode cX1_findLatest 77 = .ok (.goto (-44), 3) := by decide +kernel
theorem dX1_findLatest_80 : decode cX1_findLatest 80 = .ok (.aload_n 0, 1) := by decide +kernel
theorem dX1_findLatest_81 : decode cX1_findLatest 81 = .ok (.getfield 15, 3) := by decide +kernel
theorem dX1_findLatest_84 : decode cX1_findLatest 84 = .ok (.iload_n 3, 1) := by decide +kernel
theorem dX1_findLatest_85 : decode cX1_findLatest 85 = .ok (.iload 4, 2) := by decide +kernel
theorem dX1_findLatest_87 : decode cX1_findLatest 87 = .ok (.aload_n 0, 1) := by decide +kernel
theorem dX1_findLatest_88 : decode cX1_findLatest 88 = .ok (.getfield 22, 3) := by decide +kernel
theorem dX1_findLatest_91 : decode cX1_findLatest 91 = .ok (.iload_n 3, 1) := by decide +kernel
theorem dX1_findLatest_92 : decode cX1_findLatest 92 = .ok (.iaload, 1) := by decide +kernel
theorem dX1_findLatest_93 : decode cX1_findLatest 93 = .ok (.isub, 1) := by decide +kernel
theorem dX1_findLatest_94 : decode cX1_findLatest 94 = .ok (.iastore, 1) := by decide +kernel
theorem dX1_findLatest_95 : decode cX1_findLatest 95 = .ok (.iinc 2 (-1), 3) := by decide +kernel
theorem dX1_findLatest_98 : decode cX1_findLatest 98 = .ok (.goto (-88), 3) := by decide +kernel
theorem dX1_findLatest_101 : decode cX1_findLatest 101 = .ok (.return_, 1) := by decide +kernel
set_option maxRecDepth 20000 in
theorem ggX2_init_X7_init : GoodIn wsX2_init wsX7_init := goodIn_r _ [12, 13, 2, 3, 14, 15, 16, 17, 18, 19, 20, 21, 22, 23, 24, 28, 29, 30, 31, 32, 33] (by decide +kernel) (by decide +kernel)
set_option maxRecDepth 20000 in
theorem gX2_init_X7_init : GoodIn wsX2_init (wsX7_init) := ggX2_init_X7_init
theorem dX2_init_0 : decode cX2_init 0 = .ok (.aload_n 0, 1) := by decide +kernel
theorem dX2_init_1 : decode cX2_init 1 = .ok (.invokespecial 3, 3) := by decide +kernel
theorem dX2_init_4 : decode cX2_init 4 = .ok (.aload_n 0, 1) := by decide +kernel
theorem dX2_init_5 : decode cX2_init 5 = .ok (.iconst 0, 1) := by decide +kernel
theorem dX2_init_6 : decode cX2_init 6 = .ok (.putfield 9, 3) := by decide +kernel
theorem dX2_init_9 : decode cX2_init 9 = .ok (.aload_n 0, 1) := by decide +kernel
theorem dX2_init_10 : decode cX2_init 10 = .ok (.iconst 0, 1) := by decide +kernel
theorem dX2_init_11 : decode cX2_init 11 = .ok (.putfield 15, 3) := by decide +kernel
theorem dX2_init_14 : decode cX2_init 14 = .ok (.aload_n 0, 1) := by decide +kernel
theorem dX2_init_15 : decode cX2_init 15 = .ok (.iconst 5, 1) := by decide +kernel
theorem dX2_init_16 : decode cX2_init 16 = .ok (.anewarray 18, 3) := by decide +kernel
theorem dX2_init_19 : decode cX2_init 19 = .ok (.putfield 20, 3) := by decide +kernel
theorem dX2_init_22 : decode cX2_init 22 = .ok (.iconst 0, 1) := by decide +kernel
theorem dX2_init_23 : decode cX2_init 23 = .ok (.istore_n 1, 1) := by decide +kernel
theorem dX2_init_24 : decode cX2_init 24 = .ok (.iload_n 1, 1) := by decide +kernel
theorem dX2_init_25 : decode cX2_init 25 = .ok (.iconst 5, 1) := by decide +kernel
theorem dX2_init_26 : decode cX2_init 26 = .ok (.if_icmp .ge 22, 3) := by decide +kernel
theorem dX2_init_29 : decode cX2_init 29 = .ok (.aload_n 0, 1) := by decide +kernel
theorem dX2_init_30 : decode cX2_init 30 = .ok (.getfield 20, 3) := by decide +kernel
theorem dX2_init_33 : decode cX2_init 33 = .ok (.iload_n 1, 1) := by decide +kernel
theorem dX2_init_34 : decode cX2_init 34 = .ok (.new 18, 3) := by decide +kernel
theorem dX2_init_37 : decode cX2_init 37 = .ok (.dup, 1) := by decide +kernel
theorem dX2_init_38 : decode cX2_init 38 = .ok (.invokespecial 24, 3) := by decide +kernel
theorem dX2_init_41 : decode cX2_init 41 = .ok (.aastore, 1) := by decide +kernel
theorem dX2_init_42 : decode cX2_init 42 = .ok (.iinc 1 1, 3) := by decide +kernel
theorem dX2_init_45 : decode cX2_init 45 = .ok (.goto (-21), 3) := by decide +kernel
theorem dX2_init_48 : decode cX2_init 48 = .ok (.return_, 1) := by decide +kernel
set_option maxRecDepth 20000 in
theorem ggX2_record_X7_copyAll : GoodIn wsX2_record wsX7_copyAll := goodIn_r _ [8, 9, 10, 11, 12, 7, 13, 14, 15, 16, 17, 18, 19, 20, 21, 22, 26, 27, 28, 29, 30, 31] (by decide +kernel) (by decide +kernel)
set_option maxRecDepth 20000 in
theorem gX2_record_X7_copyAll : GoodIn wsX2_record (wsV RX2 25 RX7 yX7_copyAll wsX7_copyAll) := goodIn_app (goodIn_of _ (by decide +kernel)) ggX2_record_X7_copyAll
theorem dX2_record_0 : decode cX2_record 0 = .ok (.aload_n 0, 1) := by decide +kernel
theorem dX2_record_1 : decode cX2_record 1 = .ok (.getfield 9, 3) := by decide +kernel
theorem dX2_record_4 : decode cX2_record 4 = .ok (.iconst 5, 1) := by decide +kernel
theorem dX2_record_5 : decode cX2_record 5 = .ok (.if_icmp .ne 25, 3) := by decide +kernel
theorem dX2_record_8 : decode cX2_record 8 = .ok (.aload_n 0, 1) := by decide +kernel
theorem dX2_record_9 : decode cX2_record 9 = .ok (.aload_n 0, 1) := by decide +kernel
theorem dX2_record_10 : decode cX2_record 10 = .ok (.getfield 15, 3) := by decide +kernel
theorem dX2_record_13 : decode cX2_record 13 = .ok (.iconst 1, 1) := by decide +kernel
theorem dX2_record_14 : decode cX2_record 14 = .ok (.iadd, 1) := by decide +kernel
theorem dX2_record_15 : decode cX2_record 15 = .ok (.iconst 5, 1) := by decide +kernel
theorem dX2_record_16 : decode cX2_record 16 = .ok (.irem, 1) := by decide +kernel
theorem dX2_record_17 : decode cX2_record 17 = .ok (.putfield 15, 3) := by decide +kernel
theorem dX2_record_20 : decode cX2_record 20 = .ok (.aload_n 0, 1) := by decide +kernel
theorem dX2_record_21 : decode cX2_record 21 = .ok (.dup, 1) := by decide +kernel
theorem dX2_record_22 : decode cX2_record 22 = .ok (.getfield 9, 3) := by decide +kernel
theorem dX2_record_25 : decode cX2_record 25 = .ok (.iconst 1, 1) := by decide +kernel
theorem dX2_record_26 : decode cX2_record 26 = .ok (.isub, 1) := by decide +kernel
theorem dX2_record_27 : decode cX2_record 27 = .ok (.putfield 9, 3) := by decide +kernel
theorem dX2_record_30 : decode cX2_record 30 = .ok (.aload_n 0, 1) := by decide +kernel
theorem dX2_record_31 : decode cX2_record 31 = .ok (.getfield 20, 3) := by decide +kernel
theorem dX2_record_34 : decode cX2_record 34 = .ok (.aload_n 0, 1) := by decide +kernel
theorem dX2_record_35 : decode cX2_record 35 = .ok (.getfield 15, 3) := by decide +kernel
theorem dX2_record_38 : decode cX2_record 38 = .ok (.aload_n 0, 1) := by decide +kernel
theorem dX2_record_39 : decode cX2_record 39 = .ok (.getfield 9, 3) := by decide +kernel
theorem dX2_record_42 : decode cX2_record 42 = .ok (.iadd, 1) := by decide +kernel
theorem dX2_record_43 : decode cX2_record 43 = .ok (.iconst 5, 1) := by decide +kernel
theorem dX2_record_44 : decode cX2_record 44 = .ok (.irem, 1) := by decide +kernel
theorem dX2_record_45 : decode cX2_record 45 = .ok (.aaload, 1) := by decide +kernel
theorem dX2_record_46 : decode cX2_record 46 = .ok (.aload_n 1, 1) := by decide +kernel
theorem dX2_record_47 : decode cX2_record 47 = .ok (.invokevirtual 25, 3) := by decide +kernel
theorem dX2_record_50 : decode cX2_record 50 = .ok (.aload_n 0, 1) := by decide +kernel
theorem dX2_record_51 : decode cX2_record 51 = .ok (.dup, 1) := by decide +kernel
theorem dX2_record_52 : decode cX2_record 52 = .ok (.getfield 9, 3) := by decide +kernel
theorem dX2_record_55 : decode cX2_record 55 = .ok (.iconst 1, 1) := by decide +kernel
theorem dX2_record_56 : decode cX2_record 56 = .ok (.iadd, 1) := by decide +kernel
theorem dX2_record_57 : decode cX2_record 57 = .ok (.putfield 9, 3) := by decide +kernel
theorem dX2_record_60 : decode cX2_record 60 = .ok (.return_, 1) := by decide +kernel
set_option maxRecDepth 20000 in
theorem ggX2_takeLatest_X7_copyAll : GoodIn wsX2_takeLatest wsX7_copyAll := goodIn_r _ [8, 9, 10, 11, 12, 7, 13, 14, 15, 16, 17, 18, 19, 20, 21, 22, 26, 27, 28, 29, 30, 31] (by decide +kernel) (by decide +kernel)
set_option maxRecDepth 20000 in
theorem gX2_takeLatest_X7_copyAll : GoodIn wsX2_takeLatest (wsV RX2 25 RX7 yX7_copyAll wsX7_copyAll) := goodIn_app (goodIn_of _ (by decide +kernel)) ggX2_takeLatest_X7_copyAll
theorem dX2_takeLatest_0 : decode cX2_takeLatest 0 = .ok (.aload_n 0, 1) := by decide +kernel
theorem dX2_takeLatest_1 : decode cX2_takeLatest 1 = .ok (.getfield 9, 3) := by decide +kernel
theorem dX2_takeLatest_4 : decode cX2_takeLatest 4 = .ok (.ifCond .le 33, 3) := by decide +kernel
theorem dX2_takeLatest_7 : decode cX2_takeLatest 7 = .ok (.aload_n 0, 1) := by decide +kernel
theorem dX2_takeLatest_8 : decode cX2_takeLatest 8 = .ok (.dup, 1) := by decide +kernel
theorem dX2_takeLatest_9 : decode cX2_takeLatest 9 = .ok (.getfield 9, 3) := by decide +kernel
theorem dX2_takeLatest_12 : decode cX2_takeLatest 12 = .ok (.iconst 1, 1) := by decide +kernel
theorem dX2_takeLatest_13 : decode cX2_takeLatest 13 = .ok (.isub, 1) := by decide +kernel
theorem dX2_takeLatest_14 : decode cX2_takeLatest 14 = .ok (.putfield 9, 3) := by decide +kernel
theorem dX2_takeLatest_17 : decode cX2_takeLatest 17 = .ok (.aload_n 1, 1) := by decide +kernel
theorem dX2_takeLatest_18 : decode cX2_takeLatest 18 = .ok (.aload_n 0, 1) := by decide +kernel
theorem dX2_takeLatest_19 : decode cX2_takeLatest 19 = .ok (.getfield 20, 3) := by decide +kernel
theorem dX2_takeLatest_22 : decode cX2_takeLatest 22 = .ok (.aload_n 0, 1) := by decide +kernel
theorem dX2_takeLatest_23 : decode cX2_takeLatest 23 = .ok (.getfield 15, 3) := by decide +kernel
theorem dX2_takeLatest_26 : decode cX2_takeLatest 26 = .ok (.aload_n 0, 1) := by decide +kernel
theorem dX2_takeLatest_27 : decode cX2_takeLatest 27 = .ok (.getfield 9, 3) := by decide +kernel
theorem dX2_takeLatest_30 : decode cX2_takeLatest 30 = .ok (.iadd, 1) := by decide +kernel
theorem dX2_takeLatest_31 : decode cX2_takeLatest 31 = .ok (.iconst 5, 1) := by decide +kernel
theorem dX2_takeLatest_32 : decode cX2_takeLatest 32 = .ok (.irem, 1) := by decide +kernel
theorem dX2_takeLatest_33 : decode cX2_takeLatest 33 = .ok (.aaload, 1) := by decide +kernel
theorem dX2_takeLatest_34 : decode cX2_takeLatest 34 = .ok (.invokevirtual 25, 3) := by decide +kernel
theorem dX2_takeLatest_37 : decode cX2_takeLatest 37 = .ok (.return_, 1) := by decide +kernel
theorem dX3_init_0 : decode cX3_init 0 = .ok (.aload_n 0, 1) := by decide +kernel
theorem dX3_init_1 : decode cX3_init 1 = .ok (.invokespecial 3, 3) := by decide +kernel
theorem dX3_init_4 : decode cX3_init 4 = .ok (.aload_n 0, 1) := by decide +kernel
theorem dX3_init_5 : decode cX3_init 5 = .ok (.iconst 0, 1) := by decide +kernel
theorem dX3_init_6 : decode cX3_init 6 = .ok (.putfield 9, 3) := by decide +kernel
theorem dX3_init_9 : decode cX3_init 9 = .ok (.aload_n 0, 1) := by decide +kernel
theorem dX3_init_10 : decode cX3_init 10 = .ok (.bipush 20, 2) := by decide +kernel
theorem dX3_init_12 : decode cX3_init 12 = .ok (.newarray .int, 2) := by decide +kernel
theorem dX3_init_14 : decode cX3_init 14 = .ok (.putfield 15, 3) := by decide +kernel
theorem dX3_init_17 : decode cX3_init 17 = .ok (.aload_n 0, 1) := by decide +kernel
theorem dX3_init_18 : decode cX3_init 18 = .ok (.bipush 20, 2) := by decide +kernel
theorem dX3_init_20 : decode cX3_init 20 = .ok (.newarray .int, 2) := by decide +kernel
theorem dX3_init_22 : decode cX3_init 22 = .ok (.putfield 19, 3) := by decide +kernel
theorem dX3_init_25 : decode cX3_init 25 = .ok (.return_, 1) := by decide +kernel
set_option maxRecDepth 20000 in
theorem ggX3_sort_X7_countBefore : GoodIn wsX3_sort wsX7_countBefore := goodIn_r _ [9, 10, 11, 12, 13, 8, 14, 15, 16, 17, 18, 19, 29, 30, 31, 32, 33, 34] (by decide +kernel) (by decide +kernel)
set_option maxRecDepth 20000 in
theorem gX3_sort_X7_countBefore : GoodIn wsX3_sort (wsV RX3 26 RX7 yX7_countBefore wsX7_countBefore) := goodIn_app (goodIn_of _ (by decide +kernel)) ggX3_sort_X7_countBefore
set_option maxRecDepth 20000 in
theorem ggX3_sort_X3_put : GoodIn wsX3_sort wsX3_put := goodIn_r _ [24, 1, 4, 26, 27, 28] (by decide +kernel) (by decide +kernel)
set_option maxRecDepth 20000 in
theorem gX3_sort_X3_put : GoodIn wsX3_sort (wsV RX3 30 RX3 yX3_put wsX3_put) := goodIn_app (goodIn_of _ (by decide +kernel)) ggX3_sort_X3_put
set_option maxRecDepth 20000 in
theorem ggX3_sort_X7_lag : GoodIn wsX3_sort wsX7_lag := goodIn_r _ [14, 15, 16, 17, 18, 8, 19, 10, 29, 30, 31, 32, 33, 34] (by decide +kernel) (by decide +kernel)
set_option maxRecDepth 20000 in
theorem gX3_sort_X7_lag : GoodIn wsX3_sort (wsV RX3 34 RX7 yX7_lag wsX7_lag) := goodIn_app (goodIn_of _ (by decide +kernel)) ggX3_sort_X7_lag
theorem dX3_sort_0 : decode cX3_sort 0 = .ok (.aload_n 0, 1) := by decide +kernel
theorem dX3_sort_1 : decode cX3_sort 1 = .ok (.iconst 0, 1) := by decide +kernel
theorem dX3_sort_2 : decode cX3_sort 2 = .ok (.putfield 9, 3) := by decide +kernel
theorem dX3_sort_5 : decode cX3_sort 5 = .ok (.iconst 0, 1) := by decide +kernel
theorem dX3_sort_6 : decode cX3_sort 6 = .ok (.istore_n 2, 1) := by decide +kernel
theorem dX3_sort_7 : decode cX3_sort 7 = .ok (.iload_n 2, 1) := by decide +kernel
theorem dX3_sort_8 : decode cX3_sort 8 = .ok (.aload_n 1, 1) := by decide +kernel
theorem dX3_sort_9 : decode cX3_sort 9 = .ok (.getfield 22, 3) := by decide +kernel
theorem dX3_sort_12 : decode cX3_sort 12 = .ok (.if_icmp .ge 34, 3) := by decide +kernel
theorem dX3_sort_15 : decode cX3_sort 15 = .ok (.aload_n 0, 1) := by decide +kernel
theorem dX3_sort_16 : decode cX3_sort 16 = .ok (.getfield 19, 3) := by decide +kernel
theorem dX3_sort_19 : decode cX3_sort 19 = .ok (.iload_n 2, 1) := by decide +kernel
theorem dX3_sort_20 : decode cX3_sort 20 = .ok (.aload_n 1, 1) := by decide +kernel
theorem dX3_sort_21 : decode cX3_sort 21 = .ok (.iload_n 2, 1) := by decide +kernel
theorem dX3_sort_22 : decode cX3_sort 22 = .ok (.invokevirtual 26, 3) := by decide +kernel
theorem dX3_sort_25 : decode cX3_sort 25 = .ok (.iastore, 1) := by decide +kernel
theorem dX3_sort_26 : decode cX3_sort 26 = .ok (.aload_n 0, 1) := by decide +kernel
theorem dX3_sort_27 : decode cX3_sort 27 = .ok (.getfield 19, 3) := by decide +kernel
theorem dX3_sort_30 : decode cX3_sort 30 = .ok (.iload_n 2, 1) := by decide +kernel
theorem dX3_sort_31 : decode cX3_sort 31 = .ok (.iaload, 1) := by decide +kernel
theorem dX3_sort_32 : decode cX3_sort 32 = .ok (.ifCond .ne 8, 3) := by decide +kernel
theorem dX3_sort_35 : decode cX3_sort 35 = .ok (.aload_n 0, 1) := by decide +kernel
theorem dX3_sort_36 : decode cX3_sort 36 = .ok (.iload_n 2, 1) := by decide +kernel
theorem dX3_sort_37 : decode cX3_sort 37 = .ok (.invokevirtual 30, 3) := by decide +kernel
theorem dX3_sort_40 : decode cX3_sort 40 = .ok (.iinc 2 1, 3) := by decide +kernel
theorem dX3_sort_43 : decode cX3_sort 43 = .ok (.goto (-36), 3) := by decide +kernel
theorem dX3_sort_46 : decode cX3_sort 46 = .ok (.iconst 0, 1) := by decide +kernel
theorem dX3_sort_47 : decode cX3_sort 47 = .ok (.istore_n 2, 1) := by decide +kernel
theorem dX3_sort_48 : decode cX3_sort 48 = .ok (.iload_n 2, 1) := by decide +kernel
theorem dX3_sort_49 : decode cX3_sort 49 = .ok (.aload_n 0, 1) := by decide +kernel
theorem dX3_sort_50 : decode cX3_sort 50 = .ok (.getfield 9, 3) := by decide +kernel
theorem dX3_sort_53 : decode cX3_sort 53 = .ok (.if_icmp .ge 70, 3) := by decide +kernel
theorem dX3_sort_56 : decode cX3_sort 56 = .ok (.iload_n 2, 1) := by decide +kernel
theorem dX3_sort_57 : decode cX3_sort 57 = .ok (.bipush 20, 2) := by decide +kernel
theorem dX3_sort_59 : decode cX3_sort 59 = .ok (.if_icmp .ge 64, 3) := by decide +kernel
theorem dX3_sort_62 : decode cX3_sort 62 = .ok (.iconst 0, 1) := by decide +kernel
theorem dX3_sort_63 : decode cX3_sort 63 = .ok (.istore_n 3, 1) := by decide +kernel
theorem dX3_sort_64 : decode cX3_sort 64 = .ok (.iload_n 3, 1) := by decide +kernel
theorem dX3_sort_65 : decode cX3_sort 65 = .ok (.aload_n 1, 1) := by decide +kernel
theorem dX3_sort_66 : decode cX3_sort 66 = .ok (.getfield 22, 3) := by decide +kernel
theorem dX3_sort_69 : decode cX3_sort 69 = .ok (.if_icmp .ge 48, 3) := by decide +kernel
theorem dX3_sort_72 : decode cX3_sort 72 = .ok (.aload_n 1, 1) := by decide +kernel
theorem dX3_sort_73 : decode cX3_sort 73 = .ok (.aload_n 0, 1) := by decide +kernel
theorem dX3_sort_74 : decode cX3_sort 74 = .ok (.getfield 15, 3) := by decide +kernel
theorem dX3_sort_77 : decode cX3_sort 77 = .ok (.iload_n 2, 1) := by decide +kernel
theorem dX3_sort_78 : decode cX3_sort 78 = .ok (.iaload, 1) := by decide +kernel
theorem dX3_sort_79 : decode cX3_sort 79 = .ok (.iload_n 3, 1) := by decide +kernel
theorem dX3_sort_80 : decode cX3_sort 80 = .ok (.invokevirtual 34, 3) := by decide +kernel
theorem dX3_sort_83 : decode cX3_sort 83 = .ok (.iconst (-1), 1) := by decide +kernel
theorem dX3_sort_84 : decode cX3_sort 84 = .ok (.if_icmp .eq 27, 3) := by decide +kernel
theorem dX3_sort_87 : decode cX3_sort 87 = .ok (.aload_n 0, 1) := by decide +kernel
theorem dX3_sort_88 : decode cX3_sort 88 = .ok (.getfield 19, 3) := by decide +kernel
theorem dX3_sort_91 : decode cX3_sort 91 = .ok (.iload_n 3, 1) := by decide +kernel
theorem dX3_sort_92 : decode cX3_sort 92 = .ok (.dup2, 1) := by decide +kernel
theorem dX3_sort_93 : decode cX3_sort 93 = .ok (.iaload, 1) := by decide +kernel
theorem dX3_sort_94 : decode cX3_sort 94 = .ok (.iconst 1, 1) := by decide +kernel
theorem dX3_sort_95 : decode cX3_sort 95 = .ok (.isub, 1) := by decide +kernel
theorem dX3_sort_96 : decode cX3_sort 96 = .ok (.iastore, 1) := by decide +kernel
theorem dX3_sort_97 : decode cX3_sort 97 = .ok (.aload_n 0, 1) := by decide +kernel
theorem dX3_sort_98 : decode cX3_sort 98 = .ok (.getfield 19, 3) := by decide +kernel
theorem dX3_sort_101 : decode cX3_sort 101 = .ok (.iload_n 3, 1) := by decide +kernel
theorem dX3_sort_102 : decode cX3_sort 102 = .ok (.iaload, 1) := by decide +kernel
theorem dX3_sort_103 : decode cX3_sort 103 = .ok (.ifCond .ne 8, 3) := by decide +kernel
theorem dX3_sort_106 : decode cX3_sort 106 = .ok (.aload_n 0, 1) := by decide +kernel
theorem dX3_sort_107 : decode cX3_sort 107 = .ok (.iload_n 3, 1) := by decide +kernel
theorem dX3_sort_108 : decode cX3_sort 108 = .ok (.invokevirtual 30, 3) := by decide +kernel
theorem dX3_sort_111 : decode cX3_sort 111 = .ok (.iinc 3 1, 3) := by decide +kernel
theorem dX3_sort_114 : decode cX3_sort 114 = .ok (.goto (-50), 3) := by decide +kernel
theorem dX3_sort_117 : decode cX3_sort 117 = .ok (.iinc 2 1, 3) := by decide +kernel
theorem dX3_sort_120 : decode cX3_sort 120 = .ok (.goto (-72), 3) := by decide +kernel
theorem dX3_sort_123 : decode cX3_sort 123 = .ok (.return_, 1) := by decide +kernel
theorem dX3_put_0 : decode cX3_put 0 = .ok (.aload_n 0, 1) := by decide +kernel
theorem dX3_put_1 : decode cX3_put 1 = .ok (.getfield 9, 3) := by decide +kernel
theorem dX3_put_4 : decode cX3_put 4 = .ok (.bipush 20, 2) := by decide +kernel
theorem dX3_put_6 : decode cX3_put 6 = .ok (.if_icmp .ge 23, 3) := by decide +kernel
theorem dX3_put_9 : decode cX3_put 9 = .ok (.aload_n 0, 1) := by decide +kernel
theorem dX3_put_10 : decode cX3_put 10 = .ok (.getfield 15, 3) := by decide +kernel
theorem dX3_put_13 : decode cX3_put 13 = .ok (.aload_n 0, 1) := by decide +kernel
theorem dX3_put_14 : decode cX3_put 14 = .ok (.getfield 9, 3) := by decide +kernel
theorem dX3_put_17 : decode cX3_put 17 = .ok (.iload_n 1, 1) := by decide +kernel
theorem dX3_put_18 : decode cX3_put 18 = .ok (.iastore, 1) := by decide +kernel
theorem dX3_put_19 : decode cX3_put 19 = .ok (.aload_n 0, 1) := by decide +kernel
theorem dX3_put_20 : decode cX3_put 20 = .ok (.dup, 1) := by decide +kernel
theorem dX3_put_21 : decode cX3_put 21 = .ok (.getfield 9, 3) := by decide +kernel
theorem dX3_put_24 : decode cX3_put 24 = .ok (.iconst 1, 1) := by decide +kernel
theorem dX3_put_25 : decode cX3_put 25 = .ok (.iadd, 1) := by decide +kernel
theorem dX3_put_26 : decode cX3_put 26 = .ok (.putfield 9, 3) := by decide +kernel
theorem dX3_put_29 : decode cX3_put 29 = .ok (.return_, 1) := by decide +kernel
set_option maxRecDepth 20000 in
theorem ggX4_init_X7_init : GoodIn wsX4_init wsX7_init := goodIn_r _ [14, 15, 2, 3, 16, 17, 18, 19, 20, 21, 22, 23, 24, 25, 26, 31, 32, 33, 34, 35, 36] (by decide +kernel) (by decide +kernel)
set_option maxRecDepth 20000 in
theorem gX4_init_X7_init : GoodIn wsX4_init (wsX7_init) := ggX4_init_X7_init
theorem dX4_init_0 : decode cX4_init 0 = .ok (.aload_n 0, 1) := by decide +kernel
theorem dX4_init_1 : decode cX4_init 1 = .ok (.invokespecial 3, 3) := by decide +kernel
theorem dX4_init_4 : decode cX4_init 4 = .ok (.aload_n 0, 1) := by decide +kernel
theorem dX4_init_5 : decode cX4_init 5 = .ok (.iconst 0, 1) := by decide +kernel
theorem dX4_init_6 : decode cX4_init 6 = .ok (.putfield 9, 3) := by decide +kernel
theorem dX4_init_9 : decode cX4_init 9 = .ok (.aload_n 0, 1) := by decide +kernel
theorem dX4_init_10 : decode cX4_init 10 = .ok (.iconst 0, 1) := by decide +kernel
theorem dX4_init_11 : decode cX4_init 11 = .ok (.putfield 15, 3) := by decide +kernel
theorem dX4_init_14 : decode cX4_init 14 = .ok (.aload_n 0, 1) := by decide +kernel
theorem dX4_init_15 : decode cX4_init 15 = .ok (.new 18, 3) := by decide +kernel
theorem dX4_init_18 : decode cX4_init 18 = .ok (.dup, 1) := by decide +kernel
theorem dX4_init_19 : decode cX4_init 19 = .ok (.invokespecial 20, 3) := by decide +kernel
theorem dX4_init_22 : decode cX4_init 22 = .ok (.putfield 21, 3) := by decide +kernel
theorem dX4_init_25 : decode cX4_init 25 = .ok (.aload_n 0, 1) := by decide +kernel
theorem dX4_init_26 : decode cX4_init 26 = .ok (.bipush 60, 2) := by decide +kernel
theorem dX4_init_28 : decode cX4_init 28 = .ok (.newarray .char, 2) := by decide +kernel
theorem dX4_init_30 : decode cX4_init 30 = .ok (.putfield 25, 3) := by decide +kernel
theorem dX4_init_33 : decode cX4_init 33 = .ok (.return_, 1) := by decide +kernel
theorem dX5_init_0 : decode cX5_init 0 = .ok (.aload_n 0, 1) := by decide +kernel
theorem dX5_init_1 : decode cX5_init 1 = .ok (.invokespecial 3, 3) := by decide +kernel
theorem dX5_init_4 : decode cX5_init 4 = .ok (.aload_n 0, 1) := by decide +kernel
theorem dX5_init_5 : decode cX5_init 5 = .ok (.bipush 20, 2) := by decide +kernel
theorem dX5_init_7 : decode cX5_init 7 = .ok (.newarray .int, 2) := by decide +kernel
theorem dX5_init_9 : decode cX5_init 9 = .ok (.putfield 9, 3) := by decide +kernel
theorem dX5_init_12 : decode cX5_init 12 = .ok (.return_, 1) := by decide +kernel
set_option maxRecDepth 20000 in
theorem ggX5_find_J7_fill_53178 : GoodIn wsX5_find wsJ7_fill_53178 := goodIn_r _ [11] (by decide +kernel) (by decide +kernel)
set_option maxRecDepth 20000 in
theorem gX5_find_J7_fill_53178 : GoodIn wsX5_find (va_wsS RX5 15 yJ7_fill_53178 wsJ7_fill_53178) := goodIn_app (goodIn_of _ (by decide +kernel)) ggX5_find_J7_fill_53178
set_option maxRecDepth 20000 in
theorem ggX5_find_X5_moveAll : GoodIn wsX5_find wsX5_moveAll := goodIn_r _ [16, 2, 1, 3, 17, 18, 19, 20, 21, 22, 23, 24, 25, 26, 27, 29, 30, 31, 32, 33, 34, 28] (by decide +kernel) (by decide +kernel)
set_option maxRecDepth 20000 in
theorem gX5_find_X5_moveAll : GoodIn wsX5_find (wsV RX5 27 RX5 yX5_moveAll wsX5_moveAll) := goodIn_app (goodIn_of _ (by decide +kernel)) ggX5_find_X5_moveAll
theorem dX5_find_0 : decode cX5_find 0 = .ok (.aload_n 0, 1) := by decide +kernel
theorem dX5_find_1 : decode cX5_find 1 = .ok (.getfield 9, 3) := by decide +kernel
theorem dX5_find_4 : decode cX5_find 4 = .ok (.iconst 0, 1) := by decide +kernel
theorem dX5_find_5 : decode cX5_find 5 = .ok (.invokestatic 15, 3) := by decide +kernel
theorem dX5_find_8 : decode cX5_find 8 = .ok (.iconst 1, 1) := by decide +kernel
theorem dX5_find_9 : decode cX5_find 9 = .ok (.istore_n 2, 1) := by decide +kernel
theorem dX5_find_10 : decode cX5_find 10 = .ok (.iconst 0, 1) := by decide +kernel
theorem dX5_find_11 : decode cX5_find 11 = .ok (.istore_n 3, 1) := by decide +kernel
theorem dX5_find_12 : decode cX5_find 12 = .ok (.iload_n 2, 1) := by decide +kernel
theorem dX5_find_13 : decode cX5_find 13 = .ok (.ifCond .eq 23, 3) := by decide +kernel
theorem dX5_find_16 : decode cX5_find 16 = .ok (.iload_n 3, 1) := by decide +kernel
theorem dX5_find_17 : decode cX5_find 17 = .ok (.aload_n 1, 1) := by decide +kernel
theorem dX5_find_18 : decode cX5_find 18 = .ok (.getfield 21, 3) := by decide +kernel
theorem dX5_find_21 : decode cX5_find 21 = .ok (.if_icmp .gt 15, 3) := by decide +kernel
theorem dX5_find_24 : decode cX5_find 24 = .ok (.aload_n 0, 1) := by decide +kernel
theorem dX5_find_25 : decode cX5_find 25 = .ok (.aload_n 1, 1) := by decide +kernel
theorem dX5_find_26 : decode cX5_find 26 = .ok (.invokevirtual 27, 3) := by decide +kernel
theorem dX5_find_29 : decode cX5_find 29 = .ok (.istore_n 2, 1) := by decide +kernel
theorem dX5_find_30 : decode cX5_find 30 = .ok (.iinc 3 1, 3) := by decide +kernel
theorem dX5_find_33 : decode cX5_find 33 = .ok (.goto (-21), 3) := by decide +kernel
theorem dX5_find_36 : decode cX5_find 36 = .ok (.iconst 0, 1) := by decide +kernel
theorem dX5_find_37 : decode cX5_find 37 = .ok (.istore_n 3, 1) := by decide +kernel
theorem dX5_find_38 : decode cX5_find 38 = .ok (.iconst 0, 1) := by decide +kernel
theorem dX5_find_39 : decode cX5_find 39 = .ok (.istore 4, 2) := by decide +kernel
theorem dX5_find_41 : decode cX5_find 41 = .ok (.iload 4, 2) := by decide +kernel
theorem dX5_find_43 : decode cX5_find 43 = .ok (.aload_n 1, 1) := by decide +kernel
theorem dX5_find_44 : decode cX5_find 44 = .ok (.getfield 21, 3) := by decide +kernel
theorem dX5_find_47 : decode cX5_find 47 = .ok (.if_icmp .ge 29, 3) := by decide +kernel
theorem dX5_find_50 : decode cX5_find 50 = .ok (.iload_n 3, 1) := by decide +kernel
theorem dX5_find_51 : decode cX5_find 51 = .ok (.aload_n 0, 1) := by decide +kernel
theorem dX5_find_52 : decode cX5_find 52 = .ok (.getfield 9, 3) := by decide +kernel
theorem dX5_find_55 : decode cX5_find 55 = .ok (.iload 4, 2) := by decide +kernel
theorem dX5_find_57 : decode cX5_find 57 = .ok (.iaload, 1) := by decide +kernel
theorem dX5_find_58 : decode cX5_find 58 = .ok (.aload_n 1, 1) := by decide +kernel
theorem dX5_find_59 : decode cX5_find 59 = .ok (.getfield 31, 3) := by decide +kernel
theorem dX5_find_62 : decode cX5_find 62 = .ok (.iload 4, 2) := by decide +kernel
theorem dX5_find_64 : decode cX5_find 64 = .ok (.iaload, 1) := by decide +kernel
theorem dX5_find_65 : decode cX5_find 65 = .ok (.iadd, 1) := by decide +kernel
theorem dX5_find_66 : decode cX5_find 66 = .ok (.invokestatic 34, 3) := by decide +kernel
theorem dX5_find_69 : decode cX5_find 69 = .ok (.istore_n 3, 1) := by decide +kernel
theorem dX5_find_70 : decode cX5_find 70 = .ok (.iinc 4 1, 3) := by decide +kernel
theorem dX5_find_73 : decode cX5_find 73 = .ok (.goto (-32), 3) := by decide +kernel
theorem dX5_find_76 : decode cX5_find 76 = .ok (.iload_n 3, 1) := by decide +kernel
theorem dX5_find_77 : decode cX5_find 77 = .ok (.ireturn, 1) := by decide +kernel
set_option maxRecDepth 20000 in
theorem ggX5_moveAll_X7_lag : GoodIn wsX5_moveAll wsX7_lag := goodIn_r _ [8, 9, 10, 11, 12, 7, 13, 14, 15, 16, 17, 18, 19, 20] (by decide +kernel) (by decide +kernel)
set_option maxRecDepth 20000 in
theorem gX5_moveAll_X7_lag : GoodIn wsX5_moveAll (wsV RX5 40 RX7 yX7_lag wsX7_lag) := goodIn_app (goodIn_of _ (by decide +kernel)) ggX5_moveAll_X7_lag
theorem dX5_moveAll_0 : decode cX5_moveAll 0 = .ok (.iconst 0, 1) := by decide +kernel
theorem dX5_moveAll_1 : decode cX5_moveAll 1 = .ok (.istore_n 2, 1) := by decide +kernel
theorem dX5_moveAll_2 : decode cX5_moveAll 2 = .ok (.iconst 0, 1) := by decide +kernel
theorem dX5_moveAll_3 : decode cX5_moveAll 3 = .ok (.istore_n 3, 1) := by decide +kernel
theorem dX5_moveAll_4 : decode cX5_moveAll 4 = .ok (.iload_n 3, 1) := by decide +kernel
theorem dX5_moveAll_5 : decode cX5_moveAll 5 = .ok (.aload_n 1, 1) := by decide +kernel
theorem dX5_moveAll_6 : decode cX5_moveAll 6 = .ok (.getfield 21, 3) := by decide +kernel
theorem dX5_moveAll_9 : decode cX5_moveAll 9 = .ok (.if_icmp .ge 86, 3) := by decide +kernel
theorem dX5_moveAll_12 : decode cX5_moveAll 12 = .ok (.aload_n 0, 1) := by decide +kernel
theorem dX5_moveAll_13 : decode cX5_moveAll 13 = .ok (.getfield 9, 3) := by decide +kernel
theorem dX5_moveAll_16 : decode cX5_moveAll 16 = .ok (.iload_n 3, 1) := by decide +kernel
theorem dX5_moveAll_17 : decode cX5_moveAll 17 = .ok (.iaload, 1) := by decide +kernel
theorem dX5_moveAll_18 : decode cX5_moveAll 18 = .ok (.aload_n 1, 1) := by decide +kernel
theorem dX5_moveAll_19 : decode cX5_moveAll 19 = .ok (.getfield 31, 3) := by decide +kernel
theorem dX5_moveAll_22 : decode cX5_moveAll 22 = .ok (.iload_n 3, 1) := by decide +kernel
theorem dX5_moveAll_23 : decode cX5_moveAll 23 = .ok (.iaload, 1) := by decide +kernel
theorem dX5_moveAll_24 : decode cX5_moveAll 24 = .ok (.iadd, 1) := by decide +kernel
theorem dX5_moveAll_25 : decode cX5_moveAll 25 = .ok (.istore 4, 2) := by decide +kernel
theorem dX5_moveAll_27 : decode cX5_moveAll 27 = .ok (.iconst 0, 1) := by decide +kernel
theorem dX5_moveAll_28 : decode cX5_moveAll 28 = .ok (.istore 5, 2) := by decide +kernel
theorem dX5_moveAll_30 : decode cX5_moveAll 30 = .ok (.iload 5, 2) := by decide +kernel
theorem dX5_moveAll_32 : decode cX5_moveAll 32 = .ok (.aload_n 1, 1) := by decide +kernel
theorem dX5_moveAll_33 : decode cX5_moveAll 33 = .ok (.getfield 21, 3) := by decide +kernel
theorem dX5_moveAll_36 : decode cX5_moveAll 36 = .ok (.if_icmp .ge 53, 3) := by decide +kernel
theorem dX5_moveAll_39 : decode cX5_moveAll 39 = .ok (.aload_n 1, 1) := by decide +kernel
theorem dX5_moveAll_40 : decode cX5_moveAll 40 = .ok (.iload_n 3, 1) := by decide +kernel
theorem dX5_moveAll_41 : decode cX5_moveAll 41 = .ok (.iload 5, 2) := by decide +kernel
theorem dX5_moveAll_43 : decode cX5_moveAll 43 = .ok (.invokevirtual 40, 3) := by decide +kernel
theorem dX5_moveAll_46 : decode cX5_moveAll 46 = .ok (.istore 6, 2) := by decide +kernel
theorem dX5_moveAll_48 : decode cX5_moveAll 48 = .ok (.iload 6, 2) := by decide +kernel
theorem dX5_moveAll_50 : decode cX5_moveAll 50 = .ok (.iconst (-1), 1) := by decide +kernel
theorem dX5_moveAll_51 : decode cX5_moveAll 51 = .ok (.if_icmp .eq 32, 3) := by decide +kernel
theorem dX5_moveAll_54 : decode cX5_moveAll 54 = .ok (.aload_n 0, 1) := by decide +kernel
theorem dX5_moveAll_55 : decode cX5_moveAll 55 = .ok (.getfield 9, 3) := by decide +kernel
theorem dX5_moveAll_58 : decode cX5_moveAll 58 = .ok (.iload 5, 2) := by decide +kernel
theorem dX5_moveAll_60 : decode cX5_moveAll 60 = .ok (.iaload, 1) := by decide +kernel
theorem dX5_moveAll_61 : decode cX5_moveAll 61 = .ok (.iload 4, 2) := by decide +kernel
theorem dX5_moveAll_63 : decode cX5_moveAll 63 = .ok (.iload 6, 2) := by decide +kernel
theorem dX5_moveAll_65 : decode cX5_moveAll 65 = .ok (.iadd, 1) := by decide +kernel
theorem dX5_moveAll_66 : decode cX5_moveAll 66 = .ok (.if_icmp .ge 17, 3) := by decide +kernel
theorem dX5_moveAll_69 : decode cX5_moveAll 69 = .ok (.aload_n 0, 1) := by decide +kernel
theorem dX5_moveAll_70 : decode cX5_moveAll 70 = .ok (.getfield 9, 3) := by decide +kernel
theorem dX5_moveAll_73 : decode cX5_moveAll 73 = .ok (.iload 5, 2) := by decide +kernel
theorem dX5_moveAll_75 : decode cX5_moveAll 75 = .ok (.iload 4, 2) := by decide +kernel
theorem dX5_moveAll_77 : decode cX5_moveAll 77 = .ok (.iload 6, 2) := by decide +kernel
theorem dX5_moveAll_79 : decode cX5_moveAll 79 = .ok (.iadd, 1) := by decide +kernel
theorem dX5_moveAll_80 : decode cX5_moveAll 80 = .ok (.iastore, 1) := by decide +kernel
theorem dX5_moveAll_81 : decode cX5_moveAll 81 = .ok (.iconst 1, 1) := by decide +kernel
theorem dX5_moveAll_82 : decode cX5_moveAll 82 = .ok (.istore_n 2, 1) := by decide +kernel
theorem dX5_moveAll_83 : decode cX5_moveAll 83 = .ok (.iinc 5 1, 3) := by decide +kernel
theorem dX5_moveAll_86 : decode cX5_moveAll 86 = .ok (.goto (-56), 3) := by decide +kernel
theorem dX5_moveAll_89 : decode cX5_moveAll 89 = .ok (.iinc 3 1, 3) := by decide +kernel
theorem dX5_moveAll_92 : decode cX5_moveAll 92 = .ok (.goto (-88), 3) := by decide +kernel
theorem dX5_moveAll_95 : decode cX5_moveAll 95 = .ok (.iload_n 2, 1) := by decide +kernel
theorem dX5_moveAll_96 : decode cX5_moveAll 96 = .ok (.ireturn, 1) := by decide +kernel
theorem dX6_init_0 : decode cX6_init 0 = .ok (.aload_n 0, 1) := by decide +kernel
theorem dX6_init_1 : decode cX6_init 1 = .ok (.invokespecial 3, 3) := by decide +kernel
theorem dX6_init_4 : decode cX6_init 4 = .ok (.aload_n 0, 1) := by decide +kernel
theorem dX6_init_5 : decode cX6_init 5 = .ok (.iconst 0, 1) := by decide +kernel
theorem dX6_init_6 : decode cX6_init 6 = .ok (.putfield 9, 3) := by decide +kernel
theorem dX6_init_9 : decode cX6_init 9 = .ok (.aload_n 0, 1) := by decide +kernel
theorem dX6_init_10 : decode cX6_init 10 = .ok (.bipush 20, 2) := by decide +kernel
theorem dX6_init_12 : decode cX6_init 12 = .ok (.newarray .int, 2) := by decide +kernel
theorem dX6_init_14 : decode cX6_init 14 = .ok (.putfield 15, 3) := by decide +kernel
theorem dX6_init_17 : decode cX6_init 17 = .ok (.aload_n 0, 1) := by decide +kernel
theorem dX6_init_18 : decode cX6_init 18 = .ok (.sipush 1000, 3) := by decide +kernel
theorem dX6_init_21 : decode cX6_init 21 = .ok (.newarray .int, 2) := by decide +kernel
theorem dX6_init_23 : decode cX6_init 23 = .ok (.putfield 19, 3) := by decide +kernel
theorem dX6_init_26 : decode cX6_init 26 = .ok (.aload_n 0, 1) := by decide +kernel
theorem dX6_init_27 : decode cX6_init 27 = .ok (.bipush 20, 2) := by decide +kernel
theorem dX6_init_29 : decode cX6_init 29 = .ok (.newarray .int, 2) := by decide +kernel
theorem dX6_init_31 : decode cX6_init 31 = .ok (.putfield 22, 3) := by decide +kernel
theorem dX6_init_34 : decode cX6_init 34 = .ok (.return_, 1) := by decide +kernel
set_option maxRecDepth 20000 in
theorem ggX6_build_X6_clear : GoodIn wsX6_build wsX6_clear := goodIn_r _ [7, 8, 9, 10, 1, 11, 12, 13, 14, 15, 16, 17, 18, 19, 20, 21, 22, 23, 24, 25, 26, 27, 28, 29, 30, 57, 58, 59, 60, 51, 52, 53, 54, 55, 56] (by decide +kernel) (by decide +kernel)
set_option maxRecDepth 20000 in
theorem gX6_build_X6_clear : GoodIn wsX6_build (wsV RX6 33 RX6 yX6_clear wsX6_clear) := goodIn_app (goodIn_of _ (by decide +kernel)) ggX6_build_X6_clear
set_option maxRecDepth 20000 in
theorem ggX6_build_X6_nextTask : GoodIn wsX6_build wsX6_nextTask := goodIn_r _ [34, 1, 11, 35, 51, 52, 53, 54, 55, 56, 57, 58, 59, 60, 61, 62, 63, 64, 65] (by decide +kernel) (by decide +kernel)
set_option maxRecDepth 20000 in
theorem gX6_build_X6_nextTask : GoodIn wsX6_build (wsV RX6 37 RX6 yX6_nextTask wsX6_nextTask) := goodIn_app (goodIn_of _ (by decide +kernel)) ggX6_build_X6_nextTask
set_option maxRecDepth 20000 in
theorem ggX6_build_X6_place : GoodIn wsX6_build wsX6_place := goodIn_r _ [39, 2, 9, 40, 11, 8, 41, 42, 43, 44, 10, 1, 45, 28, 29, 19, 30, 21, 46, 47, 48, 6, 49, 50, 23, 24, 25, 26, 27, 51, 52, 53, 54, 55, 56, 57, 58, 59, 60] (by decide +kernel) (by decide +kernel)
set_option maxRecDepth 20000 in
theorem gX6_build_X6_place : GoodIn wsX6_build (wsV RX6 41 RX6 yX6_place wsX6_place) := goodIn_app (goodIn_of _ (by decide +kernel)) ggX6_build_X6_place
theorem dX6_build_0 : decode cX6_build 0 = .ok (.iconst 0, 1) := by decide +kernel
theorem dX6_build_1 : decode cX6_build 1 = .ok (.istore 4, 2) := by decide +kernel
theorem dX6_build_3 : decode cX6_build 3 = .ok (.iload 4, 2) := by decide +kernel
theorem dX6_build_5 : decode cX6_build 5 = .ok (.aload_n 1, 1) := by decide +kernel
theorem dX6_build_6 : decode cX6_build 6 = .ok (.getfield 25, 3) := by decide +kernel
theorem dX6_build_9 : decode cX6_build 9 = .ok (.if_icmp .ge 22, 3) := by decide +kernel
theorem dX6_build_12 : decode cX6_build 12 = .ok (.aload_n 1, 1) := by decide +kernel
theorem dX6_build_13 : decode cX6_build 13 = .ok (.getfield 30, 3) := by decide +kernel
theorem dX6_build_16 : decode cX6_build 16 = .ok (.iload 4, 2) := by decide +kernel
theorem dX6_build_18 : decode cX6_build 18 = .ok (.iaload, 1) := by decide +kernel
theorem dX6_build_19 : decode cX6_build 19 = .ok (.iload_n 2, 1) := by decide +kernel
theorem dX6_build_20 : decode cX6_build 20 = .ok (.if_icmp .le 5, 3) := by decide +kernel
theorem dX6_build_23 : decode cX6_build 23 = .ok (.iconst 0, 1) := by decide +kernel
theorem dX6_build_24 : decode cX6_build 24 = .ok (.ireturn, 1) := by decide +kernel
theorem dX6_build_25 : decode cX6_build 25 = .ok (.iinc 4 1, 3) := by decide +kernel
theorem dX6_build_28 : decode cX6_build 28 = .ok (.goto (-25), 3) := by decide +kernel
theorem dX6_build_31 : decode cX6_build 31 = .ok (.aload_n 0, 1) := by decide +kernel
theorem dX6_build_32 : decode cX6_build 32 = .ok (.aload_n 1, 1) := by decide +kernel
theorem dX6_build_33 : decode cX6_build 33 = .ok (.invokevirtual 33, 3) := by decide +kernel
theorem dX6_build_36 : decode cX6_build 36 = .ok (.iconst 0, 1) := by decide +kernel
theorem dX6_build_37 : decode cX6_build 37 = .ok (.istore 4, 2) := by decide +kernel
theorem dX6_build_39 : decode cX6_build 39 = .ok (.iload 4, 2) := by decide +kernel
theorem dX6_build_41 : decode cX6_build 41 = .ok (.aload_n 1, 1) := by decide +kernel
theorem dX6_build_42 : decode cX6_build 42 = .ok (.getfield 25, 3) := by decide +kernel
theorem dX6_build_45 : decode cX6_build 45 = .ok (.if_icmp .ge 21, 3) := by decide +kernel
theorem dX6_build_48 : decode cX6_build 48 = .ok (.aload_n 0, 1) := by decide +kernel
theorem dX6_build_49 : decode cX6_build 49 = .ok (.aload_n 1, 1) := by decide +kernel
theorem dX6_build_50 : decode cX6_build 50 = .ok (.iload_n 2, 1) := by decide +kernel
theorem dX6_build_51 : decode cX6_build 51 = .ok (.aload_n 0, 1) := by decide +kernel
theorem dX6_build_52 : decode cX6_build 52 = .ok (.aload_n 1, 1) := by decide +kernel
theorem dX6_build_53 : decode cX6_build 53 = .ok (.aload_n 3, 1) := by decide +kernel
theorem dX6_build_54 : decode cX6_build 54 = .ok (.invokevirtual 37, 3) := by decide +kernel
theorem dX6_build_57 : decode cX6_build 57 = .ok (.invokevirtual 41, 3) := by decide +kernel
theorem dX6_build_60 : decode cX6_build 60 = .ok (.iinc 4 1, 3) := by decide +kernel
theorem dX6_build_63 : decode cX6_build 63 = .ok (.goto (-24), 3) := by decide +kernel
theorem dX6_build_66 : decode cX6_build 66 = .ok (.iconst 1, 1) := by decide +kernel
theorem dX6_build_67 : decode cX6_build 67 = .ok (.ireturn, 1) := by decide +kernel
theorem dX6_sumOfDays_0 : decode cX6_sumOfDays 0 = .ok (.iconst 0, 1) := by decide +kernel
theorem dX6_sumOfDays_1 : decode cX6_sumOfDays 1 = .ok (.istore_n 1, 1) := by decide +kernel
theorem dX6_sumOfDays_2 : decode cX6_sumOfDays 2 = .ok (.iconst 0, 1) := by decide +kernel
theorem dX6_sumOfDays_3 : decode cX6_sumOfDays 3 = .ok (.istore_n 2, 1) := by decide +kernel
theorem dX6_sumOfDays_4 : decode cX6_sumOfDays 4 = .ok (.iload_n 2, 1) := by decide +kernel
theorem dX6_sumOfDays_5 : decode cX6_sumOfDays 5 = .ok (.aload_n 0, 1) := by decide +kernel
theorem dX6_sumOfDays_6 : decode cX6_sumOfDays 6 = .ok (.getfield 9, 3) := by decide +kernel
theorem dX6_sumOfDays_9 : decode cX6_sumOfDays 9 = .ok (.if_icmp .ge 25, 3) := by decide +kernel
theorem dX6_sumOfDays_12 : decode cX6_sumOfDays 12 = .ok (.iload_n 2, 1) := by decide +kernel
theorem dX6_sumOfDays_13 : decode cX6_sumOfDays 13 = .ok (.sipush 1000, 3) := by decide +kernel
theorem dX6_sumOfDays_16 : decode cX6_sumOfDays 16 = .ok (.if_icmp .ge 18, 3) := by decide +kernel
theorem dX6_sumOfDays_19 : decode cX6_sumOfDays 19 = .ok (.iload_n 1, 1) := by decide +kernel
theorem dX6_sumOfDays_20 : decode cX6_sumOfDays 20 = .ok (.aload_n 0, 1) := by decide +kernel
theorem dX6_sumOfDays_21 : decode cX6_sumOfDays 21 = .ok (.getfield 19, 3) := by decide +kernel
theorem dX6_sumOfDays_24 : decode cX6_sumOfDays 24 = .ok (.iload_n 2, 1) := by decide +kernel
theorem dX6_sumOfDays_25 : decode cX6_sumOfDays 25 = .ok (.iaload, 1) := by decide +kernel
theorem dX6_sumOfDays_26 : decode cX6_sumOfDays 26 = .ok (.iadd, 1) := by decide +kernel
theorem dX6_sumOfDays_27 : decode cX6_sumOfDays 27 = .ok (.istore_n 1, 1) := by decide +kernel
theorem dX6_sumOfDays_28 : decode cX6_sumOfDays 28 = .ok (.iinc 2 1, 3) := by decide +kernel
theorem dX6_sumOfDays_31 : decode cX6_sumOfDays 31 = .ok (.goto (-27), 3) := by decide +kernel
theorem dX6_sumOfDays_34 : decode cX6_sumOfDays 34 = .ok (.iload_n 1, 1) := by decide +kernel
theorem dX6_sumOfDays_35 : decode cX6_sumOfDays 35 = .ok (.ireturn, 1) := by decide +kernel
set_option maxRecDepth 20000 in
theorem ggX6_clear_J7_fill_53178 : GoodIn wsX6_clear wsJ7_fill_53178 := goodIn_r _ [9] (by decide +kernel) (by decide +kernel)
set_option maxRecDepth 20000 in
theorem gX6_clear_J7_fill_53178 : GoodIn wsX6_clear (va_wsS RX6 45 yJ7_fill_53178 wsJ7_fill_53178) := goodIn_app (goodIn_of _ (by decide +kernel)) ggX6_clear_J7_fill_53178
set_option maxRecDepth 20000 in
theorem ggX6_clear_X7_countBefore : GoodIn wsX6_clear wsX7_countBefore := goodIn_r _ [14, 15, 16, 17, 18, 13, 19, 20, 21, 22, 23, 24, 29, 30, 31, 32, 33, 34] (by decide +kernel) (by decide +kernel)
set_option maxRecDepth 20000 in
theorem gX6_clear_X7_countBefore : GoodIn wsX6_clear (wsV RX6 51 RX7 yX7_countBefore wsX7_countBefore) := goodIn_app (goodIn_of _ (by decide +kernel)) ggX6_clear_X7_countBefore
theorem dX6_clear_0 : decode cX6_clear 0 = .ok (.aload_n 0, 1) := by decide +kernel
theorem dX6_clear_1 : decode cX6_clear 1 = .ok (.iconst 0, 1) := by decide +kernel
theorem dX6_clear_2 : decode cX6_clear 2 = .ok (.putfield 9, 3) := by decide +kernel
theorem dX6_clear_5 : decode cX6_clear 5 = .ok (.aload_n 0, 1) := by decide +kernel
theorem dX6_clear_6 : decode cX6_clear 6 = .ok (.getfield 15, 3) := by decide +kernel
theorem dX6_clear_9 : decode cX6_clear 9 = .ok (.iconst 0, 1) := by decide +kernel
theorem dX6_clear_10 : decode cX6_clear 10 = .ok (.invokestatic 45, 3) := by decide +kernel
theorem dX6_clear_13 : decode cX6_clear 13 = .ok (.aload_n 0, 1) := by decide +kernel
theorem dX6_clear_14 : decode cX6_clear 14 = .ok (.getfield 19, 3) := by decide +kernel
theorem dX6_clear_17 : decode cX6_clear 17 = .ok (.iconst 0, 1) := by decide +kernel
theorem dX6_clear_18 : decode cX6_clear 18 = .ok (.invokestatic 45, 3) := by decide +kernel
theorem dX6_clear_21 : decode cX6_clear 21 = .ok (.iconst 0, 1) := by decide +kernel
theorem dX6_clear_22 : decode cX6_clear 22 = .ok (.istore_n 2, 1) := by decide +kernel
theorem dX6_clear_23 : decode cX6_clear 23 = .ok (.iload_n 2, 1) := by decide +kernel
theorem dX6_clear_24 : decode cX6_clear 24 = .ok (.aload_n 1, 1) := by decide +kernel
theorem dX6_clear_25 : decode cX6_clear 25 = .ok (.getfield 25, 3) := by decide +kernel
theorem dX6_clear_28 : decode cX6_clear 28 = .ok (.if_icmp .ge 20, 3) := by decide +kernel
theorem dX6_clear_31 : decode cX6_clear 31 = .ok (.aload_n 0, 1) := by decide +kernel
theorem dX6_clear_32 : decode cX6_clear 32 = .ok (.getfield 22, 3) := by decide +kernel
theorem dX6_clear_35 : decode cX6_clear 35 = .ok (.iload_n 2, 1) := by decide +kernel
theorem dX6_clear_36 : decode cX6_clear 36 = .ok (.aload_n 1, 1) := by decide +kernel
theorem dX6_clear_37 : decode cX6_clear 37 = .ok (.iload_n 2, 1) := by decide +kernel
theorem dX6_clear_38 : decode cX6_clear 38 = .ok (.invokevirtual 51, 3) := by decide +kernel
theorem dX6_clear_41 : decode cX6_clear 41 = .ok (.iastore, 1) := by decide +kernel
theorem dX6_clear_42 : decode cX6_clear 42 = .ok (.iinc 2 1, 3) := by decide +kernel
theorem dX6_clear_45 : decode cX6_clear 45 = .ok (.goto (-22), 3) := by decide +kernel
theorem dX6_clear_48 : decode cX6_clear 48 = .ok (.return_, 1) := by decide +kernel
theorem dX6_nextTask_0 : decode cX6_nextTask 0 = .ok (.iconst (-1), 1) := by decide +kernel
theorem dX6_nextTask_1 : decode cX6_nextTask 1 = .ok (.istore_n 3, 1) := by decide +kernel
theorem dX6_nextTask_2 : decode cX6_nextTask 2 = .ok (.iconst 0, 1) := by decide +kernel
theorem dX6_nextTask_3 : decode cX6_nextTask 3 = .ok (.istore 4, 2) := by decide +kernel
theorem dX6_nextTask_5 : decode cX6_nextTask 5 = .ok (.iload 4, 2) := by decide +kernel
theorem dX6_nextTask_7 : decode cX6_nextTask 7 = .ok (.aload_n 1, 1) := by decide +kernel
theorem dX6_nextTask_8 : decode cX6_nextTask 8 = .ok (.getfield 25, 3) := by decide +kernel
theorem dX6_nextTask_11 : decode cX6_nextTask 11 = .ok (.if_icmp .ge 43, 3) := by decide +kernel
theorem dX6_nextTask_14 : decode cX6_nextTask 14 = .ok (.aload_n 0, 1) := by decide +kernel
theorem dX6_nextTask_15 : decode cX6_nextTask 15 = .ok (.getfield 22, 3) := by decide +kernel
theorem dX6_nextTask_18 : decode cX6_nextTask 18 = .ok (.iload 4, 2) := by decide +kernel
theorem dX6_nextTask_20 : decode cX6_nextTask 20 = .ok (.iaload, 1) := by decide +kernel
theorem dX6_nextTask_21 : decode cX6_nextTask 21 = .ok (.ifCond .ne 27, 3) := by decide +kernel
theorem dX6_nextTask_24 : decode cX6_nextTask 24 = .ok (.iload_n 3, 1) := by decide +kernel
theorem dX6_nextTask_25 : decode cX6_nextTask 25 = .ok (.iconst (-1), 1) := by decide +kernel
theorem dX6_nextTask_26 : decode cX6_nextTask 26 = .ok (.if_icmp .eq 19, 3) := by decide +kernel
theorem dX6_nextTask_29 : decode cX6_nextTask 29 = .ok (.aload_n 2, 1) := by decide +kernel
theorem dX6_nextTask_30 : decode cX6_nextTask 30 = .ok (.getfield 55, 3) := by decide +kernel
theorem dX6_nextTask_33 : decode cX6_nextTask 33 = .ok (.iload 4, 2) := by decide +kernel
theorem dX6_nextTask_35 : decode cX6_nextTask 35 = .ok (.iaload, 1) := by decide +kernel
theorem dX6_nextTask_36 : decode cX6_nextTask 36 = .ok (.aload_n 2, 1) := by decide +kernel
theorem dX6_nextTask_37 : decode cX6_nextTask 37 = .ok (.getfield 55, 3) := by decide +kernel
theorem dX6_nextTask_40 : decode cX6_nextTask 40 = .ok (.iload_n 3, 1) := by decide +kernel
theorem dX6_nextTask_41 : decode cX6_nextTask 41 = .ok (.iaload, 1) := by decide +kernel
theorem dX6_nextTask_42 : decode cX6_nextTask 42 = .ok (.if_icmp .ge 6, 3) := by decide +kernel
theorem dX6_nextTask_45 : decode cX6_nextTask 45 = .ok (.iload 4, 2) := by decide +kernel
theorem dX6_nextTask_47 : decode cX6_nextTask 47 = .ok (.istore_n 3, 1) := by decide +kernel
theorem dX6_nextTask_48 : decode cX6_nextTask 48 = .ok (.iinc 4 1, 3) := by decide +kernel
theorem dX6_nextTask_51 : decode cX6_nextTask 51 = .ok (.goto (-46), 3) := by decide +kernel
theorem dX6_nextTask_54 : decode cX6_nextTask 54 = .ok (.iload_n 3, 1) := by decide +kernel
theorem dX6_nextTask_55 : decode cX6_nextTask 55 = .ok (.ireturn, 1) := by decide +kernel
set_option maxRecDepth 20000 in
theorem ggX6_place_X7_has : GoodIn wsX6_place wsX7_has := goodIn_r _ [16, 17, 29, 30, 31, 32, 33, 34] (by decide +kernel) (by decide +kernel)
set_option maxRecDepth 20000 in
theorem gX6_place_X7_has : GoodIn wsX6_place (wsV RX6 60 RX7 yX7_has wsX7_has) := goodIn_app (goodIn_of _ (by decide +kernel)) ggX6_place_X7_has
set_option maxRecDepth 20000 in
theorem ggX6_place_X6_leastStart : GoodIn wsX6_place wsX6_leastStart := goodIn_r _ [22, 10, 35, 36, 37, 38] (by decide +kernel) (by decide +kernel)
set_option maxRecDepth 20000 in
theorem gX6_place_X6_leastStart : GoodIn wsX6_place (wsV RX6 67 RX6 yX6_leastStart wsX6_leastStart) := goodIn_app (goodIn_of _ (by decide +kernel)) ggX6_place_X6_leastStart
set_option maxRecDepth 20000 in
theorem ggX6_place_X7_lag : GoodIn wsX6_place wsX7_lag := goodIn_r _ [26, 27, 28, 13, 14, 15, 16, 17, 29, 30, 31, 32, 33, 34] (by decide +kernel) (by decide +kernel)
set_option maxRecDepth 20000 in
theorem gX6_place_X7_lag : GoodIn wsX6_place (wsV RX6 77 RX7 yX7_lag wsX7_lag) := goodIn_app (goodIn_of _ (by decide +kernel)) ggX6_place_X7_lag
theorem dX6_place_0 : decode cX6_place 0 = .ok (.aload_n 1, 1) := by decide +kernel
theorem dX6_place_1 : decode cX6_place 1 = .ok (.iload_n 3, 1) := by decide +kernel
theorem dX6_place_2 : decode cX6_place 2 = .ok (.invokevirtual 60, 3) := by decide +kernel
theorem dX6_place_5 : decode cX6_place 5 = .ok (.ifCond .ne 4, 3) := by decide +kernel
theorem dX6_place_8 : decode cX6_place 8 = .ok (.return_, 1) := by decide +kernel
theorem dX6_place_9 : decode cX6_place 9 = .ok (.aload_n 1, 1) := by decide +kernel
theorem dX6_place_10 : decode cX6_place 10 = .ok (.getfield 30, 3) := by decide +kernel
theorem dX6_place_13 : decode cX6_place 13 = .ok (.iload_n 3, 1) := by decide +kernel
theorem dX6_place_14 : decode cX6_place 14 = .ok (.iaload, 1) := by decide +kernel
theorem dX6_place_15 : decode cX6_place 15 = .ok (.istore 4, 2) := by decide +kernel
theorem dX6_place_17 : decode cX6_place 17 = .ok (.aload_n 0, 1) := by decide +kernel
theorem dX6_place_18 : decode cX6_place 18 = .ok (.aload_n 0, 1) := by decide +kernel
theorem dX6_place_19 : decode cX6_place 19 = .ok (.getfield 15, 3) := by decide +kernel
theorem dX6_place_22 : decode cX6_place 22 = .ok (.iload_n 3, 1) := by decide +kernel
theorem dX6_place_23 : decode cX6_place 23 = .ok (.iaload, 1) := by decide +kernel
theorem dX6_place_24 : decode cX6_place 24 = .ok (.aload_n 1, 1) := by decide +kernel
theorem dX6_place_25 : decode cX6_place 25 = .ok (.getfield 64, 3) := by decide +kernel
theorem dX6_place_28 : decode cX6_place 28 = .ok (.iload_n 3, 1) := by decide +kernel
theorem dX6_place_29 : decode cX6_place 29 = .ok (.iaload, 1) := by decide +kernel
theorem dX6_place_30 : decode cX6_place 30 = .ok (.iload_n 2, 1) := by decide +kernel
theorem dX6_place_31 : decode cX6_place 31 = .ok (.iload 4, 2) := by decide +kernel
theorem dX6_place_33 : decode cX6_place 33 = .ok (.isub, 1) := by decide +kernel
theorem dX6_place_34 : decode cX6_place 34 = .ok (.invokevirtual 67, 3) := by decide +kernel
theorem dX6_place_37 : decode cX6_place 37 = .ok (.istore 5, 2) := by decide +kernel
theorem dX6_place_39 : decode cX6_place 39 = .ok (.iload 5, 2) := by decide +kernel
theorem dX6_place_41 : decode cX6_place 41 = .ok (.aload_n 1, 1) := by decide +kernel
theorem dX6_place_42 : decode cX6_place 42 = .ok (.getfield 64, 3) := by decide +kernel
theorem dX6_place_45 : decode cX6_place 45 = .ok (.iload_n 3, 1) := by decide +kernel
theorem dX6_place_46 : decode cX6_place 46 = .ok (.iaload, 1) := by decide +kernel
theorem dX6_place_47 : decode cX6_place 47 = .ok (.iadd, 1) := by decide +kernel
theorem dX6_place_48 : decode cX6_place 48 = .ok (.istore 6, 2) := by decide +kernel
theorem dX6_place_50 : decode cX6_place 50 = .ok (.aload_n 0, 1) := by decide +kernel
theorem dX6_place_51 : decode cX6_place 51 = .ok (.getfield 15, 3) := by decide +kernel
theorem dX6_place_54 : decode cX6_place 54 = .ok (.iload_n 3, 1) := by decide +kernel
theorem dX6_place_55 : decode cX6_place 55 = .ok (.iload 5, 2) := by decide +kernel
theorem dX6_place_57 : decode cX6_place 57 = .ok (.iastore, 1) := by decide +kernel
theorem dX6_place_58 : decode cX6_place 58 = .ok (.aload_n 0, 1) := by decide +kernel
theorem dX6_place_59 : decode cX6_place 59 = .ok (.getfield 22, 3) := by decide +kernel
theorem dX6_place_62 : decode cX6_place 62 = .ok (.iload_n 3, 1) := by decide +kernel
theorem dX6_place_63 : decode cX6_place 63 = .ok (.iconst (-1), 1) := by decide +kernel
theorem dX6_place_64 : decode cX6_place 64 = .ok (.iastore, 1) := by decide +kernel
theorem dX6_place_65 : decode cX6_place 65 = .ok (.aload_n 0, 1) := by decide +kernel
theorem dX6_place_66 : decode cX6_place 66 = .ok (.aload_n 0, 1) := by decide +kernel
theorem dX6_place_67 : decode cX6_place 67 = .ok (.getfield 9, 3) := by decide +kernel
theorem dX6_place_70 : decode cX6_place 70 = .ok (.iload 6, 2) := by decide +kernel
theorem dX6_place_72 : decode cX6_place 72 = .ok (.invokestatic 71, 3) := by decide +kernel
theorem dX6_place_75 : decode cX6_place 75 = .ok (.putfield 9, 3) := by decide +kernel
theorem dX6_place_78 : decode cX6_place 78 = .ok (.iload 5, 2) := by decide +kernel
theorem dX6_place_80 : decode cX6_place 80 = .ok (.istore 7, 2) := by decide +kernel
theorem dX6_place_82 : decode cX6_place 82 = .ok (.iload 7, 2) := by decide +kernel
theorem dX6_place_84 : decode cX6_place 84 = .ok (.iload 6, 2) := by decide +kernel
theorem dX6_place_86 : decode cX6_place 86 = .ok (.if_icmp .ge 29, 3) := by decide +kernel
theorem dX6_place_89 : decode cX6_place 89 = .ok (.iload 7, 2) := by decide +kernel
theorem dX6_place_91 : decode cX6_place 91 = .ok (.sipush 1000, 3) := by decide +kernel
theorem dX6_place_94 : decode cX6_place 94 = .ok (.if_icmp .ge 21, 3) := by decide +kernel
theorem dX6_place_97 : decode cX6_place 97 = .ok (.aload_n 0, 1) := by decide +kernel
theorem dX6_place_98 : decode cX6_place 98 = .ok (.getfield 19, 3) := by decide +kernel
theorem dX6_place_101 : decode cX6_place 101 = .ok (.iload 7, 2) := by decide +kernel
theorem dX6_place_103 : decode cX6_place 103 = .ok (.dup2, 1) := by decide +kernel
theorem dX6_place_104 : decode cX6_place 104 = .ok (.iaload, 1) := by decide +kernel
theorem dX6_place_105 : decode cX6_place 105 = .ok (.iload 4, 2) := by decide +kernel
theorem dX6_place_107 : decode cX6_place 107 = .ok (.iadd, 1) := by decide +kernel
theorem dX6_place_108 : decode cX6_place 108 = .ok (.iastore, 1) := by decide +kernel
theorem dX6_place_109 : decode cX6_place 109 = .ok (.iinc 7 1, 3) := by decide +kernel
theorem dX6_place_112 : decode cX6_place 112 = .ok (.goto (-30), 3) := by decide +kernel
theorem dX6_place_115 : decode cX6_place 115 = .ok (.iconst 0, 1) := by decide +kernel
theorem dX6_place_116 : decode cX6_place 116 = .ok (.istore 7, 2) := by decide +kernel
theorem dX6_place_118 : decode cX6_place 118 = .ok (.iload 7, 2) := by decide +kernel
theorem dX6_place_120 : decode cX6_place 120 = .ok (.aload_n 1, 1) := by decide +kernel
theorem dX6_place_121 : decode cX6_place 121 = .ok (.getfield 25, 3) := by decide +kernel
theorem dX6_place_124 : decode cX6_place 124 = .ok (.if_icmp .ge 57, 3) := by decide +kernel
theorem dX6_place_127 : decode cX6_place 127 = .ok (.aload_n 1, 1) := by decide +kernel
theorem dX6_place_128 : decode cX6_place 128 = .ok (.iload_n 3, 1) := by decide +kernel
theorem dX6_place_129 : decode cX6_place 129 = .ok (.iload 7, 2) := by decide +kernel
theorem dX6_place_131 : decode cX6_place 131 = .ok (.invokevirtual 77, 3) := by decide +kernel
theorem dX6_place_134 : decode cX6_place 134 = .ok (.istore 8, 2) := by decide +kernel
theorem dX6_place_136 : decode cX6_place 136 = .ok (.iload 8, 2) := by decide +kernel
theorem dX6_place_138 : decode cX6_place 138 = .ok (.iconst (-1), 1) := by decide +kernel
theorem dX6_place_139 : decode cX6_place 139 = .ok (.if_icmp .eq 36, 3) := by decide +kernel
theorem dX6_place_142 : decode cX6_place 142 = .ok (.aload_n 0, 1) := by decide +kernel
theorem dX6_place_143 : decode cX6_place 143 = .ok (.getfield 22, 3) := by decide +kernel
theorem dX6_place_146 : decode cX6_place 146 = .ok (.iload 7, 2) := by decide +kernel
theorem dX6_place_148 : decode cX6_place 148 = .ok (.dup2, 1) := by decide +kernel
theorem dX6_place_149 : decode cX6_place 149 = .ok (.iaload, 1) := by decide +kernel
theorem dX6_place_150 : decode cX6_place 150 = .ok (.iconst 1, 1) := by decide +kernel
theorem dX6_place_151 : decode cX6_place 151 = .ok (.isub, 1) := by decide +kernel
theorem dX6_place_152 : decode cX6_place 152 = .ok (.iastore, 1) := by decide +kernel
theorem dX6_place_153 : decode cX6_place 153 = .ok (.aload_n 0, 1) := by decide +kernel
theorem dX6_place_154 : decode cX6_place 154 = .ok (.getfield 15, 3) := by decide +kernel
theorem dX6_place_157 : decode cX6_place 157 = .ok (.iload 7, 2) := by decide +kernel
theorem dX6_place_159 : decode cX6_place 159 = .ok (.aload_n 0, 1) := by decide +kernel
theorem dX6_place_160 : decode cX6_place 160 = .ok (.getfield 15, 3) := by decide +kernel
theorem dX6_place_163 : decode cX6_place 163 = .ok (.iload 7, 2) := by decide +kernel
theorem dX6_place_165 : decode cX6_place 165 = .ok (.iaload, 1) := by decide +kernel
theorem dX6_place_166 : decode cX6_place 166 = .ok (.iload 6, 2) := by decide +kernel
theorem dX6_place_168 : decode cX6_place 168 = .ok (.iload 8, 2) := by decide +kernel
theorem dX6_place_170 : decode cX6_place 170 = .ok (.iadd, 1) := by decide +kernel
theorem dX6_place_171 : decode cX6_place 171 = .ok (.invokestatic 71, 3) := by decide +kernel
theorem dX6_place_174 : decode cX6_place 174 = .ok (.iastore, 1) := by decide +kernel
theorem dX6_place_175 : decode cX6_place 175 = .ok (.iinc 7 1, 3) := by decide +kernel
theorem dX6_place_178 : decode cX6_place 178 = .ok (.goto (-60), 3) := by decide +kernel
theorem dX6_place_181 : decode cX6_place 181 = .ok (.return_, 1) := by decide +kernel
theorem dX6_leastStart_0 : decode cX6_leastStart 0 = .ok (.iload_n 1, 1) := by decide +kernel
theorem dX6_leastStart_1 : decode cX6_leastStart 1 = .ok (.istore 4, 2) := by decide +kernel
theorem dX6_leastStart_3 : decode cX6_leastStart 3 = .ok (.iload_n 1, 1) := by decide +kernel
theorem dX6_leastStart_4 : decode cX6_leastStart 4 = .ok (.istore 5, 2) := by decide +kernel
theorem dX6_leastStart_6 : decode cX6_leastStart 6 = .ok (.iload 5, 2) := by decide +kernel
theorem dX6_leastStart_8 : decode cX6_leastStart 8 = .ok (.iload 4, 2) := by decide +kernel
theorem dX6_leastStart_10 : decode cX6_leastStart 10 = .ok (.iload_n 2, 1) := by decide +kernel
theorem dX6_leastStart_11 : decode cX6_leastStart 11 = .ok (.iadd, 1) := by decide +kernel
theorem dX6_leastStart_12 : decode cX6_leastStart 12 = .ok (.if_icmp .ge 34, 3) := by decide +kernel
theorem dX6_leastStart_15 : decode cX6_leastStart 15 = .ok (.iload 5, 2) := by decide +kernel
theorem dX6_leastStart_17 : decode cX6_leastStart 17 = .ok (.sipush 1000, 3) := by decide +kernel
theorem dX6_leastStart_20 : decode cX6_leastStart 20 = .ok (.if_icmp .ge 26, 3) := by decide +kernel
theorem dX6_leastStart_23 : decode cX6_leastStart 23 = .ok (.aload_n 0, 1) := by decide +kernel
theorem dX6_leastStart_24 : decode cX6_leastStart 24 = .ok (.getfield 19, 3) := by decide +kernel
theorem dX6_leastStart_27 : decode cX6_leastStart 27 = .ok (.iload 5, 2) := by decide +kernel
theorem dX6_leastStart_29 : decode cX6_leastStart 29 = .ok (.iaload, 1) := by decide +kernel
theorem dX6_leastStart_30 : decode cX6_leastStart 30 = .ok (.iload_n 3, 1) := by decide +kernel
theorem dX6_leastStart_31 : decode cX6_leastStart 31 = .ok (.if_icmp .le 9, 3) := by decide +kernel
theorem dX6_leastStart_34 : decode cX6_leastStart 34 = .ok (.iload 5, 2) := by decide +kernel
theorem dX6_leastStart_36 : decode cX6_leastStart 36 = .ok (.iconst 1, 1) := by decide +kernel
theorem dX6_leastStart_37 : decode cX6_leastStart 37 = .ok (.iadd, 1) := by decide +kernel
theorem dX6_leastStart_38 : decode cX6_leastStart 38 = .ok (.istore 4, 2) := by decide +kernel
theorem dX6_leastStart_40 : decode cX6_leastStart 40 = .ok (.iinc 5 1, 3) := by decide +kernel
theorem dX6_leastStart_43 : decode cX6_leastStart 43 = .ok (.goto (-37), 3) := by decide +kernel
theorem dX6_leastStart_46 : decode cX6_leastStart 46 = .ok (.iload 4, 2) := by decide +kernel
theorem dX6_leastStart_48 : decode cX6_leastStart 48 = .ok (.ireturn, 1) := by decide +kernel
set_option maxRecDepth 20000 in
theorem ggX7_init_J7_fill_53178 : GoodIn wsX7_init wsJ7_fill_53178 := goodIn_r _ [14] (by decide +kernel) (by decide +kernel)
set_option maxRecDepth 20000 in
theorem gX7_init_J7_fill_53178 : GoodIn wsX7_init (va_wsS RX7 31 yJ7_fill_53178 wsJ7_fill_53178) := goodIn_app (goodIn_of _ (by decide +kernel)) ggX7_init_J7_fill_53178
theorem dX7_init_0 : decode cX7_init 0 = .ok (.aload_n 0, 1) := by decide +kernel
theorem dX7_init_1 : decode cX7_init 1 = .ok (.invokespecial 3, 3) := by decide +kernel
theorem dX7_init_4 : decode cX7_init 4 = .ok (.aload_n 0, 1) := by decide +kernel
theorem dX7_init_5 : decode cX7_init 5 = .ok (.iconst 0, 1) := by decide +kernel
theorem dX7_init_6 : decode cX7_init 6 = .ok (.putfield 9, 3) := by decide +kernel
theorem dX7_init_9 : decode cX7_init 9 = .ok (.aload_n 0, 1) := by decide +kernel
theorem dX7_init_10 : decode cX7_init 10 = .ok (.iconst 0, 1) := by decide +kernel
theorem dX7_init_11 : decode cX7_init 11 = .ok (.putfield 15, 3) := by decide +kernel
theorem dX7_init_14 : decode cX7_init 14 = .ok (.aload_n 0, 1) := by decide +kernel
theorem dX7_init_15 : decode cX7_init 15 = .ok (.iconst 5, 1) := by decide +kernel
theorem dX7_init_16 : decode cX7_init 16 = .ok (.putfield 18, 3) := by decide +kernel
theorem dX7_init_19 : decode cX7_init 19 = .ok (.aload_n 0, 1) := by decide +kernel
theorem dX7_init_20 : decode cX7_init 20 = .ok (.bipush 20, 2) := by decide +kernel
theorem dX7_init_22 : decode cX7_init 22 = .ok (.newarray .int, 2) := by decide +kernel
theorem dX7_init_24 : decode cX7_init 24 = .ok (.putfield 21, 3) := by decide +kernel
theorem dX7_init_27 : decode cX7_init 27 = .ok (.aload_n 0, 1) := by decide +kernel
theorem dX7_init_28 : decode cX7_init 28 = .ok (.bipush 20, 2) := by decide +kernel
theorem dX7_init_30 : decode cX7_init 30 = .ok (.newarray .int, 2) := by decide +kernel
theorem dX7_init_32 : decode cX7_init 32 = .ok (.putfield 25, 3) := by decide +kernel
theorem dX7_init_35 : decode cX7_init 35 = .ok (.aload_n 0, 1) := by decide +kernel
theorem dX7_init_36 : decode cX7_init 36 = .ok (.sipush 400, 3) := by decide +kernel
theorem dX7_init_39 : decode cX7_init 39 = .ok (.newarray .int, 2) := by decide +kernel
theorem dX7_init_41 : decode cX7_init 41 = .ok (.putfield 28, 3) := by decide +kernel
theorem dX7_init_44 : decode cX7_init 44 = .ok (.aload_n 0, 1) := by decide +kernel
theorem dX7_init_45 : decode cX7_init 45 = .ok (.getfield 28, 3) := by decide +kernel
theorem dX7_init_48 : decode cX7_init 48 = .ok (.iconst (-1), 1) := by decide +kernel
theorem dX7_init_49 : decode cX7_init 49 = .ok (.invokestatic 31, 3) := by decide +kernel
theorem dX7_init_52 : decode cX7_init 52 = .ok (.return_, 1) := by decide +kernel
theorem dX7_has_0 : decode cX7_has 0 = .ok (.iload_n 1, 1) := by decide +kernel
theorem dX7_has_1 : decode cX7_has 1 = .ok (.ifCond .lt 15, 3) := by decide +kernel
theorem dX7_has_4 : decode cX7_has 4 = .ok (.iload_n 1, 1) := by decide +kernel
theorem dX7_has_5 : decode cX7_has 5 = .ok (.aload_n 0, 1) := by decide +kernel
theorem dX7_has_6 : decode cX7_has 6 = .ok (.getfield 9, 3) := by decide +kernel
theorem dX7_has_9 : decode cX7_has 9 = .ok (.if_icmp .ge 7, 3) := by decide +kernel
theorem dX7_has_12 : decode cX7_has 12 = .ok (.iconst 1, 1) := by decide +kernel
theorem dX7_has_13 : decode cX7_has 13 = .ok (.goto 4, 3) := by decide +kernel
theorem dX7_has_16 : decode cX7_has 16 = .ok (.iconst 0, 1) := by decide +kernel
theorem dX7_has_17 : decode cX7_has 17 = .ok (.ireturn, 1) := by decide +kernel
set_option maxRecDepth 20000 in
theorem ggX7_lag_X7_has : GoodIn wsX7_lag wsX7_has := goodIn_r _ [6, 7, 8, 9, 10, 11, 12, 13] (by decide +kernel) (by decide +kernel)
set_option maxRecDepth 20000 in
theorem gX7_lag_X7_has : GoodIn wsX7_lag (wsV RX7 37 RX7 yX7_has wsX7_has) := goodIn_app (goodIn_of _ (by decide +kernel)) ggX7_lag_X7_has
theorem dX7_lag_0 : decode cX7_lag 0 = .ok (.aload_n 0, 1) := by decide +kernel
theorem dX7_lag_1 : decode cX7_lag 1 = .ok (.iload_n 1, 1) := by decide +kernel
theorem dX7_lag_2 : decode cX7_lag 2 = .ok (.invokevirtual 37, 3) := by decide +kernel
theorem dX7_lag_5 : decode cX7_lag 5 = .ok (.ifCond .eq 25, 3) := by decide +kernel
theorem dX7_lag_8 : decode cX7_lag 8 = .ok (.aload_n 0, 1) := by decide +kernel
theorem dX7_lag_9 : decode cX7_lag 9 = .ok (.iload_n 2, 1) := by decide +kernel
theorem dX7_lag_10 : decode cX7_lag 10 = .ok (.invokevirtual 37, 3) := by decide +kernel
theorem dX7_lag_13 : decode cX7_lag 13 = .ok (.ifCond .eq 17, 3) := by decide +kernel
theorem dX7_lag_16 : decode cX7_lag 16 = .ok (.aload_n 0, 1) := by decide +kernel
theorem dX7_lag_17 : decode cX7_lag 17 = .ok (.getfield 28, 3) := by decide +kernel
theorem dX7_lag_20 : decode cX7_lag 20 = .ok (.iload_n 1, 1) := by decide +kernel
theorem dX7_lag_21 : decode cX7_lag 21 = .ok (.bipush 20, 2) := by decide +kernel
theorem dX7_lag_23 : decode cX7_lag 23 = .ok (.imul, 1) := by decide +kernel
theorem dX7_lag_24 : decode cX7_lag 24 = .ok (.iload_n 2, 1) := by decide +kernel
theorem dX7_lag_25 : decode cX7_lag 25 = .ok (.iadd, 1) := by decide +kernel
theorem dX7_lag_26 : decode cX7_lag 26 = .ok (.iaload, 1) := by decide +kernel
theorem dX7_lag_27 : decode cX7_lag 27 = .ok (.goto 4, 3) := by decide +kernel
theorem dX7_lag_30 : decode cX7_lag 30 = .ok (.iconst (-1), 1) := by decide +kernel
theorem dX7_lag_31 : decode cX7_lag 31 = .ok (.ireturn, 1) := by decide +kernel
set_option maxRecDepth 20000 in
theorem ggX7_countBefore_X7_lag : GoodIn wsX7_countBefore wsX7_lag := goodIn_r _ [6, 7, 8, 9, 10, 5, 11, 1, 12, 13, 14, 15, 16, 17] (by decide +kernel) (by decide +kernel)
set_option maxRecDepth 20000 in
theorem gX7_countBefore_X7_lag : GoodIn wsX7_countBefore (wsV RX7 41 RX7 yX7_lag wsX7_lag) := goodIn_app (goodIn_of _ (by decide +kernel)) ggX7_countBefore_X7_lag
theorem dX7_countBefore_0 : decode cX7_countBefore 0 = .ok (.iconst 0, 1) := by decide +kernel
theorem dX7_countBefore_1 : decode cX7_countBefore 1 = .ok (.istore_n 2, 1) := by decide +kernel
theorem dX7_countBefore_2 : decode cX7_countBefore 2 = .ok (.iconst 0, 1) := by decide +kernel
theorem dX7_countBefore_3 : decode cX7_countBefore 3 = .ok (.istore_n 3, 1) := by decide +kernel
theorem dX7_countBefore_4 : decode cX7_countBefore 4 = .ok (.iload_n 3, 1) := by decide +kernel
theorem dX7_countBefore_5 : decode cX7_countBefore 5 = .ok (.aload_n 0, 1) := by decide +kernel
theorem dX7_countBefore_6 : decode cX7_countBefore 6 = .ok (.getfield 9, 3) := by decide +kernel
theorem dX7_countBefore_9 : decode cX7_countBefore 9 = .ok (.if_icmp .ge 22, 3) := by decide +kernel
theorem dX7_countBefore_12 : decode cX7_countBefore 12 = .ok (.aload_n 0, 1) := by decide +kernel
theorem dX7_countBefore_13 : decode cX7_countBefore 13 = .ok (.iload_n 3, 1) := by decide +kernel
theorem dX7_countBefore_14 : decode cX7_countBefore 14 = .ok (.iload_n 1, 1) := by decide +kernel
theorem dX7_countBefore_15 : decode cX7_countBefore 15 = .ok (.invokevirtual 41, 3) := by decide +kernel
theorem dX7_countBefore_18 : decode cX7_countBefore 18 = .ok (.iconst (-1), 1) := by decide +kernel
theorem dX7_countBefore_19 : decode cX7_countBefore 19 = .ok (.if_icmp .eq 6, 3) := by decide +kernel
theorem dX7_countBefore_22 : decode cX7_countBefore 22 = .ok (.iinc 2 1, 3) := by decide +kernel
theorem dX7_countBefore_25 : decode cX7_countBefore 25 = .ok (.iinc 3 1, 3) := by decide +kernel
theorem dX7_countBefore_28 : decode cX7_countBefore 28 = .ok (.goto (-24), 3) := by decide +kernel
theorem dX7_countBefore_31 : decode cX7_countBefore 31 = .ok (.iload_n 2, 1) := by decide +kernel
theorem dX7_countBefore_32 : decode cX7_countBefore 32 = .ok (.ireturn, 1) := by decide +kernel
theorem dX7_sumOfWork_0 : decode cX7_sumOfWork 0 = .ok (.iconst 0, 1) := by decide +kernel
theorem dX7_sumOfWork_1 : decode cX7_sumOfWork 1 = .ok (.istore_n 1, 1) := by decide +kernel
theorem dX7_sumOfWork_2 : decode cX7_sumOfWork 2 = .ok (.iconst 0, 1) := by decide +kernel
theorem dX7_sumOfWork_3 : decode cX7_sumOfWork 3 = .ok (.istore_n 2, 1) := by decide +kernel
theorem dX7_sumOfWork_4 : decode cX7_sumOfWork 4 = .ok (.iload_n 2, 1) := by decide +kernel
theorem dX7_sumOfWork_5 : decode cX7_sumOfWork 5 = .ok (.aload_n 0, 1) := by decide +kernel
theorem dX7_sumOfWork_6 : decode cX7_sumOfWork 6 = .ok (.getfield 9, 3) := by decide +kernel
theorem dX7_sumOfWork_9 : decode cX7_sumOfWork 9 = .ok (.if_icmp .ge 25, 3) := by decide +kernel
theorem dX7_sumOfWork_12 : decode cX7_sumOfWork 12 = .ok (.iload_n 1, 1) := by decide +kernel
theorem dX7_sumOfWork_13 : decode cX7_sumOfWork 13 = .ok (.aload_n 0, 1) := by decide +kernel
theorem dX7_sumOfWork_14 : decode cX7_sumOfWork 14 = .ok (.getfield 21, 3) := by decide +kernel
theorem dX7_sumOfWork_17 : decode cX7_sumOfWork 17 = .ok (.iload_n 2, 1) := by decide +kernel
theorem dX7_sumOfWork_18 : decode cX7_sumOfWork 18 = .ok (.iaload, 1) := by decide +kernel
theorem dX7_sumOfWork_19 : decode cX7_sumOfWork 19 = .ok (.aload_n 0, 1) := by decide +kernel
theorem dX7_sumOfWork_20 : decode cX7_sumOfWork 20 = .ok (.getfield 25, 3) := by decide +kernel
theorem dX7_sumOfWork_23 : decode cX7_sumOfWork 23 = .ok (.iload_n 2, 1) := by decide +kernel
theorem dX7_sumOfWork_24 : decode cX7_sumOfWork 24 = .ok (.iaload, 1) := by decide +kernel
theorem dX7_sumOfWork_25 : decode cX7_sumOfWork 25 = .ok (.imul, 1) := by decide +kernel
theorem dX7_sumOfWork_26 : decode cX7_sumOfWork 26 = .ok (.iadd, 1) := by decide +kernel
theorem dX7_sumOfWork_27 : decode cX7_sumOfWork 27 = .ok (.istore_n 1, 1) := by decide +kernel
theorem dX7_sumOfWork_28 : decode cX7_sumOfWork 28 = .ok (.iinc 2 1, 3) := by decide +kernel
theorem dX7_sumOfWork_31 : decode cX7_sumOfWork 31 = .ok (.goto (-27), 3) := by decide +kernel
theorem dX7_sumOfWork_34 : decode cX7_sumOfWork 34 = .ok (.iload_n 1, 1) := by decide +kernel
theorem dX7_sumOfWork_35 : decode cX7_sumOfWork 35 = .ok (.ireturn, 1) := by decide +kernel
set_option maxRecDepth 20000 in
theorem ggX7_copyAll_X7_copyTasks : GoodIn wsX7_copyAll wsX7_copyTasks := goodIn_r _ [6, 7, 8, 9, 10, 11, 12, 13, 14, 15, 16, 17, 18, 19, 20, 21] (by decide +kernel) (by decide +kernel)
set_option maxRecDepth 20000 in
theorem gX7_copyAll_X7_copyTasks : GoodIn wsX7_copyAll (wsV RX7 45 RX7 yX7_copyTasks wsX7_copyTasks) := goodIn_app (goodIn_of _ (by decide +kernel)) ggX7_copyAll_X7_copyTasks
theorem dX7_copyAll_0 : decode cX7_copyAll 0 = .ok (.aload_n 0, 1) := by decide +kernel
theorem dX7_copyAll_1 : decode cX7_copyAll 1 = .ok (.aload_n 1, 1) := by decide +kernel
theorem dX7_copyAll_2 : decode cX7_copyAll 2 = .ok (.invokevirtual 45, 3) := by decide +kernel
theorem dX7_copyAll_5 : decode cX7_copyAll 5 = .ok (.aload_n 0, 1) := by decide +kernel
theorem dX7_copyAll_6 : decode cX7_copyAll 6 = .ok (.aload_n 1, 1) := by decide +kernel
theorem dX7_copyAll_7 : decode cX7_copyAll 7 = .ok (.getfield 18, 3) := by decide +kernel
theorem dX7_copyAll_10 : decode cX7_copyAll 10 = .ok (.putfield 18, 3) := by decide +kernel
theorem dX7_copyAll_13 : decode cX7_copyAll 13 = .ok (.return_, 1) := by decide +kernel
theorem dX7_copyTasks_0 : decode cX7_copyTasks 0 = .ok (.aload_n 0, 1) := by decide +kernel
theorem dX7_copyTasks_1 : decode cX7_copyTasks 1 = .ok (.aload_n 1, 1) := by decide +kernel
theorem dX7_copyTasks_2 : decode cX7_copyTasks 2 = .ok (.getfield 9, 3) := by decide +kernel
theorem dX7_copyTasks_5 : decode cX7_copyTasks 5 = .ok (.putfield 9, 3) := by decide +kernel
theorem dX7_copyTasks_8 : decode cX7_copyTasks 8 = .ok (.aload_n 0, 1) := by decide +kernel
theorem dX7_copyTasks_9 : decode cX7_copyTasks 9 = .ok (.aload_n 1, 1) := by decide +kernel
theorem dX7_copyTasks_10 : decode cX7_copyTasks 10 = .ok (.getfield 15, 3) := by decide +kernel
theorem dX7_copyTasks_13 : decode cX7_copyTasks 13 = .ok (.putfield 15, 3) := by decide +kernel
theorem dX7_copyTasks_16 : decode cX7_copyTasks 16 = .ok (.aload_n 1, 1) := by decide +kernel
theorem dX7_copyTasks_17 : decode cX7_copyTasks 17 = .ok (.getfield 21, 3) := by decide +kernel
theorem dX7_copyTasks_20 : decode cX7_copyTasks 20 = .ok (.iconst 0, 1) := by decide +kernel
theorem dX7_copyTasks_21 : decode cX7_copyTasks 21 = .ok (.aload_n 0, 1) := by decide +kernel
theorem dX7_copyTasks_22 : decode cX7_copyTasks 22 = .ok (.getfield 21, 3) := by decide +kernel
theorem dX7_copyTasks_25 : decode cX7_copyTasks 25 = .ok (.iconst 0, 1) := by decide +kernel
theorem dX7_copyTasks_26 : decode cX7_copyTasks 26 = .ok (.bipush 20, 2) := by decide +kernel
theorem dX7_copyTasks_28 : decode cX7_copyTasks 28 = .ok (.invokestatic 49, 3) := by decide +kernel
theorem dX7_copyTasks_31 : decode cX7_copyTasks 31 = .ok (.aload_n 1, 1) := by decide +kernel
theorem dX7_copyTasks_32 : decode cX7_copyTasks 32 = .ok (.getfield 25, 3) := by decide +kernel
theorem dX7_copyTasks_35 : decode cX7_copyTasks 35 = .ok (.iconst 0, 1) := by decide +kernel
theorem dX7_copyTasks_36 : decode cX7_copyTasks 36 = .ok (.aload_n 0, 1) := by decide +kernel
theorem dX7_copyTasks_37 : decode cX7_copyTasks 37 = .ok (.getfield 25, 3) := by decide +kernel
theorem dX7_copyTasks_40 : decode cX7_copyTasks 40 = .ok (.iconst 0, 1) := by decide +kernel
theorem dX7_copyTasks_41 : decode cX7_copyTasks 41 = .ok (.bipush 20, 2) := by decide +kernel
theorem dX7_copyTasks_43 : decode cX7_copyTasks 43 = .ok (.invokestatic 49, 3) := by decide +kernel
theorem dX7_copyTasks_46 : decode cX7_copyTasks 46 = .ok (.aload_n 1, 1) := by decide +kernel
theorem dX7_copyTasks_47 : decode cX7_copyTasks 47 = .ok (.getfield 28, 3) := by decide +kernel
theorem dX7_copyTasks_50 : decode cX7_copyTasks 50 = .ok (.iconst 0, 1) := by decide +kernel
theorem dX7_copyTasks_51 : decode cX7_copyTasks 51 = .ok (.aload_n 0, 1) := by decide +kernel
theorem dX7_copyTasks_52 : decode cX7_copyTasks 52 = .ok (.getfield 28, 3) := by decide +kernel
theorem dX7_copyTasks_55 : decode cX7_copyTasks 55 = .ok (.iconst 0, 1) := by decide +kernel
theorem dX7_copyTasks_56 : decode cX7_copyTasks 56 = .ok (.sipush 400, 3) := by decide +kernel
theorem dX7_copyTasks_59 : decode cX7_copyTasks 59 = .ok (.invokestatic 49, 3) := by decide +kernel
theorem dX7_copyTasks_62 : decode cX7_copyTasks 62 = .ok (.return_, 1) := by decide +kernel
theorem dX7_add_0 : decode cX7_add 0 = .ok (.aload_n 0, 1) := by decide +kernel
theorem dX7_add_1 : decode cX7_add 1 = .ok (.getfield 9, 3) := by decide +kernel
theorem dX7_add_4 : decode cX7_add 4 = .ok (.bipush 20, 2) := by decide +kernel
theorem dX7_add_6 : decode cX7_add 6 = .ok (.if_icmp .ge 33, 3) := by decide +kernel
theorem dX7_add_9 : decode cX7_add 9 = .ok (.aload_n 0, 1) := by decide +kernel
theorem dX7_add_10 : decode cX7_add 10 = .ok (.getfield 21, 3) := by decide +kernel
theorem dX7_add_13 : decode cX7_add 13 = .ok (.aload_n 0, 1) := by decide +kernel
theorem dX7_add_14 : decode cX7_add 14 = .ok (.getfield 9, 3) := by decide +kernel
theorem dX7_add_17 : decode cX7_add 17 = .ok (.iload_n 1, 1) := by decide +kernel
theorem dX7_add_18 : decode cX7_add 18 = .ok (.iastore, 1) := by decide +kernel
theorem dX7_add_19 : decode cX7_add 19 = .ok (.aload_n 0, 1) := by decide +kernel
theorem dX7_add_20 : decode cX7_add 20 = .ok (.getfield 25, 3) := by decide +kernel
theorem dX7_add_23 : decode cX7_add 23 = .ok (.aload_n 0, 1) := by decide +kernel
theorem dX7_add_24 : decode cX7_add 24 = .ok (.getfield 9, 3) := by decide +kernel
theorem dX7_add_27 : decode cX7_add 27 = .ok (.iload_n 2, 1) := by decide +kernel
theorem dX7_add_28 : decode cX7_add 28 = .ok (.iastore, 1) := by decide +kernel
theorem dX7_add_29 : decode cX7_add 29 = .ok (.aload_n 0, 1) := by decide +kernel
theorem dX7_add_30 : decode cX7_add 30 = .ok (.dup, 1) := by decide +kernel
theorem dX7_add_31 : decode cX7_add 31 = .ok (.getfield 9, 3) := by decide +kernel
theorem dX7_add_34 : decode cX7_add 34 = .ok (.iconst 1, 1) := by decide +kernel
theorem dX7_add_35 : decode cX7_add 35 = .ok (.iadd, 1) := by decide +kernel
theorem dX7_add_36 : decode cX7_add 36 = .ok (.putfield 9, 3) := by decide +kernel
theorem dX7_add_39 : decode cX7_add 39 = .ok (.return_, 1) := by decide +kernel
set_option maxRecDepth 20000 in
theorem ggX7_link_X7_has : GoodIn wsX7_link wsX7_has := goodIn_r _ [7, 8, 13, 14, 15, 16, 17, 18] (by decide +kernel) (by decide +kernel)
set_option maxRecDepth 20000 in
theorem gX7_link_X7_has : GoodIn wsX7_link (wsV RX7 37 RX7 yX7_has wsX7_has) := goodIn_app (goodIn_of _ (by decide +kernel)) ggX7_link_X7_has
set_option maxRecDepth 20000 in
theorem ggX7_link_X7_lag : GoodIn wsX7_link wsX7_lag := goodIn_r _ [12, 2, 3, 4, 5, 6, 7, 8, 13, 14, 15, 16, 17, 18] (by decide +kernel) (by decide +kernel)
set_option maxRecDepth 20000 in
theorem gX7_link_X7_lag : GoodIn wsX7_link (wsV RX7 41 RX7 yX7_lag wsX7_lag) := goodIn_app (goodIn_of _ (by decide +kernel)) ggX7_link_X7_lag
theorem dX7_link_0 : decode cX7_link 0 = .ok (.aload_n 0, 1) := by decide +kernel
theorem dX7_link_1 : decode cX7_link 1 = .ok (.iload_n 1, 1) := by decide +kernel
theorem dX7_link_2 : decode cX7_link 2 = .ok (.invokevirtual 37, 3) := by decide +kernel
theorem dX7_link_5 : decode cX7_link 5 = .ok (.ifCond .eq 43, 3) := by decide +kernel
theorem dX7_link_8 : decode cX7_link 8 = .ok (.aload_n 0, 1) := by decide +kernel
theorem dX7_link_9 : decode cX7_link 9 = .ok (.iload_n 2, 1) := by decide +kernel
theorem dX7_link_10 : decode cX7_link 10 = .ok (.invokevirtual 37, 3) := by decide +kernel
theorem dX7_link_13 : decode cX7_link 13 = .ok (.ifCond .eq 35, 3) := by decide +kernel
theorem dX7_link_16 : decode cX7_link 16 = .ok (.aload_n 0, 1) := by decide +kernel
theorem dX7_link_17 : decode cX7_link 17 = .ok (.iload_n 1, 1) := by decide +kernel
theorem dX7_link_18 : decode cX7_link 18 = .ok (.iload_n 2, 1) := by decide +kernel
theorem dX7_link_19 : decode cX7_link 19 = .ok (.invokevirtual 41, 3) := by decide +kernel
theorem dX7_link_22 : decode cX7_link 22 = .ok (.iconst (-1), 1) := by decide +kernel
theorem dX7_link_23 : decode cX7_link 23 = .ok (.if_icmp .ne 13, 3) := by decide +kernel
theorem dX7_link_26 : decode cX7_link 26 = .ok (.aload_n 0, 1) := by decide +kernel
theorem dX7_link_27 : decode cX7_link 27 = .ok (.dup, 1) := by decide +kernel
theorem dX7_link_28 : decode cX7_link 28 = .ok (.getfield 15, 3) := by decide +kernel
theorem dX7_link_31 : decode cX7_link 31 = .ok (.iconst 1, 1) := by decide +kernel
theorem dX7_link_32 : decode cX7_link 32 = .ok (.iadd, 1) := by decide +kernel
theorem dX7_link_33 : decode cX7_link 33 = .ok (.putfield 15, 3) := by decide +kernel
theorem dX7_link_36 : decode cX7_link 36 = .ok (.aload_n 0, 1) := by decide +kernel
theorem dX7_link_37 : decode cX7_link 37 = .ok (.getfield 28, 3) := by decide +kernel
theorem dX7_link_40 : decode cX7_link 40 = .ok (.iload_n 1, 1) := by decide +kernel
theorem dX7_link_41 : decode cX7_link 41 = .ok (.bipush 20, 2) := by decide +kernel
theorem dX7_link_43 : decode cX7_link 43 = .ok (.imul, 1) := by decide +kernel
theorem dX7_link_44 : decode cX7_link 44 = .ok (.iload_n 2, 1) := by decide +kernel
theorem dX7_link_45 : decode cX7_link 45 = .ok (.iadd, 1) := by decide +kernel
theorem dX7_link_46 : decode cX7_link 46 = .ok (.iload_n 3, 1) := by decide +kernel
theorem dX7_link_47 : decode cX7_link 47 = .ok (.iastore, 1) := by decide +kernel
theorem dX7_link_48 : decode cX7_link 48 = .ok (.return_, 1) := by decide +kernel
set_option maxRecDepth 20000 in
theorem ggX7_unlink_X7_lag : GoodIn wsX7_unlink wsX7_lag := goodIn_r _ [7, 2, 8, 9, 10, 6, 11, 12, 13, 14, 15, 16, 17, 18] (by decide +kernel) (by decide +kernel)
set_option maxRecDepth 20000 in
theorem gX7_unlink_X7_lag : GoodIn wsX7_unlink (wsV RX7 41 RX7 yX7_lag wsX7_lag) := goodIn_app (goodIn_of _ (by decide +kernel)) ggX7_unlink_X7_lag
theorem dX7_unlink_0 : decode cX7_unlink 0 = .ok (.aload_n 0, 1) := by decide +kernel
theorem dX7_unlink_1 : decode cX7_unlink 1 = .ok (.iload_n 1, 1) := by decide +kernel
theorem dX7_unlink_2 : decode cX7_unlink 2 = .ok (.iload_n 2, 1) := by decide +kernel
theorem dX7_unlink_3 : decode cX7_unlink 3 = .ok (.invokevirtual 41, 3) := by decide +kernel
theorem dX7_unlink_6 : decode cX7_unlink 6 = .ok (.iconst (-1), 1) := by decide +kernel
theorem dX7_unlink_7 : decode cX7_unlink 7 = .ok (.if_icmp .eq 25, 3) := by decide +kernel
theorem dX7_unlink_10 : decode cX7_unlink 10 = .ok (.aload_n 0, 1) := by decide +kernel
theorem dX7_unlink_11 : decode cX7_unlink 11 = .ok (.dup, 1) := by decide +kernel
theorem dX7_unlink_12 : decode cX7_unlink 12 = .ok (.getfield 15, 3) := by decide +kernel
theorem dX7_unlink_15 : decode cX7_unlink 15 = .ok (.iconst 1, 1) := by decide +kernel
theorem dX7_unlink_16 : decode cX7_unlink 16 = .ok (.isub, 1) := by decide +kernel
theorem dX7_unlink_17 : decode cX7_unlink 17 = .ok (.putfield 15, 3) := by decide +kernel
theorem dX7_unlink_20 : decode cX7_unlink 20 = .ok (.aload_n 0, 1) := by decide +kernel
theorem dX7_unlink_21 : decode cX7_unlink 21 = .ok (.getfield 28, 3) := by decide +kernel
theorem dX7_unlink_24 : decode cX7_unlink 24 = .ok (.iload_n 1, 1) := by decide +kernel
theorem dX7_unlink_25 : decode cX7_unlink 25 = .ok (.bipush 20, 2) := by decide +kernel
theorem dX7_unlink_27 : decode cX7_unlink 27 = .ok (.imul, 1) := by decide +kernel
theorem dX7_unlink_28 : decode cX7_unlink 28 = .ok (.iload_n 2, 1) := by decide +kernel
theorem dX7_unlink_29 : decode cX7_unlink 29 = .ok (.iadd, 1) := by decide +kernel
theorem dX7_unlink_30 : decode cX7_unlink 30 = .ok (.iconst (-1), 1) := by decide +kernel
theorem dX7_unlink_31 : decode cX7_unlink 31 = .ok (.iastore, 1) := by decide +kernel
theorem dX7_unlink_32 : decode cX7_unlink 32 = .ok (.return_, 1) := by decide +kernel
