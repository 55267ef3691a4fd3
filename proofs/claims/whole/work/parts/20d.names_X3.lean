theorem dX3_temperature_18 : decode cX3_temperature 18 = .ok (.ireturn, 1) := by decide +kernel
set_option maxRecDepth 20000 in
theorem ggX3_demand_X3_asks : GoodIn wsX3_demand wsX3_asks := goodIn_r _ [6, 7, 8, 5, 9, 10, 11, 12, 13, 14, 15, 16, 17, 18, 19, 20, 21, 22, 23, 24, 25, 26, 27, 28, 29, 30, 31, 32, 33, 34] (by decide +kernel) (by decide +kernel)
set_option maxRecDepth 20000 in
theorem gX3_demand_X3_asks : GoodIn wsX3_demand (wsV RX3 107 RX3 yX3_asks wsX3_asks) := goodIn_app (goodIn_of _ (by decide +kernel)) ggX3_demand_X3_asks
theorem dX3_demand_0 : decode cX3_demand 0 = .ok (.aload_n 0, 1) := by decide +kernel
theorem dX3_demand_1 : decode cX3_demand 1 = .ok (.iload_n 1, 1) := by decide +kernel
theorem dX3_demand_2 : decode cX3_demand 2 = .ok (.invokevirtual 107, 3) := by decide +kernel
theorem dX3_demand_5 : decode cX3_demand 5 = .ok (.ifCond .eq 12, 3) := by decide +kernel
theorem dX3_demand_8 : decode cX3_demand 8 = .ok (.aload_n 0, 1) := by decide +kernel
theorem dX3_demand_9 : decode cX3_demand 9 = .ok (.getfield 44, 3) := by decide +kernel
theorem dX3_demand_12 : decode cX3_demand 12 = .ok (.iload_n 1, 1) := by decide +kernel
theorem dX3_demand_13 : decode cX3_demand 13 = .ok (.iaload, 1) := by decide +kernel
theorem dX3_demand_14 : decode cX3_demand 14 = .ok (.goto 4, 3) := by decide +kernel
theorem dX3_demand_17 : decode cX3_demand 17 = .ok (.iconst 0, 1) := by decide +kernel
theorem dX3_demand_18 : decode cX3_demand 18 = .ok (.ireturn, 1) := by decide +kernel
set_option maxRecDepth 20000 in
theorem ggX3_errors_X3_asks : GoodIn wsX3_errors wsX3_asks := goodIn_r _ [6, 7, 8, 5, 9, 10, 11, 12, 13, 14, 15, 16, 17, 18, 19, 20, 21, 22, 23, 24, 25, 26, 27, 28, 29, 30, 31, 32, 33, 34] (by decide +kernel) (by decide +kernel)
set_option maxRecDepth 20000 in
theorem gX3_errors_X3_asks : GoodIn wsX3_errors (wsV RX3 107 RX3 yX3_asks wsX3_asks) := goodIn_app (goodIn_of _ (by decide +kernel)) ggX3_errors_X3_asks
theorem dX3_errors_0 : decode cX3_errors 0 = .ok (.aload_n 0, 1) := by decide +kernel
theorem dX3_errors_1 : decode cX3_errors 1 = .ok (.iload_n 1, 1) := by decide +kernel
theorem dX3_errors_2 : decode cX3_errors 2 = .ok (.invokevirtual 107, 3) := by decide +kernel
theorem dX3_errors_5 : decode cX3_errors 5 = .ok (.ifCond .eq 12, 3) := by decide +kernel
theorem dX3_errors_8 : decode cX3_errors 8 = .ok (.aload_n 0, 1) := by decide +kernel
theorem dX3_errors_9 : decode cX3_errors 9 = .ok (.getfield 41, 3) := by decide +kernel
theorem dX3_errors_12 : decode cX3_errors 12 = .ok (.iload_n 1, 1) := by decide +kernel
theorem dX3_errors_13 : decode cX3_errors 13 = .ok (.iaload, 1) := by decide +kernel
theorem dX3_errors_14 : decode cX3_errors 14 = .ok (.goto 4, 3) := by decide +kernel
theorem dX3_errors_17 : decode cX3_errors 17 = .ok (.iconst 0, 1) := by decide +kernel
theorem dX3_errors_18 : decode cX3_errors 18 = .ok (.ireturn, 1) := by decide +kernel
set_option maxRecDepth 20000 in
theorem ggX3_hotMinutes_X3_asks : GoodIn wsX3_hotMinutes wsX3_asks := goodIn_r _ [6, 7, 8, 5, 9, 10, 11, 12, 13, 14, 15, 16, 17, 18, 19, 20, 21, 22, 23, 24, 25, 26, 27, 28, 29, 30, 31, 32, 33, 34] (by decide +kernel) (by decide +kernel)
set_option maxRecDepth 20000 in
theorem gX3_hotMinutes_X3_asks : GoodIn wsX3_hotMinutes (wsV RX3 107 RX3 yX3_asks wsX3_asks) := goodIn_app (goodIn_of _ (by decide +kernel)) ggX3_hotMinutes_X3_asks
theorem dX3_hotMinutes_0 : decode cX3_hotMinutes 0 = .ok (.aload_n 0, 1) := by decide +kernel
theorem dX3_hotMinutes_1 : decode cX3_hotMinutes 1 = .ok (.iload_n 1, 1) := by decide +kernel
theorem dX3_hotMinutes_2 : decode cX3_hotMinutes 2 = .ok (.invokevirtual 107, 3) := by decide +kernel
theorem dX3_hotMinutes_5 : decode cX3_hotMinutes 5 = .ok (.ifCond .eq 12, 3) := by decide +kernel
theorem dX3_hotMinutes_8 : decode cX3_hotMinutes 8 = .ok (.aload_n 0, 1) := by decide +kernel
theorem dX3_hotMinutes_9 : decode cX3_hotMinutes 9 = .ok (.getfield 57, 3) := by decide +kernel
theorem dX3_hotMinutes_12 : decode cX3_hotMinutes 12 = .ok (.iload_n 1, 1) := by decide +kernel
theorem dX3_hotMinutes_13 : decode cX3_hotMinutes 13 = .ok (.iaload, 1) := by decide +kernel
theorem dX3_hotMinutes_14 : decode cX3_hotMinutes 14 = .ok (.goto 4, 3) := by decide +kernel
theorem dX3_hotMinutes_17 : decode cX3_hotMinutes 17 = .ok (.iconst 0, 1) := by decide +kernel
theorem dX3_hotMinutes_18 : decode cX3_hotMinutes 18 = .ok (.ireturn, 1) := by decide +kernel
theorem dX3_hottest_0 : decode cX3_hottest 0 = .ok (.aload_n 0, 1) := by decide +kernel
theorem dX3_hottest_1 : decode cX3_hottest 1 = .ok (.iconst 0, 1) := by decide +kernel
theorem dX3_hottest_2 : decode cX3_hottest 2 = .ok (.putfield 60, 3) := by decide +kernel
theorem dX3_hottest_5 : decode cX3_hottest 5 = .ok (.iconst 0, 1) := by decide +kernel
theorem dX3_hottest_6 : decode cX3_hottest 6 = .ok (.istore_n 1, 1) := by decide +kernel
theorem dX3_hottest_7 : decode cX3_hottest 7 = .ok (.iconst 1, 1) := by decide +kernel
theorem dX3_hottest_8 : decode cX3_hottest 8 = .ok (.istore_n 2, 1) := by decide +kernel
theorem dX3_hottest_9 : decode cX3_hottest 9 = .ok (.iload_n 2, 1) := by decide +kernel
theorem dX3_hottest_10 : decode cX3_hottest 10 = .ok (.bipush 6, 2) := by decide +kernel
theorem dX3_hottest_12 : decode cX3_hottest 12 = .ok (.if_icmp .ge 30, 3) := by decide +kernel
theorem dX3_hottest_15 : decode cX3_hottest 15 = .ok (.aload_n 0, 1) := by decide +kernel
theorem dX3_hottest_16 : decode cX3_hottest 16 = .ok (.getfield 38, 3) := by decide +kernel
theorem dX3_hottest_19 : decode cX3_hottest 19 = .ok (.iload_n 2, 1) := by decide +kernel
theorem dX3_hottest_20 : decode cX3_hottest 20 = .ok (.iaload, 1) := by decide +kernel
theorem dX3_hottest_21 : decode cX3_hottest 21 = .ok (.aload_n 0, 1) := by decide +kernel
theorem dX3_hottest_22 : decode cX3_hottest 22 = .ok (.getfield 38, 3) := by decide +kernel
theorem dX3_hottest_25 : decode cX3_hottest 25 = .ok (.iload_n 1, 1) := by decide +kernel
theorem dX3_hottest_26 : decode cX3_hottest 26 = .ok (.iaload, 1) := by decide +kernel
theorem dX3_hottest_27 : decode cX3_hottest 27 = .ok (.if_icmp .le 7, 3) := by decide +kernel
theorem dX3_hottest_30 : decode cX3_hottest 30 = .ok (.iload_n 2, 1) := by decide +kernel
theorem dX3_hottest_31 : decode cX3_hottest 31 = .ok (.goto 4, 3) := by decide +kernel
theorem dX3_hottest_34 : decode cX3_hottest 34 = .ok (.iload_n 1, 1) := by decide +kernel
theorem dX3_hottest_35 : decode cX3_hottest 35 = .ok (.istore_n 1, 1) := by decide +kernel
theorem dX3_hottest_36 : decode cX3_hottest 36 = .ok (.iinc 2 1, 3) := by decide +kernel
theorem dX3_hottest_39 : decode cX3_hottest 39 = .ok (.goto (-30), 3) := by decide +kernel
theorem dX3_hottest_42 : decode cX3_hottest 42 = .ok (.iload_n 1, 1) := by decide +kernel
theorem dX3_hottest_43 : decode cX3_hottest 43 = .ok (.ireturn, 1) := by decide +kernel
theorem dX3_copies_0 : decode cX3_copies 0 = .ok (.aload_n 0, 1) := by decide +kernel
theorem dX3_copies_1 : decode cX3_copies 1 = .ok (.getfield 35, 3) := by decide +kernel
theorem dX3_copies_4 : decode cX3_copies 4 = .ok (.iconst 1, 1) := by decide +kernel
theorem dX3_copies_5 : decode cX3_copies 5 = .ok (.aload_n 0, 1) := by decide +kernel
theorem dX3_copies_6 : decode cX3_copies 6 = .ok (.getfield 35, 3) := by decide +kernel
theorem dX3_copies_9 : decode cX3_copies 9 = .ok (.iconst 0, 1) := by decide +kernel
theorem dX3_copies_10 : decode cX3_copies 10 = .ok (.iaload, 1) := by decide +kernel
theorem dX3_copies_11 : decode cX3_copies 11 = .ok (.iastore, 1) := by decide +kernel
theorem dX3_copies_12 : decode cX3_copies 12 = .ok (.iconst 0, 1) := by decide +kernel
theorem dX3_copies_13 : decode cX3_copies 13 = .ok (.istore_n 1, 1) := by decide +kernel
theorem dX3_copies_14 : decode cX3_copies 14 = .ok (.iload_n 1, 1) := by decide +kernel
theorem dX3_copies_15 : decode cX3_copies 15 = .ok (.bipush 6, 2) := by decide +kernel
theorem dX3_copies_17 : decode cX3_copies 17 = .ok (.if_icmp .ge 39, 3) := by decide +kernel
theorem dX3_copies_20 : decode cX3_copies 20 = .ok (.aload_n 0, 1) := by decide +kernel
theorem dX3_copies_21 : decode cX3_copies 21 = .ok (.getfield 38, 3) := by decide +kernel
theorem dX3_copies_24 : decode cX3_copies 24 = .ok (.bipush 6, 2) := by decide +kernel
theorem dX3_copies_26 : decode cX3_copies 26 = .ok (.iload_n 1, 1) := by decide +kernel
theorem dX3_copies_27 : decode cX3_copies 27 = .ok (.iadd, 1) := by decide +kernel
theorem dX3_copies_28 : decode cX3_copies 28 = .ok (.aload_n 0, 1) := by decide +kernel
theorem dX3_copies_29 : decode cX3_copies 29 = .ok (.getfield 38, 3) := by decide +kernel
theorem dX3_copies_32 : decode cX3_copies 32 = .ok (.iload_n 1, 1) := by decide +kernel
theorem dX3_copies_33 : decode cX3_copies 33 = .ok (.iaload, 1) := by decide +kernel
theorem dX3_copies_34 : decode cX3_copies 34 = .ok (.iastore, 1) := by decide +kernel
theorem dX3_copies_35 : decode cX3_copies 35 = .ok (.aload_n 0, 1) := by decide +kernel
theorem dX3_copies_36 : decode cX3_copies 36 = .ok (.getfield 41, 3) := by decide +kernel
theorem dX3_copies_39 : decode cX3_copies 39 = .ok (.bipush 6, 2) := by decide +kernel
theorem dX3_copies_41 : decode cX3_copies 41 = .ok (.iload_n 1, 1) := by decide +kernel
theorem dX3_copies_42 : decode cX3_copies 42 = .ok (.iadd, 1) := by decide +kernel
theorem dX3_copies_43 : decode cX3_copies 43 = .ok (.aload_n 0, 1) := by decide +kernel
theorem dX3_copies_44 : decode cX3_copies 44 = .ok (.getfield 41, 3) := by decide +kernel
theorem dX3_copies_47 : decode cX3_copies 47 = .ok (.iload_n 1, 1) := by decide +kernel
theorem dX3_copies_48 : decode cX3_copies 48 = .ok (.iaload, 1) := by decide +kernel
theorem dX3_copies_49 : decode cX3_copies 49 = .ok (.iastore, 1) := by decide +kernel
theorem dX3_copies_50 : decode cX3_copies 50 = .ok (.iinc 1 1, 3) := by decide +kernel
theorem dX3_copies_53 : decode cX3_copies 53 = .ok (.goto (-39), 3) := by decide +kernel
theorem dX3_copies_56 : decode cX3_copies 56 = .ok (.iconst 0, 1) := by decide +kernel
theorem dX3_copies_57 : decode cX3_copies 57 = .ok (.istore_n 1, 1) := by decide +kernel
theorem dX3_copies_58 : decode cX3_copies 58 = .ok (.iload_n 1, 1) := by decide +kernel
theorem dX3_copies_59 : decode cX3_copies 59 = .ok (.bipush 8, 2) := by decide +kernel
theorem dX3_copies_61 : decode cX3_copies 61 = .ok (.if_icmp .ge 24, 3) := by decide +kernel
theorem dX3_copies_64 : decode cX3_copies 64 = .ok (.aload_n 0, 1) := by decide +kernel
theorem dX3_copies_65 : decode cX3_copies 65 = .ok (.getfield 47, 3) := by decide +kernel
theorem dX3_copies_68 : decode cX3_copies 68 = .ok (.bipush 8, 2) := by decide +kernel
theorem dX3_copies_70 : decode cX3_copies 70 = .ok (.iload_n 1, 1) := by decide +kernel
theorem dX3_copies_71 : decode cX3_copies 71 = .ok (.iadd, 1) := by decide +kernel
theorem dX3_copies_72 : decode cX3_copies 72 = .ok (.aload_n 0, 1) := by decide +kernel
theorem dX3_copies_73 : decode cX3_copies 73 = .ok (.getfield 47, 3) := by decide +kernel
theorem dX3_copies_76 : decode cX3_copies 76 = .ok (.iload_n 1, 1) := by decide +kernel
theorem dX3_copies_77 : decode cX3_copies 77 = .ok (.baload, 1) := by decide +kernel
theorem dX3_copies_78 : decode cX3_copies 78 = .ok (.bastore, 1) := by decide +kernel
theorem dX3_copies_79 : decode cX3_copies 79 = .ok (.iinc 1 1, 3) := by decide +kernel
theorem dX3_copies_82 : decode cX3_copies 82 = .ok (.goto (-24), 3) := by decide +kernel
theorem dX3_copies_85 : decode cX3_copies 85 = .ok (.iconst 0, 1) := by decide +kernel
theorem dX3_copies_86 : decode cX3_copies 86 = .ok (.istore_n 1, 1) := by decide +kernel
theorem dX3_copies_87 : decode cX3_copies 87 = .ok (.iload_n 1, 1) := by decide +kernel
theorem dX3_copies_88 : decode cX3_copies 88 = .ok (.bipush 72, 2) := by decide +kernel
theorem dX3_copies_90 : decode cX3_copies 90 = .ok (.if_icmp .ge 24, 3) := by decide +kernel
theorem dX3_copies_93 : decode cX3_copies 93 = .ok (.aload_n 0, 1) := by decide +kernel
theorem dX3_copies_94 : decode cX3_copies 94 = .ok (.getfield 54, 3) := by decide +kernel
theorem dX3_copies_97 : decode cX3_copies 97 = .ok (.bipush 72, 2) := by decide +kernel
theorem dX3_copies_99 : decode cX3_copies 99 = .ok (.iload_n 1, 1) := by decide +kernel
theorem dX3_copies_100 : decode cX3_copies 100 = .ok (.iadd, 1) := by decide +kernel
theorem dX3_copies_101 : decode cX3_copies 101 = .ok (.aload_n 0, 1) := by decide +kernel
theorem dX3_copies_102 : decode cX3_copies 102 = .ok (.getfield 54, 3) := by decide +kernel
theorem dX3_copies_105 : decode cX3_copies 105 = .ok (.iload_n 1, 1) := by decide +kernel
theorem dX3_copies_106 : decode cX3_copies 106 = .ok (.iaload, 1) := by decide +kernel
theorem dX3_copies_107 : decode cX3_copies 107 = .ok (.iastore, 1) := by decide +kernel
theorem dX3_copies_108 : decode cX3_copies 108 = .ok (.iinc 1 1, 3) := by decide +kernel
theorem dX3_copies_111 : decode cX3_copies 111 = .ok (.goto (-24), 3) := by decide +kernel
theorem dX3_copies_114 : decode cX3_copies 114 = .ok (.return_, 1) := by decide +kernel
set_option maxRecDepth 20000 in
theorem ggX3_greatest_X3_copies : GoodIn wsX3_greatest wsX3_copies := goodIn_r _ [7, 8, 2, 9, 1, 10, 49, 50, 51, 52, 53, 54, 55, 56, 57, 58, 59, 60, 61, 62, 63, 64, 65] (by decide +kernel) (by decide +kernel)
set_option maxRecDepth 20000 in
theorem gX3_greatest_X3_copies : GoodIn wsX3_greatest (wsV RX3 110 RX3 yX3_copies wsX3_copies) := goodIn_app (goodIn_of _ (by decide +kernel)) ggX3_greatest_X3_copies
set_option maxRecDepth 20000 in
theorem ggX3_greatest_X3_minute : GoodIn wsX3_greatest wsX3_minute := goodIn_r _ [14, 8, 15, 16, 17, 6, 18, 2, 19, 9, 20, 21, 22, 1, 23, 24, 25, 26, 27, 28, 29, 30, 31, 32, 33, 10, 34, 35, 36, 37, 38, 39, 40, 41, 42, 43, 44, 45, 46, 47, 48, 49, 50, 51, 52, 53, 54, 55, 56, 57, 58, 59, 60, 61, 62, 63, 64, 65] (by decide +kernel) (by decide +kernel)
set_option maxRecDepth 20000 in
theorem gX3_greatest_X3_minute : GoodIn wsX3_greatest (wsV RX3 103 RX3 yX3_minute wsX3_minute) := goodIn_app (goodIn_of _ (by decide +kernel)) ggX3_greatest_X3_minute
theorem dX3_greatest_0 : decode cX3_greatest 0 = .ok (.aload_n 0, 1) := by decide +kernel
theorem dX3_greatest_1 : decode cX3_greatest 1 = .ok (.invokevirtual 110, 3) := by decide +kernel
theorem dX3_greatest_4 : decode cX3_greatest 4 = .ok (.iload_n 3, 1) := by decide +kernel
theorem dX3_greatest_5 : decode cX3_greatest 5 = .ok (.iconst (-1), 1) := by decide +kernel
theorem dX3_greatest_6 : decode cX3_greatest 6 = .ok (.if_icmp .eq 13, 3) := by decide +kernel
theorem dX3_greatest_9 : decode cX3_greatest 9 = .ok (.aload_n 0, 1) := by decide +kernel
theorem dX3_greatest_10 : decode cX3_greatest 10 = .ok (.getfield 47, 3) := by decide +kernel
theorem dX3_greatest_13 : decode cX3_greatest 13 = .ok (.bipush 8, 2) := by decide +kernel
theorem dX3_greatest_15 : decode cX3_greatest 15 = .ok (.iload_n 3, 1) := by decide +kernel
theorem dX3_greatest_16 : decode cX3_greatest 16 = .ok (.iadd, 1) := by decide +kernel
theorem dX3_greatest_17 : decode cX3_greatest 17 = .ok (.iconst 1, 1) := by decide +kernel
theorem dX3_greatest_18 : decode cX3_greatest 18 = .ok (.bastore, 1) := by decide +kernel
theorem dX3_greatest_19 : decode cX3_greatest 19 = .ok (.aload_n 0, 1) := by decide +kernel
theorem dX3_greatest_20 : decode cX3_greatest 20 = .ok (.iconst 1, 1) := by decide +kernel
theorem dX3_greatest_21 : decode cX3_greatest 21 = .ok (.invokevirtual 103, 3) := by decide +kernel
theorem dX3_greatest_24 : decode cX3_greatest 24 = .ok (.aload_n 0, 1) := by decide +kernel
theorem dX3_greatest_25 : decode cX3_greatest 25 = .ok (.getfield 38, 3) := by decide +kernel
theorem dX3_greatest_28 : decode cX3_greatest 28 = .ok (.bipush 6, 2) := by decide +kernel
theorem dX3_greatest_30 : decode cX3_greatest 30 = .ok (.iload_n 1, 1) := by decide +kernel
theorem dX3_greatest_31 : decode cX3_greatest 31 = .ok (.iadd, 1) := by decide +kernel
theorem dX3_greatest_32 : decode cX3_greatest 32 = .ok (.iaload, 1) := by decide +kernel
theorem dX3_greatest_33 : decode cX3_greatest 33 = .ok (.istore 4, 2) := by decide +kernel
theorem dX3_greatest_35 : decode cX3_greatest 35 = .ok (.iconst 1, 1) := by decide +kernel
theorem dX3_greatest_36 : decode cX3_greatest 36 = .ok (.istore 5, 2) := by decide +kernel
theorem dX3_greatest_38 : decode cX3_greatest 38 = .ok (.iload 5, 2) := by decide +kernel
theorem dX3_greatest_40 : decode cX3_greatest 40 = .ok (.iload_n 2, 1) := by decide +kernel
theorem dX3_greatest_41 : decode cX3_greatest 41 = .ok (.if_icmp .ge 44, 3) := by decide +kernel
theorem dX3_greatest_44 : decode cX3_greatest 44 = .ok (.aload_n 0, 1) := by decide +kernel
theorem dX3_greatest_45 : decode cX3_greatest 45 = .ok (.iconst 1, 1) := by decide +kernel
theorem dX3_greatest_46 : decode cX3_greatest 46 = .ok (.invokevirtual 103, 3) := by decide +kernel
theorem dX3_greatest_49 : decode cX3_greatest 49 = .ok (.aload_n 0, 1) := by decide +kernel
theorem dX3_greatest_50 : decode cX3_greatest 50 = .ok (.getfield 38, 3) := by decide +kernel
theorem dX3_greatest_53 : decode cX3_greatest 53 = .ok (.bipush 6, 2) := by decide +kernel
theorem dX3_greatest_55 : decode cX3_greatest 55 = .ok (.iload_n 1, 1) := by decide +kernel
theorem dX3_greatest_56 : decode cX3_greatest 56 = .ok (.iadd, 1) := by decide +kernel
theorem dX3_greatest_57 : decode cX3_greatest 57 = .ok (.iaload, 1) := by decide +kernel
theorem dX3_greatest_58 : decode cX3_greatest 58 = .ok (.iload 4, 2) := by decide +kernel
theorem dX3_greatest_60 : decode cX3_greatest 60 = .ok (.if_icmp .le 15, 3) := by decide +kernel
theorem dX3_greatest_63 : decode cX3_greatest 63 = .ok (.aload_n 0, 1) := by decide +kernel
theorem dX3_greatest_64 : decode cX3_greatest 64 = .ok (.getfield 38, 3) := by decide +kernel
theorem dX3_greatest_67 : decode cX3_greatest 67 = .ok (.bipush 6, 2) := by decide +kernel
theorem dX3_greatest_69 : decode cX3_greatest 69 = .ok (.iload_n 1, 1) := by decide +kernel
theorem dX3_greatest_70 : decode cX3_greatest 70 = .ok (.iadd, 1) := by decide +kernel
theorem dX3_greatest_71 : decode cX3_greatest 71 = .ok (.iaload, 1) := by decide +kernel
theorem dX3_greatest_72 : decode cX3_greatest 72 = .ok (.goto 5, 3) := by decide +kernel
theorem dX3_greatest_75 : decode cX3_greatest 75 = .ok (.iload 4, 2) := by decide +kernel
theorem dX3_greatest_77 : decode cX3_greatest 77 = .ok (.istore 4, 2) := by decide +kernel
theorem dX3_greatest_79 : decode cX3_greatest 79 = .ok (.iinc 5 1, 3) := by decide +kernel
theorem dX3_greatest_82 : decode cX3_greatest 82 = .ok (.goto (-44), 3) := by decide +kernel
theorem dX3_greatest_85 : decode cX3_greatest 85 = .ok (.iload 4, 2) := by decide +kernel
theorem dX3_greatest_87 : decode cX3_greatest 87 = .ok (.ireturn, 1) := by decide +kernel
set_option maxRecDepth 20000 in
theorem ggX3_asksIf_X3_isZone : GoodIn wsX3_asksIf wsX3_isZone := goodIn_r _ [4, 5, 6, 3, 7] (by decide +kernel) (by decide +kernel)
set_option maxRecDepth 20000 in
theorem gX3_asksIf_X3_isZone : GoodIn wsX3_asksIf (va_wsS RX3 67 yX3_isZone wsX3_isZone) := goodIn_app (goodIn_of _ (by decide +kernel)) ggX3_asksIf_X3_isZone
set_option maxRecDepth 20000 in
theorem ggX3_asksIf_X3_isIn : GoodIn wsX3_asksIf wsX3_isIn := goodIn_r _ [7] (by decide +kernel) (by decide +kernel)
set_option maxRecDepth 20000 in
theorem gX3_asksIf_X3_isIn : GoodIn wsX3_asksIf (va_wsS RX3 63 yX3_isIn wsX3_isIn) := goodIn_app (goodIn_of _ (by decide +kernel)) ggX3_asksIf_X3_isIn
set_option maxRecDepth 20000 in
theorem ggX3_asksIf_X3_goes : GoodIn wsX3_asksIf wsX3_goes := goodIn_r _ [11, 12, 13, 14, 15, 16, 17, 18, 19, 20, 21, 22, 23, 24, 25, 26, 27, 28, 29] (by decide +kernel) (by decide +kernel)
set_option maxRecDepth 20000 in
theorem gX3_asksIf_X3_goes : GoodIn wsX3_asksIf (wsV RX3 71 RX3 yX3_goes wsX3_goes) := goodIn_app (goodIn_of _ (by decide +kernel)) ggX3_asksIf_X3_goes
theorem dX3_asksIf_0 : decode cX3_asksIf 0 = .ok (.aload_n 0, 1) := by decide +kernel
theorem dX3_asksIf_1 : decode cX3_asksIf 1 = .ok (.iload_n 1, 1) := by decide +kernel
theorem dX3_asksIf_2 : decode cX3_asksIf 2 = .ok (.invokestatic 67, 3) := by decide +kernel
theorem dX3_asksIf_5 : decode cX3_asksIf 5 = .ok (.ifCond .eq 17, 3) := by decide +kernel
theorem dX3_asksIf_8 : decode cX3_asksIf 8 = .ok (.iload_n 2, 1) := by decide +kernel
theorem dX3_asksIf_9 : decode cX3_asksIf 9 = .ok (.iconst 1, 1) := by decide +kernel
theorem dX3_asksIf_10 : decode cX3_asksIf 10 = .ok (.bipush 60, 2) := by decide +kernel
theorem dX3_asksIf_12 : decode cX3_asksIf 12 = .ok (.invokestatic 63, 3) := by decide +kernel
theorem dX3_asksIf_15 : decode cX3_asksIf 15 = .ok (.ifCond .eq 7, 3) := by decide +kernel
theorem dX3_asksIf_18 : decode cX3_asksIf 18 = .ok (.iconst 0, 1) := by decide +kernel
theorem dX3_asksIf_19 : decode cX3_asksIf 19 = .ok (.goto 4, 3) := by decide +kernel
theorem dX3_asksIf_22 : decode cX3_asksIf 22 = .ok (.iconst 1, 1) := by decide +kernel
theorem dX3_asksIf_23 : decode cX3_asksIf 23 = .ok (.invokevirtual 71, 3) := by decide +kernel
theorem dX3_asksIf_26 : decode cX3_asksIf 26 = .ok (.ireturn, 1) := by decide +kernel
set_option maxRecDepth 20000 in
theorem ggX3_expected_X3_asksIf : GoodIn wsX3_expected wsX3_asksIf := goodIn_r _ [5, 6, 7, 4, 8, 9, 10, 11, 12, 13, 14, 15, 16, 68, 69, 70, 71, 72, 73, 74, 75, 76, 77, 78, 79, 80, 81, 82, 83, 84] (by decide +kernel) (by decide +kernel)
set_option maxRecDepth 20000 in
theorem gX3_expected_X3_asksIf : GoodIn wsX3_expected (wsV RX3 113 RX3 yX3_asksIf wsX3_asksIf) := goodIn_app (goodIn_of _ (by decide +kernel)) ggX3_expected_X3_asksIf
set_option maxRecDepth 20000 in
theorem ggX3_expected_X3_greatest : GoodIn wsX3_expected wsX3_greatest := goodIn_r _ [20, 21, 22, 23, 24, 25, 4, 26, 27, 28, 29, 30, 31, 32, 33, 34, 35, 36, 37, 38, 39, 40, 41, 42, 43, 44, 45, 46, 47, 48, 49, 50, 51, 52, 53, 54, 55, 56, 57, 58, 59, 60, 61, 62, 63, 64, 65, 66, 67, 68, 69, 70, 71, 72, 73, 74, 75, 76, 77, 78, 79, 80, 81, 82, 83, 84] (by decide +kernel) (by decide +kernel)
set_option maxRecDepth 20000 in
theorem gX3_expected_X3_greatest : GoodIn wsX3_expected (wsV RX3 117 RX3 yX3_greatest wsX3_greatest) := goodIn_app (goodIn_of _ (by decide +kernel)) ggX3_expected_X3_greatest
theorem dX3_expected_0 : decode cX3_expected 0 = .ok (.aload_n 0, 1) := by decide +kernel
theorem dX3_expected_1 : decode cX3_expected 1 = .ok (.iload_n 1, 1) := by decide +kernel
theorem dX3_expected_2 : decode cX3_expected 2 = .ok (.iload_n 2, 1) := by decide +kernel
theorem dX3_expected_3 : decode cX3_expected 3 = .ok (.invokevirtual 113, 3) := by decide +kernel
theorem dX3_expected_6 : decode cX3_expected 6 = .ok (.ifCond .eq 13, 3) := by decide +kernel
theorem dX3_expected_9 : decode cX3_expected 9 = .ok (.aload_n 0, 1) := by decide +kernel
theorem dX3_expected_10 : decode cX3_expected 10 = .ok (.iload_n 1, 1) := by decide +kernel
theorem dX3_expected_11 : decode cX3_expected 11 = .ok (.iload_n 2, 1) := by decide +kernel
theorem dX3_expected_12 : decode cX3_expected 12 = .ok (.iconst (-1), 1) := by decide +kernel
theorem dX3_expected_13 : decode cX3_expected 13 = .ok (.invokevirtual 117, 3) := by decide +kernel
theorem dX3_expected_16 : decode cX3_expected 16 = .ok (.goto 4, 3) := by decide +kernel
theorem dX3_expected_19 : decode cX3_expected 19 = .ok (.iconst 0, 1) := by decide +kernel
theorem dX3_expected_20 : decode cX3_expected 20 = .ok (.ireturn, 1) := by decide +kernel
set_option maxRecDepth 20000 in
theorem ggX3_worst_X3_greatest : GoodIn wsX3_worst wsX3_greatest := goodIn_r _ [6, 1, 7, 8, 9, 10, 5, 11, 12, 13, 14, 15, 16, 17, 18, 19, 20, 21, 22, 23, 24, 25, 26, 27, 28, 29, 30, 31, 32, 33, 34, 35, 36, 37, 38, 39, 40, 41, 42, 43, 44, 45, 46, 47, 48, 49, 50, 51, 52, 53, 54, 55, 56, 57, 58, 59, 60, 61, 62, 63, 64, 65, 66, 67, 68, 69] (by decide +kernel) (by decide +kernel)
set_option maxRecDepth 20000 in
theorem gX3_worst_X3_greatest : GoodIn wsX3_worst (wsV RX3 117 RX3 yX3_greatest wsX3_greatest) := goodIn_app (goodIn_of _ (by decide +kernel)) ggX3_worst_X3_greatest
theorem dX3_worst_0 : decode cX3_worst 0 = .ok (.iconst (-1), 1) := by decide +kernel
theorem dX3_worst_1 : decode cX3_worst 1 = .ok (.istore_n 3, 1) := by decide +kernel
theorem dX3_worst_2 : decode cX3_worst 2 = .ok (.iconst 0, 1) := by decide +kernel
theorem dX3_worst_3 : decode cX3_worst 3 = .ok (.istore 4, 2) := by decide +kernel
theorem dX3_worst_5 : decode cX3_worst 5 = .ok (.iconst 0, 1) := by decide +kernel
theorem dX3_worst_6 : decode cX3_worst 6 = .ok (.istore 5, 2) := by decide +kernel
theorem dX3_worst_8 : decode cX3_worst 8 = .ok (.iload 5, 2) := by decide +kernel
theorem dX3_worst_10 : decode cX3_worst 10 = .ok (.bipush 8, 2) := by decide +kernel
theorem dX3_worst_12 : decode cX3_worst 12 = .ok (.if_icmp .ge 88, 3) := by decide +kernel
theorem dX3_worst_15 : decode cX3_worst 15 = .ok (.aload_n 0, 1) := by decide +kernel
theorem dX3_worst_16 : decode cX3_worst 16 = .ok (.getfield 47, 3) := by decide +kernel
theorem dX3_worst_19 : decode cX3_worst 19 = .ok (.iload 5, 2) := by decide +kernel
theorem dX3_worst_21 : decode cX3_worst 21 = .ok (.baload, 1) := by decide +kernel
theorem dX3_worst_22 : decode cX3_worst 22 = .ok (.ifCond .eq 7, 3) := by decide +kernel
theorem dX3_worst_25 : decode cX3_worst 25 = .ok (.iconst 0, 1) := by decide +kernel
theorem dX3_worst_26 : decode cX3_worst 26 = .ok (.goto 11, 3) := by decide +kernel
theorem dX3_worst_29 : decode cX3_worst 29 = .ok (.aload_n 0, 1) := by decide +kernel
theorem dX3_worst_30 : decode cX3_worst 30 = .ok (.iload_n 1, 1) := by decide +kernel
theorem dX3_worst_31 : decode cX3_worst 31 = .ok (.iload_n 2, 1) := by decide +kernel
theorem dX3_worst_32 : decode cX3_worst 32 = .ok (.iload 5, 2) := by decide +kernel
theorem dX3_worst_34 : decode cX3_worst 34 = .ok (.invokevirtual 117, 3) := by decide +kernel
theorem dX3_worst_37 : decode cX3_worst 37 = .ok (.istore 6, 2) := by decide +kernel
theorem dX3_worst_39 : decode cX3_worst 39 = .ok (.aload_n 0, 1) := by decide +kernel
theorem dX3_worst_40 : decode cX3_worst 40 = .ok (.getfield 47, 3) := by decide +kernel
theorem dX3_worst_43 : decode cX3_worst 43 = .ok (.iload 5, 2) := by decide +kernel
theorem dX3_worst_45 : decode cX3_worst 45 = .ok (.baload, 1) := by decide +kernel
theorem dX3_worst_46 : decode cX3_worst 46 = .ok (.ifCond .ne 19, 3) := by decide +kernel
theorem dX3_worst_49 : decode cX3_worst 49 = .ok (.iload_n 3, 1) := by decide +kernel
theorem dX3_worst_50 : decode cX3_worst 50 = .ok (.iconst (-1), 1) := by decide +kernel
theorem dX3_worst_51 : decode cX3_worst 51 = .ok (.if_icmp .eq 10, 3) := by decide +kernel
theorem dX3_worst_54 : decode cX3_worst 54 = .ok (.iload 6, 2) := by decide +kernel
theorem dX3_worst_56 : decode cX3_worst 56 = .ok (.iload 4, 2) := by decide +kernel
theorem dX3_worst_58 : decode cX3_worst 58 = .ok (.if_icmp .le 7, 3) := by decide +kernel
theorem dX3_worst_61 : decode cX3_worst 61 = .ok (.iconst 1, 1) := by decide +kernel
theorem dX3_worst_62 : decode cX3_worst 62 = .ok (.goto 4, 3) := by decide +kernel
theorem dX3_worst_65 : decode cX3_worst 65 = .ok (.iconst 0, 1) := by decide +kernel
theorem dX3_worst_66 : decode cX3_worst 66 = .ok (.istore 7, 2) := by decide +kernel
theorem dX3_worst_68 : decode cX3_worst 68 = .ok (.iload 7, 2) := by decide +kernel
theorem dX3_worst_70 : decode cX3_worst 70 = .ok (.ifCond .eq 8, 3) := by decide +kernel
theorem dX3_worst_73 : decode cX3_worst 73 = .ok (.iload 5, 2) := by decide +kernel
theorem dX3_worst_75 : decode cX3_worst 75 = .ok (.goto 4, 3) := by decide +kernel
theorem dX3_worst_78 : decode cX3_worst 78 = .ok (.iload_n 3, 1) := by decide +kernel
theorem dX3_worst_79 : decode cX3_worst 79 = .ok (.istore_n 3, 1) := by decide +kernel
theorem dX3_worst_80 : decode cX3_worst 80 = .ok (.iload 7, 2) := by decide +kernel
theorem dX3_worst_82 : decode cX3_worst 82 = .ok (.ifCond .eq 8, 3) := by decide +kernel
theorem dX3_worst_85 : decode cX3_worst 85 = .ok (.iload 6, 2) := by decide +kernel
theorem dX3_worst_87 : decode cX3_worst 87 = .ok (.goto 5, 3) := by decide +kernel
theorem dX3_worst_90 : decode cX3_worst 90 = .ok (.iload 4, 2) := by decide +kernel
theorem dX3_worst_92 : decode cX3_worst 92 = .ok (.istore 4, 2) := by decide +kernel
theorem dX3_worst_94 : decode cX3_worst 94 = .ok (.iinc 5 1, 3) := by decide +kernel
theorem dX3_worst_97 : decode cX3_worst 97 = .ok (.goto (-89), 3) := by decide +kernel
theorem dX3_worst_100 : decode cX3_worst 100 = .ok (.iload_n 3, 1) := by decide +kernel
theorem dX3_worst_101 : decode cX3_worst 101 = .ok (.ireturn, 1) := by decide +kernel
set_option maxRecDepth 20000 in
theorem ggX3_critical_X3_asksIf : GoodIn wsX3_critical wsX3_asksIf := goodIn_r _ [5, 6, 7, 4, 8, 9, 10, 11, 12, 13, 14, 15, 16, 72, 73, 74, 75, 76, 77, 78, 79, 80, 81, 82, 83, 84, 85, 86, 87, 88] (by decide +kernel) (by decide +kernel)
set_option maxRecDepth 20000 in
theorem gX3_critical_X3_asksIf : GoodIn wsX3_critical (wsV RX3 113 RX3 yX3_asksIf wsX3_asksIf) := goodIn_app (goodIn_of _ (by decide +kernel)) ggX3_critical_X3_asksIf
set_option maxRecDepth 20000 in
theorem ggX3_critical_X3_worst : GoodIn wsX3_critical wsX3_worst := goodIn_r _ [20, 21, 22, 23, 24, 4, 25, 26, 27, 28, 29, 30, 31, 32, 33, 34, 35, 36, 37, 38, 39, 40, 41, 42, 43, 44, 45, 46, 47, 48, 49, 50, 51, 52, 53, 54, 55, 56, 57, 58, 59, 60, 61, 62, 63, 64, 65, 66, 67, 68, 69, 70, 71, 72, 73, 74, 75, 76, 77, 78, 79, 80, 81, 82, 83, 84, 85, 86, 87, 88] (by decide +kernel) (by decide +kernel)
set_option maxRecDepth 20000 in
theorem gX3_critical_X3_worst : GoodIn wsX3_critical (wsV RX3 120 RX3 yX3_worst wsX3_worst) := goodIn_app (goodIn_of _ (by decide +kernel)) ggX3_critical_X3_worst
theorem dX3_critical_0 : decode cX3_critical 0 = .ok (.aload_n 0, 1) := by decide +kernel
theorem dX3_critical_1 : decode cX3_critical 1 = .ok (.iload_n 1, 1) := by decide +kernel
theorem dX3_critical_2 : decode cX3_critical 2 = .ok (.iload_n 2, 1) := by decide +kernel
theorem dX3_critical_3 : decode cX3_critical 3 = .ok (.invokevirtual 113, 3) := by decide +kernel
theorem dX3_critical_6 : decode cX3_critical 6 = .ok (.ifCond .eq 12, 3) := by decide +kernel
theorem dX3_critical_9 : decode cX3_critical 9 = .ok (.aload_n 0, 1) := by decide +kernel
theorem dX3_critical_10 : decode cX3_critical 10 = .ok (.iload_n 1, 1) := by decide +kernel
theorem dX3_critical_11 : decode cX3_critical 11 = .ok (.iload_n 2, 1) := by decide +kernel
theorem dX3_critical_12 : decode cX3_critical 12 = .ok (.invokevirtual 120, 3) := by decide +kernel
theorem dX3_critical_15 : decode cX3_critical 15 = .ok (.goto 4, 3) := by decide +kernel
theorem dX3_critical_18 : decode cX3_critical 18 = .ok (.iconst 0, 1) := by decide +kernel
theorem dX3_critical_19 : decode cX3_critical 19 = .ok (.ireturn, 1) := by decide +kernel
set_option maxRecDepth 20000 in
theorem ggX3_margin_X3_asksIf : GoodIn wsX3_margin wsX3_asksIf := goodIn_r _ [6, 7, 8, 5, 9, 10, 11, 12, 13, 14, 15, 16, 17, 73, 74, 75, 76, 77, 78, 79, 80, 81, 82, 83, 84, 85, 86, 87, 88, 89] (by decide +kernel) (by decide +kernel)
set_option maxRecDepth 20000 in
theorem gX3_margin_X3_asksIf : GoodIn wsX3_margin (wsV RX3 113 RX3 yX3_asksIf wsX3_asksIf) := goodIn_app (goodIn_of _ (by decide +kernel)) ggX3_margin_X3_asksIf
set_option maxRecDepth 20000 in
theorem ggX3_margin_X3_worst : GoodIn wsX3_margin wsX3_worst := goodIn_r _ [21, 22, 23, 24, 25, 5, 26, 27, 28, 29, 30, 31, 32, 33, 34, 35, 36, 37, 38, 39, 40, 41, 42, 43, 44, 45, 46, 47, 48, 49, 50, 51, 52, 53, 54, 55, 56, 57, 58, 59, 60, 61, 62, 63, 64, 65, 66, 67, 68, 69, 70, 71, 72, 73, 74, 75, 76, 77, 78, 79, 80, 81, 82, 83, 84, 85, 86, 87, 88, 89] (by decide +kernel) (by decide +kernel)
set_option maxRecDepth 20000 in
theorem gX3_margin_X3_worst : GoodIn wsX3_margin (wsV RX3 120 RX3 yX3_worst wsX3_worst) := goodIn_app (goodIn_of _ (by decide +kernel)) ggX3_margin_X3_worst
set_option maxRecDepth 20000 in
theorem ggX3_margin_X3_greatest : GoodIn wsX3_margin wsX3_greatest := goodIn_r _ [26, 22, 27, 28, 29, 30, 5, 31, 32, 33, 34, 35, 36, 37, 38, 39, 40, 41, 42, 43, 44, 45, 46, 47, 48, 49, 50, 51, 52, 53, 54, 55, 56, 57, 58, 59, 60, 61, 62, 63, 64, 65, 66, 67, 68, 69, 70, 71, 72, 73, 74, 75, 76, 77, 78, 79, 80, 81, 82, 83, 84, 85, 86, 87, 88, 89] (by decide +kernel) (by decide +kernel)
set_option maxRecDepth 20000 in
theorem gX3_margin_X3_greatest : GoodIn wsX3_margin (wsV RX3 117 RX3 yX3_greatest wsX3_greatest) := goodIn_app (goodIn_of _ (by decide +kernel)) ggX3_margin_X3_greatest
theorem dX3_margin_0 : decode cX3_margin 0 = .ok (.aload_n 0, 1) := by decide +kernel
theorem dX3_margin_1 : decode cX3_margin 1 = .ok (.iload_n 1, 1) := by decide +kernel
theorem dX3_margin_2 : decode cX3_margin 2 = .ok (.iload_n 2, 1) := by decide +kernel
theorem dX3_margin_3 : decode cX3_margin 3 = .ok (.invokevirtual 113, 3) := by decide +kernel
theorem dX3_margin_6 : decode cX3_margin 6 = .ok (.ifCond .eq 23, 3) := by decide +kernel
theorem dX3_margin_9 : decode cX3_margin 9 = .ok (.aload_n 0, 1) := by decide +kernel
theorem dX3_margin_10 : decode cX3_margin 10 = .ok (.getfield 29, 3) := by decide +kernel
theorem dX3_margin_13 : decode cX3_margin 13 = .ok (.aload_n 0, 1) := by decide +kernel
theorem dX3_margin_14 : decode cX3_margin 14 = .ok (.iload_n 1, 1) := by decide +kernel
theorem dX3_margin_15 : decode cX3_margin 15 = .ok (.iload_n 2, 1) := by decide +kernel
theorem dX3_margin_16 : decode cX3_margin 16 = .ok (.aload_n 0, 1) := by decide +kernel
theorem dX3_margin_17 : decode cX3_margin 17 = .ok (.iload_n 1, 1) := by decide +kernel
theorem dX3_margin_18 : decode cX3_margin 18 = .ok (.iload_n 2, 1) := by decide +kernel
theorem dX3_margin_19 : decode cX3_margin 19 = .ok (.invokevirtual 120, 3) := by decide +kernel
theorem dX3_margin_22 : decode cX3_margin 22 = .ok (.invokevirtual 117, 3) := by decide +kernel
theorem dX3_margin_25 : decode cX3_margin 25 = .ok (.isub, 1) := by decide +kernel
theorem dX3_margin_26 : decode cX3_margin 26 = .ok (.goto 4, 3) := by decide +kernel
theorem dX3_margin_29 : decode cX3_margin 29 = .ok (.iconst 0, 1) := by decide +kernel
theorem dX3_margin_30 : decode cX3_margin 30 = .ok (.ireturn, 1) := by decide +kernel
