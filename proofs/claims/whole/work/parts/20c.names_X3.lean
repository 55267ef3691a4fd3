theorem dX3_commands_12 : decode cX3_commands 12 = .ok (.aload_n 0, 1) := by decide +kernel
theorem dX3_commands_13 : decode cX3_commands 13 = .ok (.getfield 16, 3) := by decide +kernel
theorem dX3_commands_16 : decode cX3_commands 16 = .ok (.bipush 6, 2) := by decide +kernel
theorem dX3_commands_18 : decode cX3_commands 18 = .ok (.iload_n 2, 1) := by decide +kernel
theorem dX3_commands_19 : decode cX3_commands 19 = .ok (.imul, 1) := by decide +kernel
theorem dX3_commands_20 : decode cX3_commands 20 = .ok (.iload 4, 2) := by decide +kernel
theorem dX3_commands_22 : decode cX3_commands 22 = .ok (.iadd, 1) := by decide +kernel
theorem dX3_commands_23 : decode cX3_commands 23 = .ok (.iaload, 1) := by decide +kernel
theorem dX3_commands_24 : decode cX3_commands 24 = .ok (.ifCond .le 23, 3) := by decide +kernel
theorem dX3_commands_27 : decode cX3_commands 27 = .ok (.aload_n 0, 1) := by decide +kernel
theorem dX3_commands_28 : decode cX3_commands 28 = .ok (.getfield 44, 3) := by decide +kernel
theorem dX3_commands_31 : decode cX3_commands 31 = .ok (.bipush 6, 2) := by decide +kernel
theorem dX3_commands_33 : decode cX3_commands 33 = .ok (.iload_n 1, 1) := by decide +kernel
theorem dX3_commands_34 : decode cX3_commands 34 = .ok (.imul, 1) := by decide +kernel
theorem dX3_commands_35 : decode cX3_commands 35 = .ok (.iload 4, 2) := by decide +kernel
theorem dX3_commands_37 : decode cX3_commands 37 = .ok (.iadd, 1) := by decide +kernel
theorem dX3_commands_38 : decode cX3_commands 38 = .ok (.iaload, 1) := by decide +kernel
theorem dX3_commands_39 : decode cX3_commands 39 = .ok (.iload_n 3, 1) := by decide +kernel
theorem dX3_commands_40 : decode cX3_commands 40 = .ok (.if_icmp .le 7, 3) := by decide +kernel
theorem dX3_commands_43 : decode cX3_commands 43 = .ok (.iconst 1, 1) := by decide +kernel
theorem dX3_commands_44 : decode cX3_commands 44 = .ok (.goto 4, 3) := by decide +kernel
theorem dX3_commands_47 : decode cX3_commands 47 = .ok (.iconst 0, 1) := by decide +kernel
theorem dX3_commands_48 : decode cX3_commands 48 = .ok (.istore 5, 2) := by decide +kernel
theorem dX3_commands_50 : decode cX3_commands 50 = .ok (.iload 5, 2) := by decide +kernel
theorem dX3_commands_52 : decode cX3_commands 52 = .ok (.ifCond .eq 18, 3) := by decide +kernel
theorem dX3_commands_55 : decode cX3_commands 55 = .ok (.aload_n 0, 1) := by decide +kernel
theorem dX3_commands_56 : decode cX3_commands 56 = .ok (.getfield 44, 3) := by decide +kernel
theorem dX3_commands_59 : decode cX3_commands 59 = .ok (.bipush 6, 2) := by decide +kernel
theorem dX3_commands_61 : decode cX3_commands 61 = .ok (.iload_n 1, 1) := by decide +kernel
theorem dX3_commands_62 : decode cX3_commands 62 = .ok (.imul, 1) := by decide +kernel
theorem dX3_commands_63 : decode cX3_commands 63 = .ok (.iload 4, 2) := by decide +kernel
theorem dX3_commands_65 : decode cX3_commands 65 = .ok (.iadd, 1) := by decide +kernel
theorem dX3_commands_66 : decode cX3_commands 66 = .ok (.iaload, 1) := by decide +kernel
theorem dX3_commands_67 : decode cX3_commands 67 = .ok (.goto 4, 3) := by decide +kernel
theorem dX3_commands_70 : decode cX3_commands 70 = .ok (.iload_n 3, 1) := by decide +kernel
theorem dX3_commands_71 : decode cX3_commands 71 = .ok (.istore_n 3, 1) := by decide +kernel
theorem dX3_commands_72 : decode cX3_commands 72 = .ok (.iinc 4 1, 3) := by decide +kernel
theorem dX3_commands_75 : decode cX3_commands 75 = .ok (.goto (-70), 3) := by decide +kernel
theorem dX3_commands_78 : decode cX3_commands 78 = .ok (.aload_n 0, 1) := by decide +kernel
theorem dX3_commands_79 : decode cX3_commands 79 = .ok (.getfield 54, 3) := by decide +kernel
theorem dX3_commands_82 : decode cX3_commands 82 = .ok (.iload_n 1, 1) := by decide +kernel
theorem dX3_commands_83 : decode cX3_commands 83 = .ok (.iload_n 2, 1) := by decide +kernel
theorem dX3_commands_84 : decode cX3_commands 84 = .ok (.aload_n 0, 1) := by decide +kernel
theorem dX3_commands_85 : decode cX3_commands 85 = .ok (.getfield 35, 3) := by decide +kernel
theorem dX3_commands_88 : decode cX3_commands 88 = .ok (.iload_n 1, 1) := by decide +kernel
theorem dX3_commands_89 : decode cX3_commands 89 = .ok (.iaload, 1) := by decide +kernel
theorem dX3_commands_90 : decode cX3_commands 90 = .ok (.invokestatic 81, 3) := by decide +kernel
theorem dX3_commands_93 : decode cX3_commands 93 = .ok (.iload_n 3, 1) := by decide +kernel
theorem dX3_commands_94 : decode cX3_commands 94 = .ok (.iastore, 1) := by decide +kernel
theorem dX3_commands_95 : decode cX3_commands 95 = .ok (.return_, 1) := by decide +kernel
set_option maxRecDepth 20000 in
theorem ggX3_speeds_X3_commandAt : GoodIn wsX3_speeds wsX3_commandAt := goodIn_r _ [9] (by decide +kernel) (by decide +kernel)
set_option maxRecDepth 20000 in
theorem gX3_speeds_X3_commandAt : GoodIn wsX3_speeds (va_wsS RX3 81 yX3_commandAt wsX3_commandAt) := goodIn_app (goodIn_of _ (by decide +kernel)) ggX3_speeds_X3_commandAt
theorem dX3_speeds_0 : decode cX3_speeds 0 = .ok (.aload_n 0, 1) := by decide +kernel
theorem dX3_speeds_1 : decode cX3_speeds 1 = .ok (.getfield 35, 3) := by decide +kernel
theorem dX3_speeds_4 : decode cX3_speeds 4 = .ok (.iload_n 1, 1) := by decide +kernel
theorem dX3_speeds_5 : decode cX3_speeds 5 = .ok (.iaload, 1) := by decide +kernel
theorem dX3_speeds_6 : decode cX3_speeds 6 = .ok (.aload_n 0, 1) := by decide +kernel
theorem dX3_speeds_7 : decode cX3_speeds 7 = .ok (.getfield 32, 3) := by decide +kernel
theorem dX3_speeds_10 : decode cX3_speeds 10 = .ok (.isub, 1) := by decide +kernel
theorem dX3_speeds_11 : decode cX3_speeds 11 = .ok (.istore_n 3, 1) := by decide +kernel
theorem dX3_speeds_12 : decode cX3_speeds 12 = .ok (.iload_n 3, 1) := by decide +kernel
theorem dX3_speeds_13 : decode cX3_speeds 13 = .ok (.ifCond .lt 21, 3) := by decide +kernel
theorem dX3_speeds_16 : decode cX3_speeds 16 = .ok (.aload_n 0, 1) := by decide +kernel
theorem dX3_speeds_17 : decode cX3_speeds 17 = .ok (.getfield 47, 3) := by decide +kernel
theorem dX3_speeds_20 : decode cX3_speeds 20 = .ok (.bipush 8, 2) := by decide +kernel
theorem dX3_speeds_22 : decode cX3_speeds 22 = .ok (.iload_n 1, 1) := by decide +kernel
theorem dX3_speeds_23 : decode cX3_speeds 23 = .ok (.imul, 1) := by decide +kernel
theorem dX3_speeds_24 : decode cX3_speeds 24 = .ok (.iload_n 2, 1) := by decide +kernel
theorem dX3_speeds_25 : decode cX3_speeds 25 = .ok (.iadd, 1) := by decide +kernel
theorem dX3_speeds_26 : decode cX3_speeds 26 = .ok (.baload, 1) := by decide +kernel
theorem dX3_speeds_27 : decode cX3_speeds 27 = .ok (.ifCond .ne 7, 3) := by decide +kernel
theorem dX3_speeds_30 : decode cX3_speeds 30 = .ok (.iconst 1, 1) := by decide +kernel
theorem dX3_speeds_31 : decode cX3_speeds 31 = .ok (.goto 4, 3) := by decide +kernel
theorem dX3_speeds_34 : decode cX3_speeds 34 = .ok (.iconst 0, 1) := by decide +kernel
theorem dX3_speeds_35 : decode cX3_speeds 35 = .ok (.istore 4, 2) := by decide +kernel
theorem dX3_speeds_37 : decode cX3_speeds 37 = .ok (.aload_n 0, 1) := by decide +kernel
theorem dX3_speeds_38 : decode cX3_speeds 38 = .ok (.getfield 51, 3) := by decide +kernel
theorem dX3_speeds_41 : decode cX3_speeds 41 = .ok (.bipush 8, 2) := by decide +kernel
theorem dX3_speeds_43 : decode cX3_speeds 43 = .ok (.iload_n 1, 1) := by decide +kernel
theorem dX3_speeds_44 : decode cX3_speeds 44 = .ok (.imul, 1) := by decide +kernel
theorem dX3_speeds_45 : decode cX3_speeds 45 = .ok (.iload_n 2, 1) := by decide +kernel
theorem dX3_speeds_46 : decode cX3_speeds 46 = .ok (.iadd, 1) := by decide +kernel
theorem dX3_speeds_47 : decode cX3_speeds 47 = .ok (.iload 4, 2) := by decide +kernel
theorem dX3_speeds_49 : decode cX3_speeds 49 = .ok (.ifCond .eq 17, 3) := by decide +kernel
theorem dX3_speeds_52 : decode cX3_speeds 52 = .ok (.aload_n 0, 1) := by decide +kernel
theorem dX3_speeds_53 : decode cX3_speeds 53 = .ok (.getfield 54, 3) := by decide +kernel
theorem dX3_speeds_56 : decode cX3_speeds 56 = .ok (.iload_n 1, 1) := by decide +kernel
theorem dX3_speeds_57 : decode cX3_speeds 57 = .ok (.iload_n 2, 1) := by decide +kernel
theorem dX3_speeds_58 : decode cX3_speeds 58 = .ok (.iload_n 3, 1) := by decide +kernel
theorem dX3_speeds_59 : decode cX3_speeds 59 = .ok (.invokestatic 81, 3) := by decide +kernel
theorem dX3_speeds_62 : decode cX3_speeds 62 = .ok (.iaload, 1) := by decide +kernel
theorem dX3_speeds_63 : decode cX3_speeds 63 = .ok (.goto 4, 3) := by decide +kernel
theorem dX3_speeds_66 : decode cX3_speeds 66 = .ok (.iconst 0, 1) := by decide +kernel
theorem dX3_speeds_67 : decode cX3_speeds 67 = .ok (.iastore, 1) := by decide +kernel
theorem dX3_speeds_68 : decode cX3_speeds 68 = .ok (.return_, 1) := by decide +kernel
set_option maxRecDepth 20000 in
theorem ggX3_heats_X3_part : GoodIn wsX3_heats wsX3_part := goodIn_r _ [9] (by decide +kernel) (by decide +kernel)
set_option maxRecDepth 20000 in
theorem gX3_heats_X3_part : GoodIn wsX3_heats (va_wsS RX3 88 yX3_part wsX3_part) := goodIn_app (goodIn_of _ (by decide +kernel)) ggX3_heats_X3_part
theorem dX3_heats_0 : decode cX3_heats 0 = .ok (.bipush 6, 2) := by decide +kernel
theorem dX3_heats_2 : decode cX3_heats 2 = .ok (.iload_n 1, 1) := by decide +kernel
theorem dX3_heats_3 : decode cX3_heats 3 = .ok (.imul, 1) := by decide +kernel
theorem dX3_heats_4 : decode cX3_heats 4 = .ok (.iload_n 2, 1) := by decide +kernel
theorem dX3_heats_5 : decode cX3_heats 5 = .ok (.iadd, 1) := by decide +kernel
theorem dX3_heats_6 : decode cX3_heats 6 = .ok (.istore_n 3, 1) := by decide +kernel
theorem dX3_heats_7 : decode cX3_heats 7 = .ok (.iconst 0, 1) := by decide +kernel
theorem dX3_heats_8 : decode cX3_heats 8 = .ok (.istore 4, 2) := by decide +kernel
theorem dX3_heats_10 : decode cX3_heats 10 = .ok (.iconst 0, 1) := by decide +kernel
theorem dX3_heats_11 : decode cX3_heats 11 = .ok (.istore 5, 2) := by decide +kernel
theorem dX3_heats_13 : decode cX3_heats 13 = .ok (.iload 5, 2) := by decide +kernel
theorem dX3_heats_15 : decode cX3_heats 15 = .ok (.bipush 8, 2) := by decide +kernel
theorem dX3_heats_17 : decode cX3_heats 17 = .ok (.if_icmp .ge 39, 3) := by decide +kernel
theorem dX3_heats_20 : decode cX3_heats 20 = .ok (.iload 4, 2) := by decide +kernel
theorem dX3_heats_22 : decode cX3_heats 22 = .ok (.aload_n 0, 1) := by decide +kernel
theorem dX3_heats_23 : decode cX3_heats 23 = .ok (.getfield 16, 3) := by decide +kernel
theorem dX3_heats_26 : decode cX3_heats 26 = .ok (.bipush 6, 2) := by decide +kernel
theorem dX3_heats_28 : decode cX3_heats 28 = .ok (.iload 5, 2) := by decide +kernel
theorem dX3_heats_30 : decode cX3_heats 30 = .ok (.imul, 1) := by decide +kernel
theorem dX3_heats_31 : decode cX3_heats 31 = .ok (.iload_n 2, 1) := by decide +kernel
theorem dX3_heats_32 : decode cX3_heats 32 = .ok (.iadd, 1) := by decide +kernel
theorem dX3_heats_33 : decode cX3_heats 33 = .ok (.iaload, 1) := by decide +kernel
theorem dX3_heats_34 : decode cX3_heats 34 = .ok (.aload_n 0, 1) := by decide +kernel
theorem dX3_heats_35 : decode cX3_heats 35 = .ok (.getfield 51, 3) := by decide +kernel
theorem dX3_heats_38 : decode cX3_heats 38 = .ok (.bipush 8, 2) := by decide +kernel
theorem dX3_heats_40 : decode cX3_heats 40 = .ok (.iload_n 1, 1) := by decide +kernel
theorem dX3_heats_41 : decode cX3_heats 41 = .ok (.imul, 1) := by decide +kernel
theorem dX3_heats_42 : decode cX3_heats 42 = .ok (.iload 5, 2) := by decide +kernel
theorem dX3_heats_44 : decode cX3_heats 44 = .ok (.iadd, 1) := by decide +kernel
theorem dX3_heats_45 : decode cX3_heats 45 = .ok (.iaload, 1) := by decide +kernel
theorem dX3_heats_46 : decode cX3_heats 46 = .ok (.imul, 1) := by decide +kernel
theorem dX3_heats_47 : decode cX3_heats 47 = .ok (.iadd, 1) := by decide +kernel
theorem dX3_heats_48 : decode cX3_heats 48 = .ok (.istore 4, 2) := by decide +kernel
theorem dX3_heats_50 : decode cX3_heats 50 = .ok (.iinc 5 1, 3) := by decide +kernel
theorem dX3_heats_53 : decode cX3_heats 53 = .ok (.goto (-40), 3) := by decide +kernel
theorem dX3_heats_56 : decode cX3_heats 56 = .ok (.aload_n 0, 1) := by decide +kernel
theorem dX3_heats_57 : decode cX3_heats 57 = .ok (.getfield 38, 3) := by decide +kernel
theorem dX3_heats_60 : decode cX3_heats 60 = .ok (.iload_n 3, 1) := by decide +kernel
theorem dX3_heats_61 : decode cX3_heats 61 = .ok (.dup2, 1) := by decide +kernel
theorem dX3_heats_62 : decode cX3_heats 62 = .ok (.iaload, 1) := by decide +kernel
theorem dX3_heats_63 : decode cX3_heats 63 = .ok (.aload_n 0, 1) := by decide +kernel
theorem dX3_heats_64 : decode cX3_heats 64 = .ok (.getfield 7, 3) := by decide +kernel
theorem dX3_heats_67 : decode cX3_heats 67 = .ok (.iload_n 2, 1) := by decide +kernel
theorem dX3_heats_68 : decode cX3_heats 68 = .ok (.iaload, 1) := by decide +kernel
theorem dX3_heats_69 : decode cX3_heats 69 = .ok (.aload_n 0, 1) := by decide +kernel
theorem dX3_heats_70 : decode cX3_heats 70 = .ok (.getfield 26, 3) := by decide +kernel
theorem dX3_heats_73 : decode cX3_heats 73 = .ok (.aload_n 0, 1) := by decide +kernel
theorem dX3_heats_74 : decode cX3_heats 74 = .ok (.getfield 38, 3) := by decide +kernel
theorem dX3_heats_77 : decode cX3_heats 77 = .ok (.iload_n 3, 1) := by decide +kernel
theorem dX3_heats_78 : decode cX3_heats 78 = .ok (.iaload, 1) := by decide +kernel
theorem dX3_heats_79 : decode cX3_heats 79 = .ok (.isub, 1) := by decide +kernel
theorem dX3_heats_80 : decode cX3_heats 80 = .ok (.bipush 64, 2) := by decide +kernel
theorem dX3_heats_82 : decode cX3_heats 82 = .ok (.invokestatic 88, 3) := by decide +kernel
theorem dX3_heats_85 : decode cX3_heats 85 = .ok (.iadd, 1) := by decide +kernel
theorem dX3_heats_86 : decode cX3_heats 86 = .ok (.iload 4, 2) := by decide +kernel
theorem dX3_heats_88 : decode cX3_heats 88 = .ok (.bipush 100, 2) := by decide +kernel
theorem dX3_heats_90 : decode cX3_heats 90 = .ok (.idiv, 1) := by decide +kernel
theorem dX3_heats_91 : decode cX3_heats 91 = .ok (.isub, 1) := by decide +kernel
theorem dX3_heats_92 : decode cX3_heats 92 = .ok (.iadd, 1) := by decide +kernel
theorem dX3_heats_93 : decode cX3_heats 93 = .ok (.iastore, 1) := by decide +kernel
theorem dX3_heats_94 : decode cX3_heats 94 = .ok (.return_, 1) := by decide +kernel
set_option maxRecDepth 20000 in
theorem ggX3_minute_X3_demands : GoodIn wsX3_minute wsX3_demands := goodIn_r _ [6, 7, 8, 9, 10, 11, 12, 13, 14, 15, 16, 5, 17, 18, 19, 20, 41, 42, 43, 44, 45, 46, 47, 48, 49, 50, 51, 52, 53, 54, 55, 56, 57] (by decide +kernel) (by decide +kernel)
set_option maxRecDepth 20000 in
theorem gX3_minute_X3_demands : GoodIn wsX3_minute (wsV RX3 92 RX3 yX3_demands wsX3_demands) := goodIn_app (goodIn_of _ (by decide +kernel)) ggX3_minute_X3_demands
set_option maxRecDepth 20000 in
theorem ggX3_minute_X3_commands : GoodIn wsX3_minute wsX3_commands := goodIn_r _ [24, 12, 14, 25, 1, 26, 27, 5, 28, 41, 42, 43, 44, 45, 46, 47, 48, 49, 50, 51, 52, 53, 54, 55, 56, 57] (by decide +kernel) (by decide +kernel)
set_option maxRecDepth 20000 in
theorem gX3_minute_X3_commands : GoodIn wsX3_minute (wsV RX3 95 RX3 yX3_commands wsX3_commands) := goodIn_app (goodIn_of _ (by decide +kernel)) ggX3_minute_X3_commands
set_option maxRecDepth 20000 in
theorem ggX3_minute_X3_speeds : GoodIn wsX3_minute wsX3_speeds := goodIn_r _ [32, 1, 33, 13, 34, 25, 26, 27, 5, 28, 41, 42, 43, 44, 45, 46, 47, 48, 49, 50, 51, 52, 53, 54, 55, 56, 57] (by decide +kernel) (by decide +kernel)
set_option maxRecDepth 20000 in
theorem gX3_minute_X3_speeds : GoodIn wsX3_minute (wsV RX3 97 RX3 yX3_speeds wsX3_speeds) := goodIn_app (goodIn_of _ (by decide +kernel)) ggX3_minute_X3_speeds
set_option maxRecDepth 20000 in
theorem ggX3_minute_X3_heats : GoodIn wsX3_minute wsX3_heats := goodIn_r _ [38, 12, 34, 7, 39, 40, 18, 19, 5, 20, 41, 42, 43, 44, 45, 46, 47, 48, 49, 50, 51, 52, 53, 54, 55, 56, 57] (by decide +kernel) (by decide +kernel)
set_option maxRecDepth 20000 in
theorem gX3_minute_X3_heats : GoodIn wsX3_minute (wsV RX3 99 RX3 yX3_heats wsX3_heats) := goodIn_app (goodIn_of _ (by decide +kernel)) ggX3_minute_X3_heats
theorem dX3_minute_0 : decode cX3_minute 0 = .ok (.iconst 0, 1) := by decide +kernel
theorem dX3_minute_1 : decode cX3_minute 1 = .ok (.istore_n 2, 1) := by decide +kernel
theorem dX3_minute_2 : decode cX3_minute 2 = .ok (.iload_n 2, 1) := by decide +kernel
theorem dX3_minute_3 : decode cX3_minute 3 = .ok (.bipush 6, 2) := by decide +kernel
theorem dX3_minute_5 : decode cX3_minute 5 = .ok (.if_icmp .ge 15, 3) := by decide +kernel
theorem dX3_minute_8 : decode cX3_minute 8 = .ok (.aload_n 0, 1) := by decide +kernel
theorem dX3_minute_9 : decode cX3_minute 9 = .ok (.iload_n 1, 1) := by decide +kernel
theorem dX3_minute_10 : decode cX3_minute 10 = .ok (.iload_n 2, 1) := by decide +kernel
theorem dX3_minute_11 : decode cX3_minute 11 = .ok (.invokevirtual 92, 3) := by decide +kernel
theorem dX3_minute_14 : decode cX3_minute 14 = .ok (.iinc 2 1, 3) := by decide +kernel
theorem dX3_minute_17 : decode cX3_minute 17 = .ok (.goto (-15), 3) := by decide +kernel
theorem dX3_minute_20 : decode cX3_minute 20 = .ok (.iconst 0, 1) := by decide +kernel
theorem dX3_minute_21 : decode cX3_minute 21 = .ok (.istore_n 2, 1) := by decide +kernel
theorem dX3_minute_22 : decode cX3_minute 22 = .ok (.iload_n 2, 1) := by decide +kernel
theorem dX3_minute_23 : decode cX3_minute 23 = .ok (.bipush 8, 2) := by decide +kernel
theorem dX3_minute_25 : decode cX3_minute 25 = .ok (.if_icmp .ge 21, 3) := by decide +kernel
theorem dX3_minute_28 : decode cX3_minute 28 = .ok (.aload_n 0, 1) := by decide +kernel
theorem dX3_minute_29 : decode cX3_minute 29 = .ok (.iload_n 1, 1) := by decide +kernel
theorem dX3_minute_30 : decode cX3_minute 30 = .ok (.iload_n 2, 1) := by decide +kernel
theorem dX3_minute_31 : decode cX3_minute 31 = .ok (.invokevirtual 95, 3) := by decide +kernel
theorem dX3_minute_34 : decode cX3_minute 34 = .ok (.aload_n 0, 1) := by decide +kernel
theorem dX3_minute_35 : decode cX3_minute 35 = .ok (.iload_n 1, 1) := by decide +kernel
theorem dX3_minute_36 : decode cX3_minute 36 = .ok (.iload_n 2, 1) := by decide +kernel
theorem dX3_minute_37 : decode cX3_minute 37 = .ok (.invokevirtual 97, 3) := by decide +kernel
theorem dX3_minute_40 : decode cX3_minute 40 = .ok (.iinc 2 1, 3) := by decide +kernel
theorem dX3_minute_43 : decode cX3_minute 43 = .ok (.goto (-21), 3) := by decide +kernel
theorem dX3_minute_46 : decode cX3_minute 46 = .ok (.iconst 0, 1) := by decide +kernel
theorem dX3_minute_47 : decode cX3_minute 47 = .ok (.istore_n 2, 1) := by decide +kernel
theorem dX3_minute_48 : decode cX3_minute 48 = .ok (.iload_n 2, 1) := by decide +kernel
theorem dX3_minute_49 : decode cX3_minute 49 = .ok (.bipush 6, 2) := by decide +kernel
theorem dX3_minute_51 : decode cX3_minute 51 = .ok (.if_icmp .ge 15, 3) := by decide +kernel
theorem dX3_minute_54 : decode cX3_minute 54 = .ok (.aload_n 0, 1) := by decide +kernel
theorem dX3_minute_55 : decode cX3_minute 55 = .ok (.iload_n 1, 1) := by decide +kernel
theorem dX3_minute_56 : decode cX3_minute 56 = .ok (.iload_n 2, 1) := by decide +kernel
theorem dX3_minute_57 : decode cX3_minute 57 = .ok (.invokevirtual 99, 3) := by decide +kernel
theorem dX3_minute_60 : decode cX3_minute 60 = .ok (.iinc 2 1, 3) := by decide +kernel
theorem dX3_minute_63 : decode cX3_minute 63 = .ok (.goto (-15), 3) := by decide +kernel
theorem dX3_minute_66 : decode cX3_minute 66 = .ok (.aload_n 0, 1) := by decide +kernel
theorem dX3_minute_67 : decode cX3_minute 67 = .ok (.getfield 35, 3) := by decide +kernel
theorem dX3_minute_70 : decode cX3_minute 70 = .ok (.iload_n 1, 1) := by decide +kernel
theorem dX3_minute_71 : decode cX3_minute 71 = .ok (.dup2, 1) := by decide +kernel
theorem dX3_minute_72 : decode cX3_minute 72 = .ok (.iaload, 1) := by decide +kernel
theorem dX3_minute_73 : decode cX3_minute 73 = .ok (.iconst 1, 1) := by decide +kernel
theorem dX3_minute_74 : decode cX3_minute 74 = .ok (.iadd, 1) := by decide +kernel
theorem dX3_minute_75 : decode cX3_minute 75 = .ok (.iastore, 1) := by decide +kernel
theorem dX3_minute_76 : decode cX3_minute 76 = .ok (.return_, 1) := by decide +kernel
set_option maxRecDepth 20000 in
theorem ggX3_pass_X3_isIn : GoodIn wsX3_pass wsX3_isIn := goodIn_r _ [9] (by decide +kernel) (by decide +kernel)
set_option maxRecDepth 20000 in
theorem gX3_pass_X3_isIn : GoodIn wsX3_pass (va_wsS RX3 63 yX3_isIn wsX3_isIn) := goodIn_app (goodIn_of _ (by decide +kernel)) ggX3_pass_X3_isIn
set_option maxRecDepth 20000 in
theorem ggX3_pass_X3_goes : GoodIn wsX3_pass wsX3_goes := goodIn_r _ [13, 14, 56, 57, 58, 59, 60, 61, 62, 63, 64, 65, 66, 67, 68, 69, 70, 71, 72] (by decide +kernel) (by decide +kernel)
set_option maxRecDepth 20000 in
theorem gX3_pass_X3_goes : GoodIn wsX3_pass (wsV RX3 71 RX3 yX3_goes wsX3_goes) := goodIn_app (goodIn_of _ (by decide +kernel)) ggX3_pass_X3_goes
set_option maxRecDepth 20000 in
theorem ggX3_pass_X3_minute : GoodIn wsX3_pass wsX3_minute := goodIn_r _ [18, 1, 19, 20, 21, 8, 22, 4, 23, 24, 25, 26, 27, 28, 29, 30, 31, 32, 33, 34, 35, 36, 37, 38, 39, 40, 41, 42, 43, 44, 45, 46, 47, 48, 49, 50, 51, 52, 53, 54, 55, 56, 57, 58, 59, 60, 61, 62, 63, 64, 65, 66, 67, 68, 69, 70, 71, 72] (by decide +kernel) (by decide +kernel)
set_option maxRecDepth 20000 in
theorem gX3_pass_X3_minute : GoodIn wsX3_pass (wsV RX3 103 RX3 yX3_minute wsX3_minute) := goodIn_app (goodIn_of _ (by decide +kernel)) ggX3_pass_X3_minute
theorem dX3_pass_0 : decode cX3_pass 0 = .ok (.aload_n 0, 1) := by decide +kernel
theorem dX3_pass_1 : decode cX3_pass 1 = .ok (.iload_n 1, 1) := by decide +kernel
theorem dX3_pass_2 : decode cX3_pass 2 = .ok (.iconst 1, 1) := by decide +kernel
theorem dX3_pass_3 : decode cX3_pass 3 = .ok (.sipush 300, 3) := by decide +kernel
theorem dX3_pass_6 : decode cX3_pass 6 = .ok (.invokestatic 63, 3) := by decide +kernel
theorem dX3_pass_9 : decode cX3_pass 9 = .ok (.ifCond .ne 7, 3) := by decide +kernel
theorem dX3_pass_12 : decode cX3_pass 12 = .ok (.iconst 1, 1) := by decide +kernel
theorem dX3_pass_13 : decode cX3_pass 13 = .ok (.goto 21, 3) := by decide +kernel
theorem dX3_pass_16 : decode cX3_pass 16 = .ok (.aload_n 0, 1) := by decide +kernel
theorem dX3_pass_17 : decode cX3_pass 17 = .ok (.getfield 35, 3) := by decide +kernel
theorem dX3_pass_20 : decode cX3_pass 20 = .ok (.iconst 0, 1) := by decide +kernel
theorem dX3_pass_21 : decode cX3_pass 21 = .ok (.iaload, 1) := by decide +kernel
theorem dX3_pass_22 : decode cX3_pass 22 = .ok (.iload_n 1, 1) := by decide +kernel
theorem dX3_pass_23 : decode cX3_pass 23 = .ok (.iadd, 1) := by decide +kernel
theorem dX3_pass_24 : decode cX3_pass 24 = .ok (.ldc 102, 2) := by decide +kernel
theorem dX3_pass_26 : decode cX3_pass 26 = .ok (.if_icmp .le 7, 3) := by decide +kernel
theorem dX3_pass_29 : decode cX3_pass 29 = .ok (.iconst 2, 1) := by decide +kernel
theorem dX3_pass_30 : decode cX3_pass 30 = .ok (.goto 4, 3) := by decide +kernel
theorem dX3_pass_33 : decode cX3_pass 33 = .ok (.iconst 0, 1) := by decide +kernel
theorem dX3_pass_34 : decode cX3_pass 34 = .ok (.invokevirtual 71, 3) := by decide +kernel
theorem dX3_pass_37 : decode cX3_pass 37 = .ok (.ifCond .ne 5, 3) := by decide +kernel
theorem dX3_pass_40 : decode cX3_pass 40 = .ok (.iconst 0, 1) := by decide +kernel
theorem dX3_pass_41 : decode cX3_pass 41 = .ok (.ireturn, 1) := by decide +kernel
theorem dX3_pass_42 : decode cX3_pass 42 = .ok (.iconst 0, 1) := by decide +kernel
theorem dX3_pass_43 : decode cX3_pass 43 = .ok (.istore_n 2, 1) := by decide +kernel
theorem dX3_pass_44 : decode cX3_pass 44 = .ok (.iconst 0, 1) := by decide +kernel
theorem dX3_pass_45 : decode cX3_pass 45 = .ok (.istore_n 3, 1) := by decide +kernel
theorem dX3_pass_46 : decode cX3_pass 46 = .ok (.iload_n 3, 1) := by decide +kernel
theorem dX3_pass_47 : decode cX3_pass 47 = .ok (.iload_n 1, 1) := by decide +kernel
theorem dX3_pass_48 : decode cX3_pass 48 = .ok (.if_icmp .ge 81, 3) := by decide +kernel
theorem dX3_pass_51 : decode cX3_pass 51 = .ok (.aload_n 0, 1) := by decide +kernel
theorem dX3_pass_52 : decode cX3_pass 52 = .ok (.iconst 0, 1) := by decide +kernel
theorem dX3_pass_53 : decode cX3_pass 53 = .ok (.invokevirtual 103, 3) := by decide +kernel
theorem dX3_pass_56 : decode cX3_pass 56 = .ok (.iconst 0, 1) := by decide +kernel
theorem dX3_pass_57 : decode cX3_pass 57 = .ok (.istore 4, 2) := by decide +kernel
theorem dX3_pass_59 : decode cX3_pass 59 = .ok (.iload 4, 2) := by decide +kernel
theorem dX3_pass_61 : decode cX3_pass 61 = .ok (.bipush 6, 2) := by decide +kernel
theorem dX3_pass_63 : decode cX3_pass 63 = .ok (.if_icmp .ge 60, 3) := by decide +kernel
theorem dX3_pass_66 : decode cX3_pass 66 = .ok (.aload_n 0, 1) := by decide +kernel
theorem dX3_pass_67 : decode cX3_pass 67 = .ok (.getfield 57, 3) := by decide +kernel
theorem dX3_pass_70 : decode cX3_pass 70 = .ok (.iload 4, 2) := by decide +kernel
theorem dX3_pass_72 : decode cX3_pass 72 = .ok (.dup2, 1) := by decide +kernel
theorem dX3_pass_73 : decode cX3_pass 73 = .ok (.iaload, 1) := by decide +kernel
theorem dX3_pass_74 : decode cX3_pass 74 = .ok (.aload_n 0, 1) := by decide +kernel
theorem dX3_pass_75 : decode cX3_pass 75 = .ok (.getfield 38, 3) := by decide +kernel
theorem dX3_pass_78 : decode cX3_pass 78 = .ok (.iload 4, 2) := by decide +kernel
theorem dX3_pass_80 : decode cX3_pass 80 = .ok (.iaload, 1) := by decide +kernel
theorem dX3_pass_81 : decode cX3_pass 81 = .ok (.aload_n 0, 1) := by decide +kernel
theorem dX3_pass_82 : decode cX3_pass 82 = .ok (.getfield 29, 3) := by decide +kernel
theorem dX3_pass_85 : decode cX3_pass 85 = .ok (.if_icmp .le 7, 3) := by decide +kernel
theorem dX3_pass_88 : decode cX3_pass 88 = .ok (.iconst 1, 1) := by decide +kernel
theorem dX3_pass_89 : decode cX3_pass 89 = .ok (.goto 4, 3) := by decide +kernel
theorem dX3_pass_92 : decode cX3_pass 92 = .ok (.iconst 0, 1) := by decide +kernel
theorem dX3_pass_93 : decode cX3_pass 93 = .ok (.iadd, 1) := by decide +kernel
theorem dX3_pass_94 : decode cX3_pass 94 = .ok (.iastore, 1) := by decide +kernel
theorem dX3_pass_95 : decode cX3_pass 95 = .ok (.iload_n 2, 1) := by decide +kernel
theorem dX3_pass_96 : decode cX3_pass 96 = .ok (.aload_n 0, 1) := by decide +kernel
theorem dX3_pass_97 : decode cX3_pass 97 = .ok (.getfield 38, 3) := by decide +kernel
theorem dX3_pass_100 : decode cX3_pass 100 = .ok (.iload 4, 2) := by decide +kernel
theorem dX3_pass_102 : decode cX3_pass 102 = .ok (.iaload, 1) := by decide +kernel
theorem dX3_pass_103 : decode cX3_pass 103 = .ok (.aload_n 0, 1) := by decide +kernel
theorem dX3_pass_104 : decode cX3_pass 104 = .ok (.getfield 29, 3) := by decide +kernel
theorem dX3_pass_107 : decode cX3_pass 107 = .ok (.if_icmp .le 7, 3) := by decide +kernel
theorem dX3_pass_110 : decode cX3_pass 110 = .ok (.iconst 1, 1) := by decide +kernel
theorem dX3_pass_111 : decode cX3_pass 111 = .ok (.goto 4, 3) := by decide +kernel
theorem dX3_pass_114 : decode cX3_pass 114 = .ok (.iconst 0, 1) := by decide +kernel
theorem dX3_pass_115 : decode cX3_pass 115 = .ok (.iadd, 1) := by decide +kernel
theorem dX3_pass_116 : decode cX3_pass 116 = .ok (.istore_n 2, 1) := by decide +kernel
theorem dX3_pass_117 : decode cX3_pass 117 = .ok (.iinc 4 1, 3) := by decide +kernel
theorem dX3_pass_120 : decode cX3_pass 120 = .ok (.goto (-61), 3) := by decide +kernel
theorem dX3_pass_123 : decode cX3_pass 123 = .ok (.iinc 3 1, 3) := by decide +kernel
theorem dX3_pass_126 : decode cX3_pass 126 = .ok (.goto (-80), 3) := by decide +kernel
theorem dX3_pass_129 : decode cX3_pass 129 = .ok (.iload_n 2, 1) := by decide +kernel
theorem dX3_pass_130 : decode cX3_pass 130 = .ok (.ireturn, 1) := by decide +kernel
theorem dX3_clock_0 : decode cX3_clock 0 = .ok (.aload_n 0, 1) := by decide +kernel
theorem dX3_clock_1 : decode cX3_clock 1 = .ok (.iconst 0, 1) := by decide +kernel
theorem dX3_clock_2 : decode cX3_clock 2 = .ok (.putfield 60, 3) := by decide +kernel
theorem dX3_clock_5 : decode cX3_clock 5 = .ok (.aload_n 0, 1) := by decide +kernel
theorem dX3_clock_6 : decode cX3_clock 6 = .ok (.getfield 35, 3) := by decide +kernel
theorem dX3_clock_9 : decode cX3_clock 9 = .ok (.iconst 0, 1) := by decide +kernel
theorem dX3_clock_10 : decode cX3_clock 10 = .ok (.iaload, 1) := by decide +kernel
theorem dX3_clock_11 : decode cX3_clock 11 = .ok (.ireturn, 1) := by decide +kernel
set_option maxRecDepth 20000 in
theorem ggX3_asks_X3_isZone : GoodIn wsX3_asks wsX3_isZone := goodIn_r _ [4, 5, 6, 3, 7] (by decide +kernel) (by decide +kernel)
set_option maxRecDepth 20000 in
theorem gX3_asks_X3_isZone : GoodIn wsX3_asks (va_wsS RX3 67 yX3_isZone wsX3_isZone) := goodIn_app (goodIn_of _ (by decide +kernel)) ggX3_asks_X3_isZone
set_option maxRecDepth 20000 in
theorem ggX3_asks_X3_goes : GoodIn wsX3_asks wsX3_goes := goodIn_r _ [11, 12, 13, 14, 15, 16, 17, 18, 19, 20, 21, 22, 23, 24, 25, 26, 27, 28, 29] (by decide +kernel) (by decide +kernel)
set_option maxRecDepth 20000 in
theorem gX3_asks_X3_goes : GoodIn wsX3_asks (wsV RX3 71 RX3 yX3_goes wsX3_goes) := goodIn_app (goodIn_of _ (by decide +kernel)) ggX3_asks_X3_goes
theorem dX3_asks_0 : decode cX3_asks 0 = .ok (.aload_n 0, 1) := by decide +kernel
theorem dX3_asks_1 : decode cX3_asks 1 = .ok (.iload_n 1, 1) := by decide +kernel
theorem dX3_asks_2 : decode cX3_asks 2 = .ok (.invokestatic 67, 3) := by decide +kernel
theorem dX3_asks_5 : decode cX3_asks 5 = .ok (.ifCond .eq 7, 3) := by decide +kernel
theorem dX3_asks_8 : decode cX3_asks 8 = .ok (.iconst 0, 1) := by decide +kernel
theorem dX3_asks_9 : decode cX3_asks 9 = .ok (.goto 4, 3) := by decide +kernel
theorem dX3_asks_12 : decode cX3_asks 12 = .ok (.iconst 1, 1) := by decide +kernel
theorem dX3_asks_13 : decode cX3_asks 13 = .ok (.invokevirtual 71, 3) := by decide +kernel
theorem dX3_asks_16 : decode cX3_asks 16 = .ok (.ireturn, 1) := by decide +kernel
set_option maxRecDepth 20000 in
theorem ggX3_temperature_X3_asks : GoodIn wsX3_temperature wsX3_asks := goodIn_r _ [6, 7, 8, 5, 9, 10, 11, 12, 13, 14, 15, 16, 17, 18, 19, 20, 21, 22, 23, 24, 25, 26, 27, 28, 29, 30, 31, 32, 33, 34] (by decide +kernel) (by decide +kernel)
set_option maxRecDepth 20000 in
theorem gX3_temperature_X3_asks : GoodIn wsX3_temperature (wsV RX3 107 RX3 yX3_asks wsX3_asks) := goodIn_app (goodIn_of _ (by decide +kernel)) ggX3_temperature_X3_asks
theorem dX3_temperature_0 : decode cX3_temperature 0 = .ok (.aload_n 0, 1) := by decide +kernel
theorem dX3_temperature_1 : decode cX3_temperature 1 = .ok (.iload_n 1, 1) := by decide +kernel
theorem dX3_temperature_2 : decode cX3_temperature 2 = .ok (.invokevirtual 107, 3) := by decide +kernel
theorem dX3_temperature_5 : decode cX3_temperature 5 = .ok (.ifCond .eq 12, 3) := by decide +kernel
theorem dX3_temperature_8 : decode cX3_temperature 8 = .ok (.aload_n 0, 1) := by decide +kernel
theorem dX3_temperature_9 : decode cX3_temperature 9 = .ok (.getfield 38, 3) := by decide +kernel
theorem dX3_temperature_12 : decode cX3_temperature 12 = .ok (.iload_n 1, 1) := by decide +kernel
theorem dX3_temperature_13 : decode cX3_temperature 13 = .ok (.iaload, 1) := by decide +kernel
theorem dX3_temperature_14 : decode cX3_temperature 14 = .ok (.goto 4, 3) := by decide +kernel
theorem dX3_temperature_17 : decode cX3_temperature 17 = .ok (.iconst 0, 1) := by decide +kernel
