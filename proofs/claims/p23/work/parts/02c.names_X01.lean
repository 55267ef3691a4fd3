theorem dX0_init_0 : decode cX0_init 0 = .ok (.aload_n 0, 1) := by decide +kernel
theorem dX0_init_1 : decode cX0_init 1 = .ok (.invokespecial 3, 3) := by decide +kernel
theorem dX0_init_4 : decode cX0_init 4 = .ok (.aload_n 0, 1) := by decide +kernel
theorem dX0_init_5 : decode cX0_init 5 = .ok (.bipush 6, 2) := by decide +kernel
theorem dX0_init_7 : decode cX0_init 7 = .ok (.newarray .int, 2) := by decide +kernel
theorem dX0_init_9 : decode cX0_init 9 = .ok (.putfield 9, 3) := by decide +kernel
theorem dX0_init_12 : decode cX0_init 12 = .ok (.aload_n 0, 1) := by decide +kernel
theorem dX0_init_13 : decode cX0_init 13 = .ok (.bipush 6, 2) := by decide +kernel
theorem dX0_init_15 : decode cX0_init 15 = .ok (.newarray .int, 2) := by decide +kernel
theorem dX0_init_17 : decode cX0_init 17 = .ok (.putfield 15, 3) := by decide +kernel
theorem dX0_init_20 : decode cX0_init 20 = .ok (.aload_n 0, 1) := by decide +kernel
theorem dX0_init_21 : decode cX0_init 21 = .ok (.bipush 6, 2) := by decide +kernel
theorem dX0_init_23 : decode cX0_init 23 = .ok (.newarray .int, 2) := by decide +kernel
theorem dX0_init_25 : decode cX0_init 25 = .ok (.putfield 18, 3) := by decide +kernel
theorem dX0_init_28 : decode cX0_init 28 = .ok (.aload_n 0, 1) := by decide +kernel
theorem dX0_init_29 : decode cX0_init 29 = .ok (.bipush 8, 2) := by decide +kernel
theorem dX0_init_31 : decode cX0_init 31 = .ok (.newarray .boolean, 2) := by decide +kernel
theorem dX0_init_33 : decode cX0_init 33 = .ok (.putfield 21, 3) := by decide +kernel
theorem dX0_init_36 : decode cX0_init 36 = .ok (.aload_n 0, 1) := by decide +kernel
theorem dX0_init_37 : decode cX0_init 37 = .ok (.bipush 8, 2) := by decide +kernel
theorem dX0_init_39 : decode cX0_init 39 = .ok (.newarray .int, 2) := by decide +kernel
theorem dX0_init_41 : decode cX0_init 41 = .ok (.putfield 25, 3) := by decide +kernel
theorem dX0_init_44 : decode cX0_init 44 = .ok (.aload_n 0, 1) := by decide +kernel
theorem dX0_init_45 : decode cX0_init 45 = .ok (.bipush 9, 2) := by decide +kernel
theorem dX0_init_47 : decode cX0_init 47 = .ok (.bipush 8, 2) := by decide +kernel
theorem dX0_init_49 : decode cX0_init 49 = .ok (.multianewarray 28 2, 4) := by decide +kernel
theorem dX0_init_53 : decode cX0_init 53 = .ok (.putfield 30, 3) := by decide +kernel
theorem dX0_init_56 : decode cX0_init 56 = .ok (.aload_n 0, 1) := by decide +kernel
theorem dX0_init_57 : decode cX0_init 57 = .ok (.iconst 0, 1) := by decide +kernel
theorem dX0_init_58 : decode cX0_init 58 = .ok (.putfield 33, 3) := by decide +kernel
theorem dX0_init_61 : decode cX0_init 61 = .ok (.iconst 0, 1) := by decide +kernel
theorem dX0_init_62 : decode cX0_init 62 = .ok (.istore_n 1, 1) := by decide +kernel
theorem dX0_init_63 : decode cX0_init 63 = .ok (.iload_n 1, 1) := by decide +kernel
theorem dX0_init_64 : decode cX0_init 64 = .ok (.bipush 6, 2) := by decide +kernel
theorem dX0_init_66 : decode cX0_init 66 = .ok (.if_icmp .ge 18, 3) := by decide +kernel
theorem dX0_init_69 : decode cX0_init 69 = .ok (.aload_n 0, 1) := by decide +kernel
theorem dX0_init_70 : decode cX0_init 70 = .ok (.getfield 9, 3) := by decide +kernel
theorem dX0_init_73 : decode cX0_init 73 = .ok (.iload_n 1, 1) := by decide +kernel
theorem dX0_init_74 : decode cX0_init 74 = .ok (.sipush 2000, 3) := by decide +kernel
theorem dX0_init_77 : decode cX0_init 77 = .ok (.iastore, 1) := by decide +kernel
theorem dX0_init_78 : decode cX0_init 78 = .ok (.iinc 1 1, 3) := by decide +kernel
theorem dX0_init_81 : decode cX0_init 81 = .ok (.goto (-18), 3) := by decide +kernel
theorem dX0_init_84 : decode cX0_init 84 = .ok (.return_, 1) := by decide +kernel
theorem dX0_copyFrom_0 : decode cX0_copyFrom 0 = .ok (.aload_n 1, 1) := by decide +kernel
theorem dX0_copyFrom_1 : decode cX0_copyFrom 1 = .ok (.getfield 9, 3) := by decide +kernel
theorem dX0_copyFrom_4 : decode cX0_copyFrom 4 = .ok (.iconst 0, 1) := by decide +kernel
theorem dX0_copyFrom_5 : decode cX0_copyFrom 5 = .ok (.aload_n 0, 1) := by decide +kernel
theorem dX0_copyFrom_6 : decode cX0_copyFrom 6 = .ok (.getfield 9, 3) := by decide +kernel
theorem dX0_copyFrom_9 : decode cX0_copyFrom 9 = .ok (.iconst 0, 1) := by decide +kernel
theorem dX0_copyFrom_10 : decode cX0_copyFrom 10 = .ok (.bipush 6, 2) := by decide +kernel
theorem dX0_copyFrom_12 : decode cX0_copyFrom 12 = .ok (.invokestatic 37, 3) := by decide +kernel
theorem dX0_copyFrom_15 : decode cX0_copyFrom 15 = .ok (.aload_n 1, 1) := by decide +kernel
theorem dX0_copyFrom_16 : decode cX0_copyFrom 16 = .ok (.getfield 15, 3) := by decide +kernel
theorem dX0_copyFrom_19 : decode cX0_copyFrom 19 = .ok (.iconst 0, 1) := by decide +kernel
theorem dX0_copyFrom_20 : decode cX0_copyFrom 20 = .ok (.aload_n 0, 1) := by decide +kernel
theorem dX0_copyFrom_21 : decode cX0_copyFrom 21 = .ok (.getfield 15, 3) := by decide +kernel
theorem dX0_copyFrom_24 : decode cX0_copyFrom 24 = .ok (.iconst 0, 1) := by decide +kernel
theorem dX0_copyFrom_25 : decode cX0_copyFrom 25 = .ok (.bipush 6, 2) := by decide +kernel
theorem dX0_copyFrom_27 : decode cX0_copyFrom 27 = .ok (.invokestatic 37, 3) := by decide +kernel
theorem dX0_copyFrom_30 : decode cX0_copyFrom 30 = .ok (.aload_n 1, 1) := by decide +kernel
theorem dX0_copyFrom_31 : decode cX0_copyFrom 31 = .ok (.getfield 18, 3) := by decide +kernel
theorem dX0_copyFrom_34 : decode cX0_copyFrom 34 = .ok (.iconst 0, 1) := by decide +kernel
theorem dX0_copyFrom_35 : decode cX0_copyFrom 35 = .ok (.aload_n 0, 1) := by decide +kernel
theorem dX0_copyFrom_36 : decode cX0_copyFrom 36 = .ok (.getfield 18, 3) := by decide +kernel
theorem dX0_copyFrom_39 : decode cX0_copyFrom 39 = .ok (.iconst 0, 1) := by decide +kernel
theorem dX0_copyFrom_40 : decode cX0_copyFrom 40 = .ok (.bipush 6, 2) := by decide +kernel
theorem dX0_copyFrom_42 : decode cX0_copyFrom 42 = .ok (.invokestatic 37, 3) := by decide +kernel
theorem dX0_copyFrom_45 : decode cX0_copyFrom 45 = .ok (.aload_n 1, 1) := by decide +kernel
theorem dX0_copyFrom_46 : decode cX0_copyFrom 46 = .ok (.getfield 25, 3) := by decide +kernel
theorem dX0_copyFrom_49 : decode cX0_copyFrom 49 = .ok (.iconst 0, 1) := by decide +kernel
theorem dX0_copyFrom_50 : decode cX0_copyFrom 50 = .ok (.aload_n 0, 1) := by decide +kernel
theorem dX0_copyFrom_51 : decode cX0_copyFrom 51 = .ok (.getfield 25, 3) := by decide +kernel
theorem dX0_copyFrom_54 : decode cX0_copyFrom 54 = .ok (.iconst 0, 1) := by decide +kernel
theorem dX0_copyFrom_55 : decode cX0_copyFrom 55 = .ok (.bipush 8, 2) := by decide +kernel
theorem dX0_copyFrom_57 : decode cX0_copyFrom 57 = .ok (.invokestatic 37, 3) := by decide +kernel
theorem dX0_copyFrom_60 : decode cX0_copyFrom 60 = .ok (.iconst 0, 1) := by decide +kernel
theorem dX0_copyFrom_61 : decode cX0_copyFrom 61 = .ok (.istore_n 2, 1) := by decide +kernel
theorem dX0_copyFrom_62 : decode cX0_copyFrom 62 = .ok (.iload_n 2, 1) := by decide +kernel
theorem dX0_copyFrom_63 : decode cX0_copyFrom 63 = .ok (.bipush 8, 2) := by decide +kernel
theorem dX0_copyFrom_65 : decode cX0_copyFrom 65 = .ok (.if_icmp .ge 21, 3) := by decide +kernel
theorem dX0_copyFrom_68 : decode cX0_copyFrom 68 = .ok (.aload_n 0, 1) := by decide +kernel
theorem dX0_copyFrom_69 : decode cX0_copyFrom 69 = .ok (.getfield 21, 3) := by decide +kernel
theorem dX0_copyFrom_72 : decode cX0_copyFrom 72 = .ok (.iload_n 2, 1) := by decide +kernel
theorem dX0_copyFrom_73 : decode cX0_copyFrom 73 = .ok (.aload_n 1, 1) := by decide +kernel
theorem dX0_copyFrom_74 : decode cX0_copyFrom 74 = .ok (.getfield 21, 3) := by decide +kernel
theorem dX0_copyFrom_77 : decode cX0_copyFrom 77 = .ok (.iload_n 2, 1) := by decide +kernel
theorem dX0_copyFrom_78 : decode cX0_copyFrom 78 = .ok (.baload, 1) := by decide +kernel
theorem dX0_copyFrom_79 : decode cX0_copyFrom 79 = .ok (.bastore, 1) := by decide +kernel
theorem dX0_copyFrom_80 : decode cX0_copyFrom 80 = .ok (.iinc 2 1, 3) := by decide +kernel
theorem dX0_copyFrom_83 : decode cX0_copyFrom 83 = .ok (.goto (-21), 3) := by decide +kernel
theorem dX0_copyFrom_86 : decode cX0_copyFrom 86 = .ok (.iconst 0, 1) := by decide +kernel
theorem dX0_copyFrom_87 : decode cX0_copyFrom 87 = .ok (.istore_n 2, 1) := by decide +kernel
theorem dX0_copyFrom_88 : decode cX0_copyFrom 88 = .ok (.iload_n 2, 1) := by decide +kernel
theorem dX0_copyFrom_89 : decode cX0_copyFrom 89 = .ok (.bipush 9, 2) := by decide +kernel
theorem dX0_copyFrom_91 : decode cX0_copyFrom 91 = .ok (.if_icmp .ge 28, 3) := by decide +kernel
theorem dX0_copyFrom_94 : decode cX0_copyFrom 94 = .ok (.aload_n 1, 1) := by decide +kernel
theorem dX0_copyFrom_95 : decode cX0_copyFrom 95 = .ok (.getfield 30, 3) := by decide +kernel
theorem dX0_copyFrom_98 : decode cX0_copyFrom 98 = .ok (.iload_n 2, 1) := by decide +kernel
theorem dX0_copyFrom_99 : decode cX0_copyFrom 99 = .ok (.aaload, 1) := by decide +kernel
theorem dX0_copyFrom_100 : decode cX0_copyFrom 100 = .ok (.iconst 0, 1) := by decide +kernel
theorem dX0_copyFrom_101 : decode cX0_copyFrom 101 = .ok (.aload_n 0, 1) := by decide +kernel
theorem dX0_copyFrom_102 : decode cX0_copyFrom 102 = .ok (.getfield 30, 3) := by decide +kernel
theorem dX0_copyFrom_105 : decode cX0_copyFrom 105 = .ok (.iload_n 2, 1) := by decide +kernel
theorem dX0_copyFrom_106 : decode cX0_copyFrom 106 = .ok (.aaload, 1) := by decide +kernel
theorem dX0_copyFrom_107 : decode cX0_copyFrom 107 = .ok (.iconst 0, 1) := by decide +kernel
theorem dX0_copyFrom_108 : decode cX0_copyFrom 108 = .ok (.bipush 8, 2) := by decide +kernel
theorem dX0_copyFrom_110 : decode cX0_copyFrom 110 = .ok (.invokestatic 37, 3) := by decide +kernel
theorem dX0_copyFrom_113 : decode cX0_copyFrom 113 = .ok (.iinc 2 1, 3) := by decide +kernel
theorem dX0_copyFrom_116 : decode cX0_copyFrom 116 = .ok (.goto (-28), 3) := by decide +kernel
theorem dX0_copyFrom_119 : decode cX0_copyFrom 119 = .ok (.aload_n 0, 1) := by decide +kernel
theorem dX0_copyFrom_120 : decode cX0_copyFrom 120 = .ok (.aload_n 1, 1) := by decide +kernel
theorem dX0_copyFrom_121 : decode cX0_copyFrom 121 = .ok (.getfield 33, 3) := by decide +kernel
theorem dX0_copyFrom_124 : decode cX0_copyFrom 124 = .ok (.putfield 33, 3) := by decide +kernel
theorem dX0_copyFrom_127 : decode cX0_copyFrom 127 = .ok (.return_, 1) := by decide +kernel
theorem dX0_stopFan_0 : decode cX0_stopFan 0 = .ok (.aload_n 0, 1) := by decide +kernel
theorem dX0_stopFan_1 : decode cX0_stopFan 1 = .ok (.getfield 21, 3) := by decide +kernel
theorem dX0_stopFan_4 : decode cX0_stopFan 4 = .ok (.iload_n 1, 1) := by decide +kernel
theorem dX0_stopFan_5 : decode cX0_stopFan 5 = .ok (.iconst 1, 1) := by decide +kernel
theorem dX0_stopFan_6 : decode cX0_stopFan 6 = .ok (.bastore, 1) := by decide +kernel
theorem dX0_stopFan_7 : decode cX0_stopFan 7 = .ok (.aload_n 0, 1) := by decide +kernel
theorem dX0_stopFan_8 : decode cX0_stopFan 8 = .ok (.getfield 25, 3) := by decide +kernel
theorem dX0_stopFan_11 : decode cX0_stopFan 11 = .ok (.iload_n 1, 1) := by decide +kernel
theorem dX0_stopFan_12 : decode cX0_stopFan 12 = .ok (.iconst 0, 1) := by decide +kernel
theorem dX0_stopFan_13 : decode cX0_stopFan 13 = .ok (.iastore, 1) := by decide +kernel
theorem dX0_stopFan_14 : decode cX0_stopFan 14 = .ok (.return_, 1) := by decide +kernel
theorem dX0_countRunning_0 : decode cX0_countRunning 0 = .ok (.iconst 0, 1) := by decide +kernel
theorem dX0_countRunning_1 : decode cX0_countRunning 1 = .ok (.istore_n 1, 1) := by decide +kernel
theorem dX0_countRunning_2 : decode cX0_countRunning 2 = .ok (.iconst 0, 1) := by decide +kernel
theorem dX0_countRunning_3 : decode cX0_countRunning 3 = .ok (.istore_n 2, 1) := by decide +kernel
theorem dX0_countRunning_4 : decode cX0_countRunning 4 = .ok (.iload_n 2, 1) := by decide +kernel
theorem dX0_countRunning_5 : decode cX0_countRunning 5 = .ok (.bipush 8, 2) := by decide +kernel
theorem dX0_countRunning_7 : decode cX0_countRunning 7 = .ok (.if_icmp .ge 21, 3) := by decide +kernel
theorem dX0_countRunning_10 : decode cX0_countRunning 10 = .ok (.aload_n 0, 1) := by decide +kernel
theorem dX0_countRunning_11 : decode cX0_countRunning 11 = .ok (.getfield 21, 3) := by decide +kernel
theorem dX0_countRunning_14 : decode cX0_countRunning 14 = .ok (.iload_n 2, 1) := by decide +kernel
theorem dX0_countRunning_15 : decode cX0_countRunning 15 = .ok (.baload, 1) := by decide +kernel
theorem dX0_countRunning_16 : decode cX0_countRunning 16 = .ok (.ifCond .ne 6, 3) := by decide +kernel
theorem dX0_countRunning_19 : decode cX0_countRunning 19 = .ok (.iinc 1 1, 3) := by decide +kernel
theorem dX0_countRunning_22 : decode cX0_countRunning 22 = .ok (.iinc 2 1, 3) := by decide +kernel
theorem dX0_countRunning_25 : decode cX0_countRunning 25 = .ok (.goto (-21), 3) := by decide +kernel
theorem dX0_countRunning_28 : decode cX0_countRunning 28 = .ok (.iload_n 1, 1) := by decide +kernel
theorem dX0_countRunning_29 : decode cX0_countRunning 29 = .ok (.ireturn, 1) := by decide +kernel
set_option maxRecDepth 20000 in
theorem ggX0_commandsAgo_J9_floorMod_7cf53 : GoodIn wsX0_commandsAgo wsJ9_floorMod_7cf53 := goodIn_r _ [6] (by decide +kernel) (by decide +kernel)
set_option maxRecDepth 20000 in
theorem gX0_commandsAgo_J9_floorMod_7cf53 : GoodIn wsX0_commandsAgo (va_wsS RX0 43 yJ9_floorMod_7cf53 wsJ9_floorMod_7cf53) := goodIn_app (goodIn_of _ (by decide +kernel)) ggX0_commandsAgo_J9_floorMod_7cf53
theorem dX0_commandsAgo_0 : decode cX0_commandsAgo 0 = .ok (.aload_n 0, 1) := by decide +kernel
theorem dX0_commandsAgo_1 : decode cX0_commandsAgo 1 = .ok (.getfield 30, 3) := by decide +kernel
theorem dX0_commandsAgo_4 : decode cX0_commandsAgo 4 = .ok (.aload_n 0, 1) := by decide +kernel
theorem dX0_commandsAgo_5 : decode cX0_commandsAgo 5 = .ok (.getfield 33, 3) := by decide +kernel
theorem dX0_commandsAgo_8 : decode cX0_commandsAgo 8 = .ok (.iload_n 1, 1) := by decide +kernel
theorem dX0_commandsAgo_9 : decode cX0_commandsAgo 9 = .ok (.isub, 1) := by decide +kernel
theorem dX0_commandsAgo_10 : decode cX0_commandsAgo 10 = .ok (.bipush 9, 2) := by decide +kernel
theorem dX0_commandsAgo_12 : decode cX0_commandsAgo 12 = .ok (.invokestatic 43, 3) := by decide +kernel
theorem dX0_commandsAgo_15 : decode cX0_commandsAgo 15 = .ok (.aaload, 1) := by decide +kernel
theorem dX0_commandsAgo_16 : decode cX0_commandsAgo 16 = .ok (.areturn, 1) := by decide +kernel
set_option maxRecDepth 20000 in
theorem ggX0_runMinute_X0_control : GoodIn wsX0_runMinute wsX0_control := goodIn_r _ [7, 2, 8, 9, 10, 11, 12, 13, 14, 15, 16, 17, 18, 19, 20, 21, 22, 23, 24, 25, 63, 64, 65, 66, 67, 68, 69, 70, 71, 72, 73, 74, 75, 76, 77] (by decide +kernel) (by decide +kernel)
set_option maxRecDepth 20000 in
theorem gX0_runMinute_X0_control : GoodIn wsX0_runMinute (wsV RX0 49 RX0 yX0_control wsX0_control) := goodIn_app (goodIn_of _ (by decide +kernel)) ggX0_runMinute_X0_control
set_option maxRecDepth 20000 in
theorem ggX0_runMinute_X0_raiseForFailures : GoodIn wsX0_runMinute wsX0_raiseForFailures := goodIn_r _ [29, 30, 31, 32, 16, 17, 18, 22, 23, 24, 25, 70, 71, 72, 73, 74, 75, 76, 77, 63, 64, 65, 66, 67, 68, 69] (by decide +kernel) (by decide +kernel)
set_option maxRecDepth 20000 in
theorem gX0_runMinute_X0_raiseForFailures : GoodIn wsX0_runMinute (wsV RX0 53 RX0 yX0_raiseForFailures wsX0_raiseForFailures) := goodIn_app (goodIn_of _ (by decide +kernel)) ggX0_runMinute_X0_raiseForFailures
set_option maxRecDepth 20000 in
theorem ggX0_runMinute_X0_commandFans : GoodIn wsX0_runMinute wsX0_commandFans := goodIn_r _ [36, 37, 30, 38, 39, 24, 40, 41, 42, 43, 6, 44, 45, 46, 47, 48, 49, 1, 50, 20, 17, 21, 63, 64, 65, 66, 67, 68, 69, 70, 71, 72, 73, 74, 75, 76, 77] (by decide +kernel) (by decide +kernel)
set_option maxRecDepth 20000 in
theorem gX0_runMinute_X0_commandFans : GoodIn wsX0_runMinute (wsV RX0 57 RX0 yX0_commandFans wsX0_commandFans) := goodIn_app (goodIn_of _ (by decide +kernel)) ggX0_runMinute_X0_commandFans
set_option maxRecDepth 20000 in
theorem ggX0_runMinute_X0_turnFans : GoodIn wsX0_runMinute wsX0_turnFans := goodIn_r _ [54, 55, 56, 31, 41, 42, 43, 6, 44, 45, 37, 38, 39, 24, 40, 70, 71, 72, 73, 74, 75, 76, 77, 63, 64, 65, 66, 67, 68, 69] (by decide +kernel) (by decide +kernel)
set_option maxRecDepth 20000 in
theorem gX0_runMinute_X0_turnFans : GoodIn wsX0_runMinute (wsV RX0 61 RX0 yX0_turnFans wsX0_turnFans) := goodIn_app (goodIn_of _ (by decide +kernel)) ggX0_runMinute_X0_turnFans
set_option maxRecDepth 20000 in
theorem ggX0_runMinute_X0_nextTemperature : GoodIn wsX0_runMinute wsX0_nextTemperature := goodIn_r _ [60, 30, 56, 2, 61, 62, 22, 23, 24, 25, 70, 71, 72, 73, 74, 75, 76, 77, 63, 64, 65, 66, 67, 68, 69] (by decide +kernel) (by decide +kernel)
set_option maxRecDepth 20000 in
theorem gX0_runMinute_X0_nextTemperature : GoodIn wsX0_runMinute (wsV RX0 64 RX0 yX0_nextTemperature wsX0_nextTemperature) := goodIn_app (goodIn_of _ (by decide +kernel)) ggX0_runMinute_X0_nextTemperature
theorem dX0_runMinute_0 : decode cX0_runMinute 0 = .ok (.iconst 0, 1) := by decide +kernel
theorem dX0_runMinute_1 : decode cX0_runMinute 1 = .ok (.istore_n 2, 1) := by decide +kernel
theorem dX0_runMinute_2 : decode cX0_runMinute 2 = .ok (.iload_n 2, 1) := by decide +kernel
theorem dX0_runMinute_3 : decode cX0_runMinute 3 = .ok (.bipush 6, 2) := by decide +kernel
theorem dX0_runMinute_5 : decode cX0_runMinute 5 = .ok (.if_icmp .ge 29, 3) := by decide +kernel
theorem dX0_runMinute_8 : decode cX0_runMinute 8 = .ok (.aload_n 0, 1) := by decide +kernel
theorem dX0_runMinute_9 : decode cX0_runMinute 9 = .ok (.aload_n 1, 1) := by decide +kernel
theorem dX0_runMinute_10 : decode cX0_runMinute 10 = .ok (.iload_n 2, 1) := by decide +kernel
theorem dX0_runMinute_11 : decode cX0_runMinute 11 = .ok (.invokevirtual 49, 3) := by decide +kernel
theorem dX0_runMinute_14 : decode cX0_runMinute 14 = .ok (.istore_n 3, 1) := by decide +kernel
theorem dX0_runMinute_15 : decode cX0_runMinute 15 = .ok (.aload_n 0, 1) := by decide +kernel
theorem dX0_runMinute_16 : decode cX0_runMinute 16 = .ok (.getfield 18, 3) := by decide +kernel
theorem dX0_runMinute_19 : decode cX0_runMinute 19 = .ok (.iload_n 2, 1) := by decide +kernel
theorem dX0_runMinute_20 : decode cX0_runMinute 20 = .ok (.aload_n 0, 1) := by decide +kernel
theorem dX0_runMinute_21 : decode cX0_runMinute 21 = .ok (.aload_n 1, 1) := by decide +kernel
theorem dX0_runMinute_22 : decode cX0_runMinute 22 = .ok (.iload_n 2, 1) := by decide +kernel
theorem dX0_runMinute_23 : decode cX0_runMinute 23 = .ok (.iload_n 3, 1) := by decide +kernel
theorem dX0_runMinute_24 : decode cX0_runMinute 24 = .ok (.invokevirtual 53, 3) := by decide +kernel
theorem dX0_runMinute_27 : decode cX0_runMinute 27 = .ok (.iastore, 1) := by decide +kernel
theorem dX0_runMinute_28 : decode cX0_runMinute 28 = .ok (.iinc 2 1, 3) := by decide +kernel
theorem dX0_runMinute_31 : decode cX0_runMinute 31 = .ok (.goto (-29), 3) := by decide +kernel
theorem dX0_runMinute_34 : decode cX0_runMinute 34 = .ok (.aload_n 0, 1) := by decide +kernel
theorem dX0_runMinute_35 : decode cX0_runMinute 35 = .ok (.aload_n 1, 1) := by decide +kernel
theorem dX0_runMinute_36 : decode cX0_runMinute 36 = .ok (.invokevirtual 57, 3) := by decide +kernel
theorem dX0_runMinute_39 : decode cX0_runMinute 39 = .ok (.aload_n 0, 1) := by decide +kernel
theorem dX0_runMinute_40 : decode cX0_runMinute 40 = .ok (.aload_n 1, 1) := by decide +kernel
theorem dX0_runMinute_41 : decode cX0_runMinute 41 = .ok (.invokevirtual 61, 3) := by decide +kernel
theorem dX0_runMinute_44 : decode cX0_runMinute 44 = .ok (.iconst 0, 1) := by decide +kernel
theorem dX0_runMinute_45 : decode cX0_runMinute 45 = .ok (.istore_n 2, 1) := by decide +kernel
theorem dX0_runMinute_46 : decode cX0_runMinute 46 = .ok (.iload_n 2, 1) := by decide +kernel
theorem dX0_runMinute_47 : decode cX0_runMinute 47 = .ok (.bipush 6, 2) := by decide +kernel
theorem dX0_runMinute_49 : decode cX0_runMinute 49 = .ok (.if_icmp .ge 21, 3) := by decide +kernel
theorem dX0_runMinute_52 : decode cX0_runMinute 52 = .ok (.aload_n 0, 1) := by decide +kernel
theorem dX0_runMinute_53 : decode cX0_runMinute 53 = .ok (.getfield 9, 3) := by decide +kernel
theorem dX0_runMinute_56 : decode cX0_runMinute 56 = .ok (.iload_n 2, 1) := by decide +kernel
theorem dX0_runMinute_57 : decode cX0_runMinute 57 = .ok (.aload_n 0, 1) := by decide +kernel
theorem dX0_runMinute_58 : decode cX0_runMinute 58 = .ok (.aload_n 1, 1) := by decide +kernel
theorem dX0_runMinute_59 : decode cX0_runMinute 59 = .ok (.iload_n 2, 1) := by decide +kernel
theorem dX0_runMinute_60 : decode cX0_runMinute 60 = .ok (.invokevirtual 64, 3) := by decide +kernel
theorem dX0_runMinute_63 : decode cX0_runMinute 63 = .ok (.iastore, 1) := by decide +kernel
theorem dX0_runMinute_64 : decode cX0_runMinute 64 = .ok (.iinc 2 1, 3) := by decide +kernel
theorem dX0_runMinute_67 : decode cX0_runMinute 67 = .ok (.goto (-21), 3) := by decide +kernel
theorem dX0_runMinute_70 : decode cX0_runMinute 70 = .ok (.return_, 1) := by decide +kernel
set_option maxRecDepth 20000 in
theorem ggX0_control_X2_holdWithin : GoodIn wsX0_control wsX2_holdWithin := goodIn_r _ [8, 9, 10, 11, 12, 13, 14, 15] (by decide +kernel) (by decide +kernel)
set_option maxRecDepth 20000 in
theorem gX0_control_X2_holdWithin_n72 : GoodIn wsX0_control (wsX2_holdWithin) := ggX0_control_X2_holdWithin
set_option maxRecDepth 20000 in
theorem ggX0_control_J9_floorDiv_7cf53 : GoodIn wsX0_control wsJ9_floorDiv_7cf53 := goodIn_r _ [19] (by decide +kernel) (by decide +kernel)
set_option maxRecDepth 20000 in
theorem gX0_control_J9_floorDiv_7cf53 : GoodIn wsX0_control (va_wsS RX0 79 yJ9_floorDiv_7cf53 wsJ9_floorDiv_7cf53) := goodIn_app (goodIn_of _ (by decide +kernel)) ggX0_control_J9_floorDiv_7cf53
theorem dX0_control_0 : decode cX0_control 0 = .ok (.aload_n 0, 1) := by decide +kernel
theorem dX0_control_1 : decode cX0_control 1 = .ok (.getfield 9, 3) := by decide +kernel
theorem dX0_control_4 : decode cX0_control 4 = .ok (.iload_n 2, 1) := by decide +kernel
theorem dX0_control_5 : decode cX0_control 5 = .ok (.iaload, 1) := by decide +kernel
theorem dX0_control_6 : decode cX0_control 6 = .ok (.aload_n 1, 1) := by decide +kernel
theorem dX0_control_7 : decode cX0_control 7 = .ok (.getfield 67, 3) := by decide +kernel
theorem dX0_control_10 : decode cX0_control 10 = .ok (.iload_n 2, 1) := by decide +kernel
theorem dX0_control_11 : decode cX0_control 11 = .ok (.iaload, 1) := by decide +kernel
theorem dX0_control_12 : decode cX0_control 12 = .ok (.isub, 1) := by decide +kernel
theorem dX0_control_13 : decode cX0_control 13 = .ok (.istore_n 3, 1) := by decide +kernel
theorem dX0_control_14 : decode cX0_control 14 = .ok (.aload_n 0, 1) := by decide +kernel
theorem dX0_control_15 : decode cX0_control 15 = .ok (.getfield 15, 3) := by decide +kernel
theorem dX0_control_18 : decode cX0_control 18 = .ok (.iload_n 2, 1) := by decide +kernel
theorem dX0_control_19 : decode cX0_control 19 = .ok (.iaload, 1) := by decide +kernel
theorem dX0_control_20 : decode cX0_control 20 = .ok (.iload_n 3, 1) := by decide +kernel
theorem dX0_control_21 : decode cX0_control 21 = .ok (.iadd, 1) := by decide +kernel
theorem dX0_control_22 : decode cX0_control 22 = .ok (.sipush (-20000), 3) := by decide +kernel
theorem dX0_control_25 : decode cX0_control 25 = .ok (.sipush 20000, 3) := by decide +kernel
theorem dX0_control_28 : decode cX0_control 28 = .ok (.invokestatic 72, 3) := by decide +kernel
theorem dX0_control_31 : decode cX0_control 31 = .ok (.istore 4, 2) := by decide +kernel
theorem dX0_control_33 : decode cX0_control 33 = .ok (.aload_n 0, 1) := by decide +kernel
theorem dX0_control_34 : decode cX0_control 34 = .ok (.getfield 15, 3) := by decide +kernel
theorem dX0_control_37 : decode cX0_control 37 = .ok (.iload_n 2, 1) := by decide +kernel
theorem dX0_control_38 : decode cX0_control 38 = .ok (.iload 4, 2) := by decide +kernel
theorem dX0_control_40 : decode cX0_control 40 = .ok (.iastore, 1) := by decide +kernel
theorem dX0_control_41 : decode cX0_control 41 = .ok (.aload_n 1, 1) := by decide +kernel
theorem dX0_control_42 : decode cX0_control 42 = .ok (.getfield 76, 3) := by decide +kernel
theorem dX0_control_45 : decode cX0_control 45 = .ok (.iload 4, 2) := by decide +kernel
theorem dX0_control_47 : decode cX0_control 47 = .ok (.imul, 1) := by decide +kernel
theorem dX0_control_48 : decode cX0_control 48 = .ok (.bipush 100, 2) := by decide +kernel
theorem dX0_control_50 : decode cX0_control 50 = .ok (.invokestatic 79, 3) := by decide +kernel
theorem dX0_control_53 : decode cX0_control 53 = .ok (.istore 5, 2) := by decide +kernel
theorem dX0_control_55 : decode cX0_control 55 = .ok (.aload_n 1, 1) := by decide +kernel
theorem dX0_control_56 : decode cX0_control 56 = .ok (.getfield 82, 3) := by decide +kernel
theorem dX0_control_59 : decode cX0_control 59 = .ok (.iload_n 3, 1) := by decide +kernel
theorem dX0_control_60 : decode cX0_control 60 = .ok (.imul, 1) := by decide +kernel
theorem dX0_control_61 : decode cX0_control 61 = .ok (.iload 5, 2) := by decide +kernel
theorem dX0_control_63 : decode cX0_control 63 = .ok (.iadd, 1) := by decide +kernel
theorem dX0_control_64 : decode cX0_control 64 = .ok (.bipush 100, 2) := by decide +kernel
theorem dX0_control_66 : decode cX0_control 66 = .ok (.invokestatic 79, 3) := by decide +kernel
theorem dX0_control_69 : decode cX0_control 69 = .ok (.istore 6, 2) := by decide +kernel
theorem dX0_control_71 : decode cX0_control 71 = .ok (.iload 6, 2) := by decide +kernel
theorem dX0_control_73 : decode cX0_control 73 = .ok (.iconst 0, 1) := by decide +kernel
theorem dX0_control_74 : decode cX0_control 74 = .ok (.bipush 100, 2) := by decide +kernel
theorem dX0_control_76 : decode cX0_control 76 = .ok (.invokestatic 72, 3) := by decide +kernel
theorem dX0_control_79 : decode cX0_control 79 = .ok (.ireturn, 1) := by decide +kernel
set_option maxRecDepth 20000 in
theorem ggX0_raiseForFailures_J9_floorDiv_7cf53 : GoodIn wsX0_raiseForFailures wsJ9_floorDiv_7cf53 := goodIn_r _ [10] (by decide +kernel) (by decide +kernel)
set_option maxRecDepth 20000 in
theorem gX0_raiseForFailures_J9_floorDiv_7cf53 : GoodIn wsX0_raiseForFailures (va_wsS RX0 79 yJ9_floorDiv_7cf53 wsJ9_floorDiv_7cf53) := goodIn_app (goodIn_of _ (by decide +kernel)) ggX0_raiseForFailures_J9_floorDiv_7cf53
theorem dX0_raiseForFailures_0 : decode cX0_raiseForFailures 0 = .ok (.iconst 0, 1) := by decide +kernel
theorem dX0_raiseForFailures_1 : decode cX0_raiseForFailures 1 = .ok (.istore 4, 2) := by decide +kernel
theorem dX0_raiseForFailures_3 : decode cX0_raiseForFailures 3 = .ok (.iconst 0, 1) := by decide +kernel
theorem dX0_raiseForFailures_4 : decode cX0_raiseForFailures 4 = .ok (.istore 5, 2) := by decide +kernel
theorem dX0_raiseForFailures_6 : decode cX0_raiseForFailures 6 = .ok (.iconst 0, 1) := by decide +kernel
theorem dX0_raiseForFailures_7 : decode cX0_raiseForFailures 7 = .ok (.istore 6, 2) := by decide +kernel
theorem dX0_raiseForFailures_9 : decode cX0_raiseForFailures 9 = .ok (.iload 6, 2) := by decide +kernel
theorem dX0_raiseForFailures_11 : decode cX0_raiseForFailures 11 = .ok (.bipush 8, 2) := by decide +kernel
theorem dX0_raiseForFailures_13 : decode cX0_raiseForFailures 13 = .ok (.if_icmp .ge 44, 3) := by decide +kernel
theorem dX0_raiseForFailures_16 : decode cX0_raiseForFailures 16 = .ok (.aload_n 1, 1) := by decide +kernel
theorem dX0_raiseForFailures_17 : decode cX0_raiseForFailures 17 = .ok (.getfield 85, 3) := by decide +kernel
theorem dX0_raiseForFailures_20 : decode cX0_raiseForFailures 20 = .ok (.iload 6, 2) := by decide +kernel
theorem dX0_raiseForFailures_22 : decode cX0_raiseForFailures 22 = .ok (.aaload, 1) := by decide +kernel
theorem dX0_raiseForFailures_23 : decode cX0_raiseForFailures 23 = .ok (.iload_n 2, 1) := by decide +kernel
theorem dX0_raiseForFailures_24 : decode cX0_raiseForFailures 24 = .ok (.iaload, 1) := by decide +kernel
theorem dX0_raiseForFailures_25 : decode cX0_raiseForFailures 25 = .ok (.istore 7, 2) := by decide +kernel
theorem dX0_raiseForFailures_27 : decode cX0_raiseForFailures 27 = .ok (.iload 4, 2) := by decide +kernel
theorem dX0_raiseForFailures_29 : decode cX0_raiseForFailures 29 = .ok (.iload 7, 2) := by decide +kernel
theorem dX0_raiseForFailures_31 : decode cX0_raiseForFailures 31 = .ok (.iadd, 1) := by decide +kernel
theorem dX0_raiseForFailures_32 : decode cX0_raiseForFailures 32 = .ok (.istore 4, 2) := by decide +kernel
theorem dX0_raiseForFailures_34 : decode cX0_raiseForFailures 34 = .ok (.aload_n 0, 1) := by decide +kernel
theorem dX0_raiseForFailures_35 : decode cX0_raiseForFailures 35 = .ok (.getfield 21, 3) := by decide +kernel
theorem dX0_raiseForFailures_38 : decode cX0_raiseForFailures 38 = .ok (.iload 6, 2) := by decide +kernel
theorem dX0_raiseForFailures_40 : decode cX0_raiseForFailures 40 = .ok (.baload, 1) := by decide +kernel
theorem dX0_raiseForFailures_41 : decode cX0_raiseForFailures 41 = .ok (.ifCond .ne 10, 3) := by decide +kernel
theorem dX0_raiseForFailures_44 : decode cX0_raiseForFailures 44 = .ok (.iload 5, 2) := by decide +kernel
theorem dX0_raiseForFailures_46 : decode cX0_raiseForFailures 46 = .ok (.iload 7, 2) := by decide +kernel
theorem dX0_raiseForFailures_48 : decode cX0_raiseForFailures 48 = .ok (.iadd, 1) := by decide +kernel
theorem dX0_raiseForFailures_49 : decode cX0_raiseForFailures 49 = .ok (.istore 5, 2) := by decide +kernel
theorem dX0_raiseForFailures_51 : decode cX0_raiseForFailures 51 = .ok (.iinc 6 1, 3) := by decide +kernel
theorem dX0_raiseForFailures_54 : decode cX0_raiseForFailures 54 = .ok (.goto (-45), 3) := by decide +kernel
theorem dX0_raiseForFailures_57 : decode cX0_raiseForFailures 57 = .ok (.iload 5, 2) := by decide +kernel
theorem dX0_raiseForFailures_59 : decode cX0_raiseForFailures 59 = .ok (.iload 4, 2) := by decide +kernel
theorem dX0_raiseForFailures_61 : decode cX0_raiseForFailures 61 = .ok (.if_icmp .ne 5, 3) := by decide +kernel
theorem dX0_raiseForFailures_64 : decode cX0_raiseForFailures 64 = .ok (.iload_n 3, 1) := by decide +kernel
theorem dX0_raiseForFailures_65 : decode cX0_raiseForFailures 65 = .ok (.ireturn, 1) := by decide +kernel
theorem dX0_raiseForFailures_66 : decode cX0_raiseForFailures 66 = .ok (.iload 5, 2) := by decide +kernel
theorem dX0_raiseForFailures_68 : decode cX0_raiseForFailures 68 = .ok (.ifCond .ne 6, 3) := by decide +kernel
theorem dX0_raiseForFailures_71 : decode cX0_raiseForFailures 71 = .ok (.bipush 100, 2) := by decide +kernel
theorem dX0_raiseForFailures_73 : decode cX0_raiseForFailures 73 = .ok (.ireturn, 1) := by decide +kernel
theorem dX0_raiseForFailures_74 : decode cX0_raiseForFailures 74 = .ok (.bipush 100, 2) := by decide +kernel
theorem dX0_raiseForFailures_76 : decode cX0_raiseForFailures 76 = .ok (.iload_n 3, 1) := by decide +kernel
theorem dX0_raiseForFailures_77 : decode cX0_raiseForFailures 77 = .ok (.iload 4, 2) := by decide +kernel
theorem dX0_raiseForFailures_79 : decode cX0_raiseForFailures 79 = .ok (.imul, 1) := by decide +kernel
theorem dX0_raiseForFailures_80 : decode cX0_raiseForFailures 80 = .ok (.iload 5, 2) := by decide +kernel
theorem dX0_raiseForFailures_82 : decode cX0_raiseForFailures 82 = .ok (.invokestatic 79, 3) := by decide +kernel
theorem dX0_raiseForFailures_85 : decode cX0_raiseForFailures 85 = .ok (.invokestatic 88, 3) := by decide +kernel
theorem dX0_raiseForFailures_88 : decode cX0_raiseForFailures 88 = .ok (.ireturn, 1) := by decide +kernel
set_option maxRecDepth 20000 in
theorem ggX0_commandFans_J9_floorMod_7cf53 : GoodIn wsX0_commandFans wsJ9_floorMod_7cf53 := goodIn_r _ [6] (by decide +kernel) (by decide +kernel)
set_option maxRecDepth 20000 in
theorem gX0_commandFans_J9_floorMod_7cf53 : GoodIn wsX0_commandFans (va_wsS RX0 43 yJ9_floorMod_7cf53 wsJ9_floorMod_7cf53) := goodIn_app (goodIn_of _ (by decide +kernel)) ggX0_commandFans_J9_floorMod_7cf53
set_option maxRecDepth 20000 in
theorem ggX0_commandFans_X0_commandsAgo : GoodIn wsX0_commandFans wsX0_commandsAgo := goodIn_r _ [11, 12, 1, 3, 4, 5, 6, 22, 23, 24, 25, 26, 27, 28] (by decide +kernel) (by decide +kernel)
set_option maxRecDepth 20000 in
theorem gX0_commandFans_X0_commandsAgo : GoodIn wsX0_commandFans (wsV RX0 91 RX0 yX0_commandsAgo wsX0_commandsAgo) := goodIn_app (goodIn_of _ (by decide +kernel)) ggX0_commandFans_X0_commandsAgo
set_option maxRecDepth 20000 in
theorem ggX0_commandFans_X0_greatestDemand : GoodIn wsX0_commandFans wsX0_greatestDemand := goodIn_r _ [16, 17, 18, 19, 20, 21, 22, 23, 24, 25, 26, 27, 28] (by decide +kernel) (by decide +kernel)
set_option maxRecDepth 20000 in
theorem gX0_commandFans_X0_greatestDemand : GoodIn wsX0_commandFans (wsV RX0 95 RX0 yX0_greatestDemand wsX0_greatestDemand) := goodIn_app (goodIn_of _ (by decide +kernel)) ggX0_commandFans_X0_greatestDemand
theorem dX0_commandFans_0 : decode cX0_commandFans 0 = .ok (.aload_n 0, 1) := by decide +kernel
theorem dX0_commandFans_1 : decode cX0_commandFans 1 = .ok (.aload_n 0, 1) := by decide +kernel
theorem dX0_commandFans_2 : decode cX0_commandFans 2 = .ok (.getfield 33, 3) := by decide +kernel
theorem dX0_commandFans_5 : decode cX0_commandFans 5 = .ok (.iconst 1, 1) := by decide +kernel
theorem dX0_commandFans_6 : decode cX0_commandFans 6 = .ok (.iadd, 1) := by decide +kernel
theorem dX0_commandFans_7 : decode cX0_commandFans 7 = .ok (.bipush 9, 2) := by decide +kernel
theorem dX0_commandFans_9 : decode cX0_commandFans 9 = .ok (.invokestatic 43, 3) := by decide +kernel
theorem dX0_commandFans_12 : decode cX0_commandFans 12 = .ok (.putfield 33, 3) := by decide +kernel
theorem dX0_commandFans_15 : decode cX0_commandFans 15 = .ok (.aload_n 0, 1) := by decide +kernel
theorem dX0_commandFans_16 : decode cX0_commandFans 16 = .ok (.iconst 0, 1) := by decide +kernel
theorem dX0_commandFans_17 : decode cX0_commandFans 17 = .ok (.invokevirtual 91, 3) := by decide +kernel
theorem dX0_commandFans_20 : decode cX0_commandFans 20 = .ok (.astore_n 2, 1) := by decide +kernel
theorem dX0_commandFans_21 : decode cX0_commandFans 21 = .ok (.iconst 0, 1) := by decide +kernel
theorem dX0_commandFans_22 : decode cX0_commandFans 22 = .ok (.istore_n 3, 1) := by decide +kernel
theorem dX0_commandFans_23 : decode cX0_commandFans 23 = .ok (.iload_n 3, 1) := by decide +kernel
theorem dX0_commandFans_24 : decode cX0_commandFans 24 = .ok (.bipush 8, 2) := by decide +kernel
theorem dX0_commandFans_26 : decode cX0_commandFans 26 = .ok (.if_icmp .ge 22, 3) := by decide +kernel
theorem dX0_commandFans_29 : decode cX0_commandFans 29 = .ok (.aload_n 2, 1) := by decide +kernel
theorem dX0_commandFans_30 : decode cX0_commandFans 30 = .ok (.iload_n 3, 1) := by decide +kernel
theorem dX0_commandFans_31 : decode cX0_commandFans 31 = .ok (.aload_n 0, 1) := by decide +kernel
theorem dX0_commandFans_32 : decode cX0_commandFans 32 = .ok (.aload_n 1, 1) := by decide +kernel
theorem dX0_commandFans_33 : decode cX0_commandFans 33 = .ok (.getfield 85, 3) := by decide +kernel
theorem dX0_commandFans_36 : decode cX0_commandFans 36 = .ok (.iload_n 3, 1) := by decide +kernel
theorem dX0_commandFans_37 : decode cX0_commandFans 37 = .ok (.aaload, 1) := by decide +kernel
theorem dX0_commandFans_38 : decode cX0_commandFans 38 = .ok (.invokevirtual 95, 3) := by decide +kernel
theorem dX0_commandFans_41 : decode cX0_commandFans 41 = .ok (.iastore, 1) := by decide +kernel
theorem dX0_commandFans_42 : decode cX0_commandFans 42 = .ok (.iinc 3 1, 3) := by decide +kernel
theorem dX0_commandFans_45 : decode cX0_commandFans 45 = .ok (.goto (-22), 3) := by decide +kernel
theorem dX0_commandFans_48 : decode cX0_commandFans 48 = .ok (.return_, 1) := by decide +kernel
theorem dX0_greatestDemand_0 : decode cX0_greatestDemand 0 = .ok (.iconst 0, 1) := by decide +kernel
theorem dX0_greatestDemand_1 : decode cX0_greatestDemand 1 = .ok (.istore_n 2, 1) := by decide +kernel
theorem dX0_greatestDemand_2 : decode cX0_greatestDemand 2 = .ok (.iconst 0, 1) := by decide +kernel
theorem dX0_greatestDemand_3 : decode cX0_greatestDemand 3 = .ok (.istore_n 3, 1) := by decide +kernel
theorem dX0_greatestDemand_4 : decode cX0_greatestDemand 4 = .ok (.iload_n 3, 1) := by decide +kernel
theorem dX0_greatestDemand_5 : decode cX0_greatestDemand 5 = .ok (.bipush 6, 2) := by decide +kernel
theorem dX0_greatestDemand_7 : decode cX0_greatestDemand 7 = .ok (.if_icmp .ge 26, 3) := by decide +kernel
theorem dX0_greatestDemand_10 : decode cX0_greatestDemand 10 = .ok (.aload_n 1, 1) := by decide +kernel
theorem dX0_greatestDemand_11 : decode cX0_greatestDemand 11 = .ok (.iload_n 3, 1) := by decide +kernel
theorem dX0_greatestDemand_12 : decode cX0_greatestDemand 12 = .ok (.iaload, 1) := by decide +kernel
theorem dX0_greatestDemand_13 : decode cX0_greatestDemand 13 = .ok (.ifCond .le 14, 3) := by decide +kernel
theorem dX0_greatestDemand_16 : decode cX0_greatestDemand 16 = .ok (.iload_n 2, 1) := by decide +kernel
theorem dX0_greatestDemand_17 : decode cX0_greatestDemand 17 = .ok (.aload_n 0, 1) := by decide +kernel
theorem dX0_greatestDemand_18 : decode cX0_greatestDemand 18 = .ok (.getfield 18, 3) := by decide +kernel
theorem dX0_greatestDemand_21 : decode cX0_greatestDemand 21 = .ok (.iload_n 3, 1) := by decide +kernel
theorem dX0_greatestDemand_22 : decode cX0_greatestDemand 22 = .ok (.iaload, 1) := by decide +kernel
theorem dX0_greatestDemand_23 : decode cX0_greatestDemand 23 = .ok (.invokestatic 99, 3) := by decide +kernel
theorem dX0_greatestDemand_26 : decode cX0_greatestDemand 26 = .ok (.istore_n 2, 1) := by decide +kernel
theorem dX0_greatestDemand_27 : decode cX0_greatestDemand 27 = .ok (.iinc 3 1, 3) := by decide +kernel
theorem dX0_greatestDemand_30 : decode cX0_greatestDemand 30 = .ok (.goto (-26), 3) := by decide +kernel
theorem dX0_greatestDemand_33 : decode cX0_greatestDemand 33 = .ok (.iload_n 2, 1) := by decide +kernel
theorem dX0_greatestDemand_34 : decode cX0_greatestDemand 34 = .ok (.ireturn, 1) := by decide +kernel
set_option maxRecDepth 20000 in
theorem ggX0_turnFans_X0_commandsAgo : GoodIn wsX0_turnFans wsX0_commandsAgo := goodIn_r _ [8, 9, 10, 11, 12, 13, 14, 23, 24, 25, 26, 27, 28, 29] (by decide +kernel) (by decide +kernel)
set_option maxRecDepth 20000 in
theorem gX0_turnFans_X0_commandsAgo : GoodIn wsX0_turnFans (wsV RX0 91 RX0 yX0_commandsAgo wsX0_commandsAgo) := goodIn_app (goodIn_of _ (by decide +kernel)) ggX0_turnFans_X0_commandsAgo
theorem dX0_turnFans_0 : decode cX0_turnFans 0 = .ok (.aload_n 0, 1) := by decide +kernel
theorem dX0_turnFans_1 : decode cX0_turnFans 1 = .ok (.aload_n 1, 1) := by decide +kernel
theorem dX0_turnFans_2 : decode cX0_turnFans 2 = .ok (.getfield 102, 3) := by decide +kernel
theorem dX0_turnFans_5 : decode cX0_turnFans 5 = .ok (.invokevirtual 91, 3) := by decide +kernel
theorem dX0_turnFans_8 : decode cX0_turnFans 8 = .ok (.astore_n 2, 1) := by decide +kernel
theorem dX0_turnFans_9 : decode cX0_turnFans 9 = .ok (.iconst 0, 1) := by decide +kernel
theorem dX0_turnFans_10 : decode cX0_turnFans 10 = .ok (.istore_n 3, 1) := by decide +kernel
theorem dX0_turnFans_11 : decode cX0_turnFans 11 = .ok (.iload_n 3, 1) := by decide +kernel
theorem dX0_turnFans_12 : decode cX0_turnFans 12 = .ok (.bipush 8, 2) := by decide +kernel
theorem dX0_turnFans_14 : decode cX0_turnFans 14 = .ok (.if_icmp .ge 31, 3) := by decide +kernel
theorem dX0_turnFans_17 : decode cX0_turnFans 17 = .ok (.aload_n 0, 1) := by decide +kernel
theorem dX0_turnFans_18 : decode cX0_turnFans 18 = .ok (.getfield 25, 3) := by decide +kernel
theorem dX0_turnFans_21 : decode cX0_turnFans 21 = .ok (.iload_n 3, 1) := by decide +kernel
theorem dX0_turnFans_22 : decode cX0_turnFans 22 = .ok (.aload_n 0, 1) := by decide +kernel
theorem dX0_turnFans_23 : decode cX0_turnFans 23 = .ok (.getfield 21, 3) := by decide +kernel
theorem dX0_turnFans_26 : decode cX0_turnFans 26 = .ok (.iload_n 3, 1) := by decide +kernel
theorem dX0_turnFans_27 : decode cX0_turnFans 27 = .ok (.baload, 1) := by decide +kernel
theorem dX0_turnFans_28 : decode cX0_turnFans 28 = .ok (.ifCond .eq 7, 3) := by decide +kernel
theorem dX0_turnFans_31 : decode cX0_turnFans 31 = .ok (.iconst 0, 1) := by decide +kernel
theorem dX0_turnFans_32 : decode cX0_turnFans 32 = .ok (.goto 6, 3) := by decide +kernel
theorem dX0_turnFans_35 : decode cX0_turnFans 35 = .ok (.aload_n 2, 1) := by decide +kernel
theorem dX0_turnFans_36 : decode cX0_turnFans 36 = .ok (.iload_n 3, 1) := by decide +kernel
theorem dX0_turnFans_37 : decode cX0_turnFans 37 = .ok (.iaload, 1) := by decide +kernel
theorem dX0_turnFans_38 : decode cX0_turnFans 38 = .ok (.iastore, 1) := by decide +kernel
theorem dX0_turnFans_39 : decode cX0_turnFans 39 = .ok (.iinc 3 1, 3) := by decide +kernel
theorem dX0_turnFans_42 : decode cX0_turnFans 42 = .ok (.goto (-31), 3) := by decide +kernel
theorem dX0_turnFans_45 : decode cX0_turnFans 45 = .ok (.return_, 1) := by decide +kernel
set_option maxRecDepth 20000 in
theorem ggX0_nextTemperature_J9_floorDiv_7cf53 : GoodIn wsX0_nextTemperature wsJ9_floorDiv_7cf53 := goodIn_r _ [9] (by decide +kernel) (by decide +kernel)
set_option maxRecDepth 20000 in
theorem gX0_nextTemperature_J9_floorDiv_7cf53 : GoodIn wsX0_nextTemperature (va_wsS RX0 79 yJ9_floorDiv_7cf53 wsJ9_floorDiv_7cf53) := goodIn_app (goodIn_of _ (by decide +kernel)) ggX0_nextTemperature_J9_floorDiv_7cf53
theorem dX0_nextTemperature_0 : decode cX0_nextTemperature 0 = .ok (.iconst 0, 1) := by decide +kernel
theorem dX0_nextTemperature_1 : decode cX0_nextTemperature 1 = .ok (.istore_n 3, 1) := by decide +kernel
theorem dX0_nextTemperature_2 : decode cX0_nextTemperature 2 = .ok (.iconst 0, 1) := by decide +kernel
theorem dX0_nextTemperature_3 : decode cX0_nextTemperature 3 = .ok (.istore 4, 2) := by decide +kernel
theorem dX0_nextTemperature_5 : decode cX0_nextTemperature 5 = .ok (.iload 4, 2) := by decide +kernel
theorem dX0_nextTemperature_7 : decode cX0_nextTemperature 7 = .ok (.bipush 8, 2) := by decide +kernel
theorem dX0_nextTemperature_9 : decode cX0_nextTemperature 9 = .ok (.if_icmp .ge 29, 3) := by decide +kernel
theorem dX0_nextTemperature_12 : decode cX0_nextTemperature 12 = .ok (.iload_n 3, 1) := by decide +kernel
theorem dX0_nextTemperature_13 : decode cX0_nextTemperature 13 = .ok (.aload_n 1, 1) := by decide +kernel
theorem dX0_nextTemperature_14 : decode cX0_nextTemperature 14 = .ok (.getfield 85, 3) := by decide +kernel
theorem dX0_nextTemperature_17 : decode cX0_nextTemperature 17 = .ok (.iload 4, 2) := by decide +kernel
theorem dX0_nextTemperature_19 : decode cX0_nextTemperature 19 = .ok (.aaload, 1) := by decide +kernel
theorem dX0_nextTemperature_20 : decode cX0_nextTemperature 20 = .ok (.iload_n 2, 1) := by decide +kernel
theorem dX0_nextTemperature_21 : decode cX0_nextTemperature 21 = .ok (.iaload, 1) := by decide +kernel
theorem dX0_nextTemperature_22 : decode cX0_nextTemperature 22 = .ok (.aload_n 0, 1) := by decide +kernel
theorem dX0_nextTemperature_23 : decode cX0_nextTemperature 23 = .ok (.getfield 25, 3) := by decide +kernel
theorem dX0_nextTemperature_26 : decode cX0_nextTemperature 26 = .ok (.iload 4, 2) := by decide +kernel
theorem dX0_nextTemperature_28 : decode cX0_nextTemperature 28 = .ok (.iaload, 1) := by decide +kernel
theorem dX0_nextTemperature_29 : decode cX0_nextTemperature 29 = .ok (.imul, 1) := by decide +kernel
theorem dX0_nextTemperature_30 : decode cX0_nextTemperature 30 = .ok (.iadd, 1) := by decide +kernel
theorem dX0_nextTemperature_31 : decode cX0_nextTemperature 31 = .ok (.istore_n 3, 1) := by decide +kernel
theorem dX0_nextTemperature_32 : decode cX0_nextTemperature 32 = .ok (.iinc 4 1, 3) := by decide +kernel
theorem dX0_nextTemperature_35 : decode cX0_nextTemperature 35 = .ok (.goto (-30), 3) := by decide +kernel
theorem dX0_nextTemperature_38 : decode cX0_nextTemperature 38 = .ok (.aload_n 0, 1) := by decide +kernel
theorem dX0_nextTemperature_39 : decode cX0_nextTemperature 39 = .ok (.getfield 9, 3) := by decide +kernel
theorem dX0_nextTemperature_42 : decode cX0_nextTemperature 42 = .ok (.iload_n 2, 1) := by decide +kernel
theorem dX0_nextTemperature_43 : decode cX0_nextTemperature 43 = .ok (.iaload, 1) := by decide +kernel
theorem dX0_nextTemperature_44 : decode cX0_nextTemperature 44 = .ok (.istore 4, 2) := by decide +kernel
theorem dX0_nextTemperature_46 : decode cX0_nextTemperature 46 = .ok (.aload_n 1, 1) := by decide +kernel
theorem dX0_nextTemperature_47 : decode cX0_nextTemperature 47 = .ok (.getfield 105, 3) := by decide +kernel
theorem dX0_nextTemperature_50 : decode cX0_nextTemperature 50 = .ok (.iload 4, 2) := by decide +kernel
theorem dX0_nextTemperature_52 : decode cX0_nextTemperature 52 = .ok (.isub, 1) := by decide +kernel
theorem dX0_nextTemperature_53 : decode cX0_nextTemperature 53 = .ok (.bipush 64, 2) := by decide +kernel
theorem dX0_nextTemperature_55 : decode cX0_nextTemperature 55 = .ok (.invokestatic 79, 3) := by decide +kernel
theorem dX0_nextTemperature_58 : decode cX0_nextTemperature 58 = .ok (.istore 5, 2) := by decide +kernel
theorem dX0_nextTemperature_60 : decode cX0_nextTemperature 60 = .ok (.iload 4, 2) := by decide +kernel
theorem dX0_nextTemperature_62 : decode cX0_nextTemperature 62 = .ok (.aload_n 1, 1) := by decide +kernel
theorem dX0_nextTemperature_63 : decode cX0_nextTemperature 63 = .ok (.getfield 108, 3) := by decide +kernel
theorem dX0_nextTemperature_66 : decode cX0_nextTemperature 66 = .ok (.iload_n 2, 1) := by decide +kernel
theorem dX0_nextTemperature_67 : decode cX0_nextTemperature 67 = .ok (.iaload, 1) := by decide +kernel
theorem dX0_nextTemperature_68 : decode cX0_nextTemperature 68 = .ok (.iadd, 1) := by decide +kernel
theorem dX0_nextTemperature_69 : decode cX0_nextTemperature 69 = .ok (.iload 5, 2) := by decide +kernel
theorem dX0_nextTemperature_71 : decode cX0_nextTemperature 71 = .ok (.iadd, 1) := by decide +kernel
theorem dX0_nextTemperature_72 : decode cX0_nextTemperature 72 = .ok (.iload_n 3, 1) := by decide +kernel
theorem dX0_nextTemperature_73 : decode cX0_nextTemperature 73 = .ok (.bipush 100, 2) := by decide +kernel
theorem dX0_nextTemperature_75 : decode cX0_nextTemperature 75 = .ok (.idiv, 1) := by decide +kernel
theorem dX0_nextTemperature_76 : decode cX0_nextTemperature 76 = .ok (.isub, 1) := by decide +kernel
theorem dX0_nextTemperature_77 : decode cX0_nextTemperature 77 = .ok (.ireturn, 1) := by decide +kernel
theorem dX1_init_0 : decode cX1_init 0 = .ok (.aload_n 0, 1) := by decide +kernel
theorem dX1_init_1 : decode cX1_init 1 = .ok (.invokespecial 3, 3) := by decide +kernel
theorem dX1_init_4 : decode cX1_init 4 = .ok (.aload_n 0, 1) := by decide +kernel
theorem dX1_init_5 : decode cX1_init 5 = .ok (.bipush 6, 2) := by decide +kernel
theorem dX1_init_7 : decode cX1_init 7 = .ok (.newarray .int, 2) := by decide +kernel
theorem dX1_init_9 : decode cX1_init 9 = .ok (.putfield 9, 3) := by decide +kernel
theorem dX1_init_12 : decode cX1_init 12 = .ok (.aload_n 0, 1) := by decide +kernel
theorem dX1_init_13 : decode cX1_init 13 = .ok (.bipush 6, 2) := by decide +kernel
theorem dX1_init_15 : decode cX1_init 15 = .ok (.newarray .int, 2) := by decide +kernel
theorem dX1_init_17 : decode cX1_init 17 = .ok (.putfield 15, 3) := by decide +kernel
theorem dX1_init_20 : decode cX1_init 20 = .ok (.aload_n 0, 1) := by decide +kernel
theorem dX1_init_21 : decode cX1_init 21 = .ok (.bipush 8, 2) := by decide +kernel
theorem dX1_init_23 : decode cX1_init 23 = .ok (.bipush 6, 2) := by decide +kernel
theorem dX1_init_25 : decode cX1_init 25 = .ok (.multianewarray 18 2, 4) := by decide +kernel
theorem dX1_init_29 : decode cX1_init 29 = .ok (.putfield 20, 3) := by decide +kernel
theorem dX1_init_32 : decode cX1_init 32 = .ok (.iconst 0, 1) := by decide +kernel
theorem dX1_init_33 : decode cX1_init 33 = .ok (.istore_n 1, 1) := by decide +kernel
theorem dX1_init_34 : decode cX1_init 34 = .ok (.iload_n 1, 1) := by decide +kernel
theorem dX1_init_35 : decode cX1_init 35 = .ok (.bipush 6, 2) := by decide +kernel
theorem dX1_init_37 : decode cX1_init 37 = .ok (.if_icmp .ge 53, 3) := by decide +kernel
theorem dX1_init_40 : decode cX1_init 40 = .ok (.aload_n 0, 1) := by decide +kernel
theorem dX1_init_41 : decode cX1_init 41 = .ok (.getfield 15, 3) := by decide +kernel
theorem dX1_init_44 : decode cX1_init 44 = .ok (.iload_n 1, 1) := by decide +kernel
theorem dX1_init_45 : decode cX1_init 45 = .ok (.sipush 2200, 3) := by decide +kernel
theorem dX1_init_48 : decode cX1_init 48 = .ok (.iastore, 1) := by decide +kernel
theorem dX1_init_49 : decode cX1_init 49 = .ok (.aload_n 0, 1) := by decide +kernel
theorem dX1_init_50 : decode cX1_init 50 = .ok (.getfield 20, 3) := by decide +kernel
theorem dX1_init_53 : decode cX1_init 53 = .ok (.iload_n 1, 1) := by decide +kernel
theorem dX1_init_54 : decode cX1_init 54 = .ok (.aaload, 1) := by decide +kernel
theorem dX1_init_55 : decode cX1_init 55 = .ok (.iload_n 1, 1) := by decide +kernel
theorem dX1_init_56 : decode cX1_init 56 = .ok (.bipush 60, 2) := by decide +kernel
theorem dX1_init_58 : decode cX1_init 58 = .ok (.iastore, 1) := by decide +kernel
theorem dX1_init_59 : decode cX1_init 59 = .ok (.bipush 6, 2) := by decide +kernel
theorem dX1_init_61 : decode cX1_init 61 = .ok (.istore_n 2, 1) := by decide +kernel
theorem dX1_init_62 : decode cX1_init 62 = .ok (.iload_n 2, 1) := by decide +kernel
theorem dX1_init_63 : decode cX1_init 63 = .ok (.bipush 8, 2) := by decide +kernel
theorem dX1_init_65 : decode cX1_init 65 = .ok (.if_icmp .ge 19, 3) := by decide +kernel
theorem dX1_init_68 : decode cX1_init 68 = .ok (.aload_n 0, 1) := by decide +kernel
theorem dX1_init_69 : decode cX1_init 69 = .ok (.getfield 20, 3) := by decide +kernel
theorem dX1_init_72 : decode cX1_init 72 = .ok (.iload_n 2, 1) := by decide +kernel
theorem dX1_init_73 : decode cX1_init 73 = .ok (.aaload, 1) := by decide +kernel
theorem dX1_init_74 : decode cX1_init 74 = .ok (.iload_n 1, 1) := by decide +kernel
theorem dX1_init_75 : decode cX1_init 75 = .ok (.bipush 20, 2) := by decide +kernel
theorem dX1_init_77 : decode cX1_init 77 = .ok (.iastore, 1) := by decide +kernel
theorem dX1_init_78 : decode cX1_init 78 = .ok (.iinc 2 1, 3) := by decide +kernel
theorem dX1_init_81 : decode cX1_init 81 = .ok (.goto (-19), 3) := by decide +kernel
theorem dX1_init_84 : decode cX1_init 84 = .ok (.iinc 1 1, 3) := by decide +kernel
theorem dX1_init_87 : decode cX1_init 87 = .ok (.goto (-53), 3) := by decide +kernel
theorem dX1_init_90 : decode cX1_init 90 = .ok (.aload_n 0, 1) := by decide +kernel
theorem dX1_init_91 : decode cX1_init 91 = .ok (.bipush 20, 2) := by decide +kernel
theorem dX1_init_93 : decode cX1_init 93 = .ok (.putfield 23, 3) := by decide +kernel
theorem dX1_init_96 : decode cX1_init 96 = .ok (.aload_n 0, 1) := by decide +kernel
theorem dX1_init_97 : decode cX1_init 97 = .ok (.bipush 10, 2) := by decide +kernel
theorem dX1_init_99 : decode cX1_init 99 = .ok (.putfield 27, 3) := by decide +kernel
theorem dX1_init_102 : decode cX1_init 102 = .ok (.aload_n 0, 1) := by decide +kernel
theorem dX1_init_103 : decode cX1_init 103 = .ok (.sipush 2500, 3) := by decide +kernel
theorem dX1_init_106 : decode cX1_init 106 = .ok (.putfield 30, 3) := by decide +kernel
theorem dX1_init_109 : decode cX1_init 109 = .ok (.aload_n 0, 1) := by decide +kernel
theorem dX1_init_110 : decode cX1_init 110 = .ok (.sipush 2700, 3) := by decide +kernel
theorem dX1_init_113 : decode cX1_init 113 = .ok (.putfield 33, 3) := by decide +kernel
theorem dX1_init_116 : decode cX1_init 116 = .ok (.aload_n 0, 1) := by decide +kernel
theorem dX1_init_117 : decode cX1_init 117 = .ok (.iconst 2, 1) := by decide +kernel
theorem dX1_init_118 : decode cX1_init 118 = .ok (.putfield 36, 3) := by decide +kernel
theorem dX1_init_121 : decode cX1_init 121 = .ok (.return_, 1) := by decide +kernel
theorem dJ9_floorDiv_7cf53_0 : decode cJ9_floorDiv_7cf53 0 = .ok (.iload_n 0, 1) := by decide +kernel
theorem dJ9_floorDiv_7cf53_1 : decode cJ9_floorDiv_7cf53 1 = .ok (.iload_n 1, 1) := by decide +kernel
theorem dJ9_floorDiv_7cf53_2 : decode cJ9_floorDiv_7cf53 2 = .ok (.idiv, 1) := by decide +kernel
theorem dJ9_floorDiv_7cf53_3 : decode cJ9_floorDiv_7cf53 3 = .ok (.istore_n 2, 1) := by decide +kernel
theorem dJ9_floorDiv_7cf53_4 : decode cJ9_floorDiv_7cf53 4 = .ok (.iload_n 0, 1) := by decide +kernel
theorem dJ9_floorDiv_7cf53_5 : decode cJ9_floorDiv_7cf53 5 = .ok (.iload_n 1, 1) := by decide +kernel
theorem dJ9_floorDiv_7cf53_6 : decode cJ9_floorDiv_7cf53 6 = .ok (.ixor, 1) := by decide +kernel
theorem dJ9_floorDiv_7cf53_7 : decode cJ9_floorDiv_7cf53 7 = .ok (.ifCond .ge 14, 3) := by decide +kernel
theorem dJ9_floorDiv_7cf53_10 : decode cJ9_floorDiv_7cf53 10 = .ok (.iload_n 2, 1) := by decide +kernel
theorem dJ9_floorDiv_7cf53_11 : decode cJ9_floorDiv_7cf53 11 = .ok (.iload_n 1, 1) := by decide +kernel
theorem dJ9_floorDiv_7cf53_12 : decode cJ9_floorDiv_7cf53 12 = .ok (.imul, 1) := by decide +kernel
theorem dJ9_floorDiv_7cf53_13 : decode cJ9_floorDiv_7cf53 13 = .ok (.iload_n 0, 1) := by decide +kernel
theorem dJ9_floorDiv_7cf53_14 : decode cJ9_floorDiv_7cf53 14 = .ok (.if_icmp .eq 7, 3) := by decide +kernel
theorem dJ9_floorDiv_7cf53_17 : decode cJ9_floorDiv_7cf53 17 = .ok (.iload_n 2, 1) := by decide +kernel
theorem dJ9_floorDiv_7cf53_18 : decode cJ9_floorDiv_7cf53 18 = .ok (.iconst 1, 1) := by decide +kernel
theorem dJ9_floorDiv_7cf53_19 : decode cJ9_floorDiv_7cf53 19 = .ok (.isub, 1) := by decide +kernel
theorem dJ9_floorDiv_7cf53_20 : decode cJ9_floorDiv_7cf53 20 = .ok (.ireturn, 1) := by decide +kernel
theorem dJ9_floorDiv_7cf53_21 : decode cJ9_floorDiv_7cf53 21 = .ok (.iload_n 2, 1) := by decide +kernel
theorem dJ9_floorDiv_7cf53_22 : decode cJ9_floorDiv_7cf53 22 = .ok (.ireturn, 1) := by decide +kernel
theorem dJ9_floorMod_7cf53_0 : decode cJ9_floorMod_7cf53 0 = .ok (.iload_n 0, 1) := by decide +kernel
theorem dJ9_floorMod_7cf53_1 : decode cJ9_floorMod_7cf53 1 = .ok (.iload_n 1, 1) := by decide +kernel
theorem dJ9_floorMod_7cf53_2 : decode cJ9_floorMod_7cf53 2 = .ok (.irem, 1) := by decide +kernel
theorem dJ9_floorMod_7cf53_3 : decode cJ9_floorMod_7cf53 3 = .ok (.istore_n 2, 1) := by decide +kernel
theorem dJ9_floorMod_7cf53_4 : decode cJ9_floorMod_7cf53 4 = .ok (.iload_n 0, 1) := by decide +kernel
theorem dJ9_floorMod_7cf53_5 : decode cJ9_floorMod_7cf53 5 = .ok (.iload_n 1, 1) := by decide +kernel
theorem dJ9_floorMod_7cf53_6 : decode cJ9_floorMod_7cf53 6 = .ok (.ixor, 1) := by decide +kernel
theorem dJ9_floorMod_7cf53_7 : decode cJ9_floorMod_7cf53 7 = .ok (.ifCond .ge 11, 3) := by decide +kernel
theorem dJ9_floorMod_7cf53_10 : decode cJ9_floorMod_7cf53 10 = .ok (.iload_n 2, 1) := by decide +kernel
theorem dJ9_floorMod_7cf53_11 : decode cJ9_floorMod_7cf53 11 = .ok (.ifCond .eq 7, 3) := by decide +kernel
theorem dJ9_floorMod_7cf53_14 : decode cJ9_floorMod_7cf53 14 = .ok (.iload_n 2, 1) := by decide +kernel
theorem dJ9_floorMod_7cf53_15 : decode cJ9_floorMod_7cf53 15 = .ok (.iload_n 1, 1) := by decide +kernel
theorem dJ9_floorMod_7cf53_16 : decode cJ9_floorMod_7cf53 16 = .ok (.iadd, 1) := by decide +kernel
theorem dJ9_floorMod_7cf53_17 : decode cJ9_floorMod_7cf53 17 = .ok (.ireturn, 1) := by decide +kernel
theorem dJ9_floorMod_7cf53_18 : decode cJ9_floorMod_7cf53 18 = .ok (.iload_n 2, 1) := by decide +kernel
theorem dJ9_floorMod_7cf53_19 : decode cJ9_floorMod_7cf53 19 = .ok (.ireturn, 1) := by decide +kernel
theorem dJ9_max_7cf53_0 : decode cJ9_max_7cf53 0 = .ok (.iload_n 0, 1) := by decide +kernel
theorem dJ9_max_7cf53_1 : decode cJ9_max_7cf53 1 = .ok (.iload_n 1, 1) := by decide +kernel
theorem dJ9_max_7cf53_2 : decode cJ9_max_7cf53 2 = .ok (.if_icmp .lt 7, 3) := by decide +kernel
theorem dJ9_max_7cf53_5 : decode cJ9_max_7cf53 5 = .ok (.iload_n 0, 1) := by decide +kernel
theorem dJ9_max_7cf53_6 : decode cJ9_max_7cf53 6 = .ok (.goto 4, 3) := by decide +kernel
theorem dJ9_max_7cf53_9 : decode cJ9_max_7cf53 9 = .ok (.iload_n 1, 1) := by decide +kernel
theorem dJ9_max_7cf53_10 : decode cJ9_max_7cf53 10 = .ok (.ireturn, 1) := by decide +kernel
theorem dJ9_min_7cf53_0 : decode cJ9_min_7cf53 0 = .ok (.iload_n 0, 1) := by decide +kernel
theorem dJ9_min_7cf53_1 : decode cJ9_min_7cf53 1 = .ok (.iload_n 1, 1) := by decide +kernel
theorem dJ9_min_7cf53_2 : decode cJ9_min_7cf53 2 = .ok (.if_icmp .gt 7, 3) := by decide +kernel
theorem dJ9_min_7cf53_5 : decode cJ9_min_7cf53 5 = .ok (.iload_n 0, 1) := by decide +kernel
theorem dJ9_min_7cf53_6 : decode cJ9_min_7cf53 6 = .ok (.goto 4, 3) := by decide +kernel
theorem dJ9_min_7cf53_9 : decode cJ9_min_7cf53 9 = .ok (.iload_n 1, 1) := by decide +kernel
theorem dJ9_min_7cf53_10 : decode cJ9_min_7cf53 10 = .ok (.ireturn, 1) := by decide +kernel
