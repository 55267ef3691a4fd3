theorem dX3_setHall_21 : decode cX3_setHall 21 = .ok (.invokestatic 63, 3) := by decide +kernel
theorem dX3_setHall_24 : decode cX3_setHall 24 = .ok (.ifCond .eq 7, 3) := by decide +kernel
theorem dX3_setHall_27 : decode cX3_setHall 27 = .ok (.iconst 0, 1) := by decide +kernel
theorem dX3_setHall_28 : decode cX3_setHall 28 = .ok (.goto 4, 3) := by decide +kernel
theorem dX3_setHall_31 : decode cX3_setHall 31 = .ok (.iconst 1, 1) := by decide +kernel
theorem dX3_setHall_32 : decode cX3_setHall 32 = .ok (.invokevirtual 71, 3) := by decide +kernel
theorem dX3_setHall_35 : decode cX3_setHall 35 = .ok (.ifCond .eq 13, 3) := by decide +kernel
theorem dX3_setHall_38 : decode cX3_setHall 38 = .ok (.aload_n 0, 1) := by decide +kernel
theorem dX3_setHall_39 : decode cX3_setHall 39 = .ok (.iload_n 1, 1) := by decide +kernel
theorem dX3_setHall_40 : decode cX3_setHall 40 = .ok (.putfield 26, 3) := by decide +kernel
theorem dX3_setHall_43 : decode cX3_setHall 43 = .ok (.aload_n 0, 1) := by decide +kernel
theorem dX3_setHall_44 : decode cX3_setHall 44 = .ok (.iload_n 2, 1) := by decide +kernel
theorem dX3_setHall_45 : decode cX3_setHall 45 = .ok (.putfield 29, 3) := by decide +kernel
theorem dX3_setHall_48 : decode cX3_setHall 48 = .ok (.return_, 1) := by decide +kernel
set_option maxRecDepth 20000 in
theorem ggX3_setDelay_X3_isIn : GoodIn wsX3_setDelay wsX3_isIn := goodIn_r _ [5] (by decide +kernel) (by decide +kernel)
set_option maxRecDepth 20000 in
theorem gX3_setDelay_X3_isIn : GoodIn wsX3_setDelay (va_wsS RX3 63 yX3_isIn wsX3_isIn) := goodIn_app (goodIn_of _ (by decide +kernel)) ggX3_setDelay_X3_isIn
set_option maxRecDepth 20000 in
theorem ggX3_setDelay_X3_goes : GoodIn wsX3_setDelay wsX3_goes := goodIn_r _ [9, 10, 11, 12, 13, 14, 15, 16, 17, 18, 19, 20, 21, 22, 23, 24, 25, 26, 27] (by decide +kernel) (by decide +kernel)
set_option maxRecDepth 20000 in
theorem gX3_setDelay_X3_goes : GoodIn wsX3_setDelay (wsV RX3 71 RX3 yX3_goes wsX3_goes) := goodIn_app (goodIn_of _ (by decide +kernel)) ggX3_setDelay_X3_goes
theorem dX3_setDelay_0 : decode cX3_setDelay 0 = .ok (.aload_n 0, 1) := by decide +kernel
theorem dX3_setDelay_1 : decode cX3_setDelay 1 = .ok (.iload_n 1, 1) := by decide +kernel
theorem dX3_setDelay_2 : decode cX3_setDelay 2 = .ok (.iconst 0, 1) := by decide +kernel
theorem dX3_setDelay_3 : decode cX3_setDelay 3 = .ok (.bipush 8, 2) := by decide +kernel
theorem dX3_setDelay_5 : decode cX3_setDelay 5 = .ok (.invokestatic 63, 3) := by decide +kernel
theorem dX3_setDelay_8 : decode cX3_setDelay 8 = .ok (.ifCond .eq 7, 3) := by decide +kernel
theorem dX3_setDelay_11 : decode cX3_setDelay 11 = .ok (.iconst 0, 1) := by decide +kernel
theorem dX3_setDelay_12 : decode cX3_setDelay 12 = .ok (.goto 4, 3) := by decide +kernel
theorem dX3_setDelay_15 : decode cX3_setDelay 15 = .ok (.iconst 1, 1) := by decide +kernel
theorem dX3_setDelay_16 : decode cX3_setDelay 16 = .ok (.invokevirtual 71, 3) := by decide +kernel
theorem dX3_setDelay_19 : decode cX3_setDelay 19 = .ok (.ifCond .ne 5, 3) := by decide +kernel
theorem dX3_setDelay_22 : decode cX3_setDelay 22 = .ok (.iconst 0, 1) := by decide +kernel
theorem dX3_setDelay_23 : decode cX3_setDelay 23 = .ok (.ireturn, 1) := by decide +kernel
theorem dX3_setDelay_24 : decode cX3_setDelay 24 = .ok (.aload_n 0, 1) := by decide +kernel
theorem dX3_setDelay_25 : decode cX3_setDelay 25 = .ok (.getfield 32, 3) := by decide +kernel
theorem dX3_setDelay_28 : decode cX3_setDelay 28 = .ok (.istore_n 2, 1) := by decide +kernel
theorem dX3_setDelay_29 : decode cX3_setDelay 29 = .ok (.aload_n 0, 1) := by decide +kernel
theorem dX3_setDelay_30 : decode cX3_setDelay 30 = .ok (.iload_n 1, 1) := by decide +kernel
theorem dX3_setDelay_31 : decode cX3_setDelay 31 = .ok (.putfield 32, 3) := by decide +kernel
theorem dX3_setDelay_34 : decode cX3_setDelay 34 = .ok (.iload_n 2, 1) := by decide +kernel
theorem dX3_setDelay_35 : decode cX3_setDelay 35 = .ok (.ireturn, 1) := by decide +kernel
theorem dX3_running_0 : decode cX3_running 0 = .ok (.iconst 0, 1) := by decide +kernel
theorem dX3_running_1 : decode cX3_running 1 = .ok (.istore_n 1, 1) := by decide +kernel
theorem dX3_running_2 : decode cX3_running 2 = .ok (.iconst 0, 1) := by decide +kernel
theorem dX3_running_3 : decode cX3_running 3 = .ok (.istore_n 2, 1) := by decide +kernel
theorem dX3_running_4 : decode cX3_running 4 = .ok (.iload_n 2, 1) := by decide +kernel
theorem dX3_running_5 : decode cX3_running 5 = .ok (.bipush 8, 2) := by decide +kernel
theorem dX3_running_7 : decode cX3_running 7 = .ok (.if_icmp .ge 26, 3) := by decide +kernel
theorem dX3_running_10 : decode cX3_running 10 = .ok (.iload_n 1, 1) := by decide +kernel
theorem dX3_running_11 : decode cX3_running 11 = .ok (.aload_n 0, 1) := by decide +kernel
theorem dX3_running_12 : decode cX3_running 12 = .ok (.getfield 47, 3) := by decide +kernel
theorem dX3_running_15 : decode cX3_running 15 = .ok (.iload_n 2, 1) := by decide +kernel
theorem dX3_running_16 : decode cX3_running 16 = .ok (.baload, 1) := by decide +kernel
theorem dX3_running_17 : decode cX3_running 17 = .ok (.ifCond .eq 7, 3) := by decide +kernel
theorem dX3_running_20 : decode cX3_running 20 = .ok (.iconst 0, 1) := by decide +kernel
theorem dX3_running_21 : decode cX3_running 21 = .ok (.goto 4, 3) := by decide +kernel
theorem dX3_running_24 : decode cX3_running 24 = .ok (.iconst 1, 1) := by decide +kernel
theorem dX3_running_25 : decode cX3_running 25 = .ok (.iadd, 1) := by decide +kernel
theorem dX3_running_26 : decode cX3_running 26 = .ok (.istore_n 1, 1) := by decide +kernel
theorem dX3_running_27 : decode cX3_running 27 = .ok (.iinc 2 1, 3) := by decide +kernel
theorem dX3_running_30 : decode cX3_running 30 = .ok (.goto (-26), 3) := by decide +kernel
theorem dX3_running_33 : decode cX3_running 33 = .ok (.iload_n 1, 1) := by decide +kernel
theorem dX3_running_34 : decode cX3_running 34 = .ok (.ireturn, 1) := by decide +kernel
set_option maxRecDepth 20000 in
theorem ggX3_fail_X3_isFan : GoodIn wsX3_fail wsX3_isFan := goodIn_r _ [6, 7, 8, 5, 9] (by decide +kernel) (by decide +kernel)
set_option maxRecDepth 20000 in
theorem gX3_fail_X3_isFan : GoodIn wsX3_fail (va_wsS RX3 74 yX3_isFan wsX3_isFan) := goodIn_app (goodIn_of _ (by decide +kernel)) ggX3_fail_X3_isFan
set_option maxRecDepth 20000 in
theorem ggX3_fail_X3_goes : GoodIn wsX3_fail wsX3_goes := goodIn_r _ [13, 14, 19, 20, 21, 22, 23, 24, 25, 26, 27, 28, 29, 30, 31, 32, 33, 34, 35] (by decide +kernel) (by decide +kernel)
set_option maxRecDepth 20000 in
theorem gX3_fail_X3_goes : GoodIn wsX3_fail (wsV RX3 71 RX3 yX3_goes wsX3_goes) := goodIn_app (goodIn_of _ (by decide +kernel)) ggX3_fail_X3_goes
set_option maxRecDepth 20000 in
theorem ggX3_fail_X3_running : GoodIn wsX3_fail wsX3_running := goodIn_r _ [18, 1, 19, 20, 21, 22, 23, 24, 25, 26, 27, 28, 29, 30, 31, 32, 33, 34, 35] (by decide +kernel) (by decide +kernel)
set_option maxRecDepth 20000 in
theorem gX3_fail_X3_running : GoodIn wsX3_fail (wsV RX3 77 RX3 yX3_running wsX3_running) := goodIn_app (goodIn_of _ (by decide +kernel)) ggX3_fail_X3_running
theorem dX3_fail_0 : decode cX3_fail 0 = .ok (.aload_n 0, 1) := by decide +kernel
theorem dX3_fail_1 : decode cX3_fail 1 = .ok (.iload_n 1, 1) := by decide +kernel
theorem dX3_fail_2 : decode cX3_fail 2 = .ok (.invokestatic 74, 3) := by decide +kernel
theorem dX3_fail_5 : decode cX3_fail 5 = .ok (.ifCond .ne 7, 3) := by decide +kernel
theorem dX3_fail_8 : decode cX3_fail 8 = .ok (.iconst 1, 1) := by decide +kernel
theorem dX3_fail_9 : decode cX3_fail 9 = .ok (.goto 17, 3) := by decide +kernel
theorem dX3_fail_12 : decode cX3_fail 12 = .ok (.aload_n 0, 1) := by decide +kernel
theorem dX3_fail_13 : decode cX3_fail 13 = .ok (.getfield 47, 3) := by decide +kernel
theorem dX3_fail_16 : decode cX3_fail 16 = .ok (.iload_n 1, 1) := by decide +kernel
theorem dX3_fail_17 : decode cX3_fail 17 = .ok (.baload, 1) := by decide +kernel
theorem dX3_fail_18 : decode cX3_fail 18 = .ok (.ifCond .eq 7, 3) := by decide +kernel
theorem dX3_fail_21 : decode cX3_fail 21 = .ok (.iconst 2, 1) := by decide +kernel
theorem dX3_fail_22 : decode cX3_fail 22 = .ok (.goto 4, 3) := by decide +kernel
theorem dX3_fail_25 : decode cX3_fail 25 = .ok (.iconst 0, 1) := by decide +kernel
theorem dX3_fail_26 : decode cX3_fail 26 = .ok (.invokevirtual 71, 3) := by decide +kernel
theorem dX3_fail_29 : decode cX3_fail 29 = .ok (.ifCond .ne 5, 3) := by decide +kernel
theorem dX3_fail_32 : decode cX3_fail 32 = .ok (.iconst 0, 1) := by decide +kernel
theorem dX3_fail_33 : decode cX3_fail 33 = .ok (.ireturn, 1) := by decide +kernel
theorem dX3_fail_34 : decode cX3_fail 34 = .ok (.aload_n 0, 1) := by decide +kernel
theorem dX3_fail_35 : decode cX3_fail 35 = .ok (.getfield 47, 3) := by decide +kernel
theorem dX3_fail_38 : decode cX3_fail 38 = .ok (.iload_n 1, 1) := by decide +kernel
theorem dX3_fail_39 : decode cX3_fail 39 = .ok (.iconst 1, 1) := by decide +kernel
theorem dX3_fail_40 : decode cX3_fail 40 = .ok (.bastore, 1) := by decide +kernel
theorem dX3_fail_41 : decode cX3_fail 41 = .ok (.aload_n 0, 1) := by decide +kernel
theorem dX3_fail_42 : decode cX3_fail 42 = .ok (.getfield 51, 3) := by decide +kernel
theorem dX3_fail_45 : decode cX3_fail 45 = .ok (.iload_n 1, 1) := by decide +kernel
theorem dX3_fail_46 : decode cX3_fail 46 = .ok (.iconst 0, 1) := by decide +kernel
theorem dX3_fail_47 : decode cX3_fail 47 = .ok (.iastore, 1) := by decide +kernel
theorem dX3_fail_48 : decode cX3_fail 48 = .ok (.aload_n 0, 1) := by decide +kernel
theorem dX3_fail_49 : decode cX3_fail 49 = .ok (.invokevirtual 77, 3) := by decide +kernel
theorem dX3_fail_52 : decode cX3_fail 52 = .ok (.ireturn, 1) := by decide +kernel
set_option maxRecDepth 20000 in
theorem ggX3_repair_X3_isFan : GoodIn wsX3_repair wsX3_isFan := goodIn_r _ [5, 6, 7, 4, 8] (by decide +kernel) (by decide +kernel)
set_option maxRecDepth 20000 in
theorem gX3_repair_X3_isFan : GoodIn wsX3_repair (va_wsS RX3 74 yX3_isFan wsX3_isFan) := goodIn_app (goodIn_of _ (by decide +kernel)) ggX3_repair_X3_isFan
set_option maxRecDepth 20000 in
theorem ggX3_repair_X3_goes : GoodIn wsX3_repair wsX3_goes := goodIn_r _ [12, 13, 18, 19, 20, 21, 22, 23, 24, 25, 26, 27, 28, 29, 30, 31, 32, 33, 34] (by decide +kernel) (by decide +kernel)
set_option maxRecDepth 20000 in
theorem gX3_repair_X3_goes : GoodIn wsX3_repair (wsV RX3 71 RX3 yX3_goes wsX3_goes) := goodIn_app (goodIn_of _ (by decide +kernel)) ggX3_repair_X3_goes
set_option maxRecDepth 20000 in
theorem ggX3_repair_X3_running : GoodIn wsX3_repair wsX3_running := goodIn_r _ [17, 1, 18, 19, 20, 21, 22, 23, 24, 25, 26, 27, 28, 29, 30, 31, 32, 33, 34] (by decide +kernel) (by decide +kernel)
set_option maxRecDepth 20000 in
theorem gX3_repair_X3_running : GoodIn wsX3_repair (wsV RX3 77 RX3 yX3_running wsX3_running) := goodIn_app (goodIn_of _ (by decide +kernel)) ggX3_repair_X3_running
theorem dX3_repair_0 : decode cX3_repair 0 = .ok (.aload_n 0, 1) := by decide +kernel
theorem dX3_repair_1 : decode cX3_repair 1 = .ok (.iload_n 1, 1) := by decide +kernel
theorem dX3_repair_2 : decode cX3_repair 2 = .ok (.invokestatic 74, 3) := by decide +kernel
theorem dX3_repair_5 : decode cX3_repair 5 = .ok (.ifCond .ne 7, 3) := by decide +kernel
theorem dX3_repair_8 : decode cX3_repair 8 = .ok (.iconst 1, 1) := by decide +kernel
theorem dX3_repair_9 : decode cX3_repair 9 = .ok (.goto 17, 3) := by decide +kernel
theorem dX3_repair_12 : decode cX3_repair 12 = .ok (.aload_n 0, 1) := by decide +kernel
theorem dX3_repair_13 : decode cX3_repair 13 = .ok (.getfield 47, 3) := by decide +kernel
theorem dX3_repair_16 : decode cX3_repair 16 = .ok (.iload_n 1, 1) := by decide +kernel
theorem dX3_repair_17 : decode cX3_repair 17 = .ok (.baload, 1) := by decide +kernel
theorem dX3_repair_18 : decode cX3_repair 18 = .ok (.ifCond .eq 7, 3) := by decide +kernel
theorem dX3_repair_21 : decode cX3_repair 21 = .ok (.iconst 0, 1) := by decide +kernel
theorem dX3_repair_22 : decode cX3_repair 22 = .ok (.goto 4, 3) := by decide +kernel
theorem dX3_repair_25 : decode cX3_repair 25 = .ok (.iconst 2, 1) := by decide +kernel
theorem dX3_repair_26 : decode cX3_repair 26 = .ok (.invokevirtual 71, 3) := by decide +kernel
theorem dX3_repair_29 : decode cX3_repair 29 = .ok (.ifCond .ne 5, 3) := by decide +kernel
theorem dX3_repair_32 : decode cX3_repair 32 = .ok (.iconst 0, 1) := by decide +kernel
theorem dX3_repair_33 : decode cX3_repair 33 = .ok (.ireturn, 1) := by decide +kernel
theorem dX3_repair_34 : decode cX3_repair 34 = .ok (.aload_n 0, 1) := by decide +kernel
theorem dX3_repair_35 : decode cX3_repair 35 = .ok (.getfield 47, 3) := by decide +kernel
theorem dX3_repair_38 : decode cX3_repair 38 = .ok (.iload_n 1, 1) := by decide +kernel
theorem dX3_repair_39 : decode cX3_repair 39 = .ok (.iconst 0, 1) := by decide +kernel
theorem dX3_repair_40 : decode cX3_repair 40 = .ok (.bastore, 1) := by decide +kernel
theorem dX3_repair_41 : decode cX3_repair 41 = .ok (.aload_n 0, 1) := by decide +kernel
theorem dX3_repair_42 : decode cX3_repair 42 = .ok (.invokevirtual 77, 3) := by decide +kernel
theorem dX3_repair_45 : decode cX3_repair 45 = .ok (.ireturn, 1) := by decide +kernel
theorem dX3_commandAt_0 : decode cX3_commandAt 0 = .ok (.bipush 9, 2) := by decide +kernel
theorem dX3_commandAt_2 : decode cX3_commandAt 2 = .ok (.bipush 8, 2) := by decide +kernel
theorem dX3_commandAt_4 : decode cX3_commandAt 4 = .ok (.iload_n 0, 1) := by decide +kernel
theorem dX3_commandAt_5 : decode cX3_commandAt 5 = .ok (.imul, 1) := by decide +kernel
theorem dX3_commandAt_6 : decode cX3_commandAt 6 = .ok (.iload_n 1, 1) := by decide +kernel
theorem dX3_commandAt_7 : decode cX3_commandAt 7 = .ok (.iadd, 1) := by decide +kernel
theorem dX3_commandAt_8 : decode cX3_commandAt 8 = .ok (.imul, 1) := by decide +kernel
theorem dX3_commandAt_9 : decode cX3_commandAt 9 = .ok (.iload_n 2, 1) := by decide +kernel
theorem dX3_commandAt_10 : decode cX3_commandAt 10 = .ok (.bipush 9, 2) := by decide +kernel
theorem dX3_commandAt_12 : decode cX3_commandAt 12 = .ok (.irem, 1) := by decide +kernel
theorem dX3_commandAt_13 : decode cX3_commandAt 13 = .ok (.iadd, 1) := by decide +kernel
theorem dX3_commandAt_14 : decode cX3_commandAt 14 = .ok (.ireturn, 1) := by decide +kernel
set_option maxRecDepth 20000 in
theorem ggX3_command_X3_isFan : GoodIn wsX3_command wsX3_isFan := goodIn_r _ [6, 7, 8, 5, 9] (by decide +kernel) (by decide +kernel)
set_option maxRecDepth 20000 in
theorem gX3_command_X3_isFan : GoodIn wsX3_command (va_wsS RX3 74 yX3_isFan wsX3_isFan) := goodIn_app (goodIn_of _ (by decide +kernel)) ggX3_command_X3_isFan
set_option maxRecDepth 20000 in
theorem ggX3_command_X3_goes : GoodIn wsX3_command wsX3_goes := goodIn_r _ [13, 14, 18, 19, 20, 21, 22, 23, 24, 25, 26, 27, 28, 29, 30, 31, 32, 33, 34] (by decide +kernel) (by decide +kernel)
set_option maxRecDepth 20000 in
theorem gX3_command_X3_goes : GoodIn wsX3_command (wsV RX3 71 RX3 yX3_goes wsX3_goes) := goodIn_app (goodIn_of _ (by decide +kernel)) ggX3_command_X3_goes
set_option maxRecDepth 20000 in
theorem ggX3_command_X3_commandAt : GoodIn wsX3_command wsX3_commandAt := goodIn_r _ [17] (by decide +kernel) (by decide +kernel)
set_option maxRecDepth 20000 in
theorem gX3_command_X3_commandAt : GoodIn wsX3_command (va_wsS RX3 81 yX3_commandAt wsX3_commandAt) := goodIn_app (goodIn_of _ (by decide +kernel)) ggX3_command_X3_commandAt
theorem dX3_command_0 : decode cX3_command 0 = .ok (.aload_n 0, 1) := by decide +kernel
theorem dX3_command_1 : decode cX3_command 1 = .ok (.iload_n 1, 1) := by decide +kernel
theorem dX3_command_2 : decode cX3_command 2 = .ok (.invokestatic 74, 3) := by decide +kernel
theorem dX3_command_5 : decode cX3_command 5 = .ok (.ifCond .eq 7, 3) := by decide +kernel
theorem dX3_command_8 : decode cX3_command 8 = .ok (.iconst 0, 1) := by decide +kernel
theorem dX3_command_9 : decode cX3_command 9 = .ok (.goto 4, 3) := by decide +kernel
theorem dX3_command_12 : decode cX3_command 12 = .ok (.iconst 1, 1) := by decide +kernel
theorem dX3_command_13 : decode cX3_command 13 = .ok (.invokevirtual 71, 3) := by decide +kernel
theorem dX3_command_16 : decode cX3_command 16 = .ok (.ifCond .eq 33, 3) := by decide +kernel
theorem dX3_command_19 : decode cX3_command 19 = .ok (.aload_n 0, 1) := by decide +kernel
theorem dX3_command_20 : decode cX3_command 20 = .ok (.getfield 35, 3) := by decide +kernel
theorem dX3_command_23 : decode cX3_command 23 = .ok (.iconst 0, 1) := by decide +kernel
theorem dX3_command_24 : decode cX3_command 24 = .ok (.iaload, 1) := by decide +kernel
theorem dX3_command_25 : decode cX3_command 25 = .ok (.ifCond .le 24, 3) := by decide +kernel
theorem dX3_command_28 : decode cX3_command 28 = .ok (.aload_n 0, 1) := by decide +kernel
theorem dX3_command_29 : decode cX3_command 29 = .ok (.getfield 54, 3) := by decide +kernel
theorem dX3_command_32 : decode cX3_command 32 = .ok (.iconst 0, 1) := by decide +kernel
theorem dX3_command_33 : decode cX3_command 33 = .ok (.iload_n 1, 1) := by decide +kernel
theorem dX3_command_34 : decode cX3_command 34 = .ok (.aload_n 0, 1) := by decide +kernel
theorem dX3_command_35 : decode cX3_command 35 = .ok (.getfield 35, 3) := by decide +kernel
theorem dX3_command_38 : decode cX3_command 38 = .ok (.iconst 0, 1) := by decide +kernel
theorem dX3_command_39 : decode cX3_command 39 = .ok (.iaload, 1) := by decide +kernel
theorem dX3_command_40 : decode cX3_command 40 = .ok (.iconst 1, 1) := by decide +kernel
theorem dX3_command_41 : decode cX3_command 41 = .ok (.isub, 1) := by decide +kernel
theorem dX3_command_42 : decode cX3_command 42 = .ok (.invokestatic 81, 3) := by decide +kernel
theorem dX3_command_45 : decode cX3_command 45 = .ok (.iaload, 1) := by decide +kernel
theorem dX3_command_46 : decode cX3_command 46 = .ok (.goto 4, 3) := by decide +kernel
theorem dX3_command_49 : decode cX3_command 49 = .ok (.iconst 0, 1) := by decide +kernel
theorem dX3_command_50 : decode cX3_command 50 = .ok (.ireturn, 1) := by decide +kernel
set_option maxRecDepth 20000 in
theorem ggX3_speed_X3_isFan : GoodIn wsX3_speed wsX3_isFan := goodIn_r _ [5, 6, 7, 4, 8] (by decide +kernel) (by decide +kernel)
set_option maxRecDepth 20000 in
theorem gX3_speed_X3_isFan : GoodIn wsX3_speed (va_wsS RX3 74 yX3_isFan wsX3_isFan) := goodIn_app (goodIn_of _ (by decide +kernel)) ggX3_speed_X3_isFan
set_option maxRecDepth 20000 in
theorem ggX3_speed_X3_goes : GoodIn wsX3_speed wsX3_goes := goodIn_r _ [12, 13, 14, 15, 16, 17, 18, 19, 20, 21, 22, 23, 24, 25, 26, 27, 28, 29, 30] (by decide +kernel) (by decide +kernel)
set_option maxRecDepth 20000 in
theorem gX3_speed_X3_goes : GoodIn wsX3_speed (wsV RX3 71 RX3 yX3_goes wsX3_goes) := goodIn_app (goodIn_of _ (by decide +kernel)) ggX3_speed_X3_goes
theorem dX3_speed_0 : decode cX3_speed 0 = .ok (.aload_n 0, 1) := by decide +kernel
theorem dX3_speed_1 : decode cX3_speed 1 = .ok (.iload_n 1, 1) := by decide +kernel
theorem dX3_speed_2 : decode cX3_speed 2 = .ok (.invokestatic 74, 3) := by decide +kernel
theorem dX3_speed_5 : decode cX3_speed 5 = .ok (.ifCond .eq 7, 3) := by decide +kernel
theorem dX3_speed_8 : decode cX3_speed 8 = .ok (.iconst 0, 1) := by decide +kernel
theorem dX3_speed_9 : decode cX3_speed 9 = .ok (.goto 4, 3) := by decide +kernel
theorem dX3_speed_12 : decode cX3_speed 12 = .ok (.iconst 1, 1) := by decide +kernel
theorem dX3_speed_13 : decode cX3_speed 13 = .ok (.invokevirtual 71, 3) := by decide +kernel
theorem dX3_speed_16 : decode cX3_speed 16 = .ok (.ifCond .eq 12, 3) := by decide +kernel
theorem dX3_speed_19 : decode cX3_speed 19 = .ok (.aload_n 0, 1) := by decide +kernel
theorem dX3_speed_20 : decode cX3_speed 20 = .ok (.getfield 51, 3) := by decide +kernel
theorem dX3_speed_23 : decode cX3_speed 23 = .ok (.iload_n 1, 1) := by decide +kernel
theorem dX3_speed_24 : decode cX3_speed 24 = .ok (.iaload, 1) := by decide +kernel
theorem dX3_speed_25 : decode cX3_speed 25 = .ok (.goto 4, 3) := by decide +kernel
theorem dX3_speed_28 : decode cX3_speed 28 = .ok (.iconst 0, 1) := by decide +kernel
theorem dX3_speed_29 : decode cX3_speed 29 = .ok (.ireturn, 1) := by decide +kernel
set_option maxRecDepth 20000 in
theorem ggX3_demands_X3_held : GoodIn wsX3_demands wsX3_held := goodIn_r _ [12] (by decide +kernel) (by decide +kernel)
set_option maxRecDepth 20000 in
theorem gX3_demands_X3_held : GoodIn wsX3_demands (va_wsS RX3 85 yX3_held wsX3_held) := goodIn_app (goodIn_of _ (by decide +kernel)) ggX3_demands_X3_held
set_option maxRecDepth 20000 in
theorem ggX3_demands_X3_part : GoodIn wsX3_demands wsX3_part := goodIn_r _ [15] (by decide +kernel) (by decide +kernel)
set_option maxRecDepth 20000 in
theorem gX3_demands_X3_part : GoodIn wsX3_demands (va_wsS RX3 88 yX3_part wsX3_part) := goodIn_app (goodIn_of _ (by decide +kernel)) ggX3_demands_X3_part
theorem dX3_demands_0 : decode cX3_demands 0 = .ok (.bipush 6, 2) := by decide +kernel
theorem dX3_demands_2 : decode cX3_demands 2 = .ok (.iload_n 1, 1) := by decide +kernel
theorem dX3_demands_3 : decode cX3_demands 3 = .ok (.imul, 1) := by decide +kernel
theorem dX3_demands_4 : decode cX3_demands 4 = .ok (.iload_n 2, 1) := by decide +kernel
theorem dX3_demands_5 : decode cX3_demands 5 = .ok (.iadd, 1) := by decide +kernel
theorem dX3_demands_6 : decode cX3_demands 6 = .ok (.istore_n 3, 1) := by decide +kernel
theorem dX3_demands_7 : decode cX3_demands 7 = .ok (.aload_n 0, 1) := by decide +kernel
theorem dX3_demands_8 : decode cX3_demands 8 = .ok (.getfield 38, 3) := by decide +kernel
theorem dX3_demands_11 : decode cX3_demands 11 = .ok (.iload_n 3, 1) := by decide +kernel
theorem dX3_demands_12 : decode cX3_demands 12 = .ok (.iaload, 1) := by decide +kernel
theorem dX3_demands_13 : decode cX3_demands 13 = .ok (.aload_n 0, 1) := by decide +kernel
theorem dX3_demands_14 : decode cX3_demands 14 = .ok (.getfield 13, 3) := by decide +kernel
theorem dX3_demands_17 : decode cX3_demands 17 = .ok (.iload_n 2, 1) := by decide +kernel
theorem dX3_demands_18 : decode cX3_demands 18 = .ok (.iaload, 1) := by decide +kernel
theorem dX3_demands_19 : decode cX3_demands 19 = .ok (.isub, 1) := by decide +kernel
theorem dX3_demands_20 : decode cX3_demands 20 = .ok (.istore 4, 2) := by decide +kernel
theorem dX3_demands_22 : decode cX3_demands 22 = .ok (.iconst 0, 1) := by decide +kernel
theorem dX3_demands_23 : decode cX3_demands 23 = .ok (.istore 5, 2) := by decide +kernel
theorem dX3_demands_25 : decode cX3_demands 25 = .ok (.iconst 0, 1) := by decide +kernel
theorem dX3_demands_26 : decode cX3_demands 26 = .ok (.istore 6, 2) := by decide +kernel
theorem dX3_demands_28 : decode cX3_demands 28 = .ok (.aload_n 0, 1) := by decide +kernel
theorem dX3_demands_29 : decode cX3_demands 29 = .ok (.getfield 41, 3) := by decide +kernel
theorem dX3_demands_32 : decode cX3_demands 32 = .ok (.iload_n 3, 1) := by decide +kernel
theorem dX3_demands_33 : decode cX3_demands 33 = .ok (.aload_n 0, 1) := by decide +kernel
theorem dX3_demands_34 : decode cX3_demands 34 = .ok (.getfield 41, 3) := by decide +kernel
theorem dX3_demands_37 : decode cX3_demands 37 = .ok (.iload_n 3, 1) := by decide +kernel
theorem dX3_demands_38 : decode cX3_demands 38 = .ok (.iaload, 1) := by decide +kernel
theorem dX3_demands_39 : decode cX3_demands 39 = .ok (.iload 4, 2) := by decide +kernel
theorem dX3_demands_41 : decode cX3_demands 41 = .ok (.iadd, 1) := by decide +kernel
theorem dX3_demands_42 : decode cX3_demands 42 = .ok (.sipush (-20000), 3) := by decide +kernel
theorem dX3_demands_45 : decode cX3_demands 45 = .ok (.sipush 20000, 3) := by decide +kernel
theorem dX3_demands_48 : decode cX3_demands 48 = .ok (.invokestatic 85, 3) := by decide +kernel
theorem dX3_demands_51 : decode cX3_demands 51 = .ok (.iastore, 1) := by decide +kernel
theorem dX3_demands_52 : decode cX3_demands 52 = .ok (.aload_n 0, 1) := by decide +kernel
theorem dX3_demands_53 : decode cX3_demands 53 = .ok (.getfield 19, 3) := by decide +kernel
theorem dX3_demands_56 : decode cX3_demands 56 = .ok (.iload 4, 2) := by decide +kernel
theorem dX3_demands_58 : decode cX3_demands 58 = .ok (.imul, 1) := by decide +kernel
theorem dX3_demands_59 : decode cX3_demands 59 = .ok (.aload_n 0, 1) := by decide +kernel
theorem dX3_demands_60 : decode cX3_demands 60 = .ok (.getfield 23, 3) := by decide +kernel
theorem dX3_demands_63 : decode cX3_demands 63 = .ok (.aload_n 0, 1) := by decide +kernel
theorem dX3_demands_64 : decode cX3_demands 64 = .ok (.getfield 41, 3) := by decide +kernel
theorem dX3_demands_67 : decode cX3_demands 67 = .ok (.iload_n 3, 1) := by decide +kernel
theorem dX3_demands_68 : decode cX3_demands 68 = .ok (.iaload, 1) := by decide +kernel
theorem dX3_demands_69 : decode cX3_demands 69 = .ok (.imul, 1) := by decide +kernel
theorem dX3_demands_70 : decode cX3_demands 70 = .ok (.bipush 100, 2) := by decide +kernel
theorem dX3_demands_72 : decode cX3_demands 72 = .ok (.invokestatic 88, 3) := by decide +kernel
theorem dX3_demands_75 : decode cX3_demands 75 = .ok (.iadd, 1) := by decide +kernel
theorem dX3_demands_76 : decode cX3_demands 76 = .ok (.bipush 100, 2) := by decide +kernel
theorem dX3_demands_78 : decode cX3_demands 78 = .ok (.invokestatic 88, 3) := by decide +kernel
theorem dX3_demands_81 : decode cX3_demands 81 = .ok (.iconst 0, 1) := by decide +kernel
theorem dX3_demands_82 : decode cX3_demands 82 = .ok (.bipush 100, 2) := by decide +kernel
theorem dX3_demands_84 : decode cX3_demands 84 = .ok (.invokestatic 85, 3) := by decide +kernel
theorem dX3_demands_87 : decode cX3_demands 87 = .ok (.istore 7, 2) := by decide +kernel
theorem dX3_demands_89 : decode cX3_demands 89 = .ok (.iconst 0, 1) := by decide +kernel
theorem dX3_demands_90 : decode cX3_demands 90 = .ok (.istore 8, 2) := by decide +kernel
theorem dX3_demands_92 : decode cX3_demands 92 = .ok (.iload 8, 2) := by decide +kernel
theorem dX3_demands_94 : decode cX3_demands 94 = .ok (.bipush 8, 2) := by decide +kernel
theorem dX3_demands_96 : decode cX3_demands 96 = .ok (.if_icmp .ge 62, 3) := by decide +kernel
theorem dX3_demands_99 : decode cX3_demands 99 = .ok (.iload 5, 2) := by decide +kernel
theorem dX3_demands_101 : decode cX3_demands 101 = .ok (.aload_n 0, 1) := by decide +kernel
theorem dX3_demands_102 : decode cX3_demands 102 = .ok (.getfield 16, 3) := by decide +kernel
theorem dX3_demands_105 : decode cX3_demands 105 = .ok (.bipush 6, 2) := by decide +kernel
theorem dX3_demands_107 : decode cX3_demands 107 = .ok (.iload 8, 2) := by decide +kernel
theorem dX3_demands_109 : decode cX3_demands 109 = .ok (.imul, 1) := by decide +kernel
theorem dX3_demands_110 : decode cX3_demands 110 = .ok (.iload_n 2, 1) := by decide +kernel
theorem dX3_demands_111 : decode cX3_demands 111 = .ok (.iadd, 1) := by decide +kernel
theorem dX3_demands_112 : decode cX3_demands 112 = .ok (.iaload, 1) := by decide +kernel
theorem dX3_demands_113 : decode cX3_demands 113 = .ok (.iadd, 1) := by decide +kernel
theorem dX3_demands_114 : decode cX3_demands 114 = .ok (.istore 5, 2) := by decide +kernel
theorem dX3_demands_116 : decode cX3_demands 116 = .ok (.iload 6, 2) := by decide +kernel
theorem dX3_demands_118 : decode cX3_demands 118 = .ok (.aload_n 0, 1) := by decide +kernel
theorem dX3_demands_119 : decode cX3_demands 119 = .ok (.getfield 47, 3) := by decide +kernel
theorem dX3_demands_122 : decode cX3_demands 122 = .ok (.bipush 8, 2) := by decide +kernel
theorem dX3_demands_124 : decode cX3_demands 124 = .ok (.iload_n 1, 1) := by decide +kernel
theorem dX3_demands_125 : decode cX3_demands 125 = .ok (.imul, 1) := by decide +kernel
theorem dX3_demands_126 : decode cX3_demands 126 = .ok (.iload 8, 2) := by decide +kernel
theorem dX3_demands_128 : decode cX3_demands 128 = .ok (.iadd, 1) := by decide +kernel
theorem dX3_demands_129 : decode cX3_demands 129 = .ok (.baload, 1) := by decide +kernel
theorem dX3_demands_130 : decode cX3_demands 130 = .ok (.ifCond .eq 7, 3) := by decide +kernel
theorem dX3_demands_133 : decode cX3_demands 133 = .ok (.iconst 0, 1) := by decide +kernel
theorem dX3_demands_134 : decode cX3_demands 134 = .ok (.goto 15, 3) := by decide +kernel
theorem dX3_demands_137 : decode cX3_demands 137 = .ok (.aload_n 0, 1) := by decide +kernel
theorem dX3_demands_138 : decode cX3_demands 138 = .ok (.getfield 16, 3) := by decide +kernel
theorem dX3_demands_141 : decode cX3_demands 141 = .ok (.bipush 6, 2) := by decide +kernel
theorem dX3_demands_143 : decode cX3_demands 143 = .ok (.iload 8, 2) := by decide +kernel
theorem dX3_demands_145 : decode cX3_demands 145 = .ok (.imul, 1) := by decide +kernel
theorem dX3_demands_146 : decode cX3_demands 146 = .ok (.iload_n 2, 1) := by decide +kernel
theorem dX3_demands_147 : decode cX3_demands 147 = .ok (.iadd, 1) := by decide +kernel
theorem dX3_demands_148 : decode cX3_demands 148 = .ok (.iaload, 1) := by decide +kernel
theorem dX3_demands_149 : decode cX3_demands 149 = .ok (.iadd, 1) := by decide +kernel
theorem dX3_demands_150 : decode cX3_demands 150 = .ok (.istore 6, 2) := by decide +kernel
theorem dX3_demands_152 : decode cX3_demands 152 = .ok (.iinc 8 1, 3) := by decide +kernel
theorem dX3_demands_155 : decode cX3_demands 155 = .ok (.goto (-63), 3) := by decide +kernel
theorem dX3_demands_158 : decode cX3_demands 158 = .ok (.aload_n 0, 1) := by decide +kernel
theorem dX3_demands_159 : decode cX3_demands 159 = .ok (.getfield 44, 3) := by decide +kernel
theorem dX3_demands_162 : decode cX3_demands 162 = .ok (.iload_n 3, 1) := by decide +kernel
theorem dX3_demands_163 : decode cX3_demands 163 = .ok (.iload 5, 2) := by decide +kernel
theorem dX3_demands_165 : decode cX3_demands 165 = .ok (.iload 6, 2) := by decide +kernel
theorem dX3_demands_167 : decode cX3_demands 167 = .ok (.if_icmp .ne 8, 3) := by decide +kernel
theorem dX3_demands_170 : decode cX3_demands 170 = .ok (.iload 7, 2) := by decide +kernel
theorem dX3_demands_172 : decode cX3_demands 172 = .ok (.goto 27, 3) := by decide +kernel
theorem dX3_demands_175 : decode cX3_demands 175 = .ok (.iload 6, 2) := by decide +kernel
theorem dX3_demands_177 : decode cX3_demands 177 = .ok (.ifCond .ne 8, 3) := by decide +kernel
theorem dX3_demands_180 : decode cX3_demands 180 = .ok (.bipush 100, 2) := by decide +kernel
theorem dX3_demands_182 : decode cX3_demands 182 = .ok (.goto 17, 3) := by decide +kernel
theorem dX3_demands_185 : decode cX3_demands 185 = .ok (.iload 7, 2) := by decide +kernel
theorem dX3_demands_187 : decode cX3_demands 187 = .ok (.iload 5, 2) := by decide +kernel
theorem dX3_demands_189 : decode cX3_demands 189 = .ok (.imul, 1) := by decide +kernel
theorem dX3_demands_190 : decode cX3_demands 190 = .ok (.iload 6, 2) := by decide +kernel
theorem dX3_demands_192 : decode cX3_demands 192 = .ok (.idiv, 1) := by decide +kernel
theorem dX3_demands_193 : decode cX3_demands 193 = .ok (.iconst 0, 1) := by decide +kernel
theorem dX3_demands_194 : decode cX3_demands 194 = .ok (.bipush 100, 2) := by decide +kernel
theorem dX3_demands_196 : decode cX3_demands 196 = .ok (.invokestatic 85, 3) := by decide +kernel
theorem dX3_demands_199 : decode cX3_demands 199 = .ok (.iastore, 1) := by decide +kernel
theorem dX3_demands_200 : decode cX3_demands 200 = .ok (.return_, 1) := by decide +kernel
set_option maxRecDepth 20000 in
theorem ggX3_commands_X3_commandAt : GoodIn wsX3_commands wsX3_commandAt := goodIn_r _ [8] (by decide +kernel) (by decide +kernel)
set_option maxRecDepth 20000 in
theorem gX3_commands_X3_commandAt : GoodIn wsX3_commands (va_wsS RX3 81 yX3_commandAt wsX3_commandAt) := goodIn_app (goodIn_of _ (by decide +kernel)) ggX3_commands_X3_commandAt
theorem dX3_commands_0 : decode cX3_commands 0 = .ok (.iconst 0, 1) := by decide +kernel
theorem dX3_commands_1 : decode cX3_commands 1 = .ok (.istore_n 3, 1) := by decide +kernel
theorem dX3_commands_2 : decode cX3_commands 2 = .ok (.iconst 0, 1) := by decide +kernel
theorem dX3_commands_3 : decode cX3_commands 3 = .ok (.istore 4, 2) := by decide +kernel
theorem dX3_commands_5 : decode cX3_commands 5 = .ok (.iload 4, 2) := by decide +kernel
theorem dX3_commands_7 : decode cX3_commands 7 = .ok (.bipush 6, 2) := by decide +kernel
theorem dX3_commands_9 : decode cX3_commands 9 = .ok (.if_icmp .ge 69, 3) := by decide +kernel
