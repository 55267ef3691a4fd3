theorem dL_dice_0 : decode cL_dice 0 = .ok (.iload_n 1, 1) := by decide +kernel
theorem dL_dice_1 : decode cL_dice 1 = .ok (.aload_n 0, 1) := by decide +kernel
theorem dL_dice_2 : decode cL_dice 2 = .ok (.arraylength, 1) := by decide +kernel
theorem dL_dice_3 : decode cL_dice 3 = .ok (.if_icmp .ge 9, 3) := by decide +kernel
theorem dL_dice_6 : decode cL_dice 6 = .ok (.aload_n 0, 1) := by decide +kernel
theorem dL_dice_7 : decode cL_dice 7 = .ok (.iload_n 1, 1) := by decide +kernel
theorem dL_dice_8 : decode cL_dice 8 = .ok (.iaload, 1) := by decide +kernel
theorem dL_dice_9 : decode cL_dice 9 = .ok (.goto 22, 3) := by decide +kernel
theorem dL_dice_12 : decode cL_dice 12 = .ok (.ldc 7, 2) := by decide +kernel
theorem dL_dice_14 : decode cL_dice 14 = .ok (.iload_n 1, 1) := by decide +kernel
theorem dL_dice_15 : decode cL_dice 15 = .ok (.bipush 79, 2) := by decide +kernel
theorem dL_dice_17 : decode cL_dice 17 = .ok (.iadd, 1) := by decide +kernel
theorem dL_dice_18 : decode cL_dice 18 = .ok (.imul, 1) := by decide +kernel
theorem dL_dice_19 : decode cL_dice 19 = .ok (.sipush 383, 3) := by decide +kernel
theorem dL_dice_22 : decode cL_dice 22 = .ok (.iload_n 1, 1) := by decide +kernel
theorem dL_dice_23 : decode cL_dice 23 = .ok (.imul, 1) := by decide +kernel
theorem dL_dice_24 : decode cL_dice 24 = .ok (.iload_n 1, 1) := by decide +kernel
theorem dL_dice_25 : decode cL_dice 25 = .ok (.imul, 1) := by decide +kernel
theorem dL_dice_26 : decode cL_dice 26 = .ok (.iadd, 1) := by decide +kernel
theorem dL_dice_27 : decode cL_dice 27 = .ok (.sipush 503, 3) := by decide +kernel
theorem dL_dice_30 : decode cL_dice 30 = .ok (.iadd, 1) := by decide +kernel
theorem dL_dice_31 : decode cL_dice 31 = .ok (.ldc 8, 2) := by decide +kernel
theorem dL_dice_33 : decode cL_dice 33 = .ok (.iand, 1) := by decide +kernel
theorem dL_dice_34 : decode cL_dice 34 = .ok (.ireturn, 1) := by decide +kernel
set_option maxRecDepth 20000 in
theorem ggL_set_X2_setLoad : GoodIn wsL_set wsX2_setLoad := goodIn_ca (goodIn_r _ [9, 10, 11, 12, 13, 8, 14, 15, 16, 17, 18, 19, 137, 138, 139, 140, 141, 142, 143, 144, 145, 146, 147, 148, 149] (by decide +kernel) (by decide +kernel)) (goodIn_sub (fun _ h => List.mem_cons_of_mem _ (List.mem_append_left _ (List.mem_append_right _ h))) (by decide +kernel))
set_option maxRecDepth 20000 in
theorem gL_set_X2_setLoad : GoodIn wsL_set (wsV RL 9 RX2 yX2_setLoad wsX2_setLoad) := goodIn_app (goodIn_of _ (by decide +kernel)) ggL_set_X2_setLoad
set_option maxRecDepth 20000 in
theorem ggL_set_X2_setSetpoint : GoodIn wsL_set wsX2_setSetpoint := goodIn_ca (goodIn_r _ [23, 10, 24, 25, 26, 12, 13, 8, 14, 15, 16, 17, 18, 19, 137, 138, 139, 140, 141, 142, 143, 144, 145, 146, 147, 148, 149, 150, 151, 152, 153, 154, 155, 156] (by decide +kernel) (by decide +kernel)) (goodIn_sub (fun _ h => List.mem_cons_of_mem _ (List.mem_append_left _ (List.mem_append_right _ h))) (by decide +kernel))
set_option maxRecDepth 20000 in
theorem gL_set_X2_setSetpoint : GoodIn wsL_set (wsV RL 15 RX2 yX2_setSetpoint wsX2_setSetpoint) := goodIn_app (goodIn_of _ (by decide +kernel)) ggL_set_X2_setSetpoint
set_option maxRecDepth 20000 in
theorem ggL_set_X2_setEffect : GoodIn wsL_set wsX2_setEffect := goodIn_ca (goodIn_r _ [30, 10, 31, 32, 33, 8, 34, 15, 16, 17, 18, 19, 12, 13, 14, 137, 138, 139, 140, 141, 142, 143, 144, 145, 146, 147, 148, 149] (by decide +kernel) (by decide +kernel)) (goodIn_sub (fun _ h => List.mem_cons_of_mem _ (List.mem_append_left _ (List.mem_append_right _ h))) (by decide +kernel))
set_option maxRecDepth 20000 in
theorem gL_set_X2_setEffect : GoodIn wsL_set (wsV RL 18 RX2 yX2_setEffect wsX2_setEffect) := goodIn_app (goodIn_of _ (by decide +kernel)) ggL_set_X2_setEffect
set_option maxRecDepth 20000 in
theorem ggL_set_X2_setDelay : GoodIn wsL_set wsX2_setDelay := goodIn_ca (goodIn_r _ [38, 10, 39, 15, 16, 8, 17, 18, 19, 137, 138, 139, 140, 141, 142, 143, 144, 145, 146, 147, 148, 149] (by decide +kernel) (by decide +kernel)) (goodIn_sub (fun _ h => List.mem_cons_of_mem _ (List.mem_append_left _ (List.mem_append_right _ h))) (by decide +kernel))
set_option maxRecDepth 20000 in
theorem gL_set_X2_setDelay : GoodIn wsL_set (wsV RL 22 RX2 yX2_setDelay wsX2_setDelay) := goodIn_app (goodIn_of _ (by decide +kernel)) ggL_set_X2_setDelay
set_option maxRecDepth 20000 in
theorem ggL_set_X2_fail : GoodIn wsL_set wsX2_fail := goodIn_ca (goodIn_ca (goodIn_r _ [43, 44, 45, 25, 46, 32, 33, 8, 34, 15, 16, 17, 18, 19, 47, 48, 49, 50, 51, 52, 53, 54, 55, 56, 57, 137, 138, 139, 140, 141, 150, 151, 152, 153, 154, 155, 156] (by decide +kernel) (by decide +kernel)) (goodIn_sub (fun _ h => List.mem_cons_of_mem _ (List.mem_append_right _ h)) (by decide +kernel))) (goodIn_sub (fun _ h => List.mem_cons_of_mem _ (List.mem_append_left _ (List.mem_append_right _ h))) (by decide +kernel))
set_option maxRecDepth 20000 in
theorem gL_set_X2_fail : GoodIn wsL_set (wsV RL 26 RX2 yX2_fail wsX2_fail) := goodIn_app (goodIn_of _ (by decide +kernel)) ggL_set_X2_fail
set_option maxRecDepth 20000 in
theorem ggL_set_X2_repair : GoodIn wsL_set wsX2_repair := goodIn_ca (goodIn_ca (goodIn_r _ [61, 44, 45, 25, 46, 32, 33, 8, 34, 15, 16, 17, 18, 19, 54, 55, 56, 50, 57, 52, 137, 138, 139, 140, 141, 150, 151, 152, 153, 154, 155, 156] (by decide +kernel) (by decide +kernel)) (goodIn_sub (fun _ h => List.mem_cons_of_mem _ (List.mem_append_right _ h)) (by decide +kernel))) (goodIn_sub (fun _ h => List.mem_cons_of_mem _ (List.mem_append_left _ (List.mem_append_right _ h))) (by decide +kernel))
set_option maxRecDepth 20000 in
theorem gL_set_X2_repair : GoodIn wsL_set (wsV RL 29 RX2 yX2_repair wsX2_repair) := goodIn_app (goodIn_of _ (by decide +kernel)) ggL_set_X2_repair
set_option maxRecDepth 20000 in
theorem ggL_set_X2_pass : GoodIn wsL_set wsX2_pass := goodIn_ca (goodIn_ca (goodIn_r _ [65, 44, 45, 66, 67, 25, 10, 15, 16, 8, 17, 18, 19, 68, 69, 70, 50, 71, 72, 73, 74, 75, 76, 77, 78, 79, 80, 81, 82, 83, 84, 85, 86, 87, 88, 89, 90, 91, 92, 93, 94, 95, 96, 97, 98, 99, 52, 100, 101, 102, 103, 104, 105, 106, 107, 108, 109, 110, 111, 112, 113, 114, 115, 116, 117, 118, 119, 120, 121, 122, 123, 53, 124, 125, 126, 127, 128, 129, 130, 131, 132, 133, 134, 135, 136, 137, 138, 139, 140, 141, 150, 151, 152, 153, 154, 155, 156, 142, 143, 144, 145, 146, 147, 148, 149] (by decide +kernel) (by decide +kernel)) (goodIn_sub (fun _ h => List.mem_cons_of_mem _ (List.mem_append_right _ h)) (by decide +kernel))) (goodIn_sub (fun _ h => List.mem_cons_of_mem _ (List.mem_append_left _ (List.mem_append_right _ h))) (by decide +kernel))
set_option maxRecDepth 20000 in
theorem gL_set_X2_pass : GoodIn wsL_set (wsV RL 32 RX2 yX2_pass wsX2_pass) := goodIn_app (goodIn_of _ (by decide +kernel)) ggL_set_X2_pass
theorem dL_set_0 : decode cL_set 0 = .ok (.iload_n 1, 1) := by decide +kernel
theorem dL_set_1 : decode cL_set 1 = .ok (.ifCond .ne 12, 3) := by decide +kernel
theorem dL_set_4 : decode cL_set 4 = .ok (.aload_n 0, 1) := by decide +kernel
theorem dL_set_5 : decode cL_set 5 = .ok (.iload_n 2, 1) := by decide +kernel
theorem dL_set_6 : decode cL_set 6 = .ok (.iload_n 3, 1) := by decide +kernel
theorem dL_set_7 : decode cL_set 7 = .ok (.invokevirtual 9, 3) := by decide +kernel
theorem dL_set_10 : decode cL_set 10 = .ok (.goto 77, 3) := by decide +kernel
theorem dL_set_13 : decode cL_set 13 = .ok (.iload_n 1, 1) := by decide +kernel
theorem dL_set_14 : decode cL_set 14 = .ok (.iconst 1, 1) := by decide +kernel
theorem dL_set_15 : decode cL_set 15 = .ok (.if_icmp .ne 12, 3) := by decide +kernel
theorem dL_set_18 : decode cL_set 18 = .ok (.aload_n 0, 1) := by decide +kernel
theorem dL_set_19 : decode cL_set 19 = .ok (.iload_n 2, 1) := by decide +kernel
theorem dL_set_20 : decode cL_set 20 = .ok (.iload_n 3, 1) := by decide +kernel
theorem dL_set_21 : decode cL_set 21 = .ok (.invokevirtual 15, 3) := by decide +kernel
theorem dL_set_24 : decode cL_set 24 = .ok (.goto 63, 3) := by decide +kernel
theorem dL_set_27 : decode cL_set 27 = .ok (.iload_n 1, 1) := by decide +kernel
theorem dL_set_28 : decode cL_set 28 = .ok (.iconst 2, 1) := by decide +kernel
theorem dL_set_29 : decode cL_set 29 = .ok (.if_icmp .ne 14, 3) := by decide +kernel
theorem dL_set_32 : decode cL_set 32 = .ok (.aload_n 0, 1) := by decide +kernel
theorem dL_set_33 : decode cL_set 33 = .ok (.iload_n 2, 1) := by decide +kernel
theorem dL_set_34 : decode cL_set 34 = .ok (.iload_n 3, 1) := by decide +kernel
theorem dL_set_35 : decode cL_set 35 = .ok (.iload 4, 2) := by decide +kernel
theorem dL_set_37 : decode cL_set 37 = .ok (.invokevirtual 18, 3) := by decide +kernel
theorem dL_set_40 : decode cL_set 40 = .ok (.goto 47, 3) := by decide +kernel
theorem dL_set_43 : decode cL_set 43 = .ok (.iload_n 1, 1) := by decide +kernel
theorem dL_set_44 : decode cL_set 44 = .ok (.iconst 3, 1) := by decide +kernel
theorem dL_set_45 : decode cL_set 45 = .ok (.if_icmp .ne 11, 3) := by decide +kernel
theorem dL_set_48 : decode cL_set 48 = .ok (.aload_n 0, 1) := by decide +kernel
theorem dL_set_49 : decode cL_set 49 = .ok (.iload_n 2, 1) := by decide +kernel
theorem dL_set_50 : decode cL_set 50 = .ok (.invokevirtual 22, 3) := by decide +kernel
theorem dL_set_53 : decode cL_set 53 = .ok (.goto 34, 3) := by decide +kernel
theorem dL_set_56 : decode cL_set 56 = .ok (.iload_n 1, 1) := by decide +kernel
theorem dL_set_57 : decode cL_set 57 = .ok (.iconst 4, 1) := by decide +kernel
theorem dL_set_58 : decode cL_set 58 = .ok (.if_icmp .ne 11, 3) := by decide +kernel
theorem dL_set_61 : decode cL_set 61 = .ok (.aload_n 0, 1) := by decide +kernel
theorem dL_set_62 : decode cL_set 62 = .ok (.iload_n 2, 1) := by decide +kernel
theorem dL_set_63 : decode cL_set 63 = .ok (.invokevirtual 26, 3) := by decide +kernel
theorem dL_set_66 : decode cL_set 66 = .ok (.goto 21, 3) := by decide +kernel
theorem dL_set_69 : decode cL_set 69 = .ok (.iload_n 1, 1) := by decide +kernel
theorem dL_set_70 : decode cL_set 70 = .ok (.iconst 5, 1) := by decide +kernel
theorem dL_set_71 : decode cL_set 71 = .ok (.if_icmp .ne 11, 3) := by decide +kernel
theorem dL_set_74 : decode cL_set 74 = .ok (.aload_n 0, 1) := by decide +kernel
theorem dL_set_75 : decode cL_set 75 = .ok (.iload_n 2, 1) := by decide +kernel
theorem dL_set_76 : decode cL_set 76 = .ok (.invokevirtual 29, 3) := by decide +kernel
theorem dL_set_79 : decode cL_set 79 = .ok (.goto 8, 3) := by decide +kernel
theorem dL_set_82 : decode cL_set 82 = .ok (.aload_n 0, 1) := by decide +kernel
theorem dL_set_83 : decode cL_set 83 = .ok (.iload_n 2, 1) := by decide +kernel
theorem dL_set_84 : decode cL_set 84 = .ok (.invokevirtual 32, 3) := by decide +kernel
theorem dL_set_87 : decode cL_set 87 = .ok (.ireturn, 1) := by decide +kernel
theorem dL_set_88 : decode cL_set 88 = .ok (.astore 5, 2) := by decide +kernel
theorem dL_set_90 : decode cL_set 90 = .ok (.ldc 37, 2) := by decide +kernel
theorem dL_set_92 : decode cL_set 92 = .ok (.ireturn, 1) := by decide +kernel
theorem dL_set_93 : decode cL_set 93 = .ok (.astore 5, 2) := by decide +kernel
theorem dL_set_95 : decode cL_set 95 = .ok (.ldc 40, 2) := by decide +kernel
theorem dL_set_97 : decode cL_set 97 = .ok (.ireturn, 1) := by decide +kernel
set_option maxRecDepth 20000 in
theorem ggL_setGains_X2_setGains : GoodIn wsL_setGains wsX2_setGains := goodIn_ca (goodIn_r _ [7, 8, 9, 10, 11, 12, 6, 13, 14, 15, 16, 17, 18, 19, 20, 21, 22, 23, 24, 25, 26, 27, 28] (by decide +kernel) (by decide +kernel)) (goodIn_sub (fun _ h => List.mem_cons_of_mem _ (List.mem_append_right _ h)) (by decide +kernel))
set_option maxRecDepth 20000 in
theorem gL_setGains_X2_setGains : GoodIn wsL_setGains (wsV RL 41 RX2 yX2_setGains wsX2_setGains) := goodIn_app (goodIn_of _ (by decide +kernel)) ggL_setGains_X2_setGains
theorem dL_setGains_0 : decode cL_setGains 0 = .ok (.aload_n 0, 1) := by decide +kernel
theorem dL_setGains_1 : decode cL_setGains 1 = .ok (.iload_n 1, 1) := by decide +kernel
theorem dL_setGains_2 : decode cL_setGains 2 = .ok (.iload_n 2, 1) := by decide +kernel
theorem dL_setGains_3 : decode cL_setGains 3 = .ok (.invokevirtual 41, 3) := by decide +kernel
theorem dL_setGains_6 : decode cL_setGains 6 = .ok (.iconst 0, 1) := by decide +kernel
theorem dL_setGains_7 : decode cL_setGains 7 = .ok (.ireturn, 1) := by decide +kernel
theorem dL_setGains_8 : decode cL_setGains 8 = .ok (.astore_n 3, 1) := by decide +kernel
theorem dL_setGains_9 : decode cL_setGains 9 = .ok (.ldc 37, 2) := by decide +kernel
theorem dL_setGains_11 : decode cL_setGains 11 = .ok (.ireturn, 1) := by decide +kernel
set_option maxRecDepth 20000 in
theorem ggL_setHall_X2_setHall : GoodIn wsL_setHall wsX2_setHall := goodIn_ca (goodIn_r _ [7, 8, 9, 10, 11, 12, 6, 13, 14, 15, 16, 17, 18, 19, 20, 21, 22, 23, 24, 25, 26, 27, 28] (by decide +kernel) (by decide +kernel)) (goodIn_sub (fun _ h => List.mem_cons_of_mem _ (List.mem_append_right _ h)) (by decide +kernel))
set_option maxRecDepth 20000 in
theorem gL_setHall_X2_setHall : GoodIn wsL_setHall (wsV RL 45 RX2 yX2_setHall wsX2_setHall) := goodIn_app (goodIn_of _ (by decide +kernel)) ggL_setHall_X2_setHall
theorem dL_setHall_0 : decode cL_setHall 0 = .ok (.aload_n 0, 1) := by decide +kernel
theorem dL_setHall_1 : decode cL_setHall 1 = .ok (.iload_n 1, 1) := by decide +kernel
theorem dL_setHall_2 : decode cL_setHall 2 = .ok (.iload_n 2, 1) := by decide +kernel
theorem dL_setHall_3 : decode cL_setHall 3 = .ok (.invokevirtual 45, 3) := by decide +kernel
theorem dL_setHall_6 : decode cL_setHall 6 = .ok (.iconst 0, 1) := by decide +kernel
theorem dL_setHall_7 : decode cL_setHall 7 = .ok (.ireturn, 1) := by decide +kernel
theorem dL_setHall_8 : decode cL_setHall 8 = .ok (.astore_n 3, 1) := by decide +kernel
theorem dL_setHall_9 : decode cL_setHall 9 = .ok (.ldc 37, 2) := by decide +kernel
theorem dL_setHall_11 : decode cL_setHall 11 = .ok (.ireturn, 1) := by decide +kernel
set_option maxRecDepth 20000 in
theorem ggL_of_X2_command : GoodIn wsL_of wsX2_command := goodIn_ca (goodIn_r _ [7, 8, 9, 10, 6, 11, 12, 13, 14, 15, 16, 17, 18, 19, 20, 21, 22, 23, 24, 25, 26, 27, 150, 151, 152, 153, 154, 155, 156, 157, 158, 159, 160, 161] (by decide +kernel) (by decide +kernel)) (goodIn_sub (fun _ h => List.mem_cons_of_mem _ (List.mem_append_right _ h)) (by decide +kernel))
set_option maxRecDepth 20000 in
theorem gL_of_X2_command : GoodIn wsL_of (wsV RL 48 RX2 yX2_command wsX2_command) := goodIn_app (goodIn_of _ (by decide +kernel)) ggL_of_X2_command
set_option maxRecDepth 20000 in
theorem ggL_of_X2_speed : GoodIn wsL_of wsX2_speed := goodIn_ca (goodIn_r _ [31, 8, 32, 9, 10, 6, 11, 12, 13, 14, 15, 16, 150, 151, 152, 153, 154, 155, 156, 157, 158, 159, 160, 161] (by decide +kernel) (by decide +kernel)) (goodIn_sub (fun _ h => List.mem_cons_of_mem _ (List.mem_append_right _ h)) (by decide +kernel))
set_option maxRecDepth 20000 in
theorem gL_of_X2_speed : GoodIn wsL_of (wsV RL 51 RX2 yX2_speed wsX2_speed) := goodIn_app (goodIn_of _ (by decide +kernel)) ggL_of_X2_speed
set_option maxRecDepth 20000 in
theorem ggL_of_X2_temperature : GoodIn wsL_of wsX2_temperature := goodIn_ca (goodIn_r _ [36, 8, 37, 38, 39, 6, 40, 12, 13, 14, 15, 16, 150, 151, 152, 153, 154, 155, 156, 157, 158, 159, 160, 161] (by decide +kernel) (by decide +kernel)) (goodIn_sub (fun _ h => List.mem_cons_of_mem _ (List.mem_append_right _ h)) (by decide +kernel))
set_option maxRecDepth 20000 in
theorem gL_of_X2_temperature : GoodIn wsL_of (wsV RL 54 RX2 yX2_temperature wsX2_temperature) := goodIn_app (goodIn_of _ (by decide +kernel)) ggL_of_X2_temperature
set_option maxRecDepth 20000 in
theorem ggL_of_X2_demand : GoodIn wsL_of wsX2_demand := goodIn_ca (goodIn_r _ [44, 8, 45, 38, 39, 6, 40, 12, 13, 14, 15, 16, 150, 151, 152, 153, 154, 155, 156, 157, 158, 159, 160, 161] (by decide +kernel) (by decide +kernel)) (goodIn_sub (fun _ h => List.mem_cons_of_mem _ (List.mem_append_right _ h)) (by decide +kernel))
set_option maxRecDepth 20000 in
theorem gL_of_X2_demand : GoodIn wsL_of (wsV RL 57 RX2 yX2_demand wsX2_demand) := goodIn_app (goodIn_of _ (by decide +kernel)) ggL_of_X2_demand
set_option maxRecDepth 20000 in
theorem ggL_of_X2_errors : GoodIn wsL_of wsX2_errors := goodIn_ca (goodIn_r _ [49, 8, 50, 38, 39, 6, 40, 12, 13, 14, 15, 16, 150, 151, 152, 153, 154, 155, 156, 157, 158, 159, 160, 161] (by decide +kernel) (by decide +kernel)) (goodIn_sub (fun _ h => List.mem_cons_of_mem _ (List.mem_append_right _ h)) (by decide +kernel))
set_option maxRecDepth 20000 in
theorem gL_of_X2_errors : GoodIn wsL_of (wsV RL 60 RX2 yX2_errors wsX2_errors) := goodIn_app (goodIn_of _ (by decide +kernel)) ggL_of_X2_errors
set_option maxRecDepth 20000 in
theorem ggL_of_X2_hotMinutes : GoodIn wsL_of wsX2_hotMinutes := goodIn_ca (goodIn_r _ [54, 55, 38, 39, 6, 40, 12, 13, 14, 15, 16, 150, 151, 152, 153, 154] (by decide +kernel) (by decide +kernel)) (goodIn_sub (fun _ h => List.mem_cons_of_mem _ (List.mem_append_right _ h)) (by decide +kernel))
set_option maxRecDepth 20000 in
theorem gL_of_X2_hotMinutes : GoodIn wsL_of (wsV RL 63 RX2 yX2_hotMinutes wsX2_hotMinutes) := goodIn_app (goodIn_of _ (by decide +kernel)) ggL_of_X2_hotMinutes
set_option maxRecDepth 20000 in
theorem ggL_of_X2_expected : GoodIn wsL_of wsX2_expected := goodIn_ca (goodIn_r _ [59, 60, 61, 6, 62, 38, 39, 40, 12, 13, 14, 15, 16, 63, 64, 65, 66, 67, 8, 68, 37, 69, 70, 71, 72, 73, 74, 75, 20, 76, 77, 78, 79, 80, 81, 82, 83, 84, 85, 22, 23, 86, 87, 88, 89, 90, 91, 92, 93, 94, 95, 96, 97, 98, 99, 100, 101, 102, 103, 104, 105, 106, 107, 26, 108, 109, 110, 111, 112, 113, 114, 115, 116, 117, 118, 24, 25, 27, 119, 18, 19, 21, 120, 121, 122, 123, 124, 125, 126, 127, 128, 129, 130, 131, 132, 133, 134, 135, 150, 151, 152, 153, 154, 155, 156, 157, 158, 159, 160, 161, 162, 163, 164, 165, 166, 167, 168, 169] (by decide +kernel) (by decide +kernel)) (goodIn_sub (fun _ h => List.mem_cons_of_mem _ (List.mem_append_right _ h)) (by decide +kernel))
set_option maxRecDepth 20000 in
theorem gL_of_X2_expected : GoodIn wsL_of (wsV RL 66 RX2 yX2_expected wsX2_expected) := goodIn_app (goodIn_of _ (by decide +kernel)) ggL_of_X2_expected
set_option maxRecDepth 20000 in
theorem ggL_of_X2_critical : GoodIn wsL_of wsX2_critical := goodIn_ca (goodIn_r _ [139, 60, 61, 6, 62, 38, 39, 40, 12, 13, 14, 15, 16, 140, 141, 142, 143, 8, 144, 63, 64, 65, 66, 67, 68, 37, 69, 70, 71, 72, 73, 74, 75, 20, 76, 77, 78, 79, 80, 81, 82, 83, 84, 85, 22, 23, 86, 87, 88, 89, 90, 91, 92, 93, 94, 95, 96, 97, 98, 99, 100, 101, 102, 103, 104, 105, 106, 107, 26, 108, 109, 110, 111, 112, 113, 114, 115, 116, 117, 118, 24, 25, 27, 119, 18, 19, 21, 120, 121, 122, 123, 124, 125, 126, 127, 128, 129, 130, 131, 132, 133, 134, 135, 150, 151, 152, 153, 154, 155, 156, 157, 158, 159, 160, 161, 162, 163, 164, 165, 166, 167, 168, 169] (by decide +kernel) (by decide +kernel)) (goodIn_sub (fun _ h => List.mem_cons_of_mem _ (List.mem_append_right _ h)) (by decide +kernel))
set_option maxRecDepth 20000 in
theorem gL_of_X2_critical : GoodIn wsL_of (wsV RL 69 RX2 yX2_critical wsX2_critical) := goodIn_app (goodIn_of _ (by decide +kernel)) ggL_of_X2_critical
set_option maxRecDepth 20000 in
theorem ggL_of_X2_margin : GoodIn wsL_of wsX2_margin := goodIn_ca (goodIn_r _ [148, 68, 149, 60, 61, 6, 62, 38, 39, 40, 12, 13, 14, 15, 16, 140, 141, 142, 143, 8, 144, 63, 64, 65, 66, 67, 37, 69, 70, 71, 72, 73, 74, 75, 20, 76, 77, 78, 79, 80, 81, 82, 83, 84, 85, 22, 23, 86, 87, 88, 89, 90, 91, 92, 93, 94, 95, 96, 97, 98, 99, 100, 101, 102, 103, 104, 105, 106, 107, 26, 108, 109, 110, 111, 112, 113, 114, 115, 116, 117, 118, 24, 25, 27, 119, 18, 19, 21, 120, 121, 122, 123, 124, 125, 126, 127, 128, 129, 130, 131, 132, 133, 134, 135, 150, 151, 152, 153, 154, 162, 163, 164, 165, 166, 167, 168, 169, 155, 156, 157, 158, 159, 160, 161] (by decide +kernel) (by decide +kernel)) (goodIn_sub (fun _ h => List.mem_cons_of_mem _ (List.mem_append_right _ h)) (by decide +kernel))
set_option maxRecDepth 20000 in
theorem gL_of_X2_margin : GoodIn wsL_of (wsV RL 72 RX2 yX2_margin wsX2_margin) := goodIn_app (goodIn_of _ (by decide +kernel)) ggL_of_X2_margin
theorem dL_of_0 : decode cL_of 0 = .ok (.iload_n 1, 1) := by decide +kernel
theorem dL_of_1 : decode cL_of 1 = .ok (.ifCond .ne 11, 3) := by decide +kernel
theorem dL_of_4 : decode cL_of 4 = .ok (.aload_n 0, 1) := by decide +kernel
theorem dL_of_5 : decode cL_of 5 = .ok (.iload_n 2, 1) := by decide +kernel
theorem dL_of_6 : decode cL_of 6 = .ok (.invokevirtual 48, 3) := by decide +kernel
theorem dL_of_9 : decode cL_of 9 = .ok (.goto 104, 3) := by decide +kernel
theorem dL_of_12 : decode cL_of 12 = .ok (.iload_n 1, 1) := by decide +kernel
theorem dL_of_13 : decode cL_of 13 = .ok (.iconst 1, 1) := by decide +kernel
theorem dL_of_14 : decode cL_of 14 = .ok (.if_icmp .ne 11, 3) := by decide +kernel
theorem dL_of_17 : decode cL_of 17 = .ok (.aload_n 0, 1) := by decide +kernel
theorem dL_of_18 : decode cL_of 18 = .ok (.iload_n 2, 1) := by decide +kernel
theorem dL_of_19 : decode cL_of 19 = .ok (.invokevirtual 51, 3) := by decide +kernel
theorem dL_of_22 : decode cL_of 22 = .ok (.goto 91, 3) := by decide +kernel
theorem dL_of_25 : decode cL_of 25 = .ok (.iload_n 1, 1) := by decide +kernel
theorem dL_of_26 : decode cL_of 26 = .ok (.iconst 2, 1) := by decide +kernel
theorem dL_of_27 : decode cL_of 27 = .ok (.if_icmp .ne 11, 3) := by decide +kernel
theorem dL_of_30 : decode cL_of 30 = .ok (.aload_n 0, 1) := by decide +kernel
theorem dL_of_31 : decode cL_of 31 = .ok (.iload_n 2, 1) := by decide +kernel
theorem dL_of_32 : decode cL_of 32 = .ok (.invokevirtual 54, 3) := by decide +kernel
theorem dL_of_35 : decode cL_of 35 = .ok (.goto 78, 3) := by decide +kernel
theorem dL_of_38 : decode cL_of 38 = .ok (.iload_n 1, 1) := by decide +kernel
theorem dL_of_39 : decode cL_of 39 = .ok (.iconst 3, 1) := by decide +kernel
theorem dL_of_40 : decode cL_of 40 = .ok (.if_icmp .ne 11, 3) := by decide +kernel
theorem dL_of_43 : decode cL_of 43 = .ok (.aload_n 0, 1) := by decide +kernel
theorem dL_of_44 : decode cL_of 44 = .ok (.iload_n 2, 1) := by decide +kernel
theorem dL_of_45 : decode cL_of 45 = .ok (.invokevirtual 57, 3) := by decide +kernel
theorem dL_of_48 : decode cL_of 48 = .ok (.goto 65, 3) := by decide +kernel
theorem dL_of_51 : decode cL_of 51 = .ok (.iload_n 1, 1) := by decide +kernel
theorem dL_of_52 : decode cL_of 52 = .ok (.iconst 4, 1) := by decide +kernel
theorem dL_of_53 : decode cL_of 53 = .ok (.if_icmp .ne 11, 3) := by decide +kernel
theorem dL_of_56 : decode cL_of 56 = .ok (.aload_n 0, 1) := by decide +kernel
theorem dL_of_57 : decode cL_of 57 = .ok (.iload_n 2, 1) := by decide +kernel
theorem dL_of_58 : decode cL_of 58 = .ok (.invokevirtual 60, 3) := by decide +kernel
theorem dL_of_61 : decode cL_of 61 = .ok (.goto 52, 3) := by decide +kernel
theorem dL_of_64 : decode cL_of 64 = .ok (.iload_n 1, 1) := by decide +kernel
theorem dL_of_65 : decode cL_of 65 = .ok (.iconst 5, 1) := by decide +kernel
theorem dL_of_66 : decode cL_of 66 = .ok (.if_icmp .ne 11, 3) := by decide +kernel
theorem dL_of_69 : decode cL_of 69 = .ok (.aload_n 0, 1) := by decide +kernel
theorem dL_of_70 : decode cL_of 70 = .ok (.iload_n 2, 1) := by decide +kernel
theorem dL_of_71 : decode cL_of 71 = .ok (.invokevirtual 63, 3) := by decide +kernel
theorem dL_of_74 : decode cL_of 74 = .ok (.goto 39, 3) := by decide +kernel
theorem dL_of_77 : decode cL_of 77 = .ok (.iload_n 1, 1) := by decide +kernel
theorem dL_of_78 : decode cL_of 78 = .ok (.bipush 6, 2) := by decide +kernel
theorem dL_of_80 : decode cL_of 80 = .ok (.if_icmp .ne 12, 3) := by decide +kernel
theorem dL_of_83 : decode cL_of 83 = .ok (.aload_n 0, 1) := by decide +kernel
theorem dL_of_84 : decode cL_of 84 = .ok (.iload_n 2, 1) := by decide +kernel
theorem dL_of_85 : decode cL_of 85 = .ok (.iload_n 3, 1) := by decide +kernel
theorem dL_of_86 : decode cL_of 86 = .ok (.invokevirtual 66, 3) := by decide +kernel
theorem dL_of_89 : decode cL_of 89 = .ok (.goto 24, 3) := by decide +kernel
theorem dL_of_92 : decode cL_of 92 = .ok (.iload_n 1, 1) := by decide +kernel
theorem dL_of_93 : decode cL_of 93 = .ok (.bipush 7, 2) := by decide +kernel
theorem dL_of_95 : decode cL_of 95 = .ok (.if_icmp .ne 12, 3) := by decide +kernel
theorem dL_of_98 : decode cL_of 98 = .ok (.aload_n 0, 1) := by decide +kernel
theorem dL_of_99 : decode cL_of 99 = .ok (.iload_n 2, 1) := by decide +kernel
theorem dL_of_100 : decode cL_of 100 = .ok (.iload_n 3, 1) := by decide +kernel
theorem dL_of_101 : decode cL_of 101 = .ok (.invokevirtual 69, 3) := by decide +kernel
theorem dL_of_104 : decode cL_of 104 = .ok (.goto 9, 3) := by decide +kernel
theorem dL_of_107 : decode cL_of 107 = .ok (.aload_n 0, 1) := by decide +kernel
theorem dL_of_108 : decode cL_of 108 = .ok (.iload_n 2, 1) := by decide +kernel
theorem dL_of_109 : decode cL_of 109 = .ok (.iload_n 3, 1) := by decide +kernel
theorem dL_of_110 : decode cL_of 110 = .ok (.invokevirtual 72, 3) := by decide +kernel
theorem dL_of_113 : decode cL_of 113 = .ok (.ireturn, 1) := by decide +kernel
theorem dL_of_114 : decode cL_of 114 = .ok (.astore 4, 2) := by decide +kernel
theorem dL_of_116 : decode cL_of 116 = .ok (.ldc 37, 2) := by decide +kernel
theorem dL_of_118 : decode cL_of 118 = .ok (.ireturn, 1) := by decide +kernel
set_option maxRecDepth 20000 in
theorem ggL_all_X2_clock : GoodIn wsL_all wsX2_clock := goodIn_r _ [11, 12, 65, 66, 67, 68, 69] (by decide +kernel) (by decide +kernel)
set_option maxRecDepth 20000 in
theorem gL_all_X2_clock : GoodIn wsL_all (wsV RL 75 RX2 yX2_clock wsX2_clock) := goodIn_app (goodIn_of _ (by decide +kernel)) ggL_all_X2_clock
set_option maxRecDepth 20000 in
theorem ggL_all_X2_temperature : GoodIn wsL_all wsX2_temperature := goodIn_ca (goodIn_r _ [16, 17, 18, 19, 20, 10, 21, 22, 23, 24, 25, 26, 65, 66, 67, 68, 69, 70, 71, 72, 73, 74, 75, 76] (by decide +kernel) (by decide +kernel)) (goodIn_sub (fun _ h => List.mem_cons_of_mem _ (List.mem_append_right _ h)) (by decide +kernel))
set_option maxRecDepth 20000 in
theorem gL_all_X2_temperature : GoodIn wsL_all (wsV RL 54 RX2 yX2_temperature wsX2_temperature) := goodIn_app (goodIn_of _ (by decide +kernel)) ggL_all_X2_temperature
set_option maxRecDepth 20000 in
theorem ggL_all_X2_demand : GoodIn wsL_all wsX2_demand := goodIn_ca (goodIn_r _ [30, 17, 31, 19, 20, 10, 21, 22, 23, 24, 25, 26, 65, 66, 67, 68, 69, 70, 71, 72, 73, 74, 75, 76] (by decide +kernel) (by decide +kernel)) (goodIn_sub (fun _ h => List.mem_cons_of_mem _ (List.mem_append_right _ h)) (by decide +kernel))
set_option maxRecDepth 20000 in
theorem gL_all_X2_demand : GoodIn wsL_all (wsV RL 57 RX2 yX2_demand wsX2_demand) := goodIn_app (goodIn_of _ (by decide +kernel)) ggL_all_X2_demand
set_option maxRecDepth 20000 in
theorem ggL_all_X2_errors : GoodIn wsL_all wsX2_errors := goodIn_ca (goodIn_r _ [35, 17, 36, 19, 20, 10, 21, 22, 23, 24, 25, 26, 65, 66, 67, 68, 69, 70, 71, 72, 73, 74, 75, 76] (by decide +kernel) (by decide +kernel)) (goodIn_sub (fun _ h => List.mem_cons_of_mem _ (List.mem_append_right _ h)) (by decide +kernel))
set_option maxRecDepth 20000 in
theorem gL_all_X2_errors : GoodIn wsL_all (wsV RL 60 RX2 yX2_errors wsX2_errors) := goodIn_app (goodIn_of _ (by decide +kernel)) ggL_all_X2_errors
set_option maxRecDepth 20000 in
theorem ggL_all_X2_hotMinutes : GoodIn wsL_all wsX2_hotMinutes := goodIn_ca (goodIn_r _ [40, 41, 19, 20, 10, 21, 22, 23, 24, 25, 26, 65, 66, 67, 68, 69] (by decide +kernel) (by decide +kernel)) (goodIn_sub (fun _ h => List.mem_cons_of_mem _ (List.mem_append_right _ h)) (by decide +kernel))
set_option maxRecDepth 20000 in
theorem gL_all_X2_hotMinutes : GoodIn wsL_all (wsV RL 63 RX2 yX2_hotMinutes wsX2_hotMinutes) := goodIn_app (goodIn_of _ (by decide +kernel)) ggL_all_X2_hotMinutes
set_option maxRecDepth 20000 in
theorem ggL_all_X2_command : GoodIn wsL_all wsX2_command := goodIn_ca (goodIn_r _ [45, 17, 46, 47, 10, 48, 22, 23, 24, 25, 26, 49, 50, 51, 52, 53, 54, 55, 56, 57, 58, 59, 65, 66, 67, 68, 69, 70, 71, 72, 73, 74, 75, 76] (by decide +kernel) (by decide +kernel)) (goodIn_sub (fun _ h => List.mem_cons_of_mem _ (List.mem_append_right _ h)) (by decide +kernel))
set_option maxRecDepth 20000 in
theorem gL_all_X2_command : GoodIn wsL_all (wsV RL 48 RX2 yX2_command wsX2_command) := goodIn_app (goodIn_of _ (by decide +kernel)) ggL_all_X2_command
set_option maxRecDepth 20000 in
theorem ggL_all_X2_speed : GoodIn wsL_all wsX2_speed := goodIn_ca (goodIn_r _ [63, 17, 64, 46, 47, 10, 48, 22, 23, 24, 25, 26, 65, 66, 67, 68, 69, 70, 71, 72, 73, 74, 75, 76] (by decide +kernel) (by decide +kernel)) (goodIn_sub (fun _ h => List.mem_cons_of_mem _ (List.mem_append_right _ h)) (by decide +kernel))
set_option maxRecDepth 20000 in
theorem gL_all_X2_speed : GoodIn wsL_all (wsV RL 51 RX2 yX2_speed wsX2_speed) := goodIn_app (goodIn_of _ (by decide +kernel)) ggL_all_X2_speed
theorem dL_all_0 : decode cL_all 0 = .ok (.aload_n 0, 1) := by decide +kernel
theorem dL_all_1 : decode cL_all 1 = .ok (.invokevirtual 75, 3) := by decide +kernel
theorem dL_all_4 : decode cL_all 4 = .ok (.i2l, 1) := by decide +kernel
theorem dL_all_5 : decode cL_all 5 = .ok (.lstore_n 1, 1) := by decide +kernel
theorem dL_all_6 : decode cL_all 6 = .ok (.iconst 0, 1) := by decide +kernel
theorem dL_all_7 : decode cL_all 7 = .ok (.istore_n 3, 1) := by decide +kernel
theorem dL_all_8 : decode cL_all 8 = .ok (.iload_n 3, 1) := by decide +kernel
theorem dL_all_9 : decode cL_all 9 = .ok (.bipush 6, 2) := by decide +kernel
theorem dL_all_11 : decode cL_all 11 = .ok (.if_icmp .ge 55, 3) := by decide +kernel
theorem dL_all_14 : decode cL_all 14 = .ok (.ldc2_w 79, 3) := by decide +kernel
theorem dL_all_17 : decode cL_all 17 = .ok (.lload_n 1, 1) := by decide +kernel
theorem dL_all_18 : decode cL_all 18 = .ok (.lmul, 1) := by decide +kernel
theorem dL_all_19 : decode cL_all 19 = .ok (.aload_n 0, 1) := by decide +kernel
theorem dL_all_20 : decode cL_all 20 = .ok (.iload_n 3, 1) := by decide +kernel
theorem dL_all_21 : decode cL_all 21 = .ok (.invokevirtual 54, 3) := by decide +kernel
theorem dL_all_24 : decode cL_all 24 = .ok (.i2l, 1) := by decide +kernel
theorem dL_all_25 : decode cL_all 25 = .ok (.ladd, 1) := by decide +kernel
theorem dL_all_26 : decode cL_all 26 = .ok (.ldc2_w 81, 3) := by decide +kernel
theorem dL_all_29 : decode cL_all 29 = .ok (.aload_n 0, 1) := by decide +kernel
theorem dL_all_30 : decode cL_all 30 = .ok (.iload_n 3, 1) := by decide +kernel
theorem dL_all_31 : decode cL_all 31 = .ok (.invokevirtual 57, 3) := by decide +kernel
theorem dL_all_34 : decode cL_all 34 = .ok (.i2l, 1) := by decide +kernel
theorem dL_all_35 : decode cL_all 35 = .ok (.lmul, 1) := by decide +kernel
theorem dL_all_36 : decode cL_all 36 = .ok (.ladd, 1) := by decide +kernel
theorem dL_all_37 : decode cL_all 37 = .ok (.ldc2_w 83, 3) := by decide +kernel
theorem dL_all_40 : decode cL_all 40 = .ok (.aload_n 0, 1) := by decide +kernel
theorem dL_all_41 : decode cL_all 41 = .ok (.iload_n 3, 1) := by decide +kernel
theorem dL_all_42 : decode cL_all 42 = .ok (.invokevirtual 60, 3) := by decide +kernel
theorem dL_all_45 : decode cL_all 45 = .ok (.i2l, 1) := by decide +kernel
theorem dL_all_46 : decode cL_all 46 = .ok (.lmul, 1) := by decide +kernel
theorem dL_all_47 : decode cL_all 47 = .ok (.ladd, 1) := by decide +kernel
theorem dL_all_48 : decode cL_all 48 = .ok (.ldc2_w 85, 3) := by decide +kernel
theorem dL_all_51 : decode cL_all 51 = .ok (.aload_n 0, 1) := by decide +kernel
theorem dL_all_52 : decode cL_all 52 = .ok (.iload_n 3, 1) := by decide +kernel
theorem dL_all_53 : decode cL_all 53 = .ok (.invokevirtual 63, 3) := by decide +kernel
theorem dL_all_56 : decode cL_all 56 = .ok (.i2l, 1) := by decide +kernel
theorem dL_all_57 : decode cL_all 57 = .ok (.lmul, 1) := by decide +kernel
theorem dL_all_58 : decode cL_all 58 = .ok (.ladd, 1) := by decide +kernel
theorem dL_all_59 : decode cL_all 59 = .ok (.lstore_n 1, 1) := by decide +kernel
theorem dL_all_60 : decode cL_all 60 = .ok (.iinc 3 1, 3) := by decide +kernel
theorem dL_all_63 : decode cL_all 63 = .ok (.goto (-55), 3) := by decide +kernel
theorem dL_all_66 : decode cL_all 66 = .ok (.iconst 0, 1) := by decide +kernel
theorem dL_all_67 : decode cL_all 67 = .ok (.istore_n 3, 1) := by decide +kernel
theorem dL_all_68 : decode cL_all 68 = .ok (.iload_n 3, 1) := by decide +kernel
theorem dL_all_69 : decode cL_all 69 = .ok (.bipush 8, 2) := by decide +kernel
theorem dL_all_71 : decode cL_all 71 = .ok (.if_icmp .ge 33, 3) := by decide +kernel
theorem dL_all_74 : decode cL_all 74 = .ok (.ldc2_w 87, 3) := by decide +kernel
theorem dL_all_77 : decode cL_all 77 = .ok (.lload_n 1, 1) := by decide +kernel
theorem dL_all_78 : decode cL_all 78 = .ok (.lmul, 1) := by decide +kernel
theorem dL_all_79 : decode cL_all 79 = .ok (.ldc2_w 89, 3) := by decide +kernel
theorem dL_all_82 : decode cL_all 82 = .ok (.aload_n 0, 1) := by decide +kernel
theorem dL_all_83 : decode cL_all 83 = .ok (.iload_n 3, 1) := by decide +kernel
theorem dL_all_84 : decode cL_all 84 = .ok (.invokevirtual 48, 3) := by decide +kernel
theorem dL_all_87 : decode cL_all 87 = .ok (.i2l, 1) := by decide +kernel
theorem dL_all_88 : decode cL_all 88 = .ok (.lmul, 1) := by decide +kernel
theorem dL_all_89 : decode cL_all 89 = .ok (.ladd, 1) := by decide +kernel
theorem dL_all_90 : decode cL_all 90 = .ok (.aload_n 0, 1) := by decide +kernel
theorem dL_all_91 : decode cL_all 91 = .ok (.iload_n 3, 1) := by decide +kernel
theorem dL_all_92 : decode cL_all 92 = .ok (.invokevirtual 51, 3) := by decide +kernel
theorem dL_all_95 : decode cL_all 95 = .ok (.i2l, 1) := by decide +kernel
theorem dL_all_96 : decode cL_all 96 = .ok (.ladd, 1) := by decide +kernel
theorem dL_all_97 : decode cL_all 97 = .ok (.lstore_n 1, 1) := by decide +kernel
theorem dL_all_98 : decode cL_all 98 = .ok (.iinc 3 1, 3) := by decide +kernel
theorem dL_all_101 : decode cL_all 101 = .ok (.goto (-33), 3) := by decide +kernel
theorem dL_all_104 : decode cL_all 104 = .ok (.lload_n 1, 1) := by decide +kernel
theorem dL_all_105 : decode cL_all 105 = .ok (.lreturn, 1) := by decide +kernel
theorem dL_running_0 : decode cL_running 0 = .ok (.bipush 8, 2) := by decide +kernel
theorem dL_running_2 : decode cL_running 2 = .ok (.istore_n 1, 1) := by decide +kernel
theorem dL_running_3 : decode cL_running 3 = .ok (.iconst 0, 1) := by decide +kernel
theorem dL_running_4 : decode cL_running 4 = .ok (.istore_n 2, 1) := by decide +kernel
theorem dL_running_5 : decode cL_running 5 = .ok (.iload_n 2, 1) := by decide +kernel
theorem dL_running_6 : decode cL_running 6 = .ok (.bipush 8, 2) := by decide +kernel
theorem dL_running_8 : decode cL_running 8 = .ok (.if_icmp .ge 19, 3) := by decide +kernel
theorem dL_running_11 : decode cL_running 11 = .ok (.iload_n 1, 1) := by decide +kernel
theorem dL_running_12 : decode cL_running 12 = .ok (.aload_n 0, 1) := by decide +kernel
theorem dL_running_13 : decode cL_running 13 = .ok (.iconst 5, 1) := by decide +kernel
theorem dL_running_14 : decode cL_running 14 = .ok (.iaload, 1) := by decide +kernel
theorem dL_running_15 : decode cL_running 15 = .ok (.iload_n 2, 1) := by decide +kernel
theorem dL_running_16 : decode cL_running 16 = .ok (.ishr, 1) := by decide +kernel
theorem dL_running_17 : decode cL_running 17 = .ok (.iconst 1, 1) := by decide +kernel
theorem dL_running_18 : decode cL_running 18 = .ok (.iand, 1) := by decide +kernel
theorem dL_running_19 : decode cL_running 19 = .ok (.isub, 1) := by decide +kernel
theorem dL_running_20 : decode cL_running 20 = .ok (.istore_n 1, 1) := by decide +kernel
theorem dL_running_21 : decode cL_running 21 = .ok (.iinc 2 1, 3) := by decide +kernel
theorem dL_running_24 : decode cL_running 24 = .ok (.goto (-19), 3) := by decide +kernel
theorem dL_running_27 : decode cL_running 27 = .ok (.iload_n 1, 1) := by decide +kernel
theorem dL_running_28 : decode cL_running 28 = .ok (.ireturn, 1) := by decide +kernel
set_option maxRecDepth 20000 in
theorem ggL_isZone_X2_expected : GoodIn wsL_isZone wsX2_expected := goodIn_ca (goodIn_r _ [5, 6, 7, 4, 8, 9, 10, 11, 12, 13, 14, 15, 16, 17, 18, 19, 20, 21, 22, 23, 24, 25, 26, 27, 28, 29, 30, 31, 32, 33, 34, 35, 36, 37, 38, 39, 40, 41, 42, 43, 44, 45, 46, 47, 48, 49, 50, 51, 52, 53, 54, 55, 56, 57, 58, 59, 60, 61, 62, 63, 64, 65, 66, 67, 68, 69, 70, 71, 72, 73, 74, 75, 76, 77, 78, 79, 80, 81, 82, 83, 84, 85, 86, 87, 88, 89, 90, 91, 92, 93, 94, 95, 96, 97, 98, 99, 100, 101, 144, 145, 146, 147, 148, 149, 150, 151, 152, 153, 154, 155, 156, 157, 158, 159, 160, 161, 162, 163] (by decide +kernel) (by decide +kernel)) (goodIn_sub (fun _ h => List.mem_cons_of_mem _ (List.mem_append_right _ h)) (by decide +kernel))
set_option maxRecDepth 20000 in
theorem gL_isZone_X2_expected : GoodIn wsL_isZone (wsV RL 66 RX2 yX2_expected wsX2_expected) := goodIn_app (goodIn_of _ (by decide +kernel)) ggL_isZone_X2_expected
set_option maxRecDepth 20000 in
theorem ggL_isZone_X2_margin : GoodIn wsL_isZone wsX2_margin := goodIn_ca (goodIn_r _ [105, 23, 106, 6, 7, 4, 8, 9, 10, 11, 12, 13, 14, 15, 16, 107, 108, 109, 110, 22, 111, 17, 18, 19, 20, 21, 24, 25, 26, 27, 28, 29, 30, 31, 32, 33, 34, 35, 36, 37, 38, 39, 40, 41, 42, 43, 44, 45, 46, 47, 48, 49, 50, 51, 52, 53, 54, 55, 56, 57, 58, 59, 60, 61, 62, 63, 64, 65, 66, 67, 68, 69, 70, 71, 72, 73, 74, 75, 76, 77, 78, 79, 80, 81, 82, 83, 84, 85, 86, 87, 88, 89, 90, 91, 92, 93, 94, 95, 96, 97, 98, 99, 100, 101, 144, 145, 146, 147, 148, 156, 157, 158, 159, 160, 161, 162, 163, 149, 150, 151, 152, 153, 154, 155] (by decide +kernel) (by decide +kernel)) (goodIn_sub (fun _ h => List.mem_cons_of_mem _ (List.mem_append_right _ h)) (by decide +kernel))
set_option maxRecDepth 20000 in
theorem gL_isZone_X2_margin : GoodIn wsL_isZone (wsV RL 72 RX2 yX2_margin wsX2_margin) := goodIn_app (goodIn_of _ (by decide +kernel)) ggL_isZone_X2_margin
set_option maxRecDepth 20000 in
theorem ggL_isZone_X2_critical : GoodIn wsL_isZone wsX2_critical := goodIn_ca (goodIn_r _ [115, 6, 7, 4, 8, 9, 10, 11, 12, 13, 14, 15, 16, 107, 108, 109, 110, 22, 111, 17, 18, 19, 20, 21, 23, 24, 25, 26, 27, 28, 29, 30, 31, 32, 33, 34, 35, 36, 37, 38, 39, 40, 41, 42, 43, 44, 45, 46, 47, 48, 49, 50, 51, 52, 53, 54, 55, 56, 57, 58, 59, 60, 61, 62, 63, 64, 65, 66, 67, 68, 69, 70, 71, 72, 73, 74, 75, 76, 77, 78, 79, 80, 81, 82, 83, 84, 85, 86, 87, 88, 89, 90, 91, 92, 93, 94, 95, 96, 97, 98, 99, 100, 101, 144, 145, 146, 147, 148, 149, 150, 151, 152, 153, 154, 155, 156, 157, 158, 159, 160, 161, 162, 163] (by decide +kernel) (by decide +kernel)) (goodIn_sub (fun _ h => List.mem_cons_of_mem _ (List.mem_append_right _ h)) (by decide +kernel))
set_option maxRecDepth 20000 in
theorem gL_isZone_X2_critical : GoodIn wsL_isZone (wsV RL 69 RX2 yX2_critical wsX2_critical) := goodIn_app (goodIn_of _ (by decide +kernel)) ggL_isZone_X2_critical
set_option maxRecDepth 20000 in
theorem ggL_isZone_X2_demand : GoodIn wsL_isZone wsX2_demand := goodIn_ca (goodIn_r _ [119, 22, 120, 9, 10, 4, 11, 12, 13, 14, 15, 16, 144, 145, 146, 147, 148, 149, 150, 151, 152, 153, 154, 155] (by decide +kernel) (by decide +kernel)) (goodIn_sub (fun _ h => List.mem_cons_of_mem _ (List.mem_append_right _ h)) (by decide +kernel))
set_option maxRecDepth 20000 in
theorem gL_isZone_X2_demand : GoodIn wsL_isZone (wsV RL 57 RX2 yX2_demand wsX2_demand) := goodIn_app (goodIn_of _ (by decide +kernel)) ggL_isZone_X2_demand
set_option maxRecDepth 20000 in
theorem ggL_isZone_X2_errors : GoodIn wsL_isZone wsX2_errors := goodIn_ca (goodIn_r _ [124, 22, 125, 9, 10, 4, 11, 12, 13, 14, 15, 16, 144, 145, 146, 147, 148, 149, 150, 151, 152, 153, 154, 155] (by decide +kernel) (by decide +kernel)) (goodIn_sub (fun _ h => List.mem_cons_of_mem _ (List.mem_append_right _ h)) (by decide +kernel))
set_option maxRecDepth 20000 in
theorem gL_isZone_X2_errors : GoodIn wsL_isZone (wsV RL 60 RX2 yX2_errors wsX2_errors) := goodIn_app (goodIn_of _ (by decide +kernel)) ggL_isZone_X2_errors
set_option maxRecDepth 20000 in
theorem ggL_isZone_X2_hotMinutes : GoodIn wsL_isZone wsX2_hotMinutes := goodIn_ca (goodIn_r _ [129, 130, 9, 10, 4, 11, 12, 13, 14, 15, 16, 144, 145, 146, 147, 148] (by decide +kernel) (by decide +kernel)) (goodIn_sub (fun _ h => List.mem_cons_of_mem _ (List.mem_append_right _ h)) (by decide +kernel))
set_option maxRecDepth 20000 in
theorem gL_isZone_X2_hotMinutes : GoodIn wsL_isZone (wsV RL 63 RX2 yX2_hotMinutes wsX2_hotMinutes) := goodIn_app (goodIn_of _ (by decide +kernel)) ggL_isZone_X2_hotMinutes
set_option maxRecDepth 20000 in
theorem ggL_isZone_X2_clock : GoodIn wsL_isZone wsX2_clock := goodIn_r _ [134, 135, 144, 145, 146, 147, 148] (by decide +kernel) (by decide +kernel)
set_option maxRecDepth 20000 in
theorem gL_isZone_X2_clock : GoodIn wsL_isZone (wsV RL 75 RX2 yX2_clock wsX2_clock) := goodIn_app (goodIn_of _ (by decide +kernel)) ggL_isZone_X2_clock
set_option maxRecDepth 20000 in
theorem ggL_isZone_X2_hottest : GoodIn wsL_isZone wsX2_hottest := goodIn_r _ [139, 22, 24, 144, 145, 146, 147, 148, 149, 150, 151, 152, 153, 154, 155] (by decide +kernel) (by decide +kernel)
set_option maxRecDepth 20000 in
theorem gL_isZone_X2_hottest : GoodIn wsL_isZone (wsV RL 91 RX2 yX2_hottest wsX2_hottest) := goodIn_app (goodIn_of _ (by decide +kernel)) ggL_isZone_X2_hottest
set_option maxRecDepth 20000 in
theorem ggL_isZone_X2_temperature : GoodIn wsL_isZone wsX2_temperature := goodIn_ca (goodIn_r _ [143, 22, 24, 9, 10, 4, 11, 12, 13, 14, 15, 16, 144, 145, 146, 147, 148, 149, 150, 151, 152, 153, 154, 155] (by decide +kernel) (by decide +kernel)) (goodIn_sub (fun _ h => List.mem_cons_of_mem _ (List.mem_append_right _ h)) (by decide +kernel))
set_option maxRecDepth 20000 in
theorem gL_isZone_X2_temperature : GoodIn wsL_isZone (wsV RL 54 RX2 yX2_temperature wsX2_temperature) := goodIn_app (goodIn_of _ (by decide +kernel)) ggL_isZone_X2_temperature
theorem dL_isZone_0 : decode cL_isZone 0 = .ok (.aload_n 0, 1) := by decide +kernel
theorem dL_isZone_1 : decode cL_isZone 1 = .ok (.iload_n 1, 1) := by decide +kernel
theorem dL_isZone_2 : decode cL_isZone 2 = .ok (.iconst 3, 1) := by decide +kernel
theorem dL_isZone_3 : decode cL_isZone 3 = .ok (.invokevirtual 66, 3) := by decide +kernel
theorem dL_isZone_6 : decode cL_isZone 6 = .ok (.istore_n 2, 1) := by decide +kernel
theorem dL_isZone_7 : decode cL_isZone 7 = .ok (.aload_n 0, 1) := by decide +kernel
theorem dL_isZone_8 : decode cL_isZone 8 = .ok (.iload_n 1, 1) := by decide +kernel
theorem dL_isZone_9 : decode cL_isZone 9 = .ok (.iconst 3, 1) := by decide +kernel
theorem dL_isZone_10 : decode cL_isZone 10 = .ok (.invokevirtual 72, 3) := by decide +kernel
theorem dL_isZone_13 : decode cL_isZone 13 = .ok (.istore_n 3, 1) := by decide +kernel
theorem dL_isZone_14 : decode cL_isZone 14 = .ok (.aload_n 0, 1) := by decide +kernel
theorem dL_isZone_15 : decode cL_isZone 15 = .ok (.iload_n 1, 1) := by decide +kernel
theorem dL_isZone_16 : decode cL_isZone 16 = .ok (.iconst 3, 1) := by decide +kernel
