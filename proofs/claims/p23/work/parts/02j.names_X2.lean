set_option maxRecDepth 20000 in
theorem ggX2_init_X1_init : GoodIn wsX2_init wsX1_init := goodIn_r _ [18, 19, 2, 3, 13, 20, 21, 22, 23, 24, 25, 26, 27, 28, 42, 43, 44, 45, 46, 47, 48, 49] (by decide +kernel) (by decide +kernel)
set_option maxRecDepth 20000 in
theorem gX2_init_X1_init : GoodIn wsX2_init (wsX1_init) := ggX2_init_X1_init
set_option maxRecDepth 20000 in
theorem ggX2_init_X0_init : GoodIn wsX2_init wsX0_init := goodIn_r _ [31, 32, 2, 3, 13, 33, 34, 35, 36, 37, 38, 39, 40, 41, 55, 56, 57, 58, 59, 60, 61] (by decide +kernel) (by decide +kernel)
set_option maxRecDepth 20000 in
theorem gX2_init_X0_init : GoodIn wsX2_init (wsX0_init) := ggX2_init_X0_init
theorem dX2_init_0 : decode cX2_init 0 = .ok (.aload_n 0, 1) := by decide +kernel
theorem dX2_init_1 : decode cX2_init 1 = .ok (.invokespecial 1, 3) := by decide +kernel
theorem dX2_init_4 : decode cX2_init 4 = .ok (.aload_n 0, 1) := by decide +kernel
theorem dX2_init_5 : decode cX2_init 5 = .ok (.new 7, 3) := by decide +kernel
theorem dX2_init_8 : decode cX2_init 8 = .ok (.dup, 1) := by decide +kernel
theorem dX2_init_9 : decode cX2_init 9 = .ok (.invokespecial 9, 3) := by decide +kernel
theorem dX2_init_12 : decode cX2_init 12 = .ok (.putfield 10, 3) := by decide +kernel
theorem dX2_init_15 : decode cX2_init 15 = .ok (.aload_n 0, 1) := by decide +kernel
theorem dX2_init_16 : decode cX2_init 16 = .ok (.new 16, 3) := by decide +kernel
theorem dX2_init_19 : decode cX2_init 19 = .ok (.dup, 1) := by decide +kernel
theorem dX2_init_20 : decode cX2_init 20 = .ok (.invokespecial 18, 3) := by decide +kernel
theorem dX2_init_23 : decode cX2_init 23 = .ok (.putfield 19, 3) := by decide +kernel
theorem dX2_init_26 : decode cX2_init 26 = .ok (.aload_n 0, 1) := by decide +kernel
theorem dX2_init_27 : decode cX2_init 27 = .ok (.new 16, 3) := by decide +kernel
theorem dX2_init_30 : decode cX2_init 30 = .ok (.dup, 1) := by decide +kernel
theorem dX2_init_31 : decode cX2_init 31 = .ok (.invokespecial 18, 3) := by decide +kernel
theorem dX2_init_34 : decode cX2_init 34 = .ok (.putfield 23, 3) := by decide +kernel
theorem dX2_init_37 : decode cX2_init 37 = .ok (.aload_n 0, 1) := by decide +kernel
theorem dX2_init_38 : decode cX2_init 38 = .ok (.bipush 6, 2) := by decide +kernel
theorem dX2_init_40 : decode cX2_init 40 = .ok (.newarray .int, 2) := by decide +kernel
theorem dX2_init_42 : decode cX2_init 42 = .ok (.putfield 26, 3) := by decide +kernel
theorem dX2_init_45 : decode cX2_init 45 = .ok (.aload_n 0, 1) := by decide +kernel
theorem dX2_init_46 : decode cX2_init 46 = .ok (.iconst 0, 1) := by decide +kernel
theorem dX2_init_47 : decode cX2_init 47 = .ok (.putfield 30, 3) := by decide +kernel
theorem dX2_init_50 : decode cX2_init 50 = .ok (.return_, 1) := by decide +kernel
set_option maxRecDepth 20000 in
theorem ggX2_setLoad_X2_requireZone : GoodIn wsX2_setLoad wsX2_requireZone := goodIn_ca (goodIn_r _ [6, 7, 8, 5, 9, 10, 11] (by decide +kernel) (by decide +kernel)) (goodIn_sub (fun _ h => List.mem_cons_of_mem _ (List.mem_append_right _ h)) (by decide +kernel))
set_option maxRecDepth 20000 in
theorem gX2_setLoad_X2_requireZone : GoodIn wsX2_setLoad (va_wsS RX2 34 yX2_requireZone wsX2_requireZone) := goodIn_app (goodIn_of _ (by decide +kernel)) ggX2_setLoad_X2_requireZone
set_option maxRecDepth 20000 in
theorem ggX2_setLoad_X2_requireWithin : GoodIn wsX2_setLoad wsX2_requireWithin := goodIn_ca (goodIn_r _ [9, 10, 11] (by decide +kernel) (by decide +kernel)) (goodIn_sub (fun _ h => List.mem_cons_of_mem _ (List.mem_append_right _ h)) (by decide +kernel))
set_option maxRecDepth 20000 in
theorem gX2_setLoad_X2_requireWithin : GoodIn wsX2_setLoad (va_wsS RX2 38 yX2_requireWithin wsX2_requireWithin) := goodIn_app (goodIn_of _ (by decide +kernel)) ggX2_setLoad_X2_requireWithin
theorem dX2_setLoad_0 : decode cX2_setLoad 0 = .ok (.iload_n 1, 1) := by decide +kernel
theorem dX2_setLoad_1 : decode cX2_setLoad 1 = .ok (.invokestatic 34, 3) := by decide +kernel
theorem dX2_setLoad_4 : decode cX2_setLoad 4 = .ok (.iload_n 2, 1) := by decide +kernel
theorem dX2_setLoad_5 : decode cX2_setLoad 5 = .ok (.iconst 0, 1) := by decide +kernel
theorem dX2_setLoad_6 : decode cX2_setLoad 6 = .ok (.sipush 200, 3) := by decide +kernel
theorem dX2_setLoad_9 : decode cX2_setLoad 9 = .ok (.invokestatic 38, 3) := by decide +kernel
theorem dX2_setLoad_12 : decode cX2_setLoad 12 = .ok (.aload_n 0, 1) := by decide +kernel
theorem dX2_setLoad_13 : decode cX2_setLoad 13 = .ok (.getfield 10, 3) := by decide +kernel
theorem dX2_setLoad_16 : decode cX2_setLoad 16 = .ok (.getfield 42, 3) := by decide +kernel
theorem dX2_setLoad_19 : decode cX2_setLoad 19 = .ok (.iload_n 1, 1) := by decide +kernel
theorem dX2_setLoad_20 : decode cX2_setLoad 20 = .ok (.iaload, 1) := by decide +kernel
theorem dX2_setLoad_21 : decode cX2_setLoad 21 = .ok (.istore_n 3, 1) := by decide +kernel
theorem dX2_setLoad_22 : decode cX2_setLoad 22 = .ok (.aload_n 0, 1) := by decide +kernel
theorem dX2_setLoad_23 : decode cX2_setLoad 23 = .ok (.getfield 10, 3) := by decide +kernel
theorem dX2_setLoad_26 : decode cX2_setLoad 26 = .ok (.getfield 42, 3) := by decide +kernel
theorem dX2_setLoad_29 : decode cX2_setLoad 29 = .ok (.iload_n 1, 1) := by decide +kernel
theorem dX2_setLoad_30 : decode cX2_setLoad 30 = .ok (.iload_n 2, 1) := by decide +kernel
theorem dX2_setLoad_31 : decode cX2_setLoad 31 = .ok (.iastore, 1) := by decide +kernel
theorem dX2_setLoad_32 : decode cX2_setLoad 32 = .ok (.iload_n 3, 1) := by decide +kernel
theorem dX2_setLoad_33 : decode cX2_setLoad 33 = .ok (.ireturn, 1) := by decide +kernel
set_option maxRecDepth 20000 in
theorem ggX2_setSetpoint_X2_requireZone : GoodIn wsX2_setSetpoint wsX2_requireZone := goodIn_ca (goodIn_r _ [8, 9, 10, 7, 11, 12, 13] (by decide +kernel) (by decide +kernel)) (goodIn_sub (fun _ h => List.mem_cons_of_mem _ (List.mem_append_right _ h)) (by decide +kernel))
set_option maxRecDepth 20000 in
theorem gX2_setSetpoint_X2_requireZone : GoodIn wsX2_setSetpoint (va_wsS RX2 34 yX2_requireZone wsX2_requireZone) := goodIn_app (goodIn_of _ (by decide +kernel)) ggX2_setSetpoint_X2_requireZone
set_option maxRecDepth 20000 in
theorem ggX2_setSetpoint_X2_requireWithin : GoodIn wsX2_setSetpoint wsX2_requireWithin := goodIn_ca (goodIn_r _ [11, 12, 13] (by decide +kernel) (by decide +kernel)) (goodIn_sub (fun _ h => List.mem_cons_of_mem _ (List.mem_append_right _ h)) (by decide +kernel))
set_option maxRecDepth 20000 in
theorem gX2_setSetpoint_X2_requireWithin : GoodIn wsX2_setSetpoint (va_wsS RX2 38 yX2_requireWithin wsX2_requireWithin) := goodIn_app (goodIn_of _ (by decide +kernel)) ggX2_setSetpoint_X2_requireWithin
theorem dX2_setSetpoint_0 : decode cX2_setSetpoint 0 = .ok (.iload_n 1, 1) := by decide +kernel
theorem dX2_setSetpoint_1 : decode cX2_setSetpoint 1 = .ok (.invokestatic 34, 3) := by decide +kernel
theorem dX2_setSetpoint_4 : decode cX2_setSetpoint 4 = .ok (.iload_n 2, 1) := by decide +kernel
theorem dX2_setSetpoint_5 : decode cX2_setSetpoint 5 = .ok (.sipush 1500, 3) := by decide +kernel
theorem dX2_setSetpoint_8 : decode cX2_setSetpoint 8 = .ok (.sipush 3500, 3) := by decide +kernel
theorem dX2_setSetpoint_11 : decode cX2_setSetpoint 11 = .ok (.invokestatic 38, 3) := by decide +kernel
theorem dX2_setSetpoint_14 : decode cX2_setSetpoint 14 = .ok (.aload_n 0, 1) := by decide +kernel
theorem dX2_setSetpoint_15 : decode cX2_setSetpoint 15 = .ok (.getfield 10, 3) := by decide +kernel
theorem dX2_setSetpoint_18 : decode cX2_setSetpoint 18 = .ok (.getfield 45, 3) := by decide +kernel
theorem dX2_setSetpoint_21 : decode cX2_setSetpoint 21 = .ok (.iload_n 1, 1) := by decide +kernel
theorem dX2_setSetpoint_22 : decode cX2_setSetpoint 22 = .ok (.iaload, 1) := by decide +kernel
theorem dX2_setSetpoint_23 : decode cX2_setSetpoint 23 = .ok (.istore_n 3, 1) := by decide +kernel
theorem dX2_setSetpoint_24 : decode cX2_setSetpoint 24 = .ok (.aload_n 0, 1) := by decide +kernel
theorem dX2_setSetpoint_25 : decode cX2_setSetpoint 25 = .ok (.getfield 10, 3) := by decide +kernel
theorem dX2_setSetpoint_28 : decode cX2_setSetpoint 28 = .ok (.getfield 45, 3) := by decide +kernel
theorem dX2_setSetpoint_31 : decode cX2_setSetpoint 31 = .ok (.iload_n 1, 1) := by decide +kernel
theorem dX2_setSetpoint_32 : decode cX2_setSetpoint 32 = .ok (.iload_n 2, 1) := by decide +kernel
theorem dX2_setSetpoint_33 : decode cX2_setSetpoint 33 = .ok (.iastore, 1) := by decide +kernel
theorem dX2_setSetpoint_34 : decode cX2_setSetpoint 34 = .ok (.aload_n 0, 1) := by decide +kernel
theorem dX2_setSetpoint_35 : decode cX2_setSetpoint 35 = .ok (.getfield 19, 3) := by decide +kernel
theorem dX2_setSetpoint_38 : decode cX2_setSetpoint 38 = .ok (.getfield 48, 3) := by decide +kernel
theorem dX2_setSetpoint_41 : decode cX2_setSetpoint 41 = .ok (.iload_n 1, 1) := by decide +kernel
theorem dX2_setSetpoint_42 : decode cX2_setSetpoint 42 = .ok (.iconst 0, 1) := by decide +kernel
theorem dX2_setSetpoint_43 : decode cX2_setSetpoint 43 = .ok (.iastore, 1) := by decide +kernel
theorem dX2_setSetpoint_44 : decode cX2_setSetpoint 44 = .ok (.iload_n 3, 1) := by decide +kernel
theorem dX2_setSetpoint_45 : decode cX2_setSetpoint 45 = .ok (.ireturn, 1) := by decide +kernel
set_option maxRecDepth 20000 in
theorem ggX2_setEffect_X2_requireFan : GoodIn wsX2_setEffect wsX2_requireFan := goodIn_ca (goodIn_r _ [6, 7, 8, 5, 9, 10, 11] (by decide +kernel) (by decide +kernel)) (goodIn_sub (fun _ h => List.mem_cons_of_mem _ (List.mem_append_right _ h)) (by decide +kernel))
set_option maxRecDepth 20000 in
theorem gX2_setEffect_X2_requireFan : GoodIn wsX2_setEffect (va_wsS RX2 51 yX2_requireFan wsX2_requireFan) := goodIn_app (goodIn_of _ (by decide +kernel)) ggX2_setEffect_X2_requireFan
set_option maxRecDepth 20000 in
theorem ggX2_setEffect_X2_requireZone : GoodIn wsX2_setEffect wsX2_requireZone := goodIn_ca (goodIn_r _ [14, 7, 8, 5, 9, 10, 11] (by decide +kernel) (by decide +kernel)) (goodIn_sub (fun _ h => List.mem_cons_of_mem _ (List.mem_append_right _ h)) (by decide +kernel))
set_option maxRecDepth 20000 in
theorem gX2_setEffect_X2_requireZone : GoodIn wsX2_setEffect (va_wsS RX2 34 yX2_requireZone wsX2_requireZone) := goodIn_app (goodIn_of _ (by decide +kernel)) ggX2_setEffect_X2_requireZone
set_option maxRecDepth 20000 in
theorem ggX2_setEffect_X2_requireWithin : GoodIn wsX2_setEffect wsX2_requireWithin := goodIn_ca (goodIn_r _ [9, 10, 11] (by decide +kernel) (by decide +kernel)) (goodIn_sub (fun _ h => List.mem_cons_of_mem _ (List.mem_append_right _ h)) (by decide +kernel))
set_option maxRecDepth 20000 in
theorem gX2_setEffect_X2_requireWithin : GoodIn wsX2_setEffect (va_wsS RX2 38 yX2_requireWithin wsX2_requireWithin) := goodIn_app (goodIn_of _ (by decide +kernel)) ggX2_setEffect_X2_requireWithin
theorem dX2_setEffect_0 : decode cX2_setEffect 0 = .ok (.iload_n 1, 1) := by decide +kernel
theorem dX2_setEffect_1 : decode cX2_setEffect 1 = .ok (.invokestatic 51, 3) := by decide +kernel
theorem dX2_setEffect_4 : decode cX2_setEffect 4 = .ok (.iload_n 2, 1) := by decide +kernel
theorem dX2_setEffect_5 : decode cX2_setEffect 5 = .ok (.invokestatic 34, 3) := by decide +kernel
theorem dX2_setEffect_8 : decode cX2_setEffect 8 = .ok (.iload_n 3, 1) := by decide +kernel
theorem dX2_setEffect_9 : decode cX2_setEffect 9 = .ok (.iconst 0, 1) := by decide +kernel
theorem dX2_setEffect_10 : decode cX2_setEffect 10 = .ok (.bipush 100, 2) := by decide +kernel
theorem dX2_setEffect_12 : decode cX2_setEffect 12 = .ok (.invokestatic 38, 3) := by decide +kernel
theorem dX2_setEffect_15 : decode cX2_setEffect 15 = .ok (.aload_n 0, 1) := by decide +kernel
theorem dX2_setEffect_16 : decode cX2_setEffect 16 = .ok (.getfield 10, 3) := by decide +kernel
theorem dX2_setEffect_19 : decode cX2_setEffect 19 = .ok (.getfield 54, 3) := by decide +kernel
theorem dX2_setEffect_22 : decode cX2_setEffect 22 = .ok (.iload_n 1, 1) := by decide +kernel
theorem dX2_setEffect_23 : decode cX2_setEffect 23 = .ok (.aaload, 1) := by decide +kernel
theorem dX2_setEffect_24 : decode cX2_setEffect 24 = .ok (.iload_n 2, 1) := by decide +kernel
theorem dX2_setEffect_25 : decode cX2_setEffect 25 = .ok (.iaload, 1) := by decide +kernel
theorem dX2_setEffect_26 : decode cX2_setEffect 26 = .ok (.istore 4, 2) := by decide +kernel
theorem dX2_setEffect_28 : decode cX2_setEffect 28 = .ok (.aload_n 0, 1) := by decide +kernel
theorem dX2_setEffect_29 : decode cX2_setEffect 29 = .ok (.getfield 10, 3) := by decide +kernel
theorem dX2_setEffect_32 : decode cX2_setEffect 32 = .ok (.getfield 54, 3) := by decide +kernel
theorem dX2_setEffect_35 : decode cX2_setEffect 35 = .ok (.iload_n 1, 1) := by decide +kernel
theorem dX2_setEffect_36 : decode cX2_setEffect 36 = .ok (.aaload, 1) := by decide +kernel
theorem dX2_setEffect_37 : decode cX2_setEffect 37 = .ok (.iload_n 2, 1) := by decide +kernel
theorem dX2_setEffect_38 : decode cX2_setEffect 38 = .ok (.iload_n 3, 1) := by decide +kernel
theorem dX2_setEffect_39 : decode cX2_setEffect 39 = .ok (.iastore, 1) := by decide +kernel
theorem dX2_setEffect_40 : decode cX2_setEffect 40 = .ok (.iload 4, 2) := by decide +kernel
theorem dX2_setEffect_42 : decode cX2_setEffect 42 = .ok (.ireturn, 1) := by decide +kernel
set_option maxRecDepth 20000 in
theorem ggX2_setGains_X2_requireWithin : GoodIn wsX2_setGains wsX2_requireWithin := goodIn_ca (goodIn_r _ [7, 8, 9] (by decide +kernel) (by decide +kernel)) (goodIn_sub (fun _ h => List.mem_cons_of_mem _ (List.mem_append_right _ h)) (by decide +kernel))
set_option maxRecDepth 20000 in
theorem gX2_setGains_X2_requireWithin : GoodIn wsX2_setGains (va_wsS RX2 38 yX2_requireWithin wsX2_requireWithin) := goodIn_app (goodIn_of _ (by decide +kernel)) ggX2_setGains_X2_requireWithin
theorem dX2_setGains_0 : decode cX2_setGains 0 = .ok (.iload_n 1, 1) := by decide +kernel
theorem dX2_setGains_1 : decode cX2_setGains 1 = .ok (.iconst 0, 1) := by decide +kernel
theorem dX2_setGains_2 : decode cX2_setGains 2 = .ok (.sipush 200, 3) := by decide +kernel
theorem dX2_setGains_5 : decode cX2_setGains 5 = .ok (.invokestatic 38, 3) := by decide +kernel
theorem dX2_setGains_8 : decode cX2_setGains 8 = .ok (.iload_n 2, 1) := by decide +kernel
theorem dX2_setGains_9 : decode cX2_setGains 9 = .ok (.iconst 0, 1) := by decide +kernel
theorem dX2_setGains_10 : decode cX2_setGains 10 = .ok (.sipush 200, 3) := by decide +kernel
theorem dX2_setGains_13 : decode cX2_setGains 13 = .ok (.invokestatic 38, 3) := by decide +kernel
theorem dX2_setGains_16 : decode cX2_setGains 16 = .ok (.aload_n 0, 1) := by decide +kernel
theorem dX2_setGains_17 : decode cX2_setGains 17 = .ok (.getfield 10, 3) := by decide +kernel
theorem dX2_setGains_20 : decode cX2_setGains 20 = .ok (.iload_n 1, 1) := by decide +kernel
theorem dX2_setGains_21 : decode cX2_setGains 21 = .ok (.putfield 58, 3) := by decide +kernel
theorem dX2_setGains_24 : decode cX2_setGains 24 = .ok (.aload_n 0, 1) := by decide +kernel
theorem dX2_setGains_25 : decode cX2_setGains 25 = .ok (.getfield 10, 3) := by decide +kernel
theorem dX2_setGains_28 : decode cX2_setGains 28 = .ok (.iload_n 2, 1) := by decide +kernel
theorem dX2_setGains_29 : decode cX2_setGains 29 = .ok (.putfield 61, 3) := by decide +kernel
theorem dX2_setGains_32 : decode cX2_setGains 32 = .ok (.return_, 1) := by decide +kernel
set_option maxRecDepth 20000 in
theorem ggX2_setHall_X2_requireWithin : GoodIn wsX2_setHall wsX2_requireWithin := goodIn_ca (goodIn_r _ [7, 8, 9] (by decide +kernel) (by decide +kernel)) (goodIn_sub (fun _ h => List.mem_cons_of_mem _ (List.mem_append_right _ h)) (by decide +kernel))
set_option maxRecDepth 20000 in
theorem gX2_setHall_X2_requireWithin : GoodIn wsX2_setHall (va_wsS RX2 38 yX2_requireWithin wsX2_requireWithin) := goodIn_app (goodIn_of _ (by decide +kernel)) ggX2_setHall_X2_requireWithin
theorem dX2_setHall_0 : decode cX2_setHall 0 = .ok (.iload_n 1, 1) := by decide +kernel
theorem dX2_setHall_1 : decode cX2_setHall 1 = .ok (.sipush 1000, 3) := by decide +kernel
theorem dX2_setHall_4 : decode cX2_setHall 4 = .ok (.sipush 5000, 3) := by decide +kernel
theorem dX2_setHall_7 : decode cX2_setHall 7 = .ok (.invokestatic 38, 3) := by decide +kernel
theorem dX2_setHall_10 : decode cX2_setHall 10 = .ok (.iload_n 2, 1) := by decide +kernel
theorem dX2_setHall_11 : decode cX2_setHall 11 = .ok (.sipush 1000, 3) := by decide +kernel
theorem dX2_setHall_14 : decode cX2_setHall 14 = .ok (.sipush 5000, 3) := by decide +kernel
theorem dX2_setHall_17 : decode cX2_setHall 17 = .ok (.invokestatic 38, 3) := by decide +kernel
theorem dX2_setHall_20 : decode cX2_setHall 20 = .ok (.aload_n 0, 1) := by decide +kernel
theorem dX2_setHall_21 : decode cX2_setHall 21 = .ok (.getfield 10, 3) := by decide +kernel
theorem dX2_setHall_24 : decode cX2_setHall 24 = .ok (.iload_n 1, 1) := by decide +kernel
theorem dX2_setHall_25 : decode cX2_setHall 25 = .ok (.putfield 64, 3) := by decide +kernel
theorem dX2_setHall_28 : decode cX2_setHall 28 = .ok (.aload_n 0, 1) := by decide +kernel
theorem dX2_setHall_29 : decode cX2_setHall 29 = .ok (.getfield 10, 3) := by decide +kernel
theorem dX2_setHall_32 : decode cX2_setHall 32 = .ok (.iload_n 2, 1) := by decide +kernel
theorem dX2_setHall_33 : decode cX2_setHall 33 = .ok (.putfield 67, 3) := by decide +kernel
theorem dX2_setHall_36 : decode cX2_setHall 36 = .ok (.return_, 1) := by decide +kernel
set_option maxRecDepth 20000 in
theorem ggX2_setDelay_X2_requireWithin : GoodIn wsX2_setDelay wsX2_requireWithin := goodIn_ca (goodIn_r _ [6, 7, 8] (by decide +kernel) (by decide +kernel)) (goodIn_sub (fun _ h => List.mem_cons_of_mem _ (List.mem_append_right _ h)) (by decide +kernel))
set_option maxRecDepth 20000 in
theorem gX2_setDelay_X2_requireWithin : GoodIn wsX2_setDelay (va_wsS RX2 38 yX2_requireWithin wsX2_requireWithin) := goodIn_app (goodIn_of _ (by decide +kernel)) ggX2_setDelay_X2_requireWithin
theorem dX2_setDelay_0 : decode cX2_setDelay 0 = .ok (.iload_n 1, 1) := by decide +kernel
theorem dX2_setDelay_1 : decode cX2_setDelay 1 = .ok (.iconst 0, 1) := by decide +kernel
theorem dX2_setDelay_2 : decode cX2_setDelay 2 = .ok (.bipush 8, 2) := by decide +kernel
theorem dX2_setDelay_4 : decode cX2_setDelay 4 = .ok (.invokestatic 38, 3) := by decide +kernel
theorem dX2_setDelay_7 : decode cX2_setDelay 7 = .ok (.aload_n 0, 1) := by decide +kernel
theorem dX2_setDelay_8 : decode cX2_setDelay 8 = .ok (.getfield 10, 3) := by decide +kernel
theorem dX2_setDelay_11 : decode cX2_setDelay 11 = .ok (.getfield 70, 3) := by decide +kernel
theorem dX2_setDelay_14 : decode cX2_setDelay 14 = .ok (.istore_n 2, 1) := by decide +kernel
theorem dX2_setDelay_15 : decode cX2_setDelay 15 = .ok (.aload_n 0, 1) := by decide +kernel
theorem dX2_setDelay_16 : decode cX2_setDelay 16 = .ok (.getfield 10, 3) := by decide +kernel
theorem dX2_setDelay_19 : decode cX2_setDelay 19 = .ok (.iload_n 1, 1) := by decide +kernel
theorem dX2_setDelay_20 : decode cX2_setDelay 20 = .ok (.putfield 70, 3) := by decide +kernel
theorem dX2_setDelay_23 : decode cX2_setDelay 23 = .ok (.iload_n 2, 1) := by decide +kernel
theorem dX2_setDelay_24 : decode cX2_setDelay 24 = .ok (.ireturn, 1) := by decide +kernel
set_option maxRecDepth 20000 in
theorem ggX2_fail_X2_requireFan : GoodIn wsX2_fail wsX2_requireFan := goodIn_ca (goodIn_r _ [8, 9, 10, 7, 11, 12, 13] (by decide +kernel) (by decide +kernel)) (goodIn_sub (fun _ h => List.mem_cons_of_mem _ (List.mem_append_right _ h)) (by decide +kernel))
set_option maxRecDepth 20000 in
theorem gX2_fail_X2_requireFan : GoodIn wsX2_fail (va_wsS RX2 51 yX2_requireFan wsX2_requireFan) := goodIn_app (goodIn_of _ (by decide +kernel)) ggX2_fail_X2_requireFan
set_option maxRecDepth 20000 in
theorem ggX2_fail_X0_stopFan : GoodIn wsX2_fail wsX0_stopFan := goodIn_r _ [18, 19, 20, 30, 31, 32, 33, 34, 35, 36] (by decide +kernel) (by decide +kernel)
set_option maxRecDepth 20000 in
theorem gX2_fail_X0_stopFan : GoodIn wsX2_fail (wsV RX2 84 RX0 yX0_stopFan wsX0_stopFan) := goodIn_app (goodIn_of _ (by decide +kernel)) ggX2_fail_X0_stopFan
set_option maxRecDepth 20000 in
theorem ggX2_fail_X0_countRunning : GoodIn wsX2_fail wsX0_countRunning := goodIn_r _ [24, 19, 30, 31, 32, 33, 34, 35, 36] (by decide +kernel) (by decide +kernel)
set_option maxRecDepth 20000 in
theorem gX2_fail_X0_countRunning : GoodIn wsX2_fail (wsV RX2 87 RX0 yX0_countRunning wsX0_countRunning) := goodIn_app (goodIn_of _ (by decide +kernel)) ggX2_fail_X0_countRunning
theorem dX2_fail_0 : decode cX2_fail 0 = .ok (.iload_n 1, 1) := by decide +kernel
theorem dX2_fail_1 : decode cX2_fail 1 = .ok (.invokestatic 51, 3) := by decide +kernel
theorem dX2_fail_4 : decode cX2_fail 4 = .ok (.aload_n 0, 1) := by decide +kernel
theorem dX2_fail_5 : decode cX2_fail 5 = .ok (.getfield 19, 3) := by decide +kernel
theorem dX2_fail_8 : decode cX2_fail 8 = .ok (.getfield 73, 3) := by decide +kernel
theorem dX2_fail_11 : decode cX2_fail 11 = .ok (.iload_n 1, 1) := by decide +kernel
theorem dX2_fail_12 : decode cX2_fail 12 = .ok (.baload, 1) := by decide +kernel
theorem dX2_fail_13 : decode cX2_fail 13 = .ok (.ifCond .eq 13, 3) := by decide +kernel
theorem dX2_fail_16 : decode cX2_fail 16 = .ok (.new 77, 3) := by decide +kernel
theorem dX2_fail_19 : decode cX2_fail 19 = .ok (.dup, 1) := by decide +kernel
theorem dX2_fail_20 : decode cX2_fail 20 = .ok (.ldc 79, 2) := by decide +kernel
theorem dX2_fail_22 : decode cX2_fail 22 = .ok (.invokespecial 81, 3) := by decide +kernel
theorem dX2_fail_25 : decode cX2_fail 25 = .ok (.athrow, 1) := by decide +kernel
theorem dX2_fail_26 : decode cX2_fail 26 = .ok (.aload_n 0, 1) := by decide +kernel
theorem dX2_fail_27 : decode cX2_fail 27 = .ok (.getfield 19, 3) := by decide +kernel
theorem dX2_fail_30 : decode cX2_fail 30 = .ok (.iload_n 1, 1) := by decide +kernel
theorem dX2_fail_31 : decode cX2_fail 31 = .ok (.invokevirtual 84, 3) := by decide +kernel
theorem dX2_fail_34 : decode cX2_fail 34 = .ok (.aload_n 0, 1) := by decide +kernel
theorem dX2_fail_35 : decode cX2_fail 35 = .ok (.getfield 19, 3) := by decide +kernel
theorem dX2_fail_38 : decode cX2_fail 38 = .ok (.invokevirtual 87, 3) := by decide +kernel
theorem dX2_fail_41 : decode cX2_fail 41 = .ok (.ireturn, 1) := by decide +kernel
set_option maxRecDepth 20000 in
theorem ggX2_repair_X2_requireFan : GoodIn wsX2_repair wsX2_requireFan := goodIn_ca (goodIn_r _ [8, 9, 10, 7, 11, 12, 13] (by decide +kernel) (by decide +kernel)) (goodIn_sub (fun _ h => List.mem_cons_of_mem _ (List.mem_append_right _ h)) (by decide +kernel))
set_option maxRecDepth 20000 in
theorem gX2_repair_X2_requireFan : GoodIn wsX2_repair (va_wsS RX2 51 yX2_requireFan wsX2_requireFan) := goodIn_app (goodIn_of _ (by decide +kernel)) ggX2_repair_X2_requireFan
set_option maxRecDepth 20000 in
theorem ggX2_repair_X0_countRunning : GoodIn wsX2_repair wsX0_countRunning := goodIn_r _ [18, 19, 25, 26, 27, 28, 29, 30, 31] (by decide +kernel) (by decide +kernel)
set_option maxRecDepth 20000 in
theorem gX2_repair_X0_countRunning : GoodIn wsX2_repair (wsV RX2 87 RX0 yX0_countRunning wsX0_countRunning) := goodIn_app (goodIn_of _ (by decide +kernel)) ggX2_repair_X0_countRunning
theorem dX2_repair_0 : decode cX2_repair 0 = .ok (.iload_n 1, 1) := by decide +kernel
theorem dX2_repair_1 : decode cX2_repair 1 = .ok (.invokestatic 51, 3) := by decide +kernel
theorem dX2_repair_4 : decode cX2_repair 4 = .ok (.aload_n 0, 1) := by decide +kernel
theorem dX2_repair_5 : decode cX2_repair 5 = .ok (.getfield 19, 3) := by decide +kernel
theorem dX2_repair_8 : decode cX2_repair 8 = .ok (.getfield 73, 3) := by decide +kernel
theorem dX2_repair_11 : decode cX2_repair 11 = .ok (.iload_n 1, 1) := by decide +kernel
theorem dX2_repair_12 : decode cX2_repair 12 = .ok (.baload, 1) := by decide +kernel
theorem dX2_repair_13 : decode cX2_repair 13 = .ok (.ifCond .ne 13, 3) := by decide +kernel
theorem dX2_repair_16 : decode cX2_repair 16 = .ok (.new 77, 3) := by decide +kernel
theorem dX2_repair_19 : decode cX2_repair 19 = .ok (.dup, 1) := by decide +kernel
theorem dX2_repair_20 : decode cX2_repair 20 = .ok (.ldc 91, 2) := by decide +kernel
theorem dX2_repair_22 : decode cX2_repair 22 = .ok (.invokespecial 81, 3) := by decide +kernel
theorem dX2_repair_25 : decode cX2_repair 25 = .ok (.athrow, 1) := by decide +kernel
theorem dX2_repair_26 : decode cX2_repair 26 = .ok (.aload_n 0, 1) := by decide +kernel
theorem dX2_repair_27 : decode cX2_repair 27 = .ok (.getfield 19, 3) := by decide +kernel
theorem dX2_repair_30 : decode cX2_repair 30 = .ok (.getfield 73, 3) := by decide +kernel
theorem dX2_repair_33 : decode cX2_repair 33 = .ok (.iload_n 1, 1) := by decide +kernel
theorem dX2_repair_34 : decode cX2_repair 34 = .ok (.iconst 0, 1) := by decide +kernel
theorem dX2_repair_35 : decode cX2_repair 35 = .ok (.bastore, 1) := by decide +kernel
theorem dX2_repair_36 : decode cX2_repair 36 = .ok (.aload_n 0, 1) := by decide +kernel
theorem dX2_repair_37 : decode cX2_repair 37 = .ok (.getfield 19, 3) := by decide +kernel
theorem dX2_repair_40 : decode cX2_repair 40 = .ok (.invokevirtual 87, 3) := by decide +kernel
theorem dX2_repair_43 : decode cX2_repair 43 = .ok (.ireturn, 1) := by decide +kernel
set_option maxRecDepth 20000 in
theorem ggX2_command_X2_requireFan : GoodIn wsX2_command wsX2_requireFan := goodIn_ca (goodIn_r _ [5, 6, 7, 4, 8, 9, 10] (by decide +kernel) (by decide +kernel)) (goodIn_sub (fun _ h => List.mem_cons_of_mem _ (List.mem_append_right _ h)) (by decide +kernel))
set_option maxRecDepth 20000 in
theorem gX2_command_X2_requireFan : GoodIn wsX2_command (va_wsS RX2 51 yX2_requireFan wsX2_requireFan) := goodIn_app (goodIn_of _ (by decide +kernel)) ggX2_command_X2_requireFan
set_option maxRecDepth 20000 in
theorem ggX2_command_X0_commandsAgo : GoodIn wsX2_command wsX0_commandsAgo := goodIn_r _ [15, 16, 17, 18, 19, 20, 21, 27, 28, 29, 30, 31, 32, 33] (by decide +kernel) (by decide +kernel)
set_option maxRecDepth 20000 in
theorem gX2_command_X0_commandsAgo : GoodIn wsX2_command (wsV RX2 93 RX0 yX0_commandsAgo wsX0_commandsAgo) := goodIn_app (goodIn_of _ (by decide +kernel)) ggX2_command_X0_commandsAgo
theorem dX2_command_0 : decode cX2_command 0 = .ok (.iload_n 1, 1) := by decide +kernel
theorem dX2_command_1 : decode cX2_command 1 = .ok (.invokestatic 51, 3) := by decide +kernel
theorem dX2_command_4 : decode cX2_command 4 = .ok (.aload_n 0, 1) := by decide +kernel
theorem dX2_command_5 : decode cX2_command 5 = .ok (.getfield 19, 3) := by decide +kernel
theorem dX2_command_8 : decode cX2_command 8 = .ok (.iconst 0, 1) := by decide +kernel
theorem dX2_command_9 : decode cX2_command 9 = .ok (.invokevirtual 93, 3) := by decide +kernel
theorem dX2_command_12 : decode cX2_command 12 = .ok (.iload_n 1, 1) := by decide +kernel
theorem dX2_command_13 : decode cX2_command 13 = .ok (.iaload, 1) := by decide +kernel
theorem dX2_command_14 : decode cX2_command 14 = .ok (.ireturn, 1) := by decide +kernel
set_option maxRecDepth 20000 in
theorem ggX2_speed_X2_requireFan : GoodIn wsX2_speed wsX2_requireFan := goodIn_ca (goodIn_r _ [6, 7, 8, 5, 9, 10, 11] (by decide +kernel) (by decide +kernel)) (goodIn_sub (fun _ h => List.mem_cons_of_mem _ (List.mem_append_right _ h)) (by decide +kernel))
set_option maxRecDepth 20000 in
theorem gX2_speed_X2_requireFan : GoodIn wsX2_speed (va_wsS RX2 51 yX2_requireFan wsX2_requireFan) := goodIn_app (goodIn_of _ (by decide +kernel)) ggX2_speed_X2_requireFan
theorem dX2_speed_0 : decode cX2_speed 0 = .ok (.iload_n 1, 1) := by decide +kernel
theorem dX2_speed_1 : decode cX2_speed 1 = .ok (.invokestatic 51, 3) := by decide +kernel
theorem dX2_speed_4 : decode cX2_speed 4 = .ok (.aload_n 0, 1) := by decide +kernel
theorem dX2_speed_5 : decode cX2_speed 5 = .ok (.getfield 19, 3) := by decide +kernel
theorem dX2_speed_8 : decode cX2_speed 8 = .ok (.getfield 97, 3) := by decide +kernel
theorem dX2_speed_11 : decode cX2_speed 11 = .ok (.iload_n 1, 1) := by decide +kernel
theorem dX2_speed_12 : decode cX2_speed 12 = .ok (.iaload, 1) := by decide +kernel
theorem dX2_speed_13 : decode cX2_speed 13 = .ok (.ireturn, 1) := by decide +kernel
set_option maxRecDepth 20000 in
theorem ggX2_pass_X2_requireWithin : GoodIn wsX2_pass wsX2_requireWithin := goodIn_ca (goodIn_r _ [10, 11, 12] (by decide +kernel) (by decide +kernel)) (goodIn_sub (fun _ h => List.mem_cons_of_mem _ (List.mem_append_right _ h)) (by decide +kernel))
set_option maxRecDepth 20000 in
theorem gX2_pass_X2_requireWithin : GoodIn wsX2_pass (va_wsS RX2 38 yX2_requireWithin wsX2_requireWithin) := goodIn_app (goodIn_of _ (by decide +kernel)) ggX2_pass_X2_requireWithin
set_option maxRecDepth 20000 in
theorem ggX2_pass_X0_runMinute : GoodIn wsX2_pass wsX0_runMinute := goodIn_r _ [17, 18, 19, 20, 21, 22, 16, 23, 24, 25, 26, 27, 28, 9, 29, 30, 31, 32, 33, 34, 35, 36, 37, 38, 39, 40, 41, 42, 43, 44, 45, 46, 47, 48, 49, 50, 51, 52, 53, 54, 55, 56, 57, 58, 59, 60, 61, 62, 63, 64, 65, 66, 67, 68, 69, 70, 71, 72, 73, 74, 75, 76, 77, 90, 91, 92, 93, 94, 95, 96, 97, 98, 99, 100, 101, 102, 103, 104] (by decide +kernel) (by decide +kernel)
set_option maxRecDepth 20000 in
theorem gX2_pass_X0_runMinute : GoodIn wsX2_pass (wsV RX2 103 RX0 yX0_runMinute wsX0_runMinute) := goodIn_app (goodIn_of _ (by decide +kernel)) ggX2_pass_X0_runMinute
set_option maxRecDepth 20000 in
theorem ggX2_pass_X2_noteHotZones : GoodIn wsX2_pass wsX2_noteHotZones := goodIn_r _ [81, 5, 82, 6, 83, 84, 85, 86, 87, 88, 89, 90, 91, 92, 93, 94, 95, 96, 97, 98, 99, 100, 101, 102, 103, 104] (by decide +kernel) (by decide +kernel)
set_option maxRecDepth 20000 in
theorem gX2_pass_X2_noteHotZones : GoodIn wsX2_pass (wsV RX2 107 RX2 yX2_noteHotZones wsX2_noteHotZones) := goodIn_app (goodIn_of _ (by decide +kernel)) ggX2_pass_X2_noteHotZones
theorem dX2_pass_0 : decode cX2_pass 0 = .ok (.iload_n 1, 1) := by decide +kernel
theorem dX2_pass_1 : decode cX2_pass 1 = .ok (.iconst 1, 1) := by decide +kernel
theorem dX2_pass_2 : decode cX2_pass 2 = .ok (.sipush 300, 3) := by decide +kernel
theorem dX2_pass_5 : decode cX2_pass 5 = .ok (.invokestatic 38, 3) := by decide +kernel
theorem dX2_pass_8 : decode cX2_pass 8 = .ok (.aload_n 0, 1) := by decide +kernel
theorem dX2_pass_9 : decode cX2_pass 9 = .ok (.getfield 30, 3) := by decide +kernel
theorem dX2_pass_12 : decode cX2_pass 12 = .ok (.iload_n 1, 1) := by decide +kernel
theorem dX2_pass_13 : decode cX2_pass 13 = .ok (.iadd, 1) := by decide +kernel
theorem dX2_pass_14 : decode cX2_pass 14 = .ok (.ldc 100, 2) := by decide +kernel
theorem dX2_pass_16 : decode cX2_pass 16 = .ok (.if_icmp .le 13, 3) := by decide +kernel
theorem dX2_pass_19 : decode cX2_pass 19 = .ok (.new 77, 3) := by decide +kernel
theorem dX2_pass_22 : decode cX2_pass 22 = .ok (.dup, 1) := by decide +kernel
theorem dX2_pass_23 : decode cX2_pass 23 = .ok (.ldc 101, 2) := by decide +kernel
theorem dX2_pass_25 : decode cX2_pass 25 = .ok (.invokespecial 81, 3) := by decide +kernel
theorem dX2_pass_28 : decode cX2_pass 28 = .ok (.athrow, 1) := by decide +kernel
theorem dX2_pass_29 : decode cX2_pass 29 = .ok (.iconst 0, 1) := by decide +kernel
theorem dX2_pass_30 : decode cX2_pass 30 = .ok (.istore_n 2, 1) := by decide +kernel
theorem dX2_pass_31 : decode cX2_pass 31 = .ok (.iconst 0, 1) := by decide +kernel
theorem dX2_pass_32 : decode cX2_pass 32 = .ok (.istore_n 3, 1) := by decide +kernel
theorem dX2_pass_33 : decode cX2_pass 33 = .ok (.iload_n 3, 1) := by decide +kernel
theorem dX2_pass_34 : decode cX2_pass 34 = .ok (.iload_n 1, 1) := by decide +kernel
theorem dX2_pass_35 : decode cX2_pass 35 = .ok (.if_icmp .ge 37, 3) := by decide +kernel
theorem dX2_pass_38 : decode cX2_pass 38 = .ok (.aload_n 0, 1) := by decide +kernel
theorem dX2_pass_39 : decode cX2_pass 39 = .ok (.getfield 19, 3) := by decide +kernel
theorem dX2_pass_42 : decode cX2_pass 42 = .ok (.aload_n 0, 1) := by decide +kernel
theorem dX2_pass_43 : decode cX2_pass 43 = .ok (.getfield 10, 3) := by decide +kernel
theorem dX2_pass_46 : decode cX2_pass 46 = .ok (.invokevirtual 103, 3) := by decide +kernel
theorem dX2_pass_49 : decode cX2_pass 49 = .ok (.aload_n 0, 1) := by decide +kernel
theorem dX2_pass_50 : decode cX2_pass 50 = .ok (.dup, 1) := by decide +kernel
theorem dX2_pass_51 : decode cX2_pass 51 = .ok (.getfield 30, 3) := by decide +kernel
theorem dX2_pass_54 : decode cX2_pass 54 = .ok (.iconst 1, 1) := by decide +kernel
theorem dX2_pass_55 : decode cX2_pass 55 = .ok (.iadd, 1) := by decide +kernel
