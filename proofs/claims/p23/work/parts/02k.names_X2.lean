theorem dX2_pass_56 : decode cX2_pass 56 = .ok (.putfield 30, 3) := by decide +kernel
theorem dX2_pass_59 : decode cX2_pass 59 = .ok (.iload_n 2, 1) := by decide +kernel
theorem dX2_pass_60 : decode cX2_pass 60 = .ok (.aload_n 0, 1) := by decide +kernel
theorem dX2_pass_61 : decode cX2_pass 61 = .ok (.invokevirtual 107, 3) := by decide +kernel
theorem dX2_pass_64 : decode cX2_pass 64 = .ok (.iadd, 1) := by decide +kernel
theorem dX2_pass_65 : decode cX2_pass 65 = .ok (.istore_n 2, 1) := by decide +kernel
theorem dX2_pass_66 : decode cX2_pass 66 = .ok (.iinc 3 1, 3) := by decide +kernel
theorem dX2_pass_69 : decode cX2_pass 69 = .ok (.goto (-36), 3) := by decide +kernel
theorem dX2_pass_72 : decode cX2_pass 72 = .ok (.iload_n 2, 1) := by decide +kernel
theorem dX2_pass_73 : decode cX2_pass 73 = .ok (.ireturn, 1) := by decide +kernel
theorem dX2_clock_0 : decode cX2_clock 0 = .ok (.aload_n 0, 1) := by decide +kernel
theorem dX2_clock_1 : decode cX2_clock 1 = .ok (.getfield 30, 3) := by decide +kernel
theorem dX2_clock_4 : decode cX2_clock 4 = .ok (.ireturn, 1) := by decide +kernel
set_option maxRecDepth 20000 in
theorem ggX2_temperature_X2_requireZone : GoodIn wsX2_temperature wsX2_requireZone := goodIn_ca (goodIn_r _ [6, 7, 8, 5, 9, 10, 11] (by decide +kernel) (by decide +kernel)) (goodIn_sub (fun _ h => List.mem_cons_of_mem _ (List.mem_append_right _ h)) (by decide +kernel))
set_option maxRecDepth 20000 in
theorem gX2_temperature_X2_requireZone : GoodIn wsX2_temperature (va_wsS RX2 34 yX2_requireZone wsX2_requireZone) := goodIn_app (goodIn_of _ (by decide +kernel)) ggX2_temperature_X2_requireZone
theorem dX2_temperature_0 : decode cX2_temperature 0 = .ok (.iload_n 1, 1) := by decide +kernel
theorem dX2_temperature_1 : decode cX2_temperature 1 = .ok (.invokestatic 34, 3) := by decide +kernel
theorem dX2_temperature_4 : decode cX2_temperature 4 = .ok (.aload_n 0, 1) := by decide +kernel
theorem dX2_temperature_5 : decode cX2_temperature 5 = .ok (.getfield 19, 3) := by decide +kernel
theorem dX2_temperature_8 : decode cX2_temperature 8 = .ok (.getfield 110, 3) := by decide +kernel
theorem dX2_temperature_11 : decode cX2_temperature 11 = .ok (.iload_n 1, 1) := by decide +kernel
theorem dX2_temperature_12 : decode cX2_temperature 12 = .ok (.iaload, 1) := by decide +kernel
theorem dX2_temperature_13 : decode cX2_temperature 13 = .ok (.ireturn, 1) := by decide +kernel
set_option maxRecDepth 20000 in
theorem ggX2_demand_X2_requireZone : GoodIn wsX2_demand wsX2_requireZone := goodIn_ca (goodIn_r _ [6, 7, 8, 5, 9, 10, 11] (by decide +kernel) (by decide +kernel)) (goodIn_sub (fun _ h => List.mem_cons_of_mem _ (List.mem_append_right _ h)) (by decide +kernel))
set_option maxRecDepth 20000 in
theorem gX2_demand_X2_requireZone : GoodIn wsX2_demand (va_wsS RX2 34 yX2_requireZone wsX2_requireZone) := goodIn_app (goodIn_of _ (by decide +kernel)) ggX2_demand_X2_requireZone
theorem dX2_demand_0 : decode cX2_demand 0 = .ok (.iload_n 1, 1) := by decide +kernel
theorem dX2_demand_1 : decode cX2_demand 1 = .ok (.invokestatic 34, 3) := by decide +kernel
theorem dX2_demand_4 : decode cX2_demand 4 = .ok (.aload_n 0, 1) := by decide +kernel
theorem dX2_demand_5 : decode cX2_demand 5 = .ok (.getfield 19, 3) := by decide +kernel
theorem dX2_demand_8 : decode cX2_demand 8 = .ok (.getfield 113, 3) := by decide +kernel
theorem dX2_demand_11 : decode cX2_demand 11 = .ok (.iload_n 1, 1) := by decide +kernel
theorem dX2_demand_12 : decode cX2_demand 12 = .ok (.iaload, 1) := by decide +kernel
theorem dX2_demand_13 : decode cX2_demand 13 = .ok (.ireturn, 1) := by decide +kernel
set_option maxRecDepth 20000 in
theorem ggX2_errors_X2_requireZone : GoodIn wsX2_errors wsX2_requireZone := goodIn_ca (goodIn_r _ [6, 7, 8, 5, 9, 10, 11] (by decide +kernel) (by decide +kernel)) (goodIn_sub (fun _ h => List.mem_cons_of_mem _ (List.mem_append_right _ h)) (by decide +kernel))
set_option maxRecDepth 20000 in
theorem gX2_errors_X2_requireZone : GoodIn wsX2_errors (va_wsS RX2 34 yX2_requireZone wsX2_requireZone) := goodIn_app (goodIn_of _ (by decide +kernel)) ggX2_errors_X2_requireZone
theorem dX2_errors_0 : decode cX2_errors 0 = .ok (.iload_n 1, 1) := by decide +kernel
theorem dX2_errors_1 : decode cX2_errors 1 = .ok (.invokestatic 34, 3) := by decide +kernel
theorem dX2_errors_4 : decode cX2_errors 4 = .ok (.aload_n 0, 1) := by decide +kernel
theorem dX2_errors_5 : decode cX2_errors 5 = .ok (.getfield 19, 3) := by decide +kernel
theorem dX2_errors_8 : decode cX2_errors 8 = .ok (.getfield 48, 3) := by decide +kernel
theorem dX2_errors_11 : decode cX2_errors 11 = .ok (.iload_n 1, 1) := by decide +kernel
theorem dX2_errors_12 : decode cX2_errors 12 = .ok (.iaload, 1) := by decide +kernel
theorem dX2_errors_13 : decode cX2_errors 13 = .ok (.ireturn, 1) := by decide +kernel
set_option maxRecDepth 20000 in
theorem ggX2_hotMinutes_X2_requireZone : GoodIn wsX2_hotMinutes wsX2_requireZone := goodIn_ca (goodIn_r _ [5, 6, 7, 4, 8, 9, 10] (by decide +kernel) (by decide +kernel)) (goodIn_sub (fun _ h => List.mem_cons_of_mem _ (List.mem_append_right _ h)) (by decide +kernel))
set_option maxRecDepth 20000 in
theorem gX2_hotMinutes_X2_requireZone : GoodIn wsX2_hotMinutes (va_wsS RX2 34 yX2_requireZone wsX2_requireZone) := goodIn_app (goodIn_of _ (by decide +kernel)) ggX2_hotMinutes_X2_requireZone
theorem dX2_hotMinutes_0 : decode cX2_hotMinutes 0 = .ok (.iload_n 1, 1) := by decide +kernel
theorem dX2_hotMinutes_1 : decode cX2_hotMinutes 1 = .ok (.invokestatic 34, 3) := by decide +kernel
theorem dX2_hotMinutes_4 : decode cX2_hotMinutes 4 = .ok (.aload_n 0, 1) := by decide +kernel
theorem dX2_hotMinutes_5 : decode cX2_hotMinutes 5 = .ok (.getfield 26, 3) := by decide +kernel
theorem dX2_hotMinutes_8 : decode cX2_hotMinutes 8 = .ok (.iload_n 1, 1) := by decide +kernel
theorem dX2_hotMinutes_9 : decode cX2_hotMinutes 9 = .ok (.iaload, 1) := by decide +kernel
theorem dX2_hotMinutes_10 : decode cX2_hotMinutes 10 = .ok (.ireturn, 1) := by decide +kernel
theorem dX2_hottest_0 : decode cX2_hottest 0 = .ok (.iconst 0, 1) := by decide +kernel
theorem dX2_hottest_1 : decode cX2_hottest 1 = .ok (.istore_n 1, 1) := by decide +kernel
theorem dX2_hottest_2 : decode cX2_hottest 2 = .ok (.iconst 1, 1) := by decide +kernel
theorem dX2_hottest_3 : decode cX2_hottest 3 = .ok (.istore_n 2, 1) := by decide +kernel
theorem dX2_hottest_4 : decode cX2_hottest 4 = .ok (.iload_n 2, 1) := by decide +kernel
theorem dX2_hottest_5 : decode cX2_hottest 5 = .ok (.bipush 6, 2) := by decide +kernel
theorem dX2_hottest_7 : decode cX2_hottest 7 = .ok (.if_icmp .ge 32, 3) := by decide +kernel
theorem dX2_hottest_10 : decode cX2_hottest 10 = .ok (.aload_n 0, 1) := by decide +kernel
theorem dX2_hottest_11 : decode cX2_hottest 11 = .ok (.getfield 19, 3) := by decide +kernel
theorem dX2_hottest_14 : decode cX2_hottest 14 = .ok (.getfield 110, 3) := by decide +kernel
theorem dX2_hottest_17 : decode cX2_hottest 17 = .ok (.iload_n 2, 1) := by decide +kernel
theorem dX2_hottest_18 : decode cX2_hottest 18 = .ok (.iaload, 1) := by decide +kernel
theorem dX2_hottest_19 : decode cX2_hottest 19 = .ok (.aload_n 0, 1) := by decide +kernel
theorem dX2_hottest_20 : decode cX2_hottest 20 = .ok (.getfield 19, 3) := by decide +kernel
theorem dX2_hottest_23 : decode cX2_hottest 23 = .ok (.getfield 110, 3) := by decide +kernel
theorem dX2_hottest_26 : decode cX2_hottest 26 = .ok (.iload_n 1, 1) := by decide +kernel
theorem dX2_hottest_27 : decode cX2_hottest 27 = .ok (.iaload, 1) := by decide +kernel
theorem dX2_hottest_28 : decode cX2_hottest 28 = .ok (.if_icmp .le 5, 3) := by decide +kernel
theorem dX2_hottest_31 : decode cX2_hottest 31 = .ok (.iload_n 2, 1) := by decide +kernel
theorem dX2_hottest_32 : decode cX2_hottest 32 = .ok (.istore_n 1, 1) := by decide +kernel
theorem dX2_hottest_33 : decode cX2_hottest 33 = .ok (.iinc 2 1, 3) := by decide +kernel
theorem dX2_hottest_36 : decode cX2_hottest 36 = .ok (.goto (-32), 3) := by decide +kernel
theorem dX2_hottest_39 : decode cX2_hottest 39 = .ok (.iload_n 1, 1) := by decide +kernel
theorem dX2_hottest_40 : decode cX2_hottest 40 = .ok (.ireturn, 1) := by decide +kernel
set_option maxRecDepth 20000 in
theorem ggX2_expected_X2_requireForecast : GoodIn wsX2_expected wsX2_requireForecast := goodIn_ca (goodIn_r _ [4, 5, 6, 3, 7, 8, 9, 10, 11, 12] (by decide +kernel) (by decide +kernel)) (goodIn_sub (fun _ h => List.mem_cons_of_mem _ (List.mem_append_right _ h)) (by decide +kernel))
set_option maxRecDepth 20000 in
theorem gX2_expected_X2_requireForecast : GoodIn wsX2_expected (va_wsS RX2 116 yX2_requireForecast wsX2_requireForecast) := goodIn_app (goodIn_of _ (by decide +kernel)) ggX2_expected_X2_requireForecast
set_option maxRecDepth 20000 in
theorem ggX2_expected_X2_greatestTemperature : GoodIn wsX2_expected wsX2_greatestTemperature := goodIn_r _ [16, 17, 18, 19, 20, 21, 22, 23, 24, 25, 26, 27, 28, 29, 30, 31, 32, 33, 34, 35, 36, 37, 38, 39, 40, 41, 42, 43, 44, 45, 46, 47, 48, 49, 50, 51, 52, 53, 54, 55, 56, 3, 57, 58, 59, 60, 61, 62, 63, 64, 65, 66, 67, 68, 69, 70, 71, 72, 73, 74, 75, 76, 77, 78, 79, 80, 81, 82, 83, 84, 85, 86, 87, 88, 89, 90, 91, 92, 93, 94, 95, 96, 97, 98, 99, 100, 101, 102, 103, 104, 105, 106, 107, 108, 109, 110, 111, 112, 113, 114, 115, 116, 117] (by decide +kernel) (by decide +kernel)
set_option maxRecDepth 20000 in
theorem gX2_expected_X2_greatestTemperature : GoodIn wsX2_expected (wsV RX2 120 RX2 yX2_greatestTemperature wsX2_greatestTemperature) := goodIn_app (goodIn_of _ (by decide +kernel)) ggX2_expected_X2_greatestTemperature
theorem dX2_expected_0 : decode cX2_expected 0 = .ok (.iload_n 1, 1) := by decide +kernel
theorem dX2_expected_1 : decode cX2_expected 1 = .ok (.iload_n 2, 1) := by decide +kernel
theorem dX2_expected_2 : decode cX2_expected 2 = .ok (.invokestatic 116, 3) := by decide +kernel
theorem dX2_expected_5 : decode cX2_expected 5 = .ok (.aload_n 0, 1) := by decide +kernel
theorem dX2_expected_6 : decode cX2_expected 6 = .ok (.iload_n 1, 1) := by decide +kernel
theorem dX2_expected_7 : decode cX2_expected 7 = .ok (.iload_n 2, 1) := by decide +kernel
theorem dX2_expected_8 : decode cX2_expected 8 = .ok (.iconst (-1), 1) := by decide +kernel
theorem dX2_expected_9 : decode cX2_expected 9 = .ok (.invokevirtual 120, 3) := by decide +kernel
theorem dX2_expected_12 : decode cX2_expected 12 = .ok (.ireturn, 1) := by decide +kernel
set_option maxRecDepth 20000 in
theorem ggX2_critical_X2_requireForecast : GoodIn wsX2_critical wsX2_requireForecast := goodIn_ca (goodIn_r _ [4, 5, 6, 3, 7, 8, 9, 10, 11, 12] (by decide +kernel) (by decide +kernel)) (goodIn_sub (fun _ h => List.mem_cons_of_mem _ (List.mem_append_right _ h)) (by decide +kernel))
set_option maxRecDepth 20000 in
theorem gX2_critical_X2_requireForecast : GoodIn wsX2_critical (va_wsS RX2 116 yX2_requireForecast wsX2_requireForecast) := goodIn_app (goodIn_of _ (by decide +kernel)) ggX2_critical_X2_requireForecast
set_option maxRecDepth 20000 in
theorem ggX2_critical_X2_criticalFan : GoodIn wsX2_critical wsX2_criticalFan := goodIn_r _ [16, 17, 18, 19, 20, 21, 3, 22, 23, 24, 25, 26, 27, 28, 29, 30, 31, 32, 33, 34, 35, 36, 37, 38, 39, 40, 41, 42, 43, 44, 45, 46, 47, 48, 49, 50, 51, 52, 53, 54, 55, 56, 57, 58, 59, 60, 61, 62, 63, 64, 65, 66, 67, 68, 69, 70, 71, 72, 73, 74, 75, 76, 77, 78, 79, 80, 81, 82, 83, 84, 85, 86, 87, 88, 89, 90, 91, 92, 93, 94, 95, 96, 97, 98, 99, 100, 101, 102, 103, 104, 105, 106, 107, 108, 109, 110, 111, 112, 113, 114, 115, 116, 117, 118, 119, 120, 121, 122] (by decide +kernel) (by decide +kernel)
set_option maxRecDepth 20000 in
theorem gX2_critical_X2_criticalFan : GoodIn wsX2_critical (wsV RX2 124 RX2 yX2_criticalFan wsX2_criticalFan) := goodIn_app (goodIn_of _ (by decide +kernel)) ggX2_critical_X2_criticalFan
theorem dX2_critical_0 : decode cX2_critical 0 = .ok (.iload_n 1, 1) := by decide +kernel
theorem dX2_critical_1 : decode cX2_critical 1 = .ok (.iload_n 2, 1) := by decide +kernel
theorem dX2_critical_2 : decode cX2_critical 2 = .ok (.invokestatic 116, 3) := by decide +kernel
theorem dX2_critical_5 : decode cX2_critical 5 = .ok (.aload_n 0, 1) := by decide +kernel
theorem dX2_critical_6 : decode cX2_critical 6 = .ok (.iload_n 1, 1) := by decide +kernel
theorem dX2_critical_7 : decode cX2_critical 7 = .ok (.iload_n 2, 1) := by decide +kernel
theorem dX2_critical_8 : decode cX2_critical 8 = .ok (.invokevirtual 124, 3) := by decide +kernel
theorem dX2_critical_11 : decode cX2_critical 11 = .ok (.ireturn, 1) := by decide +kernel
set_option maxRecDepth 20000 in
theorem ggX2_margin_X2_requireForecast : GoodIn wsX2_margin wsX2_requireForecast := goodIn_ca (goodIn_r _ [6, 7, 8, 5, 9, 10, 11, 12, 13, 14] (by decide +kernel) (by decide +kernel)) (goodIn_sub (fun _ h => List.mem_cons_of_mem _ (List.mem_append_right _ h)) (by decide +kernel))
set_option maxRecDepth 20000 in
theorem gX2_margin_X2_requireForecast : GoodIn wsX2_margin (va_wsS RX2 116 yX2_requireForecast wsX2_requireForecast) := goodIn_app (goodIn_of _ (by decide +kernel)) ggX2_margin_X2_requireForecast
set_option maxRecDepth 20000 in
theorem ggX2_margin_X2_criticalFan : GoodIn wsX2_margin wsX2_criticalFan := goodIn_r _ [18, 19, 20, 21, 22, 23, 5, 24, 25, 1, 26, 27, 28, 29, 30, 31, 32, 33, 34, 35, 36, 37, 38, 39, 40, 41, 42, 43, 44, 45, 46, 47, 48, 49, 50, 51, 52, 53, 54, 55, 56, 57, 58, 59, 60, 61, 62, 63, 64, 65, 66, 67, 68, 69, 70, 71, 72, 73, 74, 75, 76, 77, 78, 79, 80, 81, 82, 83, 84, 85, 86, 87, 88, 89, 90, 91, 92, 93, 94, 95, 96, 97, 98, 99, 100, 101, 102, 103, 104, 105, 106, 107, 108, 117, 118, 119, 120, 121, 122, 123, 109, 110, 111, 112, 113, 114, 115, 116] (by decide +kernel) (by decide +kernel)
set_option maxRecDepth 20000 in
theorem gX2_margin_X2_criticalFan : GoodIn wsX2_margin (wsV RX2 124 RX2 yX2_criticalFan wsX2_criticalFan) := goodIn_app (goodIn_of _ (by decide +kernel)) ggX2_margin_X2_criticalFan
set_option maxRecDepth 20000 in
theorem ggX2_margin_X2_greatestTemperature : GoodIn wsX2_margin wsX2_greatestTemperature := goodIn_r _ [24, 25, 19, 1, 26, 27, 28, 29, 30, 31, 32, 33, 34, 35, 36, 37, 38, 39, 40, 41, 42, 43, 44, 45, 46, 47, 48, 49, 50, 51, 52, 53, 54, 55, 56, 57, 58, 59, 60, 61, 62, 5, 63, 64, 65, 66, 67, 68, 69, 70, 71, 72, 73, 74, 75, 76, 77, 78, 79, 80, 81, 82, 83, 84, 85, 86, 87, 88, 89, 90, 91, 92, 93, 94, 95, 96, 97, 98, 99, 100, 101, 102, 103, 104, 105, 106, 107, 108, 117, 118, 119, 120, 121, 122, 123, 109, 110, 111, 112, 113, 114, 115, 116] (by decide +kernel) (by decide +kernel)
set_option maxRecDepth 20000 in
theorem gX2_margin_X2_greatestTemperature : GoodIn wsX2_margin (wsV RX2 120 RX2 yX2_greatestTemperature wsX2_greatestTemperature) := goodIn_app (goodIn_of _ (by decide +kernel)) ggX2_margin_X2_greatestTemperature
theorem dX2_margin_0 : decode cX2_margin 0 = .ok (.iload_n 1, 1) := by decide +kernel
theorem dX2_margin_1 : decode cX2_margin 1 = .ok (.iload_n 2, 1) := by decide +kernel
theorem dX2_margin_2 : decode cX2_margin 2 = .ok (.invokestatic 116, 3) := by decide +kernel
theorem dX2_margin_5 : decode cX2_margin 5 = .ok (.aload_n 0, 1) := by decide +kernel
theorem dX2_margin_6 : decode cX2_margin 6 = .ok (.iload_n 1, 1) := by decide +kernel
theorem dX2_margin_7 : decode cX2_margin 7 = .ok (.iload_n 2, 1) := by decide +kernel
theorem dX2_margin_8 : decode cX2_margin 8 = .ok (.invokevirtual 124, 3) := by decide +kernel
theorem dX2_margin_11 : decode cX2_margin 11 = .ok (.istore_n 3, 1) := by decide +kernel
theorem dX2_margin_12 : decode cX2_margin 12 = .ok (.aload_n 0, 1) := by decide +kernel
theorem dX2_margin_13 : decode cX2_margin 13 = .ok (.getfield 10, 3) := by decide +kernel
theorem dX2_margin_16 : decode cX2_margin 16 = .ok (.getfield 67, 3) := by decide +kernel
theorem dX2_margin_19 : decode cX2_margin 19 = .ok (.aload_n 0, 1) := by decide +kernel
theorem dX2_margin_20 : decode cX2_margin 20 = .ok (.iload_n 1, 1) := by decide +kernel
theorem dX2_margin_21 : decode cX2_margin 21 = .ok (.iload_n 2, 1) := by decide +kernel
theorem dX2_margin_22 : decode cX2_margin 22 = .ok (.iload_n 3, 1) := by decide +kernel
theorem dX2_margin_23 : decode cX2_margin 23 = .ok (.invokevirtual 120, 3) := by decide +kernel
theorem dX2_margin_26 : decode cX2_margin 26 = .ok (.isub, 1) := by decide +kernel
theorem dX2_margin_27 : decode cX2_margin 27 = .ok (.ireturn, 1) := by decide +kernel
set_option maxRecDepth 20000 in
theorem ggX2_criticalFan_X2_greatestTemperature : GoodIn wsX2_criticalFan wsX2_greatestTemperature := goodIn_r _ [7, 8, 1, 9, 10, 11, 12, 13, 14, 15, 16, 17, 18, 19, 20, 21, 22, 23, 24, 25, 26, 27, 28, 29, 30, 31, 32, 33, 34, 35, 36, 37, 38, 39, 40, 41, 42, 43, 44, 45, 46, 6, 47, 48, 49, 50, 51, 52, 53, 54, 55, 56, 57, 58, 59, 60, 61, 62, 63, 64, 65, 66, 67, 68, 69, 70, 71, 72, 73, 74, 75, 76, 77, 78, 79, 80, 81, 82, 83, 84, 85, 86, 87, 88, 89, 90, 91, 92, 93, 94, 95, 96, 97, 98, 99, 100, 101, 102, 103, 104, 105, 106, 107] (by decide +kernel) (by decide +kernel)
set_option maxRecDepth 20000 in
theorem gX2_criticalFan_X2_greatestTemperature : GoodIn wsX2_criticalFan (wsV RX2 120 RX2 yX2_greatestTemperature wsX2_greatestTemperature) := goodIn_app (goodIn_of _ (by decide +kernel)) ggX2_criticalFan_X2_greatestTemperature
theorem dX2_criticalFan_0 : decode cX2_criticalFan 0 = .ok (.iconst (-1), 1) := by decide +kernel
theorem dX2_criticalFan_1 : decode cX2_criticalFan 1 = .ok (.istore_n 3, 1) := by decide +kernel
theorem dX2_criticalFan_2 : decode cX2_criticalFan 2 = .ok (.iconst 0, 1) := by decide +kernel
theorem dX2_criticalFan_3 : decode cX2_criticalFan 3 = .ok (.istore 4, 2) := by decide +kernel
theorem dX2_criticalFan_5 : decode cX2_criticalFan 5 = .ok (.iconst 0, 1) := by decide +kernel
theorem dX2_criticalFan_6 : decode cX2_criticalFan 6 = .ok (.istore 5, 2) := by decide +kernel
theorem dX2_criticalFan_8 : decode cX2_criticalFan 8 = .ok (.iload 5, 2) := by decide +kernel
theorem dX2_criticalFan_10 : decode cX2_criticalFan 10 = .ok (.bipush 8, 2) := by decide +kernel
theorem dX2_criticalFan_12 : decode cX2_criticalFan 12 = .ok (.if_icmp .ge 51, 3) := by decide +kernel
theorem dX2_criticalFan_15 : decode cX2_criticalFan 15 = .ok (.aload_n 0, 1) := by decide +kernel
theorem dX2_criticalFan_16 : decode cX2_criticalFan 16 = .ok (.getfield 19, 3) := by decide +kernel
theorem dX2_criticalFan_19 : decode cX2_criticalFan 19 = .ok (.getfield 73, 3) := by decide +kernel
theorem dX2_criticalFan_22 : decode cX2_criticalFan 22 = .ok (.iload 5, 2) := by decide +kernel
theorem dX2_criticalFan_24 : decode cX2_criticalFan 24 = .ok (.baload, 1) := by decide +kernel
theorem dX2_criticalFan_25 : decode cX2_criticalFan 25 = .ok (.ifCond .ne 32, 3) := by decide +kernel
theorem dX2_criticalFan_28 : decode cX2_criticalFan 28 = .ok (.aload_n 0, 1) := by decide +kernel
theorem dX2_criticalFan_29 : decode cX2_criticalFan 29 = .ok (.iload_n 1, 1) := by decide +kernel
theorem dX2_criticalFan_30 : decode cX2_criticalFan 30 = .ok (.iload_n 2, 1) := by decide +kernel
theorem dX2_criticalFan_31 : decode cX2_criticalFan 31 = .ok (.iload 5, 2) := by decide +kernel
theorem dX2_criticalFan_33 : decode cX2_criticalFan 33 = .ok (.invokevirtual 120, 3) := by decide +kernel
theorem dX2_criticalFan_36 : decode cX2_criticalFan 36 = .ok (.istore 6, 2) := by decide +kernel
theorem dX2_criticalFan_38 : decode cX2_criticalFan 38 = .ok (.iload_n 3, 1) := by decide +kernel
theorem dX2_criticalFan_39 : decode cX2_criticalFan 39 = .ok (.iconst (-1), 1) := by decide +kernel
theorem dX2_criticalFan_40 : decode cX2_criticalFan 40 = .ok (.if_icmp .eq 10, 3) := by decide +kernel
theorem dX2_criticalFan_43 : decode cX2_criticalFan 43 = .ok (.iload 6, 2) := by decide +kernel
theorem dX2_criticalFan_45 : decode cX2_criticalFan 45 = .ok (.iload 4, 2) := by decide +kernel
theorem dX2_criticalFan_47 : decode cX2_criticalFan 47 = .ok (.if_icmp .le 10, 3) := by decide +kernel
theorem dX2_criticalFan_50 : decode cX2_criticalFan 50 = .ok (.iload 5, 2) := by decide +kernel
theorem dX2_criticalFan_52 : decode cX2_criticalFan 52 = .ok (.istore_n 3, 1) := by decide +kernel
theorem dX2_criticalFan_53 : decode cX2_criticalFan 53 = .ok (.iload 6, 2) := by decide +kernel
theorem dX2_criticalFan_55 : decode cX2_criticalFan 55 = .ok (.istore 4, 2) := by decide +kernel
theorem dX2_criticalFan_57 : decode cX2_criticalFan 57 = .ok (.iinc 5 1, 3) := by decide +kernel
theorem dX2_criticalFan_60 : decode cX2_criticalFan 60 = .ok (.goto (-52), 3) := by decide +kernel
theorem dX2_criticalFan_63 : decode cX2_criticalFan 63 = .ok (.iload_n 3, 1) := by decide +kernel
theorem dX2_criticalFan_64 : decode cX2_criticalFan 64 = .ok (.ireturn, 1) := by decide +kernel
set_option maxRecDepth 20000 in
theorem ggX2_greatestTemperature_X0_copyFrom : GoodIn wsX2_greatestTemperature wsX0_copyFrom := goodIn_r _ [13, 14, 15, 16, 17, 18, 19, 20, 21, 22, 23, 24, 88, 89, 90, 91, 92, 93, 94] (by decide +kernel) (by decide +kernel)
set_option maxRecDepth 20000 in
theorem gX2_greatestTemperature_X0_copyFrom : GoodIn wsX2_greatestTemperature (wsV RX2 128 RX0 yX0_copyFrom wsX0_copyFrom) := goodIn_app (goodIn_of _ (by decide +kernel)) ggX2_greatestTemperature_X0_copyFrom
set_option maxRecDepth 20000 in
theorem ggX2_greatestTemperature_X0_stopFan : GoodIn wsX2_greatestTemperature wsX0_stopFan := goodIn_r _ [28, 22, 21, 88, 89, 90, 91, 92, 93, 94] (by decide +kernel) (by decide +kernel)
set_option maxRecDepth 20000 in
theorem gX2_greatestTemperature_X0_stopFan : GoodIn wsX2_greatestTemperature (wsV RX2 84 RX0 yX0_stopFan wsX0_stopFan) := goodIn_app (goodIn_of _ (by decide +kernel)) ggX2_greatestTemperature_X0_stopFan
set_option maxRecDepth 20000 in
theorem ggX2_greatestTemperature_X0_runMinute : GoodIn wsX2_greatestTemperature wsX0_runMinute := goodIn_r _ [32, 20, 14, 33, 34, 35, 12, 36, 37, 19, 38, 39, 40, 41, 42, 43, 44, 7, 45, 5, 6, 8, 46, 47, 48, 49, 50, 51, 52, 53, 54, 22, 55, 56, 57, 58, 59, 24, 60, 61, 62, 63, 64, 65, 66, 23, 67, 68, 69, 70, 71, 72, 73, 74, 75, 76, 21, 77, 78, 79, 80, 81, 82, 88, 89, 90, 91, 92, 93, 94, 95, 96, 97, 98, 99, 100, 101, 102] (by decide +kernel) (by decide +kernel)
set_option maxRecDepth 20000 in
theorem gX2_greatestTemperature_X0_runMinute : GoodIn wsX2_greatestTemperature (wsV RX2 103 RX0 yX0_runMinute wsX0_runMinute) := goodIn_app (goodIn_of _ (by decide +kernel)) ggX2_greatestTemperature_X0_runMinute
theorem dX2_greatestTemperature_0 : decode cX2_greatestTemperature 0 = .ok (.aload_n 0, 1) := by decide +kernel
theorem dX2_greatestTemperature_1 : decode cX2_greatestTemperature 1 = .ok (.getfield 23, 3) := by decide +kernel
theorem dX2_greatestTemperature_4 : decode cX2_greatestTemperature 4 = .ok (.aload_n 0, 1) := by decide +kernel
theorem dX2_greatestTemperature_5 : decode cX2_greatestTemperature 5 = .ok (.getfield 19, 3) := by decide +kernel
theorem dX2_greatestTemperature_8 : decode cX2_greatestTemperature 8 = .ok (.invokevirtual 128, 3) := by decide +kernel
theorem dX2_greatestTemperature_11 : decode cX2_greatestTemperature 11 = .ok (.iload_n 3, 1) := by decide +kernel
theorem dX2_greatestTemperature_12 : decode cX2_greatestTemperature 12 = .ok (.iconst (-1), 1) := by decide +kernel
theorem dX2_greatestTemperature_13 : decode cX2_greatestTemperature 13 = .ok (.if_icmp .eq 11, 3) := by decide +kernel
theorem dX2_greatestTemperature_16 : decode cX2_greatestTemperature 16 = .ok (.aload_n 0, 1) := by decide +kernel
theorem dX2_greatestTemperature_17 : decode cX2_greatestTemperature 17 = .ok (.getfield 23, 3) := by decide +kernel
theorem dX2_greatestTemperature_20 : decode cX2_greatestTemperature 20 = .ok (.iload_n 3, 1) := by decide +kernel
theorem dX2_greatestTemperature_21 : decode cX2_greatestTemperature 21 = .ok (.invokevirtual 84, 3) := by decide +kernel
theorem dX2_greatestTemperature_24 : decode cX2_greatestTemperature 24 = .ok (.aload_n 0, 1) := by decide +kernel
theorem dX2_greatestTemperature_25 : decode cX2_greatestTemperature 25 = .ok (.getfield 23, 3) := by decide +kernel
theorem dX2_greatestTemperature_28 : decode cX2_greatestTemperature 28 = .ok (.aload_n 0, 1) := by decide +kernel
theorem dX2_greatestTemperature_29 : decode cX2_greatestTemperature 29 = .ok (.getfield 10, 3) := by decide +kernel
theorem dX2_greatestTemperature_32 : decode cX2_greatestTemperature 32 = .ok (.invokevirtual 103, 3) := by decide +kernel
theorem dX2_greatestTemperature_35 : decode cX2_greatestTemperature 35 = .ok (.aload_n 0, 1) := by decide +kernel
theorem dX2_greatestTemperature_36 : decode cX2_greatestTemperature 36 = .ok (.getfield 23, 3) := by decide +kernel
theorem dX2_greatestTemperature_39 : decode cX2_greatestTemperature 39 = .ok (.getfield 110, 3) := by decide +kernel
theorem dX2_greatestTemperature_42 : decode cX2_greatestTemperature 42 = .ok (.iload_n 1, 1) := by decide +kernel
theorem dX2_greatestTemperature_43 : decode cX2_greatestTemperature 43 = .ok (.iaload, 1) := by decide +kernel
theorem dX2_greatestTemperature_44 : decode cX2_greatestTemperature 44 = .ok (.istore 4, 2) := by decide +kernel
theorem dX2_greatestTemperature_46 : decode cX2_greatestTemperature 46 = .ok (.iconst 1, 1) := by decide +kernel
theorem dX2_greatestTemperature_47 : decode cX2_greatestTemperature 47 = .ok (.istore 5, 2) := by decide +kernel
theorem dX2_greatestTemperature_49 : decode cX2_greatestTemperature 49 = .ok (.iload 5, 2) := by decide +kernel
theorem dX2_greatestTemperature_51 : decode cX2_greatestTemperature 51 = .ok (.iload_n 2, 1) := by decide +kernel
theorem dX2_greatestTemperature_52 : decode cX2_greatestTemperature 52 = .ok (.if_icmp .ge 36, 3) := by decide +kernel
theorem dX2_greatestTemperature_55 : decode cX2_greatestTemperature 55 = .ok (.aload_n 0, 1) := by decide +kernel
theorem dX2_greatestTemperature_56 : decode cX2_greatestTemperature 56 = .ok (.getfield 23, 3) := by decide +kernel
theorem dX2_greatestTemperature_59 : decode cX2_greatestTemperature 59 = .ok (.aload_n 0, 1) := by decide +kernel
theorem dX2_greatestTemperature_60 : decode cX2_greatestTemperature 60 = .ok (.getfield 10, 3) := by decide +kernel
theorem dX2_greatestTemperature_63 : decode cX2_greatestTemperature 63 = .ok (.invokevirtual 103, 3) := by decide +kernel
theorem dX2_greatestTemperature_66 : decode cX2_greatestTemperature 66 = .ok (.iload 4, 2) := by decide +kernel
theorem dX2_greatestTemperature_68 : decode cX2_greatestTemperature 68 = .ok (.aload_n 0, 1) := by decide +kernel
theorem dX2_greatestTemperature_69 : decode cX2_greatestTemperature 69 = .ok (.getfield 23, 3) := by decide +kernel
theorem dX2_greatestTemperature_72 : decode cX2_greatestTemperature 72 = .ok (.getfield 110, 3) := by decide +kernel
theorem dX2_greatestTemperature_75 : decode cX2_greatestTemperature 75 = .ok (.iload_n 1, 1) := by decide +kernel
theorem dX2_greatestTemperature_76 : decode cX2_greatestTemperature 76 = .ok (.iaload, 1) := by decide +kernel
theorem dX2_greatestTemperature_77 : decode cX2_greatestTemperature 77 = .ok (.invokestatic 132, 3) := by decide +kernel
theorem dX2_greatestTemperature_80 : decode cX2_greatestTemperature 80 = .ok (.istore 4, 2) := by decide +kernel
theorem dX2_greatestTemperature_82 : decode cX2_greatestTemperature 82 = .ok (.iinc 5 1, 3) := by decide +kernel
theorem dX2_greatestTemperature_85 : decode cX2_greatestTemperature 85 = .ok (.goto (-36), 3) := by decide +kernel
theorem dX2_greatestTemperature_88 : decode cX2_greatestTemperature 88 = .ok (.iload 4, 2) := by decide +kernel
theorem dX2_greatestTemperature_90 : decode cX2_greatestTemperature 90 = .ok (.ireturn, 1) := by decide +kernel
theorem dX2_noteHotZones_0 : decode cX2_noteHotZones 0 = .ok (.iconst 0, 1) := by decide +kernel
theorem dX2_noteHotZones_1 : decode cX2_noteHotZones 1 = .ok (.istore_n 1, 1) := by decide +kernel
theorem dX2_noteHotZones_2 : decode cX2_noteHotZones 2 = .ok (.iconst 0, 1) := by decide +kernel
theorem dX2_noteHotZones_3 : decode cX2_noteHotZones 3 = .ok (.istore_n 2, 1) := by decide +kernel
theorem dX2_noteHotZones_4 : decode cX2_noteHotZones 4 = .ok (.iload_n 2, 1) := by decide +kernel
theorem dX2_noteHotZones_5 : decode cX2_noteHotZones 5 = .ok (.bipush 6, 2) := by decide +kernel
theorem dX2_noteHotZones_7 : decode cX2_noteHotZones 7 = .ok (.if_icmp .ge 41, 3) := by decide +kernel
theorem dX2_noteHotZones_10 : decode cX2_noteHotZones 10 = .ok (.aload_n 0, 1) := by decide +kernel
theorem dX2_noteHotZones_11 : decode cX2_noteHotZones 11 = .ok (.getfield 19, 3) := by decide +kernel
theorem dX2_noteHotZones_14 : decode cX2_noteHotZones 14 = .ok (.getfield 110, 3) := by decide +kernel
theorem dX2_noteHotZones_17 : decode cX2_noteHotZones 17 = .ok (.iload_n 2, 1) := by decide +kernel
theorem dX2_noteHotZones_18 : decode cX2_noteHotZones 18 = .ok (.iaload, 1) := by decide +kernel
theorem dX2_noteHotZones_19 : decode cX2_noteHotZones 19 = .ok (.aload_n 0, 1) := by decide +kernel
theorem dX2_noteHotZones_20 : decode cX2_noteHotZones 20 = .ok (.getfield 10, 3) := by decide +kernel
theorem dX2_noteHotZones_23 : decode cX2_noteHotZones 23 = .ok (.getfield 67, 3) := by decide +kernel
theorem dX2_noteHotZones_26 : decode cX2_noteHotZones 26 = .ok (.if_icmp .le 16, 3) := by decide +kernel
theorem dX2_noteHotZones_29 : decode cX2_noteHotZones 29 = .ok (.aload_n 0, 1) := by decide +kernel
theorem dX2_noteHotZones_30 : decode cX2_noteHotZones 30 = .ok (.getfield 26, 3) := by decide +kernel
theorem dX2_noteHotZones_33 : decode cX2_noteHotZones 33 = .ok (.iload_n 2, 1) := by decide +kernel
theorem dX2_noteHotZones_34 : decode cX2_noteHotZones 34 = .ok (.dup2, 1) := by decide +kernel
theorem dX2_noteHotZones_35 : decode cX2_noteHotZones 35 = .ok (.iaload, 1) := by decide +kernel
theorem dX2_noteHotZones_36 : decode cX2_noteHotZones 36 = .ok (.iconst 1, 1) := by decide +kernel
theorem dX2_noteHotZones_37 : decode cX2_noteHotZones 37 = .ok (.iadd, 1) := by decide +kernel
theorem dX2_noteHotZones_38 : decode cX2_noteHotZones 38 = .ok (.iastore, 1) := by decide +kernel
theorem dX2_noteHotZones_39 : decode cX2_noteHotZones 39 = .ok (.iinc 1 1, 3) := by decide +kernel
theorem dX2_noteHotZones_42 : decode cX2_noteHotZones 42 = .ok (.iinc 2 1, 3) := by decide +kernel
theorem dX2_noteHotZones_45 : decode cX2_noteHotZones 45 = .ok (.goto (-41), 3) := by decide +kernel
theorem dX2_noteHotZones_48 : decode cX2_noteHotZones 48 = .ok (.iload_n 1, 1) := by decide +kernel
theorem dX2_noteHotZones_49 : decode cX2_noteHotZones 49 = .ok (.ireturn, 1) := by decide +kernel
set_option maxRecDepth 20000 in
theorem ggX2_requireForecast_X2_requireZone : GoodIn wsX2_requireForecast wsX2_requireZone := goodIn_ca (goodIn_r _ [4, 5, 6, 3, 7, 8, 9] (by decide +kernel) (by decide +kernel)) (goodIn_sub (fun _ h => List.mem_cons_of_mem _ (List.mem_append_right _ h)) (by decide +kernel))
set_option maxRecDepth 20000 in
theorem gX2_requireForecast_X2_requireZone : GoodIn wsX2_requireForecast (va_wsS RX2 34 yX2_requireZone wsX2_requireZone) := goodIn_app (goodIn_of _ (by decide +kernel)) ggX2_requireForecast_X2_requireZone
set_option maxRecDepth 20000 in
theorem ggX2_requireForecast_X2_requireWithin : GoodIn wsX2_requireForecast wsX2_requireWithin := goodIn_ca (goodIn_r _ [7, 8, 9] (by decide +kernel) (by decide +kernel)) (goodIn_sub (fun _ h => List.mem_cons_of_mem _ (List.mem_append_right _ h)) (by decide +kernel))
set_option maxRecDepth 20000 in
theorem gX2_requireForecast_X2_requireWithin : GoodIn wsX2_requireForecast (va_wsS RX2 38 yX2_requireWithin wsX2_requireWithin) := goodIn_app (goodIn_of _ (by decide +kernel)) ggX2_requireForecast_X2_requireWithin
theorem dX2_requireForecast_0 : decode cX2_requireForecast 0 = .ok (.iload_n 0, 1) := by decide +kernel
theorem dX2_requireForecast_1 : decode cX2_requireForecast 1 = .ok (.invokestatic 34, 3) := by decide +kernel
theorem dX2_requireForecast_4 : decode cX2_requireForecast 4 = .ok (.iload_n 1, 1) := by decide +kernel
theorem dX2_requireForecast_5 : decode cX2_requireForecast 5 = .ok (.iconst 1, 1) := by decide +kernel
theorem dX2_requireForecast_6 : decode cX2_requireForecast 6 = .ok (.bipush 60, 2) := by decide +kernel
theorem dX2_requireForecast_8 : decode cX2_requireForecast 8 = .ok (.invokestatic 38, 3) := by decide +kernel
theorem dX2_requireForecast_11 : decode cX2_requireForecast 11 = .ok (.return_, 1) := by decide +kernel
set_option maxRecDepth 20000 in
theorem ggX2_requireZone_X2_requireWithin : GoodIn wsX2_requireZone wsX2_requireWithin := goodIn_ca (goodIn_r _ [4, 5, 6] (by decide +kernel) (by decide +kernel)) (goodIn_sub (fun _ h => List.mem_cons_of_mem _ (List.mem_append_right _ h)) (by decide +kernel))
set_option maxRecDepth 20000 in
theorem gX2_requireZone_X2_requireWithin : GoodIn wsX2_requireZone (va_wsS RX2 38 yX2_requireWithin wsX2_requireWithin) := goodIn_app (goodIn_of _ (by decide +kernel)) ggX2_requireZone_X2_requireWithin
theorem dX2_requireZone_0 : decode cX2_requireZone 0 = .ok (.iload_n 0, 1) := by decide +kernel
theorem dX2_requireZone_1 : decode cX2_requireZone 1 = .ok (.iconst 0, 1) := by decide +kernel
theorem dX2_requireZone_2 : decode cX2_requireZone 2 = .ok (.iconst 5, 1) := by decide +kernel
theorem dX2_requireZone_3 : decode cX2_requireZone 3 = .ok (.invokestatic 38, 3) := by decide +kernel
theorem dX2_requireZone_6 : decode cX2_requireZone 6 = .ok (.return_, 1) := by decide +kernel
set_option maxRecDepth 20000 in
theorem ggX2_requireFan_X2_requireWithin : GoodIn wsX2_requireFan wsX2_requireWithin := goodIn_ca (goodIn_r _ [4, 5, 6] (by decide +kernel) (by decide +kernel)) (goodIn_sub (fun _ h => List.mem_cons_of_mem _ (List.mem_append_right _ h)) (by decide +kernel))
set_option maxRecDepth 20000 in
theorem gX2_requireFan_X2_requireWithin : GoodIn wsX2_requireFan (va_wsS RX2 38 yX2_requireWithin wsX2_requireWithin) := goodIn_app (goodIn_of _ (by decide +kernel)) ggX2_requireFan_X2_requireWithin
theorem dX2_requireFan_0 : decode cX2_requireFan 0 = .ok (.iload_n 0, 1) := by decide +kernel
theorem dX2_requireFan_1 : decode cX2_requireFan 1 = .ok (.iconst 0, 1) := by decide +kernel
theorem dX2_requireFan_2 : decode cX2_requireFan 2 = .ok (.bipush 7, 2) := by decide +kernel
theorem dX2_requireFan_4 : decode cX2_requireFan 4 = .ok (.invokestatic 38, 3) := by decide +kernel
theorem dX2_requireFan_7 : decode cX2_requireFan 7 = .ok (.return_, 1) := by decide +kernel
theorem dX2_requireWithin_0 : decode cX2_requireWithin 0 = .ok (.iload_n 0, 1) := by decide +kernel
theorem dX2_requireWithin_1 : decode cX2_requireWithin 1 = .ok (.iload_n 1, 1) := by decide +kernel
theorem dX2_requireWithin_2 : decode cX2_requireWithin 2 = .ok (.if_icmp .lt 8, 3) := by decide +kernel
theorem dX2_requireWithin_5 : decode cX2_requireWithin 5 = .ok (.iload_n 0, 1) := by decide +kernel
theorem dX2_requireWithin_6 : decode cX2_requireWithin 6 = .ok (.iload_n 2, 1) := by decide +kernel
theorem dX2_requireWithin_7 : decode cX2_requireWithin 7 = .ok (.if_icmp .le 13, 3) := by decide +kernel
theorem dX2_requireWithin_10 : decode cX2_requireWithin 10 = .ok (.new 137, 3) := by decide +kernel
theorem dX2_requireWithin_13 : decode cX2_requireWithin 13 = .ok (.dup, 1) := by decide +kernel
theorem dX2_requireWithin_14 : decode cX2_requireWithin 14 = .ok (.ldc 139, 2) := by decide +kernel
theorem dX2_requireWithin_16 : decode cX2_requireWithin 16 = .ok (.invokespecial 141, 3) := by decide +kernel
theorem dX2_requireWithin_19 : decode cX2_requireWithin 19 = .ok (.athrow, 1) := by decide +kernel
theorem dX2_requireWithin_20 : decode cX2_requireWithin 20 = .ok (.return_, 1) := by decide +kernel
theorem dX2_holdWithin_0 : decode cX2_holdWithin 0 = .ok (.iload_n 1, 1) := by decide +kernel
theorem dX2_holdWithin_1 : decode cX2_holdWithin 1 = .ok (.iload_n 2, 1) := by decide +kernel
theorem dX2_holdWithin_2 : decode cX2_holdWithin 2 = .ok (.iload_n 0, 1) := by decide +kernel
theorem dX2_holdWithin_3 : decode cX2_holdWithin 3 = .ok (.invokestatic 142, 3) := by decide +kernel
theorem dX2_holdWithin_6 : decode cX2_holdWithin 6 = .ok (.invokestatic 132, 3) := by decide +kernel
theorem dX2_holdWithin_9 : decode cX2_holdWithin 9 = .ok (.ireturn, 1) := by decide +kernel
