theorem dL_isRefused_396 : decode cL_isRefused 396 = .ok (.iload 9, 2) := by decide +kernel
theorem dL_isRefused_398 : decode cL_isRefused 398 = .ok (.iload 9, 2) := by decide +kernel
theorem dL_isRefused_400 : decode cL_isRefused 400 = .ok (.iconst 2, 1) := by decide +kernel
theorem dL_isRefused_401 : decode cL_isRefused 401 = .ok (.if_icmp .ge 8, 3) := by decide +kernel
theorem dL_isRefused_404 : decode cL_isRefused 404 = .ok (.iload 5, 2) := by decide +kernel
theorem dL_isRefused_406 : decode cL_isRefused 406 = .ok (.goto 5, 3) := by decide +kernel
theorem dL_isRefused_409 : decode cL_isRefused 409 = .ok (.iload 4, 2) := by decide +kernel
theorem dL_isRefused_411 : decode cL_isRefused 411 = .ok (.iconst 5, 1) := by decide +kernel
theorem dL_isRefused_412 : decode cL_isRefused 412 = .ok (.invokestatic 109, 3) := by decide +kernel
theorem dL_isRefused_415 : decode cL_isRefused 415 = .ok (.ldc 37, 2) := by decide +kernel
theorem dL_isRefused_417 : decode cL_isRefused 417 = .ok (.if_icmp .ne 36, 3) := by decide +kernel
theorem dL_isRefused_420 : decode cL_isRefused 420 = .ok (.iload 9, 2) := by decide +kernel
theorem dL_isRefused_422 : decode cL_isRefused 422 = .ok (.bipush 6, 2) := by decide +kernel
theorem dL_isRefused_424 : decode cL_isRefused 424 = .ok (.if_icmp .lt 25, 3) := by decide +kernel
theorem dL_isRefused_427 : decode cL_isRefused 427 = .ok (.aload_n 0, 1) := by decide +kernel
theorem dL_isRefused_428 : decode cL_isRefused 428 = .ok (.iload 9, 2) := by decide +kernel
theorem dL_isRefused_430 : decode cL_isRefused 430 = .ok (.iconst 1, 1) := by decide +kernel
theorem dL_isRefused_431 : decode cL_isRefused 431 = .ok (.iload_n 3, 1) := by decide +kernel
theorem dL_isRefused_432 : decode cL_isRefused 432 = .ok (.ifCond .eq 7, 3) := by decide +kernel
theorem dL_isRefused_435 : decode cL_isRefused 435 = .ok (.iconst 0, 1) := by decide +kernel
theorem dL_isRefused_436 : decode cL_isRefused 436 = .ok (.goto 5, 3) := by decide +kernel
theorem dL_isRefused_439 : decode cL_isRefused 439 = .ok (.bipush 61, 2) := by decide +kernel
theorem dL_isRefused_441 : decode cL_isRefused 441 = .ok (.invokestatic 109, 3) := by decide +kernel
theorem dL_isRefused_444 : decode cL_isRefused 444 = .ok (.ldc 37, 2) := by decide +kernel
theorem dL_isRefused_446 : decode cL_isRefused 446 = .ok (.if_icmp .ne 7, 3) := by decide +kernel
theorem dL_isRefused_449 : decode cL_isRefused 449 = .ok (.iconst 1, 1) := by decide +kernel
theorem dL_isRefused_450 : decode cL_isRefused 450 = .ok (.goto 4, 3) := by decide +kernel
theorem dL_isRefused_453 : decode cL_isRefused 453 = .ok (.iconst 0, 1) := by decide +kernel
theorem dL_isRefused_454 : decode cL_isRefused 454 = .ok (.istore 8, 2) := by decide +kernel
theorem dL_isRefused_456 : decode cL_isRefused 456 = .ok (.iinc 9 1, 3) := by decide +kernel
theorem dL_isRefused_459 : decode cL_isRefused 459 = .ok (.goto (-76), 3) := by decide +kernel
theorem dL_isRefused_462 : decode cL_isRefused 462 = .ok (.iconst 0, 1) := by decide +kernel
theorem dL_isRefused_463 : decode cL_isRefused 463 = .ok (.istore 9, 2) := by decide +kernel
theorem dL_isRefused_465 : decode cL_isRefused 465 = .ok (.iload 9, 2) := by decide +kernel
theorem dL_isRefused_467 : decode cL_isRefused 467 = .ok (.bipush 8, 2) := by decide +kernel
theorem dL_isRefused_469 : decode cL_isRefused 469 = .ok (.if_icmp .ge 50, 3) := by decide +kernel
theorem dL_isRefused_472 : decode cL_isRefused 472 = .ok (.iload 8, 2) := by decide +kernel
theorem dL_isRefused_474 : decode cL_isRefused 474 = .ok (.ifCond .eq 45, 3) := by decide +kernel
theorem dL_isRefused_477 : decode cL_isRefused 477 = .ok (.aload_n 0, 1) := by decide +kernel
theorem dL_isRefused_478 : decode cL_isRefused 478 = .ok (.aload_n 1, 1) := by decide +kernel
theorem dL_isRefused_479 : decode cL_isRefused 479 = .ok (.iconst 5, 1) := by decide +kernel
theorem dL_isRefused_480 : decode cL_isRefused 480 = .ok (.iaload, 1) := by decide +kernel
theorem dL_isRefused_481 : decode cL_isRefused 481 = .ok (.iload 9, 2) := by decide +kernel
theorem dL_isRefused_483 : decode cL_isRefused 483 = .ok (.ishr, 1) := by decide +kernel
theorem dL_isRefused_484 : decode cL_isRefused 484 = .ok (.iconst 1, 1) := by decide +kernel
theorem dL_isRefused_485 : decode cL_isRefused 485 = .ok (.iand, 1) := by decide +kernel
theorem dL_isRefused_486 : decode cL_isRefused 486 = .ok (.ifCond .ne 7, 3) := by decide +kernel
theorem dL_isRefused_489 : decode cL_isRefused 489 = .ok (.iconst 5, 1) := by decide +kernel
theorem dL_isRefused_490 : decode cL_isRefused 490 = .ok (.goto 4, 3) := by decide +kernel
theorem dL_isRefused_493 : decode cL_isRefused 493 = .ok (.iconst 4, 1) := by decide +kernel
theorem dL_isRefused_494 : decode cL_isRefused 494 = .ok (.iload 9, 2) := by decide +kernel
theorem dL_isRefused_496 : decode cL_isRefused 496 = .ok (.iconst 0, 1) := by decide +kernel
theorem dL_isRefused_497 : decode cL_isRefused 497 = .ok (.iconst 0, 1) := by decide +kernel
theorem dL_isRefused_498 : decode cL_isRefused 498 = .ok (.invokestatic 100, 3) := by decide +kernel
theorem dL_isRefused_501 : decode cL_isRefused 501 = .ok (.ldc 40, 2) := by decide +kernel
theorem dL_isRefused_503 : decode cL_isRefused 503 = .ok (.if_icmp .ne 7, 3) := by decide +kernel
theorem dL_isRefused_506 : decode cL_isRefused 506 = .ok (.iconst 1, 1) := by decide +kernel
theorem dL_isRefused_507 : decode cL_isRefused 507 = .ok (.goto 4, 3) := by decide +kernel
theorem dL_isRefused_510 : decode cL_isRefused 510 = .ok (.iconst 0, 1) := by decide +kernel
theorem dL_isRefused_511 : decode cL_isRefused 511 = .ok (.istore 8, 2) := by decide +kernel
theorem dL_isRefused_513 : decode cL_isRefused 513 = .ok (.iinc 9 1, 3) := by decide +kernel
theorem dL_isRefused_516 : decode cL_isRefused 516 = .ok (.goto (-51), 3) := by decide +kernel
theorem dL_isRefused_519 : decode cL_isRefused 519 = .ok (.iload 8, 2) := by decide +kernel
theorem dL_isRefused_521 : decode cL_isRefused 521 = .ok (.ifCond .eq 17, 3) := by decide +kernel
theorem dL_isRefused_524 : decode cL_isRefused 524 = .ok (.aload_n 0, 1) := by decide +kernel
theorem dL_isRefused_525 : decode cL_isRefused 525 = .ok (.invokestatic 94, 3) := by decide +kernel
theorem dL_isRefused_528 : decode cL_isRefused 528 = .ok (.lload 6, 2) := by decide +kernel
theorem dL_isRefused_530 : decode cL_isRefused 530 = .ok (.lcmp, 1) := by decide +kernel
theorem dL_isRefused_531 : decode cL_isRefused 531 = .ok (.ifCond .ne 7, 3) := by decide +kernel
theorem dL_isRefused_534 : decode cL_isRefused 534 = .ok (.iconst 1, 1) := by decide +kernel
theorem dL_isRefused_535 : decode cL_isRefused 535 = .ok (.goto 4, 3) := by decide +kernel
theorem dL_isRefused_538 : decode cL_isRefused 538 = .ok (.iconst 0, 1) := by decide +kernel
theorem dL_isRefused_539 : decode cL_isRefused 539 = .ok (.ireturn, 1) := by decide +kernel
set_option maxRecDepth 20000 in
theorem ggL_isMinute_X2_clock : GoodIn wsL_isMinute wsX2_clock := goodIn_r _ [6, 7, 193, 194, 195, 196, 197] (by decide +kernel) (by decide +kernel)
set_option maxRecDepth 20000 in
theorem gL_isMinute_X2_clock : GoodIn wsL_isMinute (wsV RL 75 RX2 yX2_clock wsX2_clock) := goodIn_app (goodIn_of _ (by decide +kernel)) ggL_isMinute_X2_clock
set_option maxRecDepth 20000 in
theorem ggL_isMinute_X2_expected : GoodIn wsL_isMinute wsX2_expected := goodIn_ca (goodIn_r _ [11, 12, 13, 5, 14, 15, 16, 17, 18, 19, 20, 21, 22, 23, 24, 25, 26, 27, 28, 29, 30, 31, 32, 33, 34, 35, 36, 37, 38, 39, 40, 41, 42, 43, 44, 45, 46, 47, 48, 49, 50, 51, 52, 53, 54, 55, 56, 57, 58, 59, 60, 61, 62, 63, 64, 65, 66, 67, 68, 69, 70, 71, 72, 73, 74, 75, 76, 77, 78, 79, 80, 81, 82, 83, 84, 85, 86, 87, 88, 89, 90, 91, 92, 93, 94, 95, 96, 97, 98, 99, 100, 101, 102, 103, 104, 105, 106, 107, 193, 194, 195, 196, 197, 198, 199, 200, 201, 202, 203, 204, 205, 206, 207, 208, 209, 210, 211, 212] (by decide +kernel) (by decide +kernel)) (goodIn_sub (fun _ h => List.mem_cons_of_mem _ (List.mem_append_left _ (List.mem_append_right _ h))) (by decide +kernel))
set_option maxRecDepth 20000 in
theorem gL_isMinute_X2_expected : GoodIn wsL_isMinute (wsV RL 66 RX2 yX2_expected wsX2_expected) := goodIn_app (goodIn_of _ (by decide +kernel)) ggL_isMinute_X2_expected
set_option maxRecDepth 20000 in
theorem ggL_isMinute_X2_temperature : GoodIn wsL_isMinute wsX2_temperature := goodIn_ca (goodIn_r _ [111, 28, 30, 15, 16, 5, 17, 18, 19, 20, 21, 22, 193, 194, 195, 196, 197, 198, 199, 200, 201, 202, 203, 204] (by decide +kernel) (by decide +kernel)) (goodIn_sub (fun _ h => List.mem_cons_of_mem _ (List.mem_append_left _ (List.mem_append_right _ h))) (by decide +kernel))
set_option maxRecDepth 20000 in
theorem gL_isMinute_X2_temperature : GoodIn wsL_isMinute (wsV RL 54 RX2 yX2_temperature wsX2_temperature) := goodIn_app (goodIn_of _ (by decide +kernel)) ggL_isMinute_X2_temperature
set_option maxRecDepth 20000 in
theorem ggL_isMinute_X2_errors : GoodIn wsL_isMinute wsX2_errors := goodIn_ca (goodIn_r _ [115, 28, 116, 15, 16, 5, 17, 18, 19, 20, 21, 22, 193, 194, 195, 196, 197, 198, 199, 200, 201, 202, 203, 204] (by decide +kernel) (by decide +kernel)) (goodIn_sub (fun _ h => List.mem_cons_of_mem _ (List.mem_append_left _ (List.mem_append_right _ h))) (by decide +kernel))
set_option maxRecDepth 20000 in
theorem gL_isMinute_X2_errors : GoodIn wsL_isMinute (wsV RL 60 RX2 yX2_errors wsX2_errors) := goodIn_app (goodIn_of _ (by decide +kernel)) ggL_isMinute_X2_errors
set_option maxRecDepth 20000 in
theorem ggL_isMinute_X2_hotMinutes : GoodIn wsL_isMinute wsX2_hotMinutes := goodIn_ca (goodIn_r _ [120, 121, 15, 16, 5, 17, 18, 19, 20, 21, 22, 193, 194, 195, 196, 197] (by decide +kernel) (by decide +kernel)) (goodIn_sub (fun _ h => List.mem_cons_of_mem _ (List.mem_append_left _ (List.mem_append_right _ h))) (by decide +kernel))
set_option maxRecDepth 20000 in
theorem gL_isMinute_X2_hotMinutes : GoodIn wsL_isMinute (wsV RL 63 RX2 yX2_hotMinutes wsX2_hotMinutes) := goodIn_app (goodIn_of _ (by decide +kernel)) ggL_isMinute_X2_hotMinutes
set_option maxRecDepth 20000 in
theorem ggL_isMinute_L_set : GoodIn wsL_isMinute wsL_set := goodIn_ca (goodIn_ca (goodIn_r _ [125, 126, 127, 128, 129, 130, 131, 132, 5, 133, 29, 134, 15, 16, 17, 18, 19, 20, 21, 22, 135, 136, 137, 138, 139, 28, 116, 140, 141, 142, 143, 144, 145, 146, 147, 148, 149, 150, 151, 152, 153, 154, 155, 156, 157, 158, 159, 51, 52, 53, 38, 54, 48, 47, 160, 161, 162, 163, 164, 165, 166, 167, 168, 169, 170, 171, 7, 172, 55, 56, 57, 58, 46, 40, 59, 60, 61, 62, 63, 45, 64, 65, 66, 67, 68, 69, 33, 70, 31, 32, 34, 71, 72, 73, 74, 75, 76, 77, 78, 79, 80, 81, 82, 83, 84, 50, 85, 86, 87, 88, 89, 90, 91, 49, 92, 93, 94, 95, 96, 97, 98, 99, 100, 101, 102, 103, 104, 105, 106, 107, 173, 174, 175, 176, 30, 177, 121, 193, 194, 195, 196, 197, 205, 206, 207, 208, 209, 210, 211, 212, 198, 199, 200, 201, 202, 203, 204] (by decide +kernel) (by decide +kernel)) (goodIn_sub (fun _ h => List.mem_cons_of_mem _ (List.mem_append_left _ (List.mem_append_right _ h))) (by decide +kernel))) (goodIn_sub (fun _ h => List.mem_cons_of_mem _ (List.mem_append_right _ h)) (by decide +kernel))
set_option maxRecDepth 20000 in
theorem gL_isMinute_L_set : GoodIn wsL_isMinute (va_wsS RL 100 yL_set wsL_set) := goodIn_app (goodIn_of _ (by decide +kernel)) ggL_isMinute_L_set
set_option maxRecDepth 20000 in
theorem ggL_isMinute_X2_speed : GoodIn wsL_isMinute wsX2_speed := goodIn_ca (goodIn_r _ [181, 28, 182, 145, 146, 5, 147, 18, 19, 20, 21, 22, 193, 194, 195, 196, 197, 198, 199, 200, 201, 202, 203, 204] (by decide +kernel) (by decide +kernel)) (goodIn_sub (fun _ h => List.mem_cons_of_mem _ (List.mem_append_left _ (List.mem_append_right _ h))) (by decide +kernel))
set_option maxRecDepth 20000 in
theorem gL_isMinute_X2_speed : GoodIn wsL_isMinute (wsV RL 51 RX2 yX2_speed wsX2_speed) := goodIn_app (goodIn_of _ (by decide +kernel)) ggL_isMinute_X2_speed
set_option maxRecDepth 20000 in
theorem ggL_isMinute_X2_demand : GoodIn wsL_isMinute wsX2_demand := goodIn_ca (goodIn_r _ [186, 28, 187, 15, 16, 5, 17, 18, 19, 20, 21, 22, 193, 194, 195, 196, 197, 198, 199, 200, 201, 202, 203, 204] (by decide +kernel) (by decide +kernel)) (goodIn_sub (fun _ h => List.mem_cons_of_mem _ (List.mem_append_left _ (List.mem_append_right _ h))) (by decide +kernel))
set_option maxRecDepth 20000 in
theorem gL_isMinute_X2_demand : GoodIn wsL_isMinute (wsV RL 57 RX2 yX2_demand wsX2_demand) := goodIn_app (goodIn_of _ (by decide +kernel)) ggL_isMinute_X2_demand
set_option maxRecDepth 20000 in
theorem ggL_isMinute_X2_command : GoodIn wsL_isMinute wsX2_command := goodIn_ca (goodIn_r _ [191, 28, 145, 146, 5, 147, 18, 19, 20, 21, 22, 192, 89, 90, 38, 91, 49, 50, 85, 86, 73, 87, 193, 194, 195, 196, 197, 198, 199, 200, 201, 202, 203, 204] (by decide +kernel) (by decide +kernel)) (goodIn_sub (fun _ h => List.mem_cons_of_mem _ (List.mem_append_left _ (List.mem_append_right _ h))) (by decide +kernel))
set_option maxRecDepth 20000 in
theorem gL_isMinute_X2_command : GoodIn wsL_isMinute (wsV RL 48 RX2 yX2_command wsX2_command) := goodIn_app (goodIn_of _ (by decide +kernel)) ggL_isMinute_X2_command
theorem dL_isMinute_0 : decode cL_isMinute 0 = .ok (.iconst 0, 1) := by decide +kernel
theorem dL_isMinute_1 : decode cL_isMinute 1 = .ok (.istore 4, 2) := by decide +kernel
theorem dL_isMinute_3 : decode cL_isMinute 3 = .ok (.aload_n 0, 1) := by decide +kernel
theorem dL_isMinute_4 : decode cL_isMinute 4 = .ok (.invokevirtual 75, 3) := by decide +kernel
theorem dL_isMinute_7 : decode cL_isMinute 7 = .ok (.istore 5, 2) := by decide +kernel
theorem dL_isMinute_9 : decode cL_isMinute 9 = .ok (.aload_n 0, 1) := by decide +kernel
theorem dL_isMinute_10 : decode cL_isMinute 10 = .ok (.iconst 2, 1) := by decide +kernel
theorem dL_isMinute_11 : decode cL_isMinute 11 = .ok (.iconst 1, 1) := by decide +kernel
theorem dL_isMinute_12 : decode cL_isMinute 12 = .ok (.invokevirtual 66, 3) := by decide +kernel
theorem dL_isMinute_15 : decode cL_isMinute 15 = .ok (.istore 6, 2) := by decide +kernel
theorem dL_isMinute_17 : decode cL_isMinute 17 = .ok (.iconst 0, 1) := by decide +kernel
theorem dL_isMinute_18 : decode cL_isMinute 18 = .ok (.istore 7, 2) := by decide +kernel
theorem dL_isMinute_20 : decode cL_isMinute 20 = .ok (.iload 7, 2) := by decide +kernel
theorem dL_isMinute_22 : decode cL_isMinute 22 = .ok (.bipush 6, 2) := by decide +kernel
theorem dL_isMinute_24 : decode cL_isMinute 24 = .ok (.if_icmp .ge 48, 3) := by decide +kernel
theorem dL_isMinute_27 : decode cL_isMinute 27 = .ok (.aload_n 2, 1) := by decide +kernel
theorem dL_isMinute_28 : decode cL_isMinute 28 = .ok (.bipush 12, 2) := by decide +kernel
theorem dL_isMinute_30 : decode cL_isMinute 30 = .ok (.iload 7, 2) := by decide +kernel
theorem dL_isMinute_32 : decode cL_isMinute 32 = .ok (.iadd, 1) := by decide +kernel
theorem dL_isMinute_33 : decode cL_isMinute 33 = .ok (.aload_n 0, 1) := by decide +kernel
theorem dL_isMinute_34 : decode cL_isMinute 34 = .ok (.iload 7, 2) := by decide +kernel
theorem dL_isMinute_36 : decode cL_isMinute 36 = .ok (.invokevirtual 54, 3) := by decide +kernel
theorem dL_isMinute_39 : decode cL_isMinute 39 = .ok (.iastore, 1) := by decide +kernel
theorem dL_isMinute_40 : decode cL_isMinute 40 = .ok (.aload_n 2, 1) := by decide +kernel
theorem dL_isMinute_41 : decode cL_isMinute 41 = .ok (.bipush 18, 2) := by decide +kernel
theorem dL_isMinute_43 : decode cL_isMinute 43 = .ok (.iload 7, 2) := by decide +kernel
theorem dL_isMinute_45 : decode cL_isMinute 45 = .ok (.iadd, 1) := by decide +kernel
theorem dL_isMinute_46 : decode cL_isMinute 46 = .ok (.aload_n 0, 1) := by decide +kernel
theorem dL_isMinute_47 : decode cL_isMinute 47 = .ok (.iload 7, 2) := by decide +kernel
theorem dL_isMinute_49 : decode cL_isMinute 49 = .ok (.invokevirtual 60, 3) := by decide +kernel
theorem dL_isMinute_52 : decode cL_isMinute 52 = .ok (.iastore, 1) := by decide +kernel
theorem dL_isMinute_53 : decode cL_isMinute 53 = .ok (.aload_n 2, 1) := by decide +kernel
theorem dL_isMinute_54 : decode cL_isMinute 54 = .ok (.bipush 24, 2) := by decide +kernel
theorem dL_isMinute_56 : decode cL_isMinute 56 = .ok (.iload 7, 2) := by decide +kernel
theorem dL_isMinute_58 : decode cL_isMinute 58 = .ok (.iadd, 1) := by decide +kernel
theorem dL_isMinute_59 : decode cL_isMinute 59 = .ok (.aload_n 0, 1) := by decide +kernel
theorem dL_isMinute_60 : decode cL_isMinute 60 = .ok (.iload 7, 2) := by decide +kernel
theorem dL_isMinute_62 : decode cL_isMinute 62 = .ok (.invokevirtual 63, 3) := by decide +kernel
theorem dL_isMinute_65 : decode cL_isMinute 65 = .ok (.iastore, 1) := by decide +kernel
theorem dL_isMinute_66 : decode cL_isMinute 66 = .ok (.iinc 7 1, 3) := by decide +kernel
theorem dL_isMinute_69 : decode cL_isMinute 69 = .ok (.goto (-49), 3) := by decide +kernel
theorem dL_isMinute_72 : decode cL_isMinute 72 = .ok (.aload_n 0, 1) := by decide +kernel
theorem dL_isMinute_73 : decode cL_isMinute 73 = .ok (.bipush 6, 2) := by decide +kernel
theorem dL_isMinute_75 : decode cL_isMinute 75 = .ok (.iconst 1, 1) := by decide +kernel
theorem dL_isMinute_76 : decode cL_isMinute 76 = .ok (.iconst 0, 1) := by decide +kernel
theorem dL_isMinute_77 : decode cL_isMinute 77 = .ok (.iconst 0, 1) := by decide +kernel
theorem dL_isMinute_78 : decode cL_isMinute 78 = .ok (.invokestatic 100, 3) := by decide +kernel
theorem dL_isMinute_81 : decode cL_isMinute 81 = .ok (.istore 7, 2) := by decide +kernel
theorem dL_isMinute_83 : decode cL_isMinute 83 = .ok (.aload_n 0, 1) := by decide +kernel
theorem dL_isMinute_84 : decode cL_isMinute 84 = .ok (.invokevirtual 75, 3) := by decide +kernel
theorem dL_isMinute_87 : decode cL_isMinute 87 = .ok (.iload 5, 2) := by decide +kernel
theorem dL_isMinute_89 : decode cL_isMinute 89 = .ok (.iconst 1, 1) := by decide +kernel
theorem dL_isMinute_90 : decode cL_isMinute 90 = .ok (.iadd, 1) := by decide +kernel
theorem dL_isMinute_91 : decode cL_isMinute 91 = .ok (.if_icmp .ne 17, 3) := by decide +kernel
theorem dL_isMinute_94 : decode cL_isMinute 94 = .ok (.aload_n 0, 1) := by decide +kernel
theorem dL_isMinute_95 : decode cL_isMinute 95 = .ok (.iconst 2, 1) := by decide +kernel
theorem dL_isMinute_96 : decode cL_isMinute 96 = .ok (.invokevirtual 54, 3) := by decide +kernel
theorem dL_isMinute_99 : decode cL_isMinute 99 = .ok (.iload 6, 2) := by decide +kernel
theorem dL_isMinute_101 : decode cL_isMinute 101 = .ok (.if_icmp .ne 7, 3) := by decide +kernel
theorem dL_isMinute_104 : decode cL_isMinute 104 = .ok (.iconst 1, 1) := by decide +kernel
theorem dL_isMinute_105 : decode cL_isMinute 105 = .ok (.goto 4, 3) := by decide +kernel
theorem dL_isMinute_108 : decode cL_isMinute 108 = .ok (.iconst 0, 1) := by decide +kernel
theorem dL_isMinute_109 : decode cL_isMinute 109 = .ok (.istore 8, 2) := by decide +kernel
theorem dL_isMinute_111 : decode cL_isMinute 111 = .ok (.iconst 0, 1) := by decide +kernel
theorem dL_isMinute_112 : decode cL_isMinute 112 = .ok (.istore 9, 2) := by decide +kernel
theorem dL_isMinute_114 : decode cL_isMinute 114 = .ok (.iload 9, 2) := by decide +kernel
theorem dL_isMinute_116 : decode cL_isMinute 116 = .ok (.bipush 6, 2) := by decide +kernel
theorem dL_isMinute_118 : decode cL_isMinute 118 = .ok (.if_icmp .ge 495, 3) := by decide +kernel
theorem dL_isMinute_121 : decode cL_isMinute 121 = .ok (.iload 8, 2) := by decide +kernel
theorem dL_isMinute_123 : decode cL_isMinute 123 = .ok (.ifCond .eq 490, 3) := by decide +kernel
theorem dL_isMinute_126 : decode cL_isMinute 126 = .ok (.aload_n 2, 1) := by decide +kernel
theorem dL_isMinute_127 : decode cL_isMinute 127 = .ok (.bipush 12, 2) := by decide +kernel
theorem dL_isMinute_129 : decode cL_isMinute 129 = .ok (.iload 9, 2) := by decide +kernel
theorem dL_isMinute_131 : decode cL_isMinute 131 = .ok (.iadd, 1) := by decide +kernel
theorem dL_isMinute_132 : decode cL_isMinute 132 = .ok (.iaload, 1) := by decide +kernel
theorem dL_isMinute_133 : decode cL_isMinute 133 = .ok (.aload_n 2, 1) := by decide +kernel
theorem dL_isMinute_134 : decode cL_isMinute 134 = .ok (.bipush 6, 2) := by decide +kernel
theorem dL_isMinute_136 : decode cL_isMinute 136 = .ok (.iload 9, 2) := by decide +kernel
theorem dL_isMinute_138 : decode cL_isMinute 138 = .ok (.iadd, 1) := by decide +kernel
theorem dL_isMinute_139 : decode cL_isMinute 139 = .ok (.iaload, 1) := by decide +kernel
theorem dL_isMinute_140 : decode cL_isMinute 140 = .ok (.isub, 1) := by decide +kernel
theorem dL_isMinute_141 : decode cL_isMinute 141 = .ok (.istore 10, 2) := by decide +kernel
theorem dL_isMinute_143 : decode cL_isMinute 143 = .ok (.aload_n 2, 1) := by decide +kernel
theorem dL_isMinute_144 : decode cL_isMinute 144 = .ok (.bipush 18, 2) := by decide +kernel
theorem dL_isMinute_146 : decode cL_isMinute 146 = .ok (.iload 9, 2) := by decide +kernel
theorem dL_isMinute_148 : decode cL_isMinute 148 = .ok (.iadd, 1) := by decide +kernel
theorem dL_isMinute_149 : decode cL_isMinute 149 = .ok (.iaload, 1) := by decide +kernel
theorem dL_isMinute_150 : decode cL_isMinute 150 = .ok (.iload 10, 2) := by decide +kernel
theorem dL_isMinute_152 : decode cL_isMinute 152 = .ok (.iadd, 1) := by decide +kernel
theorem dL_isMinute_153 : decode cL_isMinute 153 = .ok (.istore 11, 2) := by decide +kernel
theorem dL_isMinute_155 : decode cL_isMinute 155 = .ok (.iconst 0, 1) := by decide +kernel
theorem dL_isMinute_156 : decode cL_isMinute 156 = .ok (.istore 12, 2) := by decide +kernel
theorem dL_isMinute_158 : decode cL_isMinute 158 = .ok (.iconst 0, 1) := by decide +kernel
theorem dL_isMinute_159 : decode cL_isMinute 159 = .ok (.istore 13, 2) := by decide +kernel
theorem dL_isMinute_161 : decode cL_isMinute 161 = .ok (.iconst 0, 1) := by decide +kernel
theorem dL_isMinute_162 : decode cL_isMinute 162 = .ok (.istore 14, 2) := by decide +kernel
theorem dL_isMinute_164 : decode cL_isMinute 164 = .ok (.iconst 0, 1) := by decide +kernel
theorem dL_isMinute_165 : decode cL_isMinute 165 = .ok (.istore 15, 2) := by decide +kernel
theorem dL_isMinute_167 : decode cL_isMinute 167 = .ok (.iload 15, 2) := by decide +kernel
theorem dL_isMinute_169 : decode cL_isMinute 169 = .ok (.bipush 8, 2) := by decide +kernel
theorem dL_isMinute_171 : decode cL_isMinute 171 = .ok (.if_icmp .ge 92, 3) := by decide +kernel
theorem dL_isMinute_174 : decode cL_isMinute 174 = .ok (.iload 12, 2) := by decide +kernel
theorem dL_isMinute_176 : decode cL_isMinute 176 = .ok (.aload_n 1, 1) := by decide +kernel
theorem dL_isMinute_177 : decode cL_isMinute 177 = .ok (.bipush 6, 2) := by decide +kernel
theorem dL_isMinute_179 : decode cL_isMinute 179 = .ok (.iload 15, 2) := by decide +kernel
theorem dL_isMinute_181 : decode cL_isMinute 181 = .ok (.imul, 1) := by decide +kernel
theorem dL_isMinute_182 : decode cL_isMinute 182 = .ok (.iload 9, 2) := by decide +kernel
theorem dL_isMinute_184 : decode cL_isMinute 184 = .ok (.iadd, 1) := by decide +kernel
theorem dL_isMinute_185 : decode cL_isMinute 185 = .ok (.iaload, 1) := by decide +kernel
theorem dL_isMinute_186 : decode cL_isMinute 186 = .ok (.aload_n 0, 1) := by decide +kernel
theorem dL_isMinute_187 : decode cL_isMinute 187 = .ok (.iload 15, 2) := by decide +kernel
theorem dL_isMinute_189 : decode cL_isMinute 189 = .ok (.invokevirtual 51, 3) := by decide +kernel
theorem dL_isMinute_192 : decode cL_isMinute 192 = .ok (.imul, 1) := by decide +kernel
theorem dL_isMinute_193 : decode cL_isMinute 193 = .ok (.iadd, 1) := by decide +kernel
theorem dL_isMinute_194 : decode cL_isMinute 194 = .ok (.istore 12, 2) := by decide +kernel
theorem dL_isMinute_196 : decode cL_isMinute 196 = .ok (.iload 13, 2) := by decide +kernel
theorem dL_isMinute_198 : decode cL_isMinute 198 = .ok (.aload_n 3, 1) := by decide +kernel
theorem dL_isMinute_199 : decode cL_isMinute 199 = .ok (.iconst 5, 1) := by decide +kernel
theorem dL_isMinute_200 : decode cL_isMinute 200 = .ok (.iaload, 1) := by decide +kernel
theorem dL_isMinute_201 : decode cL_isMinute 201 = .ok (.iload 15, 2) := by decide +kernel
theorem dL_isMinute_203 : decode cL_isMinute 203 = .ok (.ishr, 1) := by decide +kernel
theorem dL_isMinute_204 : decode cL_isMinute 204 = .ok (.iconst 1, 1) := by decide +kernel
theorem dL_isMinute_205 : decode cL_isMinute 205 = .ok (.iand, 1) := by decide +kernel
theorem dL_isMinute_206 : decode cL_isMinute 206 = .ok (.iconst 1, 1) := by decide +kernel
theorem dL_isMinute_207 : decode cL_isMinute 207 = .ok (.if_icmp .ne 16, 3) := by decide +kernel
theorem dL_isMinute_210 : decode cL_isMinute 210 = .ok (.aload_n 1, 1) := by decide +kernel
theorem dL_isMinute_211 : decode cL_isMinute 211 = .ok (.bipush 6, 2) := by decide +kernel
theorem dL_isMinute_213 : decode cL_isMinute 213 = .ok (.iload 15, 2) := by decide +kernel
theorem dL_isMinute_215 : decode cL_isMinute 215 = .ok (.imul, 1) := by decide +kernel
theorem dL_isMinute_216 : decode cL_isMinute 216 = .ok (.iload 9, 2) := by decide +kernel
theorem dL_isMinute_218 : decode cL_isMinute 218 = .ok (.iadd, 1) := by decide +kernel
theorem dL_isMinute_219 : decode cL_isMinute 219 = .ok (.iaload, 1) := by decide +kernel
theorem dL_isMinute_220 : decode cL_isMinute 220 = .ok (.goto 4, 3) := by decide +kernel
theorem dL_isMinute_223 : decode cL_isMinute 223 = .ok (.iconst 0, 1) := by decide +kernel
theorem dL_isMinute_224 : decode cL_isMinute 224 = .ok (.iadd, 1) := by decide +kernel
theorem dL_isMinute_225 : decode cL_isMinute 225 = .ok (.istore 13, 2) := by decide +kernel
theorem dL_isMinute_227 : decode cL_isMinute 227 = .ok (.iload 14, 2) := by decide +kernel
theorem dL_isMinute_229 : decode cL_isMinute 229 = .ok (.aload_n 3, 1) := by decide +kernel
theorem dL_isMinute_230 : decode cL_isMinute 230 = .ok (.iconst 5, 1) := by decide +kernel
theorem dL_isMinute_231 : decode cL_isMinute 231 = .ok (.iaload, 1) := by decide +kernel
theorem dL_isMinute_232 : decode cL_isMinute 232 = .ok (.iload 15, 2) := by decide +kernel
theorem dL_isMinute_234 : decode cL_isMinute 234 = .ok (.ishr, 1) := by decide +kernel
theorem dL_isMinute_235 : decode cL_isMinute 235 = .ok (.iconst 1, 1) := by decide +kernel
theorem dL_isMinute_236 : decode cL_isMinute 236 = .ok (.iand, 1) := by decide +kernel
theorem dL_isMinute_237 : decode cL_isMinute 237 = .ok (.ifCond .ne 16, 3) := by decide +kernel
theorem dL_isMinute_240 : decode cL_isMinute 240 = .ok (.aload_n 1, 1) := by decide +kernel
theorem dL_isMinute_241 : decode cL_isMinute 241 = .ok (.bipush 6, 2) := by decide +kernel
theorem dL_isMinute_243 : decode cL_isMinute 243 = .ok (.iload 15, 2) := by decide +kernel
theorem dL_isMinute_245 : decode cL_isMinute 245 = .ok (.imul, 1) := by decide +kernel
theorem dL_isMinute_246 : decode cL_isMinute 246 = .ok (.iload 9, 2) := by decide +kernel
theorem dL_isMinute_248 : decode cL_isMinute 248 = .ok (.iadd, 1) := by decide +kernel
theorem dL_isMinute_249 : decode cL_isMinute 249 = .ok (.iaload, 1) := by decide +kernel
theorem dL_isMinute_250 : decode cL_isMinute 250 = .ok (.goto 4, 3) := by decide +kernel
theorem dL_isMinute_253 : decode cL_isMinute 253 = .ok (.iconst 0, 1) := by decide +kernel
theorem dL_isMinute_254 : decode cL_isMinute 254 = .ok (.iadd, 1) := by decide +kernel
theorem dL_isMinute_255 : decode cL_isMinute 255 = .ok (.istore 14, 2) := by decide +kernel
theorem dL_isMinute_257 : decode cL_isMinute 257 = .ok (.iinc 15 1, 3) := by decide +kernel
theorem dL_isMinute_260 : decode cL_isMinute 260 = .ok (.goto (-93), 3) := by decide +kernel
theorem dL_isMinute_263 : decode cL_isMinute 263 = .ok (.bipush 64, 2) := by decide +kernel
theorem dL_isMinute_265 : decode cL_isMinute 265 = .ok (.aload_n 0, 1) := by decide +kernel
theorem dL_isMinute_266 : decode cL_isMinute 266 = .ok (.iload 9, 2) := by decide +kernel
theorem dL_isMinute_268 : decode cL_isMinute 268 = .ok (.invokevirtual 54, 3) := by decide +kernel
theorem dL_isMinute_271 : decode cL_isMinute 271 = .ok (.aload_n 2, 1) := by decide +kernel
theorem dL_isMinute_272 : decode cL_isMinute 272 = .ok (.bipush 12, 2) := by decide +kernel
theorem dL_isMinute_274 : decode cL_isMinute 274 = .ok (.iload 9, 2) := by decide +kernel
theorem dL_isMinute_276 : decode cL_isMinute 276 = .ok (.iadd, 1) := by decide +kernel
theorem dL_isMinute_277 : decode cL_isMinute 277 = .ok (.iaload, 1) := by decide +kernel
theorem dL_isMinute_278 : decode cL_isMinute 278 = .ok (.isub, 1) := by decide +kernel
theorem dL_isMinute_279 : decode cL_isMinute 279 = .ok (.aload_n 2, 1) := by decide +kernel
theorem dL_isMinute_280 : decode cL_isMinute 280 = .ok (.iload 9, 2) := by decide +kernel
theorem dL_isMinute_282 : decode cL_isMinute 282 = .ok (.iaload, 1) := by decide +kernel
theorem dL_isMinute_283 : decode cL_isMinute 283 = .ok (.isub, 1) := by decide +kernel
theorem dL_isMinute_284 : decode cL_isMinute 284 = .ok (.iload 12, 2) := by decide +kernel
theorem dL_isMinute_286 : decode cL_isMinute 286 = .ok (.bipush 100, 2) := by decide +kernel
theorem dL_isMinute_288 : decode cL_isMinute 288 = .ok (.idiv, 1) := by decide +kernel
theorem dL_isMinute_289 : decode cL_isMinute 289 = .ok (.iadd, 1) := by decide +kernel
theorem dL_isMinute_290 : decode cL_isMinute 290 = .ok (.imul, 1) := by decide +kernel
theorem dL_isMinute_291 : decode cL_isMinute 291 = .ok (.istore 15, 2) := by decide +kernel
theorem dL_isMinute_293 : decode cL_isMinute 293 = .ok (.aload_n 3, 1) := by decide +kernel
theorem dL_isMinute_294 : decode cL_isMinute 294 = .ok (.iconst 2, 1) := by decide +kernel
theorem dL_isMinute_295 : decode cL_isMinute 295 = .ok (.iaload, 1) := by decide +kernel
theorem dL_isMinute_296 : decode cL_isMinute 296 = .ok (.aload_n 2, 1) := by decide +kernel
theorem dL_isMinute_297 : decode cL_isMinute 297 = .ok (.bipush 12, 2) := by decide +kernel
theorem dL_isMinute_299 : decode cL_isMinute 299 = .ok (.iload 9, 2) := by decide +kernel
theorem dL_isMinute_301 : decode cL_isMinute 301 = .ok (.iadd, 1) := by decide +kernel
theorem dL_isMinute_302 : decode cL_isMinute 302 = .ok (.iaload, 1) := by decide +kernel
theorem dL_isMinute_303 : decode cL_isMinute 303 = .ok (.isub, 1) := by decide +kernel
theorem dL_isMinute_304 : decode cL_isMinute 304 = .ok (.istore 16, 2) := by decide +kernel
theorem dL_isMinute_306 : decode cL_isMinute 306 = .ok (.bipush 100, 2) := by decide +kernel
theorem dL_isMinute_308 : decode cL_isMinute 308 = .ok (.aload_n 3, 1) := by decide +kernel
theorem dL_isMinute_309 : decode cL_isMinute 309 = .ok (.iconst 0, 1) := by decide +kernel
theorem dL_isMinute_310 : decode cL_isMinute 310 = .ok (.iaload, 1) := by decide +kernel
theorem dL_isMinute_311 : decode cL_isMinute 311 = .ok (.imul, 1) := by decide +kernel
theorem dL_isMinute_312 : decode cL_isMinute 312 = .ok (.iload 10, 2) := by decide +kernel
theorem dL_isMinute_314 : decode cL_isMinute 314 = .ok (.imul, 1) := by decide +kernel
theorem dL_isMinute_315 : decode cL_isMinute 315 = .ok (.aload_n 3, 1) := by decide +kernel
theorem dL_isMinute_316 : decode cL_isMinute 316 = .ok (.iconst 1, 1) := by decide +kernel
theorem dL_isMinute_317 : decode cL_isMinute 317 = .ok (.iaload, 1) := by decide +kernel
theorem dL_isMinute_318 : decode cL_isMinute 318 = .ok (.aload_n 0, 1) := by decide +kernel
theorem dL_isMinute_319 : decode cL_isMinute 319 = .ok (.iload 9, 2) := by decide +kernel
theorem dL_isMinute_321 : decode cL_isMinute 321 = .ok (.invokevirtual 60, 3) := by decide +kernel
theorem dL_isMinute_324 : decode cL_isMinute 324 = .ok (.imul, 1) := by decide +kernel
theorem dL_isMinute_325 : decode cL_isMinute 325 = .ok (.iadd, 1) := by decide +kernel
theorem dL_isMinute_326 : decode cL_isMinute 326 = .ok (.istore 17, 2) := by decide +kernel
theorem dL_isMinute_328 : decode cL_isMinute 328 = .ok (.aload_n 0, 1) := by decide +kernel
theorem dL_isMinute_329 : decode cL_isMinute 329 = .ok (.iload 9, 2) := by decide +kernel
theorem dL_isMinute_331 : decode cL_isMinute 331 = .ok (.invokevirtual 54, 3) := by decide +kernel
theorem dL_isMinute_334 : decode cL_isMinute 334 = .ok (.aload_n 3, 1) := by decide +kernel
theorem dL_isMinute_335 : decode cL_isMinute 335 = .ok (.iconst 3, 1) := by decide +kernel
theorem dL_isMinute_336 : decode cL_isMinute 336 = .ok (.iaload, 1) := by decide +kernel
theorem dL_isMinute_337 : decode cL_isMinute 337 = .ok (.if_icmp .le 7, 3) := by decide +kernel
theorem dL_isMinute_340 : decode cL_isMinute 340 = .ok (.iconst 1, 1) := by decide +kernel
theorem dL_isMinute_341 : decode cL_isMinute 341 = .ok (.goto 4, 3) := by decide +kernel
theorem dL_isMinute_344 : decode cL_isMinute 344 = .ok (.iconst 0, 1) := by decide +kernel
theorem dL_isMinute_345 : decode cL_isMinute 345 = .ok (.istore 18, 2) := by decide +kernel
theorem dL_isMinute_347 : decode cL_isMinute 347 = .ok (.iload 4, 2) := by decide +kernel
theorem dL_isMinute_349 : decode cL_isMinute 349 = .ok (.iload 18, 2) := by decide +kernel
theorem dL_isMinute_351 : decode cL_isMinute 351 = .ok (.ifCond .eq 7, 3) := by decide +kernel
theorem dL_isMinute_354 : decode cL_isMinute 354 = .ok (.iconst 1, 1) := by decide +kernel
theorem dL_isMinute_355 : decode cL_isMinute 355 = .ok (.goto 4, 3) := by decide +kernel
theorem dL_isMinute_358 : decode cL_isMinute 358 = .ok (.iconst 0, 1) := by decide +kernel
theorem dL_isMinute_359 : decode cL_isMinute 359 = .ok (.iadd, 1) := by decide +kernel
theorem dL_isMinute_360 : decode cL_isMinute 360 = .ok (.istore 4, 2) := by decide +kernel
theorem dL_isMinute_362 : decode cL_isMinute 362 = .ok (.iload 15, 2) := by decide +kernel
theorem dL_isMinute_364 : decode cL_isMinute 364 = .ok (.iload 16, 2) := by decide +kernel
theorem dL_isMinute_366 : decode cL_isMinute 366 = .ok (.if_icmp .gt 83, 3) := by decide +kernel
theorem dL_isMinute_369 : decode cL_isMinute 369 = .ok (.iload 15, 2) := by decide +kernel
theorem dL_isMinute_371 : decode cL_isMinute 371 = .ok (.iload 16, 2) := by decide +kernel
theorem dL_isMinute_373 : decode cL_isMinute 373 = .ok (.bipush 64, 2) := by decide +kernel
theorem dL_isMinute_375 : decode cL_isMinute 375 = .ok (.isub, 1) := by decide +kernel
theorem dL_isMinute_376 : decode cL_isMinute 376 = .ok (.if_icmp .le 73, 3) := by decide +kernel
theorem dL_isMinute_379 : decode cL_isMinute 379 = .ok (.aload_n 0, 1) := by decide +kernel
theorem dL_isMinute_380 : decode cL_isMinute 380 = .ok (.iload 9, 2) := by decide +kernel
theorem dL_isMinute_382 : decode cL_isMinute 382 = .ok (.invokevirtual 60, 3) := by decide +kernel
theorem dL_isMinute_385 : decode cL_isMinute 385 = .ok (.iload 11, 2) := by decide +kernel
theorem dL_isMinute_387 : decode cL_isMinute 387 = .ok (.sipush 20000, 3) := by decide +kernel
theorem dL_isMinute_390 : decode cL_isMinute 390 = .ok (.if_icmp .le 9, 3) := by decide +kernel
theorem dL_isMinute_393 : decode cL_isMinute 393 = .ok (.sipush 20000, 3) := by decide +kernel
theorem dL_isMinute_396 : decode cL_isMinute 396 = .ok (.goto 19, 3) := by decide +kernel
