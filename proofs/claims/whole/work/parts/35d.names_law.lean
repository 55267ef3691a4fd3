set_option maxRecDepth 20000 in
theorem ggL_law_X2_init : GoodIn wsL_law wsX2_init := goodIn_r _ [9, 10, 11, 12, 13, 14, 15, 16, 17, 18, 19, 20, 21, 22, 23, 24, 25, 26, 27, 28, 29, 30, 31, 32, 33, 34, 35, 36, 37, 38, 39, 40, 41, 42, 43, 44, 45, 46, 47, 48, 49, 50, 498, 499, 500, 501, 502, 503, 504, 505, 476, 477, 478, 479, 480, 506, 507, 508, 509, 510, 511, 512] (by decide +kernel) (by decide +kernel)
set_option maxRecDepth 20000 in
theorem gL_law_X2_init : GoodIn wsL_law (wsX2_init) := ggL_law_X2_init
set_option maxRecDepth 20000 in
theorem ggL_law_X3_init : GoodIn wsL_law wsX3_init := goodIn_r _ [53, 54, 11, 12, 22, 55, 56, 57, 58, 59, 60, 61, 62, 63, 64, 65, 66, 45, 67, 68, 69, 70, 481, 482, 483, 484, 485, 486, 487, 488, 489, 490, 491, 492, 493, 494, 495, 496, 497] (by decide +kernel) (by decide +kernel)
set_option maxRecDepth 20000 in
theorem gL_law_X3_init : GoodIn wsL_law (wsX3_init) := ggL_law_X3_init
set_option maxRecDepth 20000 in
theorem ggL_law_L_setLoad : GoodIn wsL_law wsL_setLoad := goodIn_ca (goodIn_r _ [74, 75, 76, 77, 78, 2, 79, 16, 80, 81, 82, 83, 84, 85, 86, 87, 88, 476, 477, 478, 479, 480, 498, 499, 500, 501, 502, 503, 504, 505] (by decide +kernel) (by decide +kernel)) (goodIn_sub (fun _ h => List.mem_append_left _ (List.mem_append_right _ h)) (by decide +kernel))
set_option maxRecDepth 20000 in
theorem gL_law_L_setLoad : GoodIn wsL_law (va_wsS RL 75 yL_setLoad wsL_setLoad) := goodIn_app (goodIn_of _ (by decide +kernel)) ggL_law_L_setLoad
set_option maxRecDepth 20000 in
theorem ggL_law_X3_setLoad : GoodIn wsL_law wsX3_setLoad := goodIn_r _ [92, 55, 93, 94, 5, 95, 96, 97, 98, 99, 100, 101, 102, 103, 481, 482, 483, 484, 485, 486, 487, 488, 489, 490, 491, 492, 493, 494, 495, 496, 497] (by decide +kernel) (by decide +kernel)
set_option maxRecDepth 20000 in
theorem gL_law_X3_setLoad : GoodIn wsL_law (wsV RL 80 RX3 yX3_setLoad wsX3_setLoad) := goodIn_app (goodIn_of _ (by decide +kernel)) ggL_law_X3_setLoad
set_option maxRecDepth 20000 in
theorem ggL_law_X3_thrown : GoodIn wsL_law wsX3_thrown := goodIn_r _ [107, 103, 481, 482, 483, 484, 485, 486, 487, 488, 489, 490, 491, 492, 493, 494, 495, 496, 497] (by decide +kernel) (by decide +kernel)
set_option maxRecDepth 20000 in
theorem gL_law_X3_thrown : GoodIn wsL_law (wsV RL 81 RX3 yX3_thrown wsX3_thrown) := goodIn_app (goodIn_of _ (by decide +kernel)) ggL_law_X3_thrown
set_option maxRecDepth 20000 in
theorem ggL_law_L_setSetpoint : GoodIn wsL_law wsL_setSetpoint := goodIn_ca (goodIn_r _ [110, 75, 111, 112, 113, 2, 114, 16, 115, 20, 116, 81, 82, 83, 84, 85, 86, 87, 88, 476, 477, 478, 479, 480, 498, 499, 500, 501, 502, 503, 504, 505, 506, 507, 508, 509, 510, 511, 512] (by decide +kernel) (by decide +kernel)) (goodIn_sub (fun _ h => List.mem_append_left _ (List.mem_append_right _ h)) (by decide +kernel))
set_option maxRecDepth 20000 in
theorem gL_law_L_setSetpoint : GoodIn wsL_law (va_wsS RL 85 yL_setSetpoint wsL_setSetpoint) := goodIn_app (goodIn_of _ (by decide +kernel)) ggL_law_L_setSetpoint
set_option maxRecDepth 20000 in
theorem ggL_law_X3_setSetpoint : GoodIn wsL_law wsX3_setSetpoint := goodIn_r _ [120, 56, 65, 93, 94, 5, 95, 96, 97, 98, 99, 100, 101, 102, 103, 481, 482, 483, 484, 485, 486, 487, 488, 489, 490, 491, 492, 493, 494, 495, 496, 497] (by decide +kernel) (by decide +kernel)
set_option maxRecDepth 20000 in
theorem gL_law_X3_setSetpoint : GoodIn wsL_law (wsV RL 87 RX3 yX3_setSetpoint wsX3_setSetpoint) := goodIn_app (goodIn_of _ (by decide +kernel)) ggL_law_X3_setSetpoint
set_option maxRecDepth 20000 in
theorem ggL_law_L_setEffect : GoodIn wsL_law wsL_setEffect := goodIn_ca (goodIn_r _ [123, 75, 124, 125, 126, 2, 127, 16, 128, 129, 130, 131, 84, 85, 86, 87, 88, 81, 82, 83, 476, 477, 478, 479, 480, 498, 499, 500, 501, 502, 503, 504, 505] (by decide +kernel) (by decide +kernel)) (goodIn_sub (fun _ h => List.mem_append_left _ (List.mem_append_right _ h)) (by decide +kernel))
set_option maxRecDepth 20000 in
theorem gL_law_L_setEffect : GoodIn wsL_law (va_wsS RL 88 yL_setEffect wsL_setEffect) := goodIn_app (goodIn_of _ (by decide +kernel)) ggL_law_L_setEffect
set_option maxRecDepth 20000 in
theorem ggL_law_X3_setEffect : GoodIn wsL_law wsX3_setEffect := goodIn_r _ [135, 57, 136, 137, 5, 138, 96, 97, 98, 93, 94, 95, 99, 100, 101, 102, 103, 481, 482, 483, 484, 485, 486, 487, 488, 489, 490, 491, 492, 493, 494, 495, 496, 497] (by decide +kernel) (by decide +kernel)
set_option maxRecDepth 20000 in
theorem gL_law_X3_setEffect : GoodIn wsL_law (wsV RL 91 RX3 yX3_setEffect wsX3_setEffect) := goodIn_app (goodIn_of _ (by decide +kernel)) ggL_law_X3_setEffect
set_option maxRecDepth 20000 in
theorem ggL_law_L_setGains : GoodIn wsL_law wsL_setGains := goodIn_ca (goodIn_r _ [141, 75, 142, 143, 144, 2, 145, 16, 146, 147, 84, 85, 86, 87, 88, 476, 477, 478, 479, 480, 498, 499, 500, 501, 502, 503, 504, 505] (by decide +kernel) (by decide +kernel)) (goodIn_sub (fun _ h => List.mem_append_left _ (List.mem_append_right _ h)) (by decide +kernel))
set_option maxRecDepth 20000 in
theorem gL_law_L_setGains : GoodIn wsL_law (va_wsS RL 92 yL_setGains wsL_setGains) := goodIn_app (goodIn_of _ (by decide +kernel)) ggL_law_L_setGains
set_option maxRecDepth 20000 in
theorem ggL_law_X3_setGains : GoodIn wsL_law wsX3_setGains := goodIn_r _ [151, 58, 59, 96, 97, 5, 98, 99, 100, 101, 102, 103, 481, 482, 483, 484, 485, 486, 487, 488, 489, 490, 491, 492, 493, 494, 495, 496, 497] (by decide +kernel) (by decide +kernel)
set_option maxRecDepth 20000 in
theorem gL_law_X3_setGains : GoodIn wsL_law (wsV RL 95 RX3 yX3_setGains wsX3_setGains) := goodIn_app (goodIn_of _ (by decide +kernel)) ggL_law_X3_setGains
set_option maxRecDepth 20000 in
theorem ggL_law_L_setHall : GoodIn wsL_law wsL_setHall := goodIn_ca (goodIn_r _ [154, 75, 155, 156, 157, 2, 158, 16, 159, 160, 84, 85, 86, 87, 88, 476, 477, 478, 479, 480, 498, 499, 500, 501, 502, 503, 504, 505] (by decide +kernel) (by decide +kernel)) (goodIn_sub (fun _ h => List.mem_append_left _ (List.mem_append_right _ h)) (by decide +kernel))
set_option maxRecDepth 20000 in
theorem gL_law_L_setHall : GoodIn wsL_law (va_wsS RL 96 yL_setHall wsL_setHall) := goodIn_app (goodIn_of _ (by decide +kernel)) ggL_law_L_setHall
set_option maxRecDepth 20000 in
theorem ggL_law_X3_setHall : GoodIn wsL_law wsX3_setHall := goodIn_r _ [164, 60, 61, 96, 97, 5, 98, 99, 100, 101, 102, 103, 481, 482, 483, 484, 485, 486, 487, 488, 489, 490, 491, 492, 493, 494, 495, 496, 497] (by decide +kernel) (by decide +kernel)
set_option maxRecDepth 20000 in
theorem gL_law_X3_setHall : GoodIn wsL_law (wsV RL 98 RX3 yX3_setHall wsX3_setHall) := goodIn_app (goodIn_of _ (by decide +kernel)) ggL_law_X3_setHall
set_option maxRecDepth 20000 in
theorem ggL_law_L_setDelay : GoodIn wsL_law wsL_setDelay := goodIn_ca (goodIn_r _ [167, 75, 168, 169, 170, 2, 171, 16, 172, 84, 85, 86, 87, 88, 476, 477, 478, 479, 480, 498, 499, 500, 501, 502, 503, 504, 505] (by decide +kernel) (by decide +kernel)) (goodIn_sub (fun _ h => List.mem_append_left _ (List.mem_append_right _ h)) (by decide +kernel))
set_option maxRecDepth 20000 in
theorem gL_law_L_setDelay : GoodIn wsL_law (va_wsS RL 99 yL_setDelay wsL_setDelay) := goodIn_app (goodIn_of _ (by decide +kernel)) ggL_law_L_setDelay
set_option maxRecDepth 20000 in
theorem ggL_law_X3_setDelay : GoodIn wsL_law wsX3_setDelay := goodIn_r _ [176, 62, 96, 97, 5, 98, 99, 100, 101, 102, 103, 481, 482, 483, 484, 485, 486, 487, 488, 489, 490, 491, 492, 493, 494, 495, 496, 497] (by decide +kernel) (by decide +kernel)
set_option maxRecDepth 20000 in
theorem gL_law_X3_setDelay : GoodIn wsL_law (wsV RL 102 RX3 yX3_setDelay wsX3_setDelay) := goodIn_app (goodIn_of _ (by decide +kernel)) ggL_law_X3_setDelay
set_option maxRecDepth 20000 in
theorem ggL_law_L_fail : GoodIn wsL_law wsL_fail := goodIn_ca (goodIn_ca (goodIn_r _ [179, 75, 180, 181, 182, 183, 2, 184, 185, 186, 20, 187, 129, 130, 131, 84, 85, 86, 87, 88, 188, 189, 190, 19, 191, 46, 47, 192, 193, 194, 195, 476, 477, 478, 479, 480, 506, 507, 508, 509, 510, 511, 512] (by decide +kernel) (by decide +kernel)) (goodIn_sub (fun _ h => List.mem_append_right _ h) (by decide +kernel))) (goodIn_sub (fun _ h => List.mem_append_left _ (List.mem_append_right _ h)) (by decide +kernel))
set_option maxRecDepth 20000 in
theorem gL_law_L_fail : GoodIn wsL_law (va_wsS RL 103 yL_fail wsL_fail) := goodIn_app (goodIn_of _ (by decide +kernel)) ggL_law_L_fail
set_option maxRecDepth 20000 in
theorem ggL_law_X3_fail : GoodIn wsL_law wsX3_fail := goodIn_r _ [199, 67, 68, 136, 137, 5, 138, 96, 97, 98, 99, 100, 101, 102, 103, 200, 201, 202, 203, 481, 482, 483, 484, 485, 486, 487, 488, 489, 490, 491, 492, 493, 494, 495, 496, 497] (by decide +kernel) (by decide +kernel)
set_option maxRecDepth 20000 in
theorem gL_law_X3_fail : GoodIn wsL_law (wsV RL 105 RX3 yX3_fail wsX3_fail) := goodIn_app (goodIn_of _ (by decide +kernel)) ggL_law_X3_fail
set_option maxRecDepth 20000 in
theorem ggL_law_L_repair : GoodIn wsL_law wsL_repair := goodIn_ca (goodIn_ca (goodIn_r _ [206, 75, 180, 207, 208, 209, 2, 210, 185, 186, 20, 187, 129, 130, 131, 84, 85, 86, 87, 88, 192, 193, 194, 19, 195, 46, 476, 477, 478, 479, 480, 506, 507, 508, 509, 510, 511, 512] (by decide +kernel) (by decide +kernel)) (goodIn_sub (fun _ h => List.mem_append_right _ h) (by decide +kernel))) (goodIn_sub (fun _ h => List.mem_append_left _ (List.mem_append_right _ h)) (by decide +kernel))
set_option maxRecDepth 20000 in
theorem gL_law_L_repair : GoodIn wsL_law (va_wsS RL 106 yL_repair wsL_repair) := goodIn_app (goodIn_of _ (by decide +kernel)) ggL_law_L_repair
set_option maxRecDepth 20000 in
theorem ggL_law_X3_repair : GoodIn wsL_law wsX3_repair := goodIn_r _ [214, 67, 136, 137, 5, 138, 96, 97, 98, 99, 100, 101, 102, 103, 200, 201, 202, 203, 481, 482, 483, 484, 485, 486, 487, 488, 489, 490, 491, 492, 493, 494, 495, 496, 497] (by decide +kernel) (by decide +kernel)
set_option maxRecDepth 20000 in
theorem gL_law_X3_repair : GoodIn wsL_law (wsV RL 108 RX3 yX3_repair wsX3_repair) := goodIn_app (goodIn_of _ (by decide +kernel)) ggL_law_X3_repair
set_option maxRecDepth 20000 in
theorem ggL_law_L_command : GoodIn wsL_law wsL_command := goodIn_ca (goodIn_r _ [217, 75, 218, 219, 220, 2, 221, 20, 129, 130, 131, 84, 85, 86, 87, 88, 222, 223, 224, 19, 225, 49, 50, 226, 227, 228, 229, 476, 477, 478, 479, 480, 506, 507, 508, 509, 510, 511, 512] (by decide +kernel) (by decide +kernel)) (goodIn_sub (fun _ h => List.mem_append_left _ (List.mem_append_right _ h)) (by decide +kernel))
set_option maxRecDepth 20000 in
theorem gL_law_L_command : GoodIn wsL_law (va_wsS RL 109 yL_command wsL_command) := goodIn_app (goodIn_of _ (by decide +kernel)) ggL_law_L_command
set_option maxRecDepth 20000 in
theorem ggL_law_X3_command : GoodIn wsL_law wsX3_command := goodIn_r _ [233, 63, 69, 136, 137, 5, 138, 96, 97, 98, 99, 100, 101, 102, 103, 234, 235, 236, 481, 482, 483, 484, 485, 486, 487, 488, 489, 490, 491, 492, 493, 494, 495, 496, 497] (by decide +kernel) (by decide +kernel)
set_option maxRecDepth 20000 in
theorem gL_law_X3_command : GoodIn wsL_law (wsV RL 111 RX3 yX3_command wsX3_command) := goodIn_app (goodIn_of _ (by decide +kernel)) ggL_law_X3_command
set_option maxRecDepth 20000 in
theorem ggL_law_L_speed : GoodIn wsL_law wsL_speed := goodIn_ca (goodIn_r _ [239, 75, 240, 241, 242, 2, 243, 20, 244, 129, 130, 131, 84, 85, 86, 87, 88, 476, 477, 478, 479, 480, 506, 507, 508, 509, 510, 511, 512] (by decide +kernel) (by decide +kernel)) (goodIn_sub (fun _ h => List.mem_append_left _ (List.mem_append_right _ h)) (by decide +kernel))
set_option maxRecDepth 20000 in
theorem gL_law_L_speed : GoodIn wsL_law (va_wsS RL 112 yL_speed wsL_speed) := goodIn_app (goodIn_of _ (by decide +kernel)) ggL_law_L_speed
set_option maxRecDepth 20000 in
theorem ggL_law_X3_speed : GoodIn wsL_law wsX3_speed := goodIn_r _ [248, 68, 136, 137, 5, 138, 96, 97, 98, 99, 100, 101, 102, 103, 481, 482, 483, 484, 485, 486, 487, 488, 489, 490, 491, 492, 493, 494, 495, 496, 497] (by decide +kernel) (by decide +kernel)
set_option maxRecDepth 20000 in
theorem gL_law_X3_speed : GoodIn wsL_law (wsV RL 114 RX3 yX3_speed wsX3_speed) := goodIn_app (goodIn_of _ (by decide +kernel)) ggL_law_X3_speed
set_option maxRecDepth 20000 in
theorem ggL_law_L_pass : GoodIn wsL_law wsL_pass := goodIn_ca (goodIn_ca (goodIn_r _ [251, 75, 180, 252, 253, 254, 2, 255, 185, 186, 24, 256, 20, 16, 84, 85, 86, 87, 88, 257, 258, 259, 19, 260, 44, 42, 261, 262, 263, 264, 265, 43, 266, 267, 268, 269, 270, 271, 272, 273, 274, 275, 276, 277, 278, 228, 279, 280, 281, 282, 283, 284, 46, 285, 286, 287, 288, 289, 50, 226, 227, 229, 290, 223, 224, 225, 49, 291, 292, 293, 294, 295, 296, 297, 298, 299, 300, 47, 301, 302, 303, 304, 305, 306, 307, 308, 309, 310, 311, 160, 23, 476, 477, 478, 479, 480, 506, 507, 508, 509, 510, 511, 512, 498, 499, 500, 501, 502, 503, 504, 505] (by decide +kernel) (by decide +kernel)) (goodIn_sub (fun _ h => List.mem_append_right _ h) (by decide +kernel))) (goodIn_sub (fun _ h => List.mem_append_left _ (List.mem_append_right _ h)) (by decide +kernel))
set_option maxRecDepth 20000 in
theorem gL_law_L_pass : GoodIn wsL_law (va_wsS RL 115 yL_pass wsL_pass) := goodIn_app (goodIn_of _ (by decide +kernel)) ggL_law_L_pass
set_option maxRecDepth 20000 in
theorem ggL_law_X3_pass : GoodIn wsL_law wsX3_pass := goodIn_r _ [315, 63, 316, 70, 64, 61, 96, 97, 5, 98, 99, 100, 101, 102, 103, 317, 318, 319, 320, 321, 322, 323, 324, 56, 65, 58, 59, 57, 67, 66, 325, 326, 327, 328, 329, 330, 331, 332, 333, 334, 69, 234, 235, 236, 335, 336, 337, 338, 62, 68, 339, 340, 341, 342, 55, 60, 481, 482, 483, 484, 485, 486, 487, 488, 489, 490, 491, 492, 493, 494, 495, 496, 497] (by decide +kernel) (by decide +kernel)
set_option maxRecDepth 20000 in
theorem gL_law_X3_pass : GoodIn wsL_law (wsV RL 117 RX3 yX3_pass wsX3_pass) := goodIn_app (goodIn_of _ (by decide +kernel)) ggL_law_X3_pass
set_option maxRecDepth 20000 in
theorem ggL_law_X2_clock : GoodIn wsL_law wsX2_clock := goodIn_r _ [346, 24, 476, 477, 478, 479, 480] (by decide +kernel) (by decide +kernel)
set_option maxRecDepth 20000 in
theorem gL_law_X2_clock : GoodIn wsL_law (wsV RL 118 RX2 yX2_clock wsX2_clock) := goodIn_app (goodIn_of _ (by decide +kernel)) ggL_law_X2_clock
set_option maxRecDepth 20000 in
theorem ggL_law_X3_clock : GoodIn wsL_law wsX3_clock := goodIn_r _ [350, 103, 63, 481, 482, 483, 484, 485, 486, 487, 488, 489, 490, 491, 492, 493, 494, 495, 496, 497] (by decide +kernel) (by decide +kernel)
set_option maxRecDepth 20000 in
theorem gL_law_X3_clock : GoodIn wsL_law (wsV RL 121 RX3 yX3_clock wsX3_clock) := goodIn_app (goodIn_of _ (by decide +kernel)) ggL_law_X3_clock
set_option maxRecDepth 20000 in
theorem ggL_law_L_temperature : GoodIn wsL_law wsL_temperature := goodIn_ca (goodIn_r _ [353, 75, 354, 355, 356, 2, 357, 20, 311, 81, 82, 83, 84, 85, 86, 87, 88, 476, 477, 478, 479, 480, 506, 507, 508, 509, 510, 511, 512] (by decide +kernel) (by decide +kernel)) (goodIn_sub (fun _ h => List.mem_append_left _ (List.mem_append_right _ h)) (by decide +kernel))
set_option maxRecDepth 20000 in
theorem gL_law_L_temperature : GoodIn wsL_law (va_wsS RL 122 yL_temperature wsL_temperature) := goodIn_app (goodIn_of _ (by decide +kernel)) ggL_law_L_temperature
set_option maxRecDepth 20000 in
theorem ggL_law_X3_temperature : GoodIn wsL_law wsX3_temperature := goodIn_r _ [361, 64, 362, 363, 364, 5, 365, 93, 94, 95, 96, 97, 98, 99, 100, 101, 102, 103, 481, 482, 483, 484, 485, 486, 487, 488, 489, 490, 491, 492, 493, 494, 495, 496, 497] (by decide +kernel) (by decide +kernel)
set_option maxRecDepth 20000 in
theorem gL_law_X3_temperature : GoodIn wsL_law (wsV RL 124 RX3 yX3_temperature wsX3_temperature) := goodIn_app (goodIn_of _ (by decide +kernel)) ggL_law_X3_temperature
set_option maxRecDepth 20000 in
theorem ggL_law_L_demand : GoodIn wsL_law wsL_demand := goodIn_ca (goodIn_r _ [368, 75, 369, 370, 371, 2, 372, 20, 373, 81, 82, 83, 84, 85, 86, 87, 88, 476, 477, 478, 479, 480, 506, 507, 508, 509, 510, 511, 512] (by decide +kernel) (by decide +kernel)) (goodIn_sub (fun _ h => List.mem_append_left _ (List.mem_append_right _ h)) (by decide +kernel))
set_option maxRecDepth 20000 in
theorem gL_law_L_demand : GoodIn wsL_law (va_wsS RL 125 yL_demand wsL_demand) := goodIn_app (goodIn_of _ (by decide +kernel)) ggL_law_L_demand
set_option maxRecDepth 20000 in
theorem ggL_law_X3_demand : GoodIn wsL_law wsX3_demand := goodIn_r _ [377, 66, 362, 363, 364, 5, 365, 93, 94, 95, 96, 97, 98, 99, 100, 101, 102, 103, 481, 482, 483, 484, 485, 486, 487, 488, 489, 490, 491, 492, 493, 494, 495, 496, 497] (by decide +kernel) (by decide +kernel)
set_option maxRecDepth 20000 in
theorem gL_law_X3_demand : GoodIn wsL_law (wsV RL 127 RX3 yX3_demand wsX3_demand) := goodIn_app (goodIn_of _ (by decide +kernel)) ggL_law_X3_demand
set_option maxRecDepth 20000 in
theorem ggL_law_L_errors : GoodIn wsL_law wsL_errors := goodIn_ca (goodIn_r _ [380, 75, 381, 382, 383, 2, 384, 20, 116, 81, 82, 83, 84, 85, 86, 87, 88, 476, 477, 478, 479, 480, 506, 507, 508, 509, 510, 511, 512] (by decide +kernel) (by decide +kernel)) (goodIn_sub (fun _ h => List.mem_append_left _ (List.mem_append_right _ h)) (by decide +kernel))
set_option maxRecDepth 20000 in
theorem gL_law_L_errors : GoodIn wsL_law (va_wsS RL 128 yL_errors wsL_errors) := goodIn_app (goodIn_of _ (by decide +kernel)) ggL_law_L_errors
set_option maxRecDepth 20000 in
theorem ggL_law_X3_errors : GoodIn wsL_law wsX3_errors := goodIn_r _ [388, 65, 362, 363, 364, 5, 365, 93, 94, 95, 96, 97, 98, 99, 100, 101, 102, 103, 481, 482, 483, 484, 485, 486, 487, 488, 489, 490, 491, 492, 493, 494, 495, 496, 497] (by decide +kernel) (by decide +kernel)
set_option maxRecDepth 20000 in
theorem gL_law_X3_errors : GoodIn wsL_law (wsV RL 130 RX3 yX3_errors wsX3_errors) := goodIn_app (goodIn_of _ (by decide +kernel)) ggL_law_X3_errors
set_option maxRecDepth 20000 in
theorem ggL_law_L_hotMinutes : GoodIn wsL_law wsL_hotMinutes := goodIn_ca (goodIn_r _ [391, 75, 392, 393, 394, 2, 395, 23, 81, 82, 83, 84, 85, 86, 87, 88, 476, 477, 478, 479, 480] (by decide +kernel) (by decide +kernel)) (goodIn_sub (fun _ h => List.mem_append_left _ (List.mem_append_right _ h)) (by decide +kernel))
set_option maxRecDepth 20000 in
theorem gL_law_L_hotMinutes : GoodIn wsL_law (va_wsS RL 131 yL_hotMinutes wsL_hotMinutes) := goodIn_app (goodIn_of _ (by decide +kernel)) ggL_law_L_hotMinutes
set_option maxRecDepth 20000 in
theorem ggL_law_X3_hotMinutes : GoodIn wsL_law wsX3_hotMinutes := goodIn_r _ [399, 70, 362, 363, 364, 5, 365, 93, 94, 95, 96, 97, 98, 99, 100, 101, 102, 103, 481, 482, 483, 484, 485, 486, 487, 488, 489, 490, 491, 492, 493, 494, 495, 496, 497] (by decide +kernel) (by decide +kernel)
set_option maxRecDepth 20000 in
theorem gL_law_X3_hotMinutes : GoodIn wsL_law (wsV RL 133 RX3 yX3_hotMinutes wsX3_hotMinutes) := goodIn_app (goodIn_of _ (by decide +kernel)) ggL_law_X3_hotMinutes
set_option maxRecDepth 20000 in
theorem ggL_law_X2_hottest : GoodIn wsL_law wsX2_hottest := goodIn_r _ [403, 20, 311, 476, 477, 478, 479, 480, 506, 507, 508, 509, 510, 511, 512] (by decide +kernel) (by decide +kernel)
set_option maxRecDepth 20000 in
theorem gL_law_X2_hottest : GoodIn wsL_law (wsV RL 134 RX2 yX2_hottest wsX2_hottest) := goodIn_app (goodIn_of _ (by decide +kernel)) ggL_law_X2_hottest
set_option maxRecDepth 20000 in
theorem ggL_law_X3_hottest : GoodIn wsL_law wsX3_hottest := goodIn_r _ [407, 103, 64, 481, 482, 483, 484, 485, 486, 487, 488, 489, 490, 491, 492, 493, 494, 495, 496, 497] (by decide +kernel) (by decide +kernel)
set_option maxRecDepth 20000 in
theorem gL_law_X3_hottest : GoodIn wsL_law (wsV RL 137 RX3 yX3_hottest wsX3_hottest) := goodIn_app (goodIn_of _ (by decide +kernel)) ggL_law_X3_hottest
set_option maxRecDepth 20000 in
theorem ggL_law_L_expected : GoodIn wsL_law wsL_expected := goodIn_ca (goodIn_r _ [410, 75, 411, 412, 413, 2, 414, 415, 416, 417, 81, 82, 83, 84, 85, 86, 87, 88, 418, 419, 420, 421, 21, 20, 16, 311, 274, 275, 272, 276, 422, 423, 424, 19, 425, 42, 426, 427, 428, 429, 43, 44, 47, 46, 49, 50, 188, 189, 190, 191, 257, 258, 259, 260, 261, 262, 263, 264, 265, 266, 267, 268, 269, 270, 271, 273, 277, 278, 228, 279, 280, 281, 282, 283, 284, 285, 286, 287, 288, 289, 226, 227, 229, 290, 223, 224, 225, 291, 292, 293, 294, 295, 296, 297, 298, 299, 300, 301, 302, 303, 304, 305, 306, 476, 477, 478, 479, 480, 506, 507, 508, 509, 510, 511, 512, 498, 499, 500, 501, 502, 503, 504, 505] (by decide +kernel) (by decide +kernel)) (goodIn_sub (fun _ h => List.mem_append_left _ (List.mem_append_right _ h)) (by decide +kernel))
set_option maxRecDepth 20000 in
theorem gL_law_L_expected : GoodIn wsL_law (va_wsS RL 138 yL_expected wsL_expected) := goodIn_app (goodIn_of _ (by decide +kernel)) ggL_law_L_expected
set_option maxRecDepth 20000 in
theorem ggL_law_X3_expected : GoodIn wsL_law wsX3_expected := goodIn_r _ [433, 434, 435, 436, 5, 437, 93, 94, 95, 96, 97, 98, 99, 100, 101, 102, 103, 438, 439, 440, 441, 67, 64, 442, 443, 444, 445, 63, 65, 69, 317, 318, 319, 320, 321, 322, 323, 324, 56, 58, 59, 57, 66, 325, 326, 327, 328, 329, 330, 331, 332, 333, 334, 234, 235, 236, 335, 336, 337, 338, 62, 68, 339, 340, 341, 342, 55, 60, 481, 482, 483, 484, 485, 486, 487, 488, 489, 490, 491, 492, 493, 494, 495, 496, 497] (by decide +kernel) (by decide +kernel)
set_option maxRecDepth 20000 in
theorem gL_law_X3_expected : GoodIn wsL_law (wsV RL 140 RX3 yX3_expected wsX3_expected) := goodIn_app (goodIn_of _ (by decide +kernel)) ggL_law_X3_expected
set_option maxRecDepth 20000 in
theorem ggL_law_L_critical : GoodIn wsL_law wsL_critical := goodIn_ca (goodIn_r _ [448, 75, 449, 450, 451, 2, 452, 415, 416, 417, 81, 82, 83, 84, 85, 86, 87, 88, 453, 454, 455, 456, 20, 187, 418, 419, 420, 421, 21, 16, 311, 274, 275, 272, 276, 422, 423, 424, 19, 425, 42, 426, 427, 428, 429, 43, 44, 47, 46, 49, 50, 188, 189, 190, 191, 257, 258, 259, 260, 261, 262, 263, 264, 265, 266, 267, 268, 269, 270, 271, 273, 277, 278, 228, 279, 280, 281, 282, 283, 284, 285, 286, 287, 288, 289, 226, 227, 229, 290, 223, 224, 225, 291, 292, 293, 294, 295, 296, 297, 298, 299, 300, 301, 302, 303, 304, 305, 306, 476, 477, 478, 479, 480, 506, 507, 508, 509, 510, 511, 512, 498, 499, 500, 501, 502, 503, 504, 505] (by decide +kernel) (by decide +kernel)) (goodIn_sub (fun _ h => List.mem_append_left _ (List.mem_append_right _ h)) (by decide +kernel))
set_option maxRecDepth 20000 in
theorem gL_law_L_critical : GoodIn wsL_law (va_wsS RL 141 yL_critical wsL_critical) := goodIn_app (goodIn_of _ (by decide +kernel)) ggL_law_L_critical
set_option maxRecDepth 20000 in
theorem ggL_law_X3_critical : GoodIn wsL_law wsX3_critical := goodIn_r _ [460, 434, 435, 436, 5, 437, 93, 94, 95, 96, 97, 98, 99, 100, 101, 102, 103, 461, 462, 463, 464, 67, 438, 439, 440, 441, 64, 442, 443, 444, 445, 63, 65, 69, 317, 318, 319, 320, 321, 322, 323, 324, 56, 58, 59, 57, 66, 325, 326, 327, 328, 329, 330, 331, 332, 333, 334, 234, 235, 236, 335, 336, 337, 338, 62, 68, 339, 340, 341, 342, 55, 60, 481, 482, 483, 484, 485, 486, 487, 488, 489, 490, 491, 492, 493, 494, 495, 496, 497] (by decide +kernel) (by decide +kernel)
set_option maxRecDepth 20000 in
theorem gL_law_X3_critical : GoodIn wsL_law (wsV RL 143 RX3 yX3_critical wsX3_critical) := goodIn_app (goodIn_of _ (by decide +kernel)) ggL_law_X3_critical
set_option maxRecDepth 20000 in
theorem ggL_law_L_margin : GoodIn wsL_law wsL_margin := goodIn_ca (goodIn_r _ [467, 75, 468, 469, 470, 2, 471, 16, 160, 415, 416, 417, 81, 82, 83, 84, 85, 86, 87, 88, 453, 454, 455, 456, 20, 187, 418, 419, 420, 421, 21, 311, 274, 275, 272, 276, 422, 423, 424, 19, 425, 42, 426, 427, 428, 429, 43, 44, 47, 46, 49, 50, 188, 189, 190, 191, 257, 258, 259, 260, 261, 262, 263, 264, 265, 266, 267, 268, 269, 270, 271, 273, 277, 278, 228, 279, 280, 281, 282, 283, 284, 285, 286, 287, 288, 289, 226, 227, 229, 290, 223, 224, 225, 291, 292, 293, 294, 295, 296, 297, 298, 299, 300, 301, 302, 303, 304, 305, 306, 476, 477, 478, 479, 480, 498, 499, 500, 501, 502, 503, 504, 505, 506, 507, 508, 509, 510, 511, 512] (by decide +kernel) (by decide +kernel)) (goodIn_sub (fun _ h => List.mem_append_left _ (List.mem_append_right _ h)) (by decide +kernel))
set_option maxRecDepth 20000 in
theorem gL_law_L_margin : GoodIn wsL_law (va_wsS RL 144 yL_margin wsL_margin) := goodIn_app (goodIn_of _ (by decide +kernel)) ggL_law_L_margin
set_option maxRecDepth 20000 in
theorem ggL_law_X3_margin : GoodIn wsL_law wsX3_margin := goodIn_r _ [475, 61, 434, 435, 436, 5, 437, 93, 94, 95, 96, 97, 98, 99, 100, 101, 102, 103, 461, 462, 463, 464, 67, 438, 439, 440, 441, 64, 442, 443, 444, 445, 63, 65, 69, 317, 318, 319, 320, 321, 322, 323, 324, 56, 58, 59, 57, 66, 325, 326, 327, 328, 329, 330, 331, 332, 333, 334, 234, 235, 236, 335, 336, 337, 338, 62, 68, 339, 340, 341, 342, 55, 60, 481, 482, 483, 484, 485, 486, 487, 488, 489, 490, 491, 492, 493, 494, 495, 496, 497] (by decide +kernel) (by decide +kernel)
set_option maxRecDepth 20000 in
theorem gL_law_X3_margin : GoodIn wsL_law (wsV RL 146 RX3 yX3_margin wsX3_margin) := goodIn_app (goodIn_of _ (by decide +kernel)) ggL_law_X3_margin
