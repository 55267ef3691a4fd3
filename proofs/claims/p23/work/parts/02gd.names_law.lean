set_option maxRecDepth 20000 in
theorem ggL_law_X2_init : GoodIn wsL_law wsX2_init := goodIn_r _ [7, 8, 9, 10, 11, 12, 13, 14, 15, 16, 17, 18, 19, 3, 20, 21, 22, 23, 24, 25, 26, 27, 28, 29, 30, 31, 32, 33, 34, 35, 36, 37, 38, 39, 40, 41, 42, 43, 44, 45, 46, 47, 301, 302, 303, 304, 305, 306, 307, 308, 296, 297, 298, 299, 300, 309, 310, 311, 312, 313, 314, 315] (by decide +kernel) (by decide +kernel)
set_option maxRecDepth 20000 in
theorem gL_law_X2_init : GoodIn wsL_law (wsX2_init) := ggL_law_X2_init
set_option maxRecDepth 20000 in
theorem gL_law_L_isRefused : GoodIn wsL_law (va_wsS RL 119 yL_isRefused wsL_isRefused) := goodIn_app (goodIn_of _ (by decide +kernel)) ggL_law_L_isRefused
set_option maxRecDepth 20000 in
theorem ggL_law_L_dice : GoodIn wsL_law wsL_dice := goodIn_r _ [270, 271, 272] (by decide +kernel) (by decide +kernel)
set_option maxRecDepth 20000 in
theorem gL_law_L_dice : GoodIn wsL_law (va_wsS RL 123 yL_dice wsL_dice) := goodIn_app (goodIn_of _ (by decide +kernel)) ggL_law_L_dice
set_option maxRecDepth 20000 in
theorem ggL_law_L_set_c : GoodIn wsL_law [.codeWith yL_set cL_set 6 (some .int) [(0, 87, 88, 35), (0, 87, 93, 38)]] := goodIn_r _ [115] (by decide +kernel) (by decide +kernel)
set_option maxRecDepth 20000 in
theorem ggL_law_L_set_r1 : GoodIn wsL_law wsL_set_r1 := goodIn_r _ [116, 117, 52, 4, 118, 119, 120, 2, 121, 14, 122, 71, 72, 73, 74, 75, 76, 77, 78, 123, 124, 125, 126, 127] (by decide +kernel) (by decide +kernel)
set_option maxRecDepth 20000 in
theorem ggL_law_L_set_r2 : GoodIn wsL_law wsL_set_r2 := goodIn_r _ [18, 88, 128, 129, 130, 131, 132, 97, 98, 99, 133, 134, 135, 136, 137, 138, 139, 140, 141, 142, 143, 144, 145, 146] (by decide +kernel) (by decide +kernel)
set_option maxRecDepth 20000 in
theorem ggL_law_L_set_r3 : GoodIn wsL_law wsL_set_r3 := goodIn_r _ [147, 17, 148, 43, 44, 149, 150, 151, 152, 153, 154, 155, 156, 157, 158, 159, 160, 21, 161, 162, 163, 164, 165, 41] (by decide +kernel) (by decide +kernel)
set_option maxRecDepth 20000 in
theorem ggL_law_L_set_r4 : GoodIn wsL_law wsL_set_r4 := goodIn_r _ [39, 166, 167, 168, 169, 170, 40, 171, 172, 173, 174, 175, 176, 177, 178, 179, 180, 181, 182, 183, 106, 184, 185, 186] (by decide +kernel) (by decide +kernel)
set_option maxRecDepth 20000 in
theorem ggL_law_L_set_r5 : GoodIn wsL_law wsL_set_r5 := goodIn_r _ [187, 188, 189, 190, 191, 192, 193, 194, 47, 104, 105, 107, 195, 101, 102, 103, 46, 196, 197, 198, 199, 200, 201, 202] (by decide +kernel) (by decide +kernel)
set_option maxRecDepth 20000 in
theorem ggL_law_L_set_r6 : GoodIn wsL_law wsL_set_r6 := goodIn_r _ [203, 204, 205, 206, 207, 208, 209, 210, 211, 212, 213, 214, 215, 70, 216, 20] (by decide +kernel) (by decide +kernel)
set_option maxRecDepth 20000 in
theorem ggL_law_L_set_wsX20 : GoodIn wsL_law wsX20 := goodIn_r _ [296, 297, 298, 299, 300] (by decide +kernel) (by decide +kernel)
set_option maxRecDepth 20000 in
theorem ggL_law_L_set_wsX10 : GoodIn wsL_law wsX10 := goodIn_r _ [301, 302, 303, 304, 305, 306, 307, 308] (by decide +kernel) (by decide +kernel)
set_option maxRecDepth 20000 in
theorem ggL_law_L_set_wsX00 : GoodIn wsL_law wsX00 := goodIn_r _ [309, 310, 311, 312, 313, 314, 315] (by decide +kernel) (by decide +kernel)
set_option maxRecDepth 20000 in
theorem ggL_law_L_set_v0 : GoodIn wsL_law ((vx_atS RX2 141 "java/lang/IllegalArgumentException" ["java/lang/RuntimeException", "java/lang/Exception"]).filter goodWord) := goodIn_sub (fun _ h => List.mem_append_left _ (List.mem_append_right _ h)) (by decide +kernel)
set_option maxRecDepth 20000 in
theorem ggL_law_L_set_v1 : GoodIn wsL_law ((vx_atS RX2 81 "java/lang/IllegalStateException" ["java/lang/RuntimeException", "java/lang/Exception"]).filter goodWord) := goodIn_sub (fun _ h => List.mem_append_right _ h) (by decide +kernel)
theorem ggL_law_L_set : GoodIn wsL_law wsL_set := (goodIn_ca (goodIn_ca (goodIn_ca (goodIn_ca (goodIn_ca (goodIn_app (a := [.codeWith yL_set cL_set 6 (some .int) [(0, 87, 88, 35), (0, 87, 93, 38)]]) ggL_law_L_set_c (goodIn_app ggL_law_L_set_r1 (goodIn_app ggL_law_L_set_r2 (goodIn_app ggL_law_L_set_r3 (goodIn_app ggL_law_L_set_r4 (goodIn_app ggL_law_L_set_r5 ggL_law_L_set_r6)))))) ggL_law_L_set_wsX20) ggL_law_L_set_wsX10) ggL_law_L_set_wsX00) ggL_law_L_set_v0) ggL_law_L_set_v1)
set_option maxRecDepth 20000 in
theorem gL_law_L_set : GoodIn wsL_law (va_wsS RL 100 yL_set wsL_set) := goodIn_app (goodIn_of _ (by decide +kernel)) ggL_law_L_set
set_option maxRecDepth 20000 in
theorem ggL_law_X2_errors : GoodIn wsL_law wsX2_errors := goodIn_ca (goodIn_r _ [87, 18, 88, 71, 72, 2, 73, 74, 75, 76, 77, 78, 296, 297, 298, 299, 300, 309, 310, 311, 312, 313, 314, 315] (by decide +kernel) (by decide +kernel)) (goodIn_sub (fun _ h => List.mem_append_left _ (List.mem_append_right _ h)) (by decide +kernel))
set_option maxRecDepth 20000 in
theorem gL_law_X2_errors : GoodIn wsL_law (wsV RL 60 RX2 yX2_errors wsX2_errors) := goodIn_app (goodIn_of _ (by decide +kernel)) ggL_law_X2_errors
set_option maxRecDepth 20000 in
theorem ggL_law_L_setGains : GoodIn wsL_law wsL_setGains := goodIn_ca (goodIn_r _ [219, 116, 52, 220, 221, 222, 2, 223, 14, 224, 225, 74, 75, 76, 77, 78, 296, 297, 298, 299, 300, 301, 302, 303, 304, 305, 306, 307, 308] (by decide +kernel) (by decide +kernel)) (goodIn_sub (fun _ h => List.mem_append_left _ (List.mem_append_right _ h)) (by decide +kernel))
set_option maxRecDepth 20000 in
theorem gL_law_L_setGains : GoodIn wsL_law (va_wsS RL 104 yL_setGains wsL_setGains) := goodIn_app (goodIn_of _ (by decide +kernel)) ggL_law_L_setGains
set_option maxRecDepth 20000 in
theorem ggL_law_L_setHall : GoodIn wsL_law wsL_setHall := goodIn_ca (goodIn_r _ [228, 116, 52, 229, 230, 231, 2, 232, 14, 233, 216, 74, 75, 76, 77, 78, 296, 297, 298, 299, 300, 301, 302, 303, 304, 305, 306, 307, 308] (by decide +kernel) (by decide +kernel)) (goodIn_sub (fun _ h => List.mem_append_left _ (List.mem_append_right _ h)) (by decide +kernel))
set_option maxRecDepth 20000 in
theorem gL_law_L_setHall : GoodIn wsL_law (va_wsS RL 107 yL_setHall wsL_setHall) := goodIn_app (goodIn_of _ (by decide +kernel)) ggL_law_L_setHall
set_option maxRecDepth 20000 in
theorem gL_law_L_isFailing : GoodIn wsL_law (va_wsS RL 127 yL_isFailing wsL_isFailing) := goodIn_app (goodIn_of _ (by decide +kernel)) ggL_law_L_isFailing
set_option maxRecDepth 20000 in
theorem ggL_law_X2_speed : GoodIn wsL_law wsX2_speed := goodIn_ca (goodIn_r _ [111, 18, 112, 97, 98, 2, 99, 74, 75, 76, 77, 78, 296, 297, 298, 299, 300, 309, 310, 311, 312, 313, 314, 315] (by decide +kernel) (by decide +kernel)) (goodIn_sub (fun _ h => List.mem_append_left _ (List.mem_append_right _ h)) (by decide +kernel))
set_option maxRecDepth 20000 in
theorem gL_law_X2_speed : GoodIn wsL_law (wsV RL 51 RX2 yX2_speed wsX2_speed) := goodIn_app (goodIn_of _ (by decide +kernel)) ggL_law_X2_speed
set_option maxRecDepth 20000 in
theorem ggL_law_L_running : GoodIn wsL_law wsL_running := goodIn_r _ [278] (by decide +kernel) (by decide +kernel)
set_option maxRecDepth 20000 in
theorem gL_law_L_running : GoodIn wsL_law (va_wsS RL 114 yL_running wsL_running) := goodIn_app (goodIn_of _ (by decide +kernel)) ggL_law_L_running
set_option maxRecDepth 20000 in
theorem gL_law_L_isMinute : GoodIn wsL_law (va_wsS RL 131 yL_isMinute wsL_isMinute) := goodIn_app (goodIn_of _ (by decide +kernel)) ggL_law_L_isMinute
set_option maxRecDepth 20000 in
theorem ggL_law_X2_clock : GoodIn wsL_law wsX2_clock := goodIn_r _ [65, 21, 296, 297, 298, 299, 300] (by decide +kernel) (by decide +kernel)
set_option maxRecDepth 20000 in
theorem gL_law_X2_clock : GoodIn wsL_law (wsV RL 75 RX2 yX2_clock wsX2_clock) := goodIn_app (goodIn_of _ (by decide +kernel)) ggL_law_X2_clock
set_option maxRecDepth 20000 in
theorem gL_law_L_isAsked : GoodIn wsL_law (va_wsS RL 135 yL_isAsked wsL_isAsked) := goodIn_app (goodIn_of _ (by decide +kernel)) ggL_law_L_isAsked
set_option maxRecDepth 20000 in
theorem ggL_law_L_isFan : GoodIn wsL_law wsL_isFan := goodIn_ca (goodIn_r _ [288, 93, 94, 95, 2, 96, 18, 97, 98, 99, 74, 75, 76, 77, 78, 100, 101, 102, 17, 103, 46, 47, 104, 105, 106, 107, 108, 109, 110, 111, 112, 296, 297, 298, 299, 300, 309, 310, 311, 312, 313, 314, 315] (by decide +kernel) (by decide +kernel)) (goodIn_sub (fun _ h => List.mem_append_left _ (List.mem_append_right _ h)) (by decide +kernel))
set_option maxRecDepth 20000 in
theorem gL_law_L_isFan : GoodIn wsL_law (va_wsS RL 139 yL_isFan wsL_isFan) := goodIn_app (goodIn_of _ (by decide +kernel)) ggL_law_L_isFan
set_option maxRecDepth 20000 in
theorem ggL_law_L_isZone_c : GoodIn wsL_law [.code yL_isZone cL_isZone 5 (some .boolean)] := goodIn_r _ [291] (by decide +kernel) (by decide +kernel)
set_option maxRecDepth 20000 in
theorem ggL_law_L_isZone_r1 : GoodIn wsL_law wsL_isZone_r1 := goodIn_r _ [237, 238, 239, 2, 240, 241, 242, 243, 71, 72, 73, 74, 75, 76, 77, 78, 244, 245, 246, 247, 19, 18, 14, 70] (by decide +kernel) (by decide +kernel)
set_option maxRecDepth 20000 in
theorem ggL_law_L_isZone_r2 : GoodIn wsL_law wsL_isZone_r2 := goodIn_r _ [179, 180, 177, 181, 248, 249, 250, 17, 251, 39, 252, 253, 254, 255, 40, 41, 44, 43, 46, 47, 145, 146, 147, 148] (by decide +kernel) (by decide +kernel)
set_option maxRecDepth 20000 in
theorem ggL_law_L_isZone_r3 : GoodIn wsL_law wsL_isZone_r3 := goodIn_r _ [162, 163, 164, 165, 166, 167, 168, 169, 170, 171, 172, 173, 174, 175, 176, 178, 182, 183, 106, 184, 185, 186, 187, 188] (by decide +kernel) (by decide +kernel)
set_option maxRecDepth 20000 in
theorem ggL_law_L_isZone_r4 : GoodIn wsL_law wsL_isZone_r4 := goodIn_r _ [189, 190, 191, 192, 193, 194, 104, 105, 107, 195, 101, 102, 103, 196, 197, 198, 199, 200, 201, 202, 203, 204, 205, 206] (by decide +kernel) (by decide +kernel)
set_option maxRecDepth 20000 in
theorem ggL_law_L_isZone_r5 : GoodIn wsL_law wsL_isZone_r5 := goodIn_r _ [207, 208, 209, 210, 211, 264, 265, 266, 267, 216, 260, 261, 262, 263, 144, 256, 257, 258, 259, 79, 80, 81, 82, 83] (by decide +kernel) (by decide +kernel)
set_option maxRecDepth 20000 in
theorem ggL_law_L_isZone_r6 : GoodIn wsL_law wsL_isZone_r6 := goodIn_r _ [84, 85, 86, 87, 88, 89, 90, 91, 92, 20, 62, 63, 64, 65, 21, 292, 293, 294, 295, 66, 67, 68, 69] (by decide +kernel) (by decide +kernel)
set_option maxRecDepth 20000 in
theorem ggL_law_L_isZone_wsX20 : GoodIn wsL_law wsX20 := goodIn_r _ [296, 297, 298, 299, 300] (by decide +kernel) (by decide +kernel)
set_option maxRecDepth 20000 in
theorem ggL_law_L_isZone_wsX00 : GoodIn wsL_law wsX00 := goodIn_r _ [309, 310, 311, 312, 313, 314, 315] (by decide +kernel) (by decide +kernel)
set_option maxRecDepth 20000 in
theorem ggL_law_L_isZone_wsX10 : GoodIn wsL_law wsX10 := goodIn_r _ [301, 302, 303, 304, 305, 306, 307, 308] (by decide +kernel) (by decide +kernel)
set_option maxRecDepth 20000 in
theorem ggL_law_L_isZone_v0 : GoodIn wsL_law ((vx_atS RX2 141 "java/lang/IllegalArgumentException" ["java/lang/RuntimeException", "java/lang/Exception"]).filter goodWord) := goodIn_sub (fun _ h => List.mem_append_left _ (List.mem_append_right _ h)) (by decide +kernel)
theorem ggL_law_L_isZone : GoodIn wsL_law wsL_isZone := (goodIn_ca (goodIn_ca (goodIn_ca (goodIn_ca (goodIn_app (a := [.code yL_isZone cL_isZone 5 (some .boolean)]) ggL_law_L_isZone_c (goodIn_app ggL_law_L_isZone_r1 (goodIn_app ggL_law_L_isZone_r2 (goodIn_app ggL_law_L_isZone_r3 (goodIn_app ggL_law_L_isZone_r4 (goodIn_app ggL_law_L_isZone_r5 ggL_law_L_isZone_r6)))))) ggL_law_L_isZone_wsX20) ggL_law_L_isZone_wsX00) ggL_law_L_isZone_wsX10) ggL_law_L_isZone_v0)
set_option maxRecDepth 20000 in
theorem gL_law_L_isZone : GoodIn wsL_law (va_wsS RL 142 yL_isZone wsL_isZone) := goodIn_app (goodIn_of _ (by decide +kernel)) ggL_law_L_isZone
