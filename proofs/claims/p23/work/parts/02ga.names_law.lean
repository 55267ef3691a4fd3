set_option maxRecDepth 20000 in
theorem ggL_law_L_isRefused_c : GoodIn wsL_law [.code yL_isRefused cL_isRefused 10 (some .boolean)] := goodIn_r _ [51] (by decide +kernel) (by decide +kernel)
set_option maxRecDepth 20000 in
theorem ggL_law_L_isRefused_r1 : GoodIn wsL_law wsL_isRefused_r1 := goodIn_r _ [52, 4, 53, 54, 50, 55, 56, 57, 58, 59, 60, 61, 62, 63, 64, 2, 65, 21, 66, 67, 68, 69, 18, 70] (by decide +kernel) (by decide +kernel)
set_option maxRecDepth 20000 in
theorem ggL_law_L_isRefused_r2 : GoodIn wsL_law wsL_isRefused_r2 := goodIn_r _ [71, 72, 73, 74, 75, 76, 77, 78, 79, 80, 81, 82, 83, 84, 85, 86, 87, 88, 89, 90, 91, 92, 20, 93] (by decide +kernel) (by decide +kernel)
set_option maxRecDepth 20000 in
theorem ggL_law_L_isRefused_r3 : GoodIn wsL_law wsL_isRefused_r3 := goodIn_r _ [94, 95, 96, 97, 98, 99, 100, 101, 102, 17, 103, 46, 47, 104, 105, 106, 107, 108, 109, 110, 111, 112, 113, 114] (by decide +kernel) (by decide +kernel)
set_option maxRecDepth 20000 in
theorem ggL_law_L_isRefused_r4 : GoodIn wsL_law wsL_isRefused_r4 := goodIn_r _ [115, 116, 117, 118, 119, 120, 121, 14, 122, 123, 124, 125, 126, 127, 128, 129, 130, 131, 132, 133, 134, 135, 136, 137] (by decide +kernel) (by decide +kernel)
set_option maxRecDepth 20000 in
theorem ggL_law_L_isRefused_r5 : GoodIn wsL_law wsL_isRefused_r5 := goodIn_r _ [138, 139, 140, 141, 142, 143, 144, 145, 146, 147, 148, 43, 44, 149, 150, 151, 152, 153, 154, 155, 156, 157, 158, 159] (by decide +kernel) (by decide +kernel)
set_option maxRecDepth 20000 in
theorem ggL_law_L_isRefused_r6 : GoodIn wsL_law wsL_isRefused_r6 := goodIn_r _ [160, 161, 162, 163, 164, 165, 41, 39, 166, 167, 168, 169, 170, 40, 171, 172, 173, 174, 175, 176, 177, 178, 179, 180] (by decide +kernel) (by decide +kernel)
set_option maxRecDepth 20000 in
theorem ggL_law_L_isRefused_r7 : GoodIn wsL_law wsL_isRefused_r7 := goodIn_r _ [181, 182, 183, 184, 185, 186, 187, 188, 189, 190, 191, 192, 193, 194, 195, 196, 197, 198, 199, 200, 201, 202, 203, 204] (by decide +kernel) (by decide +kernel)
set_option maxRecDepth 20000 in
theorem ggL_law_L_isRefused_r8 : GoodIn wsL_law wsL_isRefused_r8 := goodIn_r _ [205, 206, 207, 208, 209, 210, 211, 212, 213, 214, 215, 216, 217, 218, 219, 220, 221, 222, 223, 224, 225, 226, 227, 228] (by decide +kernel) (by decide +kernel)
set_option maxRecDepth 20000 in
theorem ggL_law_L_isRefused_r9 : GoodIn wsL_law wsL_isRefused_r9 := goodIn_r _ [229, 230, 231, 232, 233, 234, 235, 236, 237, 238, 239, 240, 241, 242, 243, 244, 245, 246, 247, 19, 248, 249, 250, 251] (by decide +kernel) (by decide +kernel)
set_option maxRecDepth 20000 in
theorem ggL_law_L_isRefused_r10 : GoodIn wsL_law wsL_isRefused_r10 := goodIn_r _ [252, 253, 254, 255, 256, 257, 258, 259, 260, 261, 262, 263, 264, 265, 266, 267] (by decide +kernel) (by decide +kernel)
set_option maxRecDepth 20000 in
theorem ggL_law_L_isRefused_wsX20 : GoodIn wsL_law wsX20 := goodIn_r _ [296, 297, 298, 299, 300] (by decide +kernel) (by decide +kernel)
set_option maxRecDepth 20000 in
theorem ggL_law_L_isRefused_wsX00 : GoodIn wsL_law wsX00 := goodIn_r _ [309, 310, 311, 312, 313, 314, 315] (by decide +kernel) (by decide +kernel)
set_option maxRecDepth 20000 in
theorem ggL_law_L_isRefused_wsX10 : GoodIn wsL_law wsX10 := goodIn_r _ [301, 302, 303, 304, 305, 306, 307, 308] (by decide +kernel) (by decide +kernel)
set_option maxRecDepth 20000 in
theorem ggL_law_L_isRefused_v0 : GoodIn wsL_law ((vx_atS RX2 141 "java/lang/IllegalArgumentException" ["java/lang/RuntimeException", "java/lang/Exception"]).filter goodWord) := goodIn_sub (fun _ h => List.mem_append_left _ (List.mem_append_right _ h)) (by decide +kernel)
set_option maxRecDepth 20000 in
theorem ggL_law_L_isRefused_v1 : GoodIn wsL_law ((vx_atS RX2 81 "java/lang/IllegalStateException" ["java/lang/RuntimeException", "java/lang/Exception"]).filter goodWord) := goodIn_sub (fun _ h => List.mem_append_right _ h) (by decide +kernel)
theorem ggL_law_L_isRefused : GoodIn wsL_law wsL_isRefused := (goodIn_ca (goodIn_ca (goodIn_ca (goodIn_ca (goodIn_ca (goodIn_app (a := [.code yL_isRefused cL_isRefused 10 (some .boolean)]) ggL_law_L_isRefused_c (goodIn_app ggL_law_L_isRefused_r1 (goodIn_app ggL_law_L_isRefused_r2 (goodIn_app ggL_law_L_isRefused_r3 (goodIn_app ggL_law_L_isRefused_r4 (goodIn_app ggL_law_L_isRefused_r5 (goodIn_app ggL_law_L_isRefused_r6 (goodIn_app ggL_law_L_isRefused_r7 (goodIn_app ggL_law_L_isRefused_r8 (goodIn_app ggL_law_L_isRefused_r9 ggL_law_L_isRefused_r10)))))))))) ggL_law_L_isRefused_wsX20) ggL_law_L_isRefused_wsX00) ggL_law_L_isRefused_wsX10) ggL_law_L_isRefused_v0) ggL_law_L_isRefused_v1)
