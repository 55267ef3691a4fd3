set_option maxRecDepth 20000 in
theorem ggL_law_L_isFailing_c : GoodIn wsL_law [.code yL_isFailing cL_isFailing 12 (some .boolean)] := goodIn_r _ [275] (by decide +kernel) (by decide +kernel)
set_option maxRecDepth 20000 in
theorem ggL_law_L_isFailing_r1 : GoodIn wsL_law wsL_isFailing_r1 := goodIn_r _ [4, 256, 257, 258, 2, 259, 241, 242, 243, 71, 72, 73, 74, 75, 76, 77, 78, 260, 261, 262, 263, 18, 144, 244] (by decide +kernel) (by decide +kernel)
set_option maxRecDepth 20000 in
theorem ggL_law_L_isFailing_r2 : GoodIn wsL_law wsL_isFailing_r2 := goodIn_r _ [245, 246, 247, 19, 14, 70, 179, 180, 177, 181, 248, 249, 250, 17, 251, 39, 252, 253, 254, 255, 40, 41, 44, 43] (by decide +kernel) (by decide +kernel)
set_option maxRecDepth 20000 in
theorem ggL_law_L_isFailing_r3 : GoodIn wsL_law wsL_isFailing_r3 := goodIn_r _ [46, 47, 145, 146, 147, 148, 162, 163, 164, 165, 166, 167, 168, 169, 170, 171, 172, 173, 174, 175, 176, 178, 182, 183] (by decide +kernel) (by decide +kernel)
set_option maxRecDepth 20000 in
theorem ggL_law_L_isFailing_r4 : GoodIn wsL_law wsL_isFailing_r4 := goodIn_r _ [106, 184, 185, 186, 187, 188, 189, 190, 191, 192, 193, 194, 104, 105, 107, 195, 101, 102, 103, 196, 197, 198, 199, 200] (by decide +kernel) (by decide +kernel)
set_option maxRecDepth 20000 in
theorem ggL_law_L_isFailing_r5 : GoodIn wsL_law wsL_isFailing_r5 := goodIn_r _ [201, 202, 203, 204, 205, 206, 207, 208, 209, 210, 211, 264, 265, 266, 267, 216, 93, 94, 95, 96, 97, 98, 99, 100] (by decide +kernel) (by decide +kernel)
set_option maxRecDepth 20000 in
theorem ggL_law_L_isFailing_r6 : GoodIn wsL_law wsL_isFailing_r6 := goodIn_r _ [113, 114, 50, 115, 116, 117, 52, 118, 119, 120, 121, 122, 123, 124, 125, 126, 127, 88, 128, 129, 130, 131, 132, 133] (by decide +kernel) (by decide +kernel)
set_option maxRecDepth 20000 in
theorem ggL_law_L_isFailing_r7 : GoodIn wsL_law wsL_isFailing_r7 := goodIn_r _ [134, 135, 136, 137, 138, 139, 140, 141, 142, 143, 149, 150, 151, 152, 153, 154, 155, 156, 157, 158, 159, 160, 21, 161] (by decide +kernel) (by decide +kernel)
set_option maxRecDepth 20000 in
theorem ggL_law_L_isFailing_r8 : GoodIn wsL_law wsL_isFailing_r8 := goodIn_r _ [212, 213, 214, 215, 20, 276, 277, 278, 108, 109, 110, 111, 112, 237, 238, 239, 240] (by decide +kernel) (by decide +kernel)
set_option maxRecDepth 20000 in
theorem ggL_law_L_isFailing_wsX20 : GoodIn wsL_law wsX20 := goodIn_r _ [296, 297, 298, 299, 300] (by decide +kernel) (by decide +kernel)
set_option maxRecDepth 20000 in
theorem ggL_law_L_isFailing_wsX00 : GoodIn wsL_law wsX00 := goodIn_r _ [309, 310, 311, 312, 313, 314, 315] (by decide +kernel) (by decide +kernel)
set_option maxRecDepth 20000 in
theorem ggL_law_L_isFailing_wsX10 : GoodIn wsL_law wsX10 := goodIn_r _ [301, 302, 303, 304, 305, 306, 307, 308] (by decide +kernel) (by decide +kernel)
set_option maxRecDepth 20000 in
theorem ggL_law_L_isFailing_v0 : GoodIn wsL_law ((vx_atS RX2 141 "java/lang/IllegalArgumentException" ["java/lang/RuntimeException", "java/lang/Exception"]).filter goodWord) := goodIn_sub (fun _ h => List.mem_append_left _ (List.mem_append_right _ h)) (by decide +kernel)
set_option maxRecDepth 20000 in
theorem ggL_law_L_isFailing_v1 : GoodIn wsL_law ((vx_atS RX2 81 "java/lang/IllegalStateException" ["java/lang/RuntimeException", "java/lang/Exception"]).filter goodWord) := goodIn_sub (fun _ h => List.mem_append_right _ h) (by decide +kernel)
theorem ggL_law_L_isFailing : GoodIn wsL_law wsL_isFailing := (goodIn_ca (goodIn_ca (goodIn_ca (goodIn_ca (goodIn_ca (goodIn_app (a := [.code yL_isFailing cL_isFailing 12 (some .boolean)]) ggL_law_L_isFailing_c (goodIn_app ggL_law_L_isFailing_r1 (goodIn_app ggL_law_L_isFailing_r2 (goodIn_app ggL_law_L_isFailing_r3 (goodIn_app ggL_law_L_isFailing_r4 (goodIn_app ggL_law_L_isFailing_r5 (goodIn_app ggL_law_L_isFailing_r6 (goodIn_app ggL_law_L_isFailing_r7 ggL_law_L_isFailing_r8)))))))) ggL_law_L_isFailing_wsX20) ggL_law_L_isFailing_wsX00) ggL_law_L_isFailing_wsX10) ggL_law_L_isFailing_v0) ggL_law_L_isFailing_v1)
set_option maxRecDepth 20000 in
theorem ggL_law_L_isAsked_c : GoodIn wsL_law [.code yL_isAsked cL_isAsked 13 (some .boolean)] := goodIn_r _ [285] (by decide +kernel) (by decide +kernel)
set_option maxRecDepth 20000 in
theorem ggL_law_L_isAsked_r1 : GoodIn wsL_law wsL_isAsked_r1 := goodIn_r _ [53, 54, 50, 55, 56, 57, 58, 59, 60, 61, 62, 63, 64, 2, 65, 21, 66, 67, 68, 69, 18, 70, 71, 72] (by decide +kernel) (by decide +kernel)
set_option maxRecDepth 20000 in
theorem ggL_law_L_isAsked_r2 : GoodIn wsL_law wsL_isAsked_r2 := goodIn_r _ [73, 74, 75, 76, 77, 78, 79, 80, 81, 82, 83, 84, 85, 86, 87, 88, 89, 90, 91, 92, 20, 93, 94, 95] (by decide +kernel) (by decide +kernel)
set_option maxRecDepth 20000 in
theorem ggL_law_L_isAsked_r3 : GoodIn wsL_law wsL_isAsked_r3 := goodIn_r _ [96, 97, 98, 99, 100, 101, 102, 17, 103, 46, 47, 104, 105, 106, 107, 108, 109, 110, 111, 112, 237, 238, 239, 240] (by decide +kernel) (by decide +kernel)
set_option maxRecDepth 20000 in
theorem ggL_law_L_isAsked_r4 : GoodIn wsL_law wsL_isAsked_r4 := goodIn_r _ [241, 242, 243, 244, 245, 246, 247, 19, 14, 179, 180, 177, 181, 248, 249, 250, 251, 39, 252, 253, 254, 255, 40, 41] (by decide +kernel) (by decide +kernel)
set_option maxRecDepth 20000 in
theorem ggL_law_L_isAsked_r5 : GoodIn wsL_law wsL_isAsked_r5 := goodIn_r _ [44, 43, 145, 146, 147, 148, 162, 163, 164, 165, 166, 167, 168, 169, 170, 171, 172, 173, 174, 175, 176, 178, 182, 183] (by decide +kernel) (by decide +kernel)
set_option maxRecDepth 20000 in
theorem ggL_law_L_isAsked_r6 : GoodIn wsL_law wsL_isAsked_r6 := goodIn_r _ [184, 185, 186, 187, 188, 189, 190, 191, 192, 193, 194, 195, 196, 197, 198, 199, 200, 201, 202, 203, 204, 205, 206, 207] (by decide +kernel) (by decide +kernel)
set_option maxRecDepth 20000 in
theorem ggL_law_L_isAsked_r7 : GoodIn wsL_law wsL_isAsked_r7 := goodIn_r _ [208, 209, 210, 211, 256, 257, 258, 259, 260, 261, 262, 263, 144, 264, 265, 266, 267, 216, 276, 277, 278] (by decide +kernel) (by decide +kernel)
set_option maxRecDepth 20000 in
theorem ggL_law_L_isAsked_wsX20 : GoodIn wsL_law wsX20 := goodIn_r _ [296, 297, 298, 299, 300] (by decide +kernel) (by decide +kernel)
set_option maxRecDepth 20000 in
theorem ggL_law_L_isAsked_wsX00 : GoodIn wsL_law wsX00 := goodIn_r _ [309, 310, 311, 312, 313, 314, 315] (by decide +kernel) (by decide +kernel)
set_option maxRecDepth 20000 in
theorem ggL_law_L_isAsked_wsX10 : GoodIn wsL_law wsX10 := goodIn_r _ [301, 302, 303, 304, 305, 306, 307, 308] (by decide +kernel) (by decide +kernel)
set_option maxRecDepth 20000 in
theorem ggL_law_L_isAsked_v0 : GoodIn wsL_law ((vx_atS RX2 141 "java/lang/IllegalArgumentException" ["java/lang/RuntimeException", "java/lang/Exception"]).filter goodWord) := goodIn_sub (fun _ h => List.mem_append_left _ (List.mem_append_right _ h)) (by decide +kernel)
theorem ggL_law_L_isAsked : GoodIn wsL_law wsL_isAsked := (goodIn_ca (goodIn_ca (goodIn_ca (goodIn_ca (goodIn_app (a := [.code yL_isAsked cL_isAsked 13 (some .boolean)]) ggL_law_L_isAsked_c (goodIn_app ggL_law_L_isAsked_r1 (goodIn_app ggL_law_L_isAsked_r2 (goodIn_app ggL_law_L_isAsked_r3 (goodIn_app ggL_law_L_isAsked_r4 (goodIn_app ggL_law_L_isAsked_r5 (goodIn_app ggL_law_L_isAsked_r6 ggL_law_L_isAsked_r7))))))) ggL_law_L_isAsked_wsX20) ggL_law_L_isAsked_wsX00) ggL_law_L_isAsked_wsX10) ggL_law_L_isAsked_v0)
