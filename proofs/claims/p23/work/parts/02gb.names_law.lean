set_option maxRecDepth 20000 in
theorem mem_isMinute : (Cond.code yL_isMinute cL_isMinute 20 (some .boolean) : Cond) ∈ wsL_law := (List.mem_append_left _ (List.mem_append_left _ (List.mem_append_left _ (List.mem_append_left _ (List.mem_append_left _ (List.mem_append_left _ (List.mem_append_right _ (List.mem_append_right _ (List.mem_append_right _ (List.mem_append_right _ (List.mem_append_right _ (List.mem_append_right _ (List.mem_append_right _ (List.mem_append_right _ (List.mem_append_right _ (List.mem_append_right _ (List.mem_append_right _ (List.mem_append_left _ (List.mem_of_getElem? (i := 17) rfl)))))))))))))))))))
theorem ggL_law_L_isMinute_c : GoodIn wsL_law [.code yL_isMinute cL_isMinute 20 (some .boolean)] := goodIn_sub (fun w h => by rw [List.mem_singleton.mp h]; exact mem_isMinute) (by decide +kernel)
set_option maxRecDepth 20000 in
theorem ggL_law_L_isMinute_r1 : GoodIn wsL_law wsL_isMinute_r1 := goodIn_r _ [282, 62, 63, 64, 2, 65, 21, 237, 238, 239, 240, 241, 242, 243, 71, 72, 73, 74, 75, 76, 77, 78, 244, 245] (by decide +kernel) (by decide +kernel)
set_option maxRecDepth 20000 in
theorem ggL_law_L_isMinute_r2 : GoodIn wsL_law wsL_isMinute_r2 := goodIn_r _ [246, 247, 19, 18, 14, 70, 179, 180, 177, 181, 248, 249, 250, 17, 251, 39, 252, 253, 254, 255, 40, 41, 44, 43] (by decide +kernel) (by decide +kernel)
set_option maxRecDepth 20000 in
theorem ggL_law_L_isMinute_r3 : GoodIn wsL_law wsL_isMinute_r3 := goodIn_r _ [46, 47, 145, 146, 147, 148, 162, 163, 164, 165, 166, 167, 168, 169, 170, 171, 172, 173, 174, 175, 176, 178, 182, 183] (by decide +kernel) (by decide +kernel)
set_option maxRecDepth 20000 in
theorem ggL_law_L_isMinute_r4 : GoodIn wsL_law wsL_isMinute_r4 := goodIn_r _ [106, 184, 185, 186, 187, 188, 189, 190, 191, 192, 193, 194, 104, 105, 107, 195, 101, 102, 103, 196, 197, 198, 199, 200] (by decide +kernel) (by decide +kernel)
set_option maxRecDepth 20000 in
theorem ggL_law_L_isMinute_r5 : GoodIn wsL_law wsL_isMinute_r5 := goodIn_r _ [201, 202, 203, 204, 205, 206, 207, 208, 209, 210, 211, 66, 67, 68, 69, 84, 85, 86, 87, 88, 89, 90, 91, 92] (by decide +kernel) (by decide +kernel)
set_option maxRecDepth 20000 in
theorem ggL_law_L_isMinute_r6 : GoodIn wsL_law wsL_isMinute_r6 := goodIn_r _ [20, 113, 114, 50, 115, 116, 117, 52, 4, 118, 119, 120, 121, 122, 123, 124, 125, 126, 127, 128, 129, 130, 131, 132] (by decide +kernel) (by decide +kernel)
set_option maxRecDepth 20000 in
theorem ggL_law_L_isMinute_r7 : GoodIn wsL_law wsL_isMinute_r7 := goodIn_r _ [97, 98, 99, 133, 134, 135, 136, 137, 138, 139, 140, 141, 142, 143, 144, 149, 150, 151, 152, 153, 154, 155, 156, 157] (by decide +kernel) (by decide +kernel)
set_option maxRecDepth 20000 in
theorem ggL_law_L_isMinute_r8 : GoodIn wsL_law wsL_isMinute_r8 := goodIn_r _ [158, 159, 160, 161, 212, 213, 214, 215, 216, 108, 109, 110, 111, 112, 79, 80, 81, 82, 83, 93, 94, 95, 96, 100] (by decide +kernel) (by decide +kernel)
set_option maxRecDepth 20000 in
theorem ggL_law_L_isMinute_wsX20 : GoodIn wsL_law wsX20 := goodIn_r _ [296, 297, 298, 299, 300] (by decide +kernel) (by decide +kernel)
set_option maxRecDepth 20000 in
theorem ggL_law_L_isMinute_wsX00 : GoodIn wsL_law wsX00 := goodIn_r _ [309, 310, 311, 312, 313, 314, 315] (by decide +kernel) (by decide +kernel)
set_option maxRecDepth 20000 in
theorem ggL_law_L_isMinute_wsX10 : GoodIn wsL_law wsX10 := goodIn_r _ [301, 302, 303, 304, 305, 306, 307, 308] (by decide +kernel) (by decide +kernel)
set_option maxRecDepth 20000 in
theorem ggL_law_L_isMinute_v0 : GoodIn wsL_law ((vx_atS RX2 141 "java/lang/IllegalArgumentException" ["java/lang/RuntimeException", "java/lang/Exception"]).filter goodWord) := goodIn_sub (fun _ h => List.mem_append_left _ (List.mem_append_right _ h)) (by decide +kernel)
set_option maxRecDepth 20000 in
theorem ggL_law_L_isMinute_v1 : GoodIn wsL_law ((vx_atS RX2 81 "java/lang/IllegalStateException" ["java/lang/RuntimeException", "java/lang/Exception"]).filter goodWord) := goodIn_sub (fun _ h => List.mem_append_right _ h) (by decide +kernel)
theorem ggL_law_L_isMinute : GoodIn wsL_law wsL_isMinute := (goodIn_ca (goodIn_ca (goodIn_ca (goodIn_ca (goodIn_ca (goodIn_app (a := [.code yL_isMinute cL_isMinute 20 (some .boolean)]) ggL_law_L_isMinute_c (goodIn_app ggL_law_L_isMinute_r1 (goodIn_app ggL_law_L_isMinute_r2 (goodIn_app ggL_law_L_isMinute_r3 (goodIn_app ggL_law_L_isMinute_r4 (goodIn_app ggL_law_L_isMinute_r5 (goodIn_app ggL_law_L_isMinute_r6 (goodIn_app ggL_law_L_isMinute_r7 ggL_law_L_isMinute_r8)))))))) ggL_law_L_isMinute_wsX20) ggL_law_L_isMinute_wsX00) ggL_law_L_isMinute_wsX10) ggL_law_L_isMinute_v0) ggL_law_L_isMinute_v1)
