theorem inTbl {ws : List Cond} (ps : List Nat) (hp : ws = ps.filterMap (fun i => lw_tbl[i]?)) : ∀ w ∈ ws, w ∈ lw_tbl := fun w hw => by
  rw [hp] at hw
  obtain ⟨i, -, hi⟩ := List.mem_filterMap.mp hw
  exact List.mem_of_getElem? hi
theorem inApp {a b T : List Cond} (ha : ∀ w ∈ a, w ∈ T) (hb : ∀ w ∈ b, w ∈ T) : ∀ w ∈ a ++ b, w ∈ T := fun w h => (List.mem_append.mp h).elim (ha w) (hb w)
set_option maxRecDepth 20000 in
theorem in_wsL_law0_r1 : ∀ w ∈ wsL_law0_r1, w ∈ lw_tbl := inTbl [21, 22, 11, 77, 336, 23, 24, 25, 26, 27, 28, 29, 30, 12, 113, 78, 79, 13, 114, 115, 116, 117, 31, 32] (by decide +kernel)
set_option maxRecDepth 20000 in
theorem in_wsL_law0_r2 : ∀ w ∈ wsL_law0_r2, w ∈ lw_tbl := inTbl [33, 34, 37, 40, 35, 43, 46, 49, 52, 55, 57, 80, 81, 82, 83, 85, 87, 89, 112, 91, 93, 84, 95, 96] (by decide +kernel)
set_option maxRecDepth 20000 in
theorem in_r3_0 : ∀ w ∈ ([Cond.methodLink RL 119 yL_isRefused, Cond.static yL_isRefused, Cond.initialized RL] : List Cond), w ∈ lw_tbl := inTbl [411, 412, 10] (by decide +kernel)
set_option maxRecDepth 20000 in
theorem in_r3_1 : ∀ w ∈ ([Cond.code yL_isRefused cL_isRefused 10 (some .boolean)] : List Cond), w ∈ lw_tbl := fun w h => by
  rw [List.mem_singleton.mp h]
  exact List.mem_of_getElem? (i := 413) rfl
set_option maxRecDepth 20000 in
theorem in_r3_2 : ∀ w ∈ ([Cond.constant RL 37 (-9000001), Cond.methodLink RL 94 yL_all, Cond.static yL_all, Cond.code yL_all cL_all 4 (some .long), Cond.constantLong RL 79 (1000003), Cond.constantLong RL 81 (70001), Cond.constantLong RL 83 (31), Cond.constantLong RL 85 (257), Cond.constantLong RL 87 (1009), Cond.constantLong RL 89 (101), Cond.methodLink RL 75 yX2_clock, Cond.instanceMethod yX2_clock, Cond.selects RX2 yX2_clock yX2_clock, Cond.code yX2_clock cX2_clock 1 (some .int), Cond.methodLink RL 54 yX2_temperature, Cond.instanceMethod yX2_temperature, Cond.selects RX2 yX2_temperature yX2_temperature, Cond.code yX2_temperature cX2_temperature 2 (some .int), Cond.fieldLink RX2 110 "Coldaisle$Hall" "temperature" "[I", Cond.methodLink RX2 34 yX2_requireZone] : List Cond), w ∈ lw_tbl := inTbl [335, 414, 415, 416, 417, 418, 419, 420, 421, 422, 206, 207, 208, 209, 399, 400, 401, 402, 86, 214] (by decide +kernel)
set_option maxRecDepth 20000 in
theorem in_wsL_law0_r3 : ∀ w ∈ wsL_law0_r3, w ∈ lw_tbl := (inApp in_r3_0 (inApp in_r3_1 in_r3_2))
set_option maxRecDepth 20000 in
theorem in_wsL_law0_r4 : ∀ w ∈ wsL_law0_r4, w ∈ lw_tbl := inTbl [215, 216, 136, 137, 138, 139, 17, 387, 388, 389, 390, 90, 210, 211, 212, 213, 88, 391, 392, 393, 394, 406, 407, 408] (by decide +kernel)
set_option maxRecDepth 20000 in
theorem in_wsL_law0_r5 : ∀ w ∈ wsL_law0_r5, w ∈ lw_tbl := inTbl [409, 133, 134, 135, 410, 315, 316, 317, 311, 312, 18, 313, 129, 130, 131, 132, 94, 222, 223, 224, 225, 226, 227, 228] (by decide +kernel)
set_option maxRecDepth 20000 in
theorem in_wsL_law0_r6 : ∀ w ∈ wsL_law0_r6, w ∈ lw_tbl := inTbl [229, 230, 38, 231, 232, 233, 234, 41, 235, 236, 237, 238, 44, 239, 240, 241, 242, 58, 243, 244, 245, 246, 247, 19] (by decide +kernel)
set_option maxRecDepth 20000 in
theorem in_wsL_law0_r7 : ∀ w ∈ wsL_law0_r7, w ∈ lw_tbl := inTbl [92, 263, 264, 265, 266, 267, 268, 269, 270, 271, 272, 273, 274, 276, 277, 278, 279, 280, 282, 283, 284, 285, 286, 288] (by decide +kernel)
set_option maxRecDepth 20000 in
theorem in_wsL_law0_r8 : ∀ w ∈ wsL_law0_r8, w ∈ lw_tbl := inTbl [1, 289, 42, 51, 48, 291, 292, 293, 294, 18, 295, 296, 297, 298, 299, 300, 301, 302, 304, 2, 305, 45, 306, 307] (by decide +kernel)
set_option maxRecDepth 20000 in
theorem in_wsL_law0_r9 : ∀ w ∈ wsL_law0_r9, w ∈ lw_tbl := inTbl [309, 3, 310, 314, 318, 320, 4, 321, 322, 323, 325, 5, 326, 59, 327, 329, 6, 330, 54, 39, 331, 333, 7, 334] (by decide +kernel)
set_option maxRecDepth 20000 in
theorem in_wsL_law0_r10 : ∀ w ∈ wsL_law0_r10, w ∈ lw_tbl := inTbl [56, 337, 338, 339, 340, 341, 342, 343, 47, 50, 344, 345, 346, 347, 348, 349, 350, 53, 423, 424, 425, 357, 358, 359] (by decide +kernel)
set_option maxRecDepth 20000 in
theorem in_wsL_law0_r11 : ∀ w ∈ wsL_law0_r11, w ∈ lw_tbl := inTbl [360, 361, 362, 363, 364, 366, 8, 367, 368, 369, 370, 371, 372, 374, 373, 20, 383, 384, 385, 386, 379, 381, 9, 382] (by decide +kernel)
set_option maxRecDepth 20000 in
theorem in_r12_0 : ∀ w ∈ ([Cond.methodLink RL 72 yX2_margin, Cond.instanceMethod yX2_margin, Cond.selects RX2 yX2_margin yX2_margin, Cond.code yX2_margin cX2_margin 4 (some .int), Cond.methodLink RL 123 yL_dice, Cond.static yL_dice, Cond.code yL_dice cL_dice 2 (some .int), Cond.constant RL 7 (961987163), Cond.constant RL 8 (2147483647), Cond.methodLink RL 127 yL_isFailing, Cond.static yL_isFailing, Cond.code yL_isFailing cL_isFailing 12 (some .boolean), Cond.methodLink RL 114 yL_running, Cond.static yL_running, Cond.code yL_running cL_running 3 (some .int), Cond.methodLink RL 131 yL_isMinute, Cond.static yL_isMinute] : List Cond), w ∈ lw_tbl := inTbl [375, 376, 377, 378, 217, 218, 219, 220, 221, 433, 434, 435, 351, 352, 353, 426, 427] (by decide +kernel)
set_option maxRecDepth 20000 in
theorem in_r12_1 : ∀ w ∈ ([Cond.code yL_isMinute cL_isMinute 20 (some .boolean)] : List Cond), w ∈ lw_tbl := fun w h => by
  rw [List.mem_singleton.mp h]
  exact List.mem_of_getElem? (i := 428) rfl
set_option maxRecDepth 20000 in
theorem in_r12_2 : ∀ w ∈ ([Cond.constant RL 113 (1000000), Cond.methodLink RL 135 yL_isAsked, Cond.static yL_isAsked, Cond.code yL_isAsked cL_isAsked 13 (some .boolean), Cond.methodLink RL 139 yL_isFan, Cond.static yL_isFan] : List Cond), w ∈ lw_tbl := inTbl [429, 430, 431, 432, 403, 404] (by decide +kernel)
set_option maxRecDepth 20000 in
theorem in_wsL_law0_r12 : ∀ w ∈ wsL_law0_r12, w ∈ lw_tbl := (inApp in_r12_0 (inApp in_r12_1 in_r12_2))
set_option maxRecDepth 20000 in
theorem in_wsL_law0_r13 : ∀ w ∈ wsL_law0_r13, w ∈ lw_tbl := inTbl [405, 354, 355, 356, 395, 396, 397, 398] (by decide +kernel)
set_option maxRecDepth 20000 in
theorem in_wsX20 : ∀ w ∈ wsX20, w ∈ lw_tbl := inTbl [118, 120, 122, 124, 126] (by decide +kernel)
set_option maxRecDepth 20000 in
theorem in_wsX10 : ∀ w ∈ wsX10, w ∈ lw_tbl := inTbl [60, 62, 64, 66, 68, 70, 72, 74] (by decide +kernel)
set_option maxRecDepth 20000 in
theorem in_wsX00 : ∀ w ∈ wsX00, w ∈ lw_tbl := inTbl [97, 99, 101, 103, 105, 107, 109] (by decide +kernel)
set_option maxRecDepth 20000 in
theorem in_x0 : ∀ w ∈ (vx_atS RX2 141 "java/lang/IllegalArgumentException" ["java/lang/RuntimeException", "java/lang/Exception"]).filter goodWord, w ∈ lw_tbl := inTbl [14, 161, 170, 173, 176, 178, 162, 163, 27, 28, 164, 169, 174, 194, 151, 195, 153, 196, 155, 165, 167, 157, 190, 191, 193, 157, 181, 182, 183, 184, 184, 185, 186, 187, 187, 188, 189, 190, 180, 140, 148, 149, 150, 152, 154, 156, 160, 159, 158] (by decide +kernel)
set_option maxRecDepth 20000 in
theorem in_x1 : ∀ w ∈ (vx_atS RX2 81 "java/lang/IllegalStateException" ["java/lang/RuntimeException", "java/lang/Exception"]).filter goodWord, w ∈ lw_tbl := inTbl [14, 161, 170, 173, 176, 178, 162, 163, 27, 28, 164, 169, 174, 194, 151, 195, 153, 196, 155, 165, 167, 157, 190, 191, 193, 157, 258, 259, 260, 184, 184, 185, 186, 187, 187, 188, 189, 190, 257, 248, 250, 172, 251, 252, 253, 254, 160, 159, 255] (by decide +kernel)
theorem wsL_law_in0 : ∀ w ∈ wsL_law0, w ∈ lw_tbl := inApp (inApp (inApp (inApp (inApp in_wsL_law0_r1 (inApp in_wsL_law0_r2 (inApp in_wsL_law0_r3 (inApp in_wsL_law0_r4 (inApp in_wsL_law0_r5 (inApp in_wsL_law0_r6 (inApp in_wsL_law0_r7 (inApp in_wsL_law0_r8 (inApp in_wsL_law0_r9 (inApp in_wsL_law0_r10 (inApp in_wsL_law0_r11 (inApp in_wsL_law0_r12 in_wsL_law0_r13)))))))))))) in_wsX20) in_wsX10) in_wsX00) (fun w h => absurd h List.not_mem_nil)
theorem wsL_law_in : ∀ w ∈ wsL_law, w ∈ lw_tbl := inApp (inApp wsL_law_in0 in_x0) in_x1
