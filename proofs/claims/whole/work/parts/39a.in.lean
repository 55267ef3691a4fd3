theorem inTbl {ws : List Cond} (ps : List Nat) (hp : ws = ps.filterMap (fun i => lw_tbl[i]?)) : ∀ w ∈ ws, w ∈ lw_tbl := fun w hw => by
  rw [hp] at hw
  obtain ⟨i, -, hi⟩ := List.mem_filterMap.mp hw
  exact List.mem_of_getElem? hi
theorem inApp {a b T : List Cond} (ha : ∀ w ∈ a, w ∈ T) (hb : ∀ w ∈ b, w ∈ T) : ∀ w ∈ a ++ b, w ∈ T := fun w h => (List.mem_append.mp h).elim (ha w) (hb w)
set_option maxRecDepth 20000 in
theorem in_wsL_law0_r1 : ∀ w ∈ wsL_law0_r1, w ∈ lw_tbl := inTbl [34, 35, 23, 453, 454, 26, 662, 36, 37, 38, 39, 40, 41, 42, 43, 24, 126, 91, 92, 25, 127, 128, 90, 129] (by decide +kernel)
set_option maxRecDepth 20000 in
theorem in_wsL_law0_r2 : ∀ w ∈ wsL_law0_r2, w ∈ lw_tbl := inTbl [130, 44, 45, 46, 47, 50, 53, 48, 56, 59, 62, 65, 68, 70, 93, 94, 95, 96, 98, 100, 102, 125, 104, 106] (by decide +kernel)
set_option maxRecDepth 20000 in
theorem in_wsL_law0_r3 : ∀ w ∈ wsL_law0_r3, w ∈ lw_tbl := inTbl [97, 108, 109, 455, 456, 457, 458, 459, 460, 461, 462, 463, 464, 465, 466, 467, 468, 469, 470, 471, 472, 473, 474, 150] (by decide +kernel)
set_option maxRecDepth 20000 in
theorem in_wsL_law0_r4 : ∀ w ∈ wsL_law0_r4, w ∈ lw_tbl := inTbl [151, 22, 152, 153, 154, 155, 156, 157, 51, 158, 159, 160, 161, 162, 163, 164, 30, 515, 516, 517, 518, 519, 520, 521] (by decide +kernel)
set_option maxRecDepth 20000 in
theorem in_wsL_law0_r5 : ∀ w ∈ wsL_law0_r5, w ∈ lw_tbl := inTbl [522, 523, 524, 525, 527, 10, 528, 475, 511, 512, 513, 514, 231, 232, 233, 234, 235, 236, 237, 54, 101, 529, 530, 531] (by decide +kernel)
set_option maxRecDepth 20000 in
theorem in_wsL_law0_r6 : ∀ w ∈ wsL_law0_r6, w ∈ lw_tbl := inTbl [532, 238, 239, 240, 241, 242, 243, 244, 57, 245, 246, 247, 533, 534, 535, 536, 537, 538, 539, 248, 249, 250, 251, 252] (by decide +kernel)
set_option maxRecDepth 20000 in
theorem in_wsL_law0_r7 : ∀ w ∈ wsL_law0_r7, w ∈ lw_tbl := inTbl [253, 254, 60, 63, 540, 541, 542, 543, 255, 256, 257, 258, 259, 260, 261, 66, 69, 544, 545, 546, 547, 262, 263, 264] (by decide +kernel)
set_option maxRecDepth 20000 in
theorem in_wsL_law0_r8 : ∀ w ∈ wsL_law0_r8, w ∈ lw_tbl := inTbl [265, 266, 267, 268, 71, 548, 549, 550, 551, 269, 270, 271, 272, 273, 274, 275, 276, 277, 31, 105, 293, 294, 295, 296] (by decide +kernel)
set_option maxRecDepth 20000 in
theorem in_wsL_law0_r9 : ∀ w ∈ wsL_law0_r9, w ∈ lw_tbl := inTbl [297, 298, 299, 300, 552, 553, 554, 555, 556, 558, 11, 559, 301, 302, 303, 304, 305, 306, 307, 560, 561, 562, 563, 309] (by decide +kernel)
set_option maxRecDepth 20000 in
theorem in_wsL_law0_r10 : ∀ w ∈ wsL_law0_r10, w ∈ lw_tbl := inTbl [310, 311, 312, 313, 314, 315, 316, 317, 318, 319, 320, 321, 32, 322, 564, 565, 566, 567, 568, 569, 570, 323, 324, 325] (by decide +kernel)
set_option maxRecDepth 20000 in
theorem in_wsL_law0_r11 : ∀ w ∈ wsL_law0_r11, w ∈ lw_tbl := inTbl [326, 327, 328, 329, 107, 571, 572, 573, 574, 330, 331, 332, 333, 334, 335, 336, 337, 339, 340, 341, 342, 343, 345, 1] (by decide +kernel)
set_option maxRecDepth 20000 in
theorem in_wsL_law0_r12 : ∀ w ∈ wsL_law0_r12, w ∈ lw_tbl := inTbl [346, 55, 64, 61, 348, 349, 350, 351, 32, 352, 353, 354, 355, 356, 357, 358, 359, 361, 2, 362, 58, 363, 364, 366] (by decide +kernel)
set_option maxRecDepth 20000 in
theorem in_wsL_law0_r13 : ∀ w ∈ wsL_law0_r13, w ∈ lw_tbl := inTbl [3, 367, 368, 369, 371, 4, 372, 373, 374, 376, 5, 377, 72, 378, 380, 6, 381, 67, 52, 382, 384, 7, 385, 99] (by decide +kernel)
set_option maxRecDepth 20000 in
theorem in_wsL_law0_r14 : ∀ w ∈ wsL_law0_r14, w ∈ lw_tbl := inTbl [575, 576, 577, 578, 579, 580, 582, 12, 583, 584, 586, 13, 587, 588, 589, 590, 591, 592, 593, 594, 596, 14, 597, 598] (by decide +kernel)
set_option maxRecDepth 20000 in
theorem in_wsL_law0_r15 : ∀ w ∈ wsL_law0_r15, w ∈ lw_tbl := inTbl [600, 15, 601, 602, 604, 16, 605, 142, 143, 144, 145, 606, 607, 608, 609, 386, 387, 388, 389, 390, 391, 392, 610, 611] (by decide +kernel)
set_option maxRecDepth 20000 in
theorem in_wsL_law0_r16 : ∀ w ∈ wsL_law0_r16, w ∈ lw_tbl := inTbl [612, 613, 614, 616, 17, 617, 393, 394, 395, 396, 397, 398, 399, 103, 618, 619, 620, 621, 400, 401, 402, 403, 404, 405] (by decide +kernel)
set_option maxRecDepth 20000 in
theorem in_wsL_law0_r17 : ∀ w ∈ wsL_law0_r17, w ∈ lw_tbl := inTbl [406, 622, 623, 624, 625, 407, 408, 409, 410, 411, 412, 413, 626, 627, 628, 629, 146, 147, 148, 149, 630, 631, 632, 633] (by decide +kernel)
set_option maxRecDepth 20000 in
theorem in_wsL_law0_r18 : ∀ w ∈ wsL_law0_r18, w ∈ lw_tbl := inTbl [414, 415, 416, 417, 418, 419, 420, 421, 422, 423, 424, 426, 8, 427, 428, 429, 430, 431, 432, 434, 433, 33, 634, 635] (by decide +kernel)
set_option maxRecDepth 20000 in
theorem in_wsL_law0_r19 : ∀ w ∈ wsL_law0_r19, w ∈ lw_tbl := inTbl [636, 637, 638, 640, 18, 641, 642, 644, 19, 645, 646, 648, 20, 649, 435, 436, 437, 438, 439, 440, 441, 442, 444, 9] (by decide +kernel)
set_option maxRecDepth 20000 in
theorem in_wsL_law0_r20 : ∀ w ∈ wsL_law0_r20, w ∈ lw_tbl := inTbl [445, 650, 651, 652, 653, 654, 656, 21, 657, 446, 447, 448, 449, 450, 451, 452, 658, 659, 660, 661] (by decide +kernel)
set_option maxRecDepth 20000 in
theorem in_wsX20 : ∀ w ∈ wsX20, w ∈ lw_tbl := inTbl [131, 133, 135, 137, 139] (by decide +kernel)
set_option maxRecDepth 20000 in
theorem in_wsX30 : ∀ w ∈ wsX30, w ∈ lw_tbl := inTbl [476, 478, 480, 482, 484, 486, 488, 490, 492, 494, 496, 498, 500, 502, 504, 506, 508] (by decide +kernel)
set_option maxRecDepth 20000 in
theorem in_wsX10 : ∀ w ∈ wsX10, w ∈ lw_tbl := inTbl [73, 75, 77, 79, 81, 83, 85, 87] (by decide +kernel)
set_option maxRecDepth 20000 in
theorem in_wsX00 : ∀ w ∈ wsX00, w ∈ lw_tbl := inTbl [110, 112, 114, 116, 118, 120, 122] (by decide +kernel)
set_option maxRecDepth 20000 in
theorem in_x0 : ∀ w ∈ (vx_atS RX2 141 "java/lang/IllegalArgumentException" ["java/lang/RuntimeException", "java/lang/Exception"]).filter goodWord, w ∈ lw_tbl := inTbl [27, 186, 195, 198, 201, 203, 187, 188, 40, 41, 189, 194, 199, 219, 176, 220, 178, 221, 180, 190, 192, 182, 215, 216, 218, 182, 206, 207, 208, 209, 209, 210, 211, 212, 212, 213, 214, 215, 205, 165, 173, 174, 175, 177, 179, 181, 185, 184, 183] (by decide +kernel)
set_option maxRecDepth 20000 in
theorem in_x1 : ∀ w ∈ (vx_atS RX2 81 "java/lang/IllegalStateException" ["java/lang/RuntimeException", "java/lang/Exception"]).filter goodWord, w ∈ lw_tbl := inTbl [27, 186, 195, 198, 201, 203, 187, 188, 40, 41, 189, 194, 199, 219, 176, 220, 178, 221, 180, 190, 192, 182, 215, 216, 218, 182, 288, 289, 290, 209, 209, 210, 211, 212, 212, 213, 214, 215, 287, 278, 280, 197, 281, 282, 283, 284, 185, 184, 285] (by decide +kernel)
theorem wsL_law_in0 : ∀ w ∈ wsL_law0, w ∈ lw_tbl := inApp (inApp (inApp (inApp (inApp (inApp in_wsL_law0_r1 (inApp in_wsL_law0_r2 (inApp in_wsL_law0_r3 (inApp in_wsL_law0_r4 (inApp in_wsL_law0_r5 (inApp in_wsL_law0_r6 (inApp in_wsL_law0_r7 (inApp in_wsL_law0_r8 (inApp in_wsL_law0_r9 (inApp in_wsL_law0_r10 (inApp in_wsL_law0_r11 (inApp in_wsL_law0_r12 (inApp in_wsL_law0_r13 (inApp in_wsL_law0_r14 (inApp in_wsL_law0_r15 (inApp in_wsL_law0_r16 (inApp in_wsL_law0_r17 (inApp in_wsL_law0_r18 (inApp in_wsL_law0_r19 (in_wsL_law0_r20)))))))))))))))))))) in_wsX20) in_wsX30) in_wsX10) in_wsX00) (fun w h => absurd h (List.not_mem_nil))
theorem wsL_law_in : ∀ w ∈ wsL_law, w ∈ lw_tbl := inApp (inApp wsL_law_in0 in_x0) in_x1
theorem inX0 : ∀ w ∈ wsX00, w ∈ lw_tbl := in_wsX00
theorem inX1 : ∀ w ∈ wsX10, w ∈ lw_tbl := in_wsX10
theorem inX2 : ∀ w ∈ wsX20, w ∈ lw_tbl := in_wsX20
theorem inX3 : ∀ w ∈ wsX30, w ∈ lw_tbl := in_wsX30
