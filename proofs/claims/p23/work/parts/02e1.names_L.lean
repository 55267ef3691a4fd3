theorem dL_isZone_17 : decode cL_isZone 17 = .ok (.invokevirtual 69, 3) := by decide +kernel
theorem dL_isZone_20 : decode cL_isZone 20 = .ok (.istore 4, 2) := by decide +kernel
theorem dL_isZone_22 : decode cL_isZone 22 = .ok (.aload_n 0, 1) := by decide +kernel
theorem dL_isZone_23 : decode cL_isZone 23 = .ok (.iload_n 1, 1) := by decide +kernel
theorem dL_isZone_24 : decode cL_isZone 24 = .ok (.invokevirtual 57, 3) := by decide +kernel
theorem dL_isZone_27 : decode cL_isZone 27 = .ok (.ifCond .lt 132, 3) := by decide +kernel
theorem dL_isZone_30 : decode cL_isZone 30 = .ok (.aload_n 0, 1) := by decide +kernel
theorem dL_isZone_31 : decode cL_isZone 31 = .ok (.iload_n 1, 1) := by decide +kernel
theorem dL_isZone_32 : decode cL_isZone 32 = .ok (.invokevirtual 57, 3) := by decide +kernel
theorem dL_isZone_35 : decode cL_isZone 35 = .ok (.bipush 100, 2) := by decide +kernel
theorem dL_isZone_37 : decode cL_isZone 37 = .ok (.if_icmp .gt 122, 3) := by decide +kernel
theorem dL_isZone_40 : decode cL_isZone 40 = .ok (.aload_n 0, 1) := by decide +kernel
theorem dL_isZone_41 : decode cL_isZone 41 = .ok (.iload_n 1, 1) := by decide +kernel
theorem dL_isZone_42 : decode cL_isZone 42 = .ok (.invokevirtual 60, 3) := by decide +kernel
theorem dL_isZone_45 : decode cL_isZone 45 = .ok (.sipush (-20000), 3) := by decide +kernel
theorem dL_isZone_48 : decode cL_isZone 48 = .ok (.if_icmp .lt 111, 3) := by decide +kernel
theorem dL_isZone_51 : decode cL_isZone 51 = .ok (.aload_n 0, 1) := by decide +kernel
theorem dL_isZone_52 : decode cL_isZone 52 = .ok (.iload_n 1, 1) := by decide +kernel
theorem dL_isZone_53 : decode cL_isZone 53 = .ok (.invokevirtual 60, 3) := by decide +kernel
theorem dL_isZone_56 : decode cL_isZone 56 = .ok (.sipush 20000, 3) := by decide +kernel
theorem dL_isZone_59 : decode cL_isZone 59 = .ok (.if_icmp .gt 100, 3) := by decide +kernel
theorem dL_isZone_62 : decode cL_isZone 62 = .ok (.aload_n 0, 1) := by decide +kernel
theorem dL_isZone_63 : decode cL_isZone 63 = .ok (.iload_n 1, 1) := by decide +kernel
theorem dL_isZone_64 : decode cL_isZone 64 = .ok (.invokevirtual 63, 3) := by decide +kernel
theorem dL_isZone_67 : decode cL_isZone 67 = .ok (.ifCond .lt 92, 3) := by decide +kernel
theorem dL_isZone_70 : decode cL_isZone 70 = .ok (.aload_n 0, 1) := by decide +kernel
theorem dL_isZone_71 : decode cL_isZone 71 = .ok (.iload_n 1, 1) := by decide +kernel
theorem dL_isZone_72 : decode cL_isZone 72 = .ok (.invokevirtual 63, 3) := by decide +kernel
theorem dL_isZone_75 : decode cL_isZone 75 = .ok (.aload_n 0, 1) := by decide +kernel
theorem dL_isZone_76 : decode cL_isZone 76 = .ok (.invokevirtual 75, 3) := by decide +kernel
theorem dL_isZone_79 : decode cL_isZone 79 = .ok (.if_icmp .gt 80, 3) := by decide +kernel
theorem dL_isZone_82 : decode cL_isZone 82 = .ok (.aload_n 0, 1) := by decide +kernel
theorem dL_isZone_83 : decode cL_isZone 83 = .ok (.aload_n 0, 1) := by decide +kernel
theorem dL_isZone_84 : decode cL_isZone 84 = .ok (.invokevirtual 91, 3) := by decide +kernel
theorem dL_isZone_87 : decode cL_isZone 87 = .ok (.invokevirtual 54, 3) := by decide +kernel
theorem dL_isZone_90 : decode cL_isZone 90 = .ok (.aload_n 0, 1) := by decide +kernel
theorem dL_isZone_91 : decode cL_isZone 91 = .ok (.iload_n 1, 1) := by decide +kernel
theorem dL_isZone_92 : decode cL_isZone 92 = .ok (.invokevirtual 54, 3) := by decide +kernel
theorem dL_isZone_95 : decode cL_isZone 95 = .ok (.if_icmp .lt 64, 3) := by decide +kernel
theorem dL_isZone_98 : decode cL_isZone 98 = .ok (.aload_n 0, 1) := by decide +kernel
theorem dL_isZone_99 : decode cL_isZone 99 = .ok (.aload_n 0, 1) := by decide +kernel
theorem dL_isZone_100 : decode cL_isZone 100 = .ok (.invokevirtual 91, 3) := by decide +kernel
theorem dL_isZone_103 : decode cL_isZone 103 = .ok (.invokevirtual 54, 3) := by decide +kernel
theorem dL_isZone_106 : decode cL_isZone 106 = .ok (.aload_n 0, 1) := by decide +kernel
theorem dL_isZone_107 : decode cL_isZone 107 = .ok (.iload_n 1, 1) := by decide +kernel
theorem dL_isZone_108 : decode cL_isZone 108 = .ok (.invokevirtual 54, 3) := by decide +kernel
theorem dL_isZone_111 : decode cL_isZone 111 = .ok (.if_icmp .gt 11, 3) := by decide +kernel
theorem dL_isZone_114 : decode cL_isZone 114 = .ok (.aload_n 0, 1) := by decide +kernel
theorem dL_isZone_115 : decode cL_isZone 115 = .ok (.invokevirtual 91, 3) := by decide +kernel
theorem dL_isZone_118 : decode cL_isZone 118 = .ok (.iload_n 1, 1) := by decide +kernel
theorem dL_isZone_119 : decode cL_isZone 119 = .ok (.if_icmp .gt 40, 3) := by decide +kernel
theorem dL_isZone_122 : decode cL_isZone 122 = .ok (.iload_n 2, 1) := by decide +kernel
theorem dL_isZone_123 : decode cL_isZone 123 = .ok (.aload_n 0, 1) := by decide +kernel
theorem dL_isZone_124 : decode cL_isZone 124 = .ok (.iload_n 1, 1) := by decide +kernel
theorem dL_isZone_125 : decode cL_isZone 125 = .ok (.iconst 2, 1) := by decide +kernel
theorem dL_isZone_126 : decode cL_isZone 126 = .ok (.invokevirtual 66, 3) := by decide +kernel
theorem dL_isZone_129 : decode cL_isZone 129 = .ok (.if_icmp .lt 30, 3) := by decide +kernel
theorem dL_isZone_132 : decode cL_isZone 132 = .ok (.iload 4, 2) := by decide +kernel
theorem dL_isZone_134 : decode cL_isZone 134 = .ok (.iconst (-1), 1) := by decide +kernel
theorem dL_isZone_135 : decode cL_isZone 135 = .ok (.if_icmp .lt 24, 3) := by decide +kernel
theorem dL_isZone_138 : decode cL_isZone 138 = .ok (.iload 4, 2) := by decide +kernel
theorem dL_isZone_140 : decode cL_isZone 140 = .ok (.bipush 8, 2) := by decide +kernel
theorem dL_isZone_142 : decode cL_isZone 142 = .ok (.if_icmp .ge 17, 3) := by decide +kernel
theorem dL_isZone_145 : decode cL_isZone 145 = .ok (.iload_n 3, 1) := by decide +kernel
theorem dL_isZone_146 : decode cL_isZone 146 = .ok (.aload_n 0, 1) := by decide +kernel
theorem dL_isZone_147 : decode cL_isZone 147 = .ok (.iload_n 1, 1) := by decide +kernel
theorem dL_isZone_148 : decode cL_isZone 148 = .ok (.iconst 2, 1) := by decide +kernel
theorem dL_isZone_149 : decode cL_isZone 149 = .ok (.invokevirtual 72, 3) := by decide +kernel
theorem dL_isZone_152 : decode cL_isZone 152 = .ok (.if_icmp .gt 7, 3) := by decide +kernel
theorem dL_isZone_155 : decode cL_isZone 155 = .ok (.iconst 1, 1) := by decide +kernel
theorem dL_isZone_156 : decode cL_isZone 156 = .ok (.goto 4, 3) := by decide +kernel
theorem dL_isZone_159 : decode cL_isZone 159 = .ok (.iconst 0, 1) := by decide +kernel
theorem dL_isZone_160 : decode cL_isZone 160 = .ok (.ireturn, 1) := by decide +kernel
set_option maxRecDepth 20000 in
theorem ggL_isFan_X2_command : GoodIn wsL_isFan wsX2_command := goodIn_ca (goodIn_r _ [5, 6, 7, 8, 4, 9, 10, 11, 12, 13, 14, 15, 16, 17, 18, 19, 20, 21, 22, 23, 24, 25, 31, 32, 33, 34, 35, 36, 37, 38, 39, 40, 41, 42] (by decide +kernel) (by decide +kernel)) (goodIn_sub (fun _ h => List.mem_cons_of_mem _ (List.mem_append_right _ h)) (by decide +kernel))
set_option maxRecDepth 20000 in
theorem gL_isFan_X2_command : GoodIn wsL_isFan (wsV RL 48 RX2 yX2_command wsX2_command) := goodIn_app (goodIn_of _ (by decide +kernel)) ggL_isFan_X2_command
set_option maxRecDepth 20000 in
theorem ggL_isFan_X2_speed : GoodIn wsL_isFan wsX2_speed := goodIn_ca (goodIn_r _ [29, 6, 30, 7, 8, 4, 9, 10, 11, 12, 13, 14, 31, 32, 33, 34, 35, 36, 37, 38, 39, 40, 41, 42] (by decide +kernel) (by decide +kernel)) (goodIn_sub (fun _ h => List.mem_cons_of_mem _ (List.mem_append_right _ h)) (by decide +kernel))
set_option maxRecDepth 20000 in
theorem gL_isFan_X2_speed : GoodIn wsL_isFan (wsV RL 51 RX2 yX2_speed wsX2_speed) := goodIn_app (goodIn_of _ (by decide +kernel)) ggL_isFan_X2_speed
theorem dL_isFan_0 : decode cL_isFan 0 = .ok (.aload_n 0, 1) := by decide +kernel
theorem dL_isFan_1 : decode cL_isFan 1 = .ok (.iload_n 2, 1) := by decide +kernel
theorem dL_isFan_2 : decode cL_isFan 2 = .ok (.invokevirtual 48, 3) := by decide +kernel
theorem dL_isFan_5 : decode cL_isFan 5 = .ok (.ifCond .lt 53, 3) := by decide +kernel
theorem dL_isFan_8 : decode cL_isFan 8 = .ok (.aload_n 0, 1) := by decide +kernel
theorem dL_isFan_9 : decode cL_isFan 9 = .ok (.iload_n 2, 1) := by decide +kernel
theorem dL_isFan_10 : decode cL_isFan 10 = .ok (.invokevirtual 48, 3) := by decide +kernel
theorem dL_isFan_13 : decode cL_isFan 13 = .ok (.bipush 100, 2) := by decide +kernel
theorem dL_isFan_15 : decode cL_isFan 15 = .ok (.if_icmp .gt 43, 3) := by decide +kernel
theorem dL_isFan_18 : decode cL_isFan 18 = .ok (.aload_n 0, 1) := by decide +kernel
theorem dL_isFan_19 : decode cL_isFan 19 = .ok (.iload_n 2, 1) := by decide +kernel
theorem dL_isFan_20 : decode cL_isFan 20 = .ok (.invokevirtual 51, 3) := by decide +kernel
theorem dL_isFan_23 : decode cL_isFan 23 = .ok (.ifCond .lt 35, 3) := by decide +kernel
theorem dL_isFan_26 : decode cL_isFan 26 = .ok (.aload_n 0, 1) := by decide +kernel
theorem dL_isFan_27 : decode cL_isFan 27 = .ok (.iload_n 2, 1) := by decide +kernel
theorem dL_isFan_28 : decode cL_isFan 28 = .ok (.invokevirtual 51, 3) := by decide +kernel
theorem dL_isFan_31 : decode cL_isFan 31 = .ok (.bipush 100, 2) := by decide +kernel
theorem dL_isFan_33 : decode cL_isFan 33 = .ok (.if_icmp .gt 25, 3) := by decide +kernel
theorem dL_isFan_36 : decode cL_isFan 36 = .ok (.aload_n 1, 1) := by decide +kernel
theorem dL_isFan_37 : decode cL_isFan 37 = .ok (.iconst 5, 1) := by decide +kernel
theorem dL_isFan_38 : decode cL_isFan 38 = .ok (.iaload, 1) := by decide +kernel
theorem dL_isFan_39 : decode cL_isFan 39 = .ok (.iload_n 2, 1) := by decide +kernel
theorem dL_isFan_40 : decode cL_isFan 40 = .ok (.ishr, 1) := by decide +kernel
theorem dL_isFan_41 : decode cL_isFan 41 = .ok (.iconst 1, 1) := by decide +kernel
theorem dL_isFan_42 : decode cL_isFan 42 = .ok (.iand, 1) := by decide +kernel
theorem dL_isFan_43 : decode cL_isFan 43 = .ok (.ifCond .eq 11, 3) := by decide +kernel
theorem dL_isFan_46 : decode cL_isFan 46 = .ok (.aload_n 0, 1) := by decide +kernel
theorem dL_isFan_47 : decode cL_isFan 47 = .ok (.iload_n 2, 1) := by decide +kernel
theorem dL_isFan_48 : decode cL_isFan 48 = .ok (.invokevirtual 51, 3) := by decide +kernel
theorem dL_isFan_51 : decode cL_isFan 51 = .ok (.ifCond .ne 7, 3) := by decide +kernel
theorem dL_isFan_54 : decode cL_isFan 54 = .ok (.iconst 1, 1) := by decide +kernel
theorem dL_isFan_55 : decode cL_isFan 55 = .ok (.goto 4, 3) := by decide +kernel
theorem dL_isFan_58 : decode cL_isFan 58 = .ok (.iconst 0, 1) := by decide +kernel
theorem dL_isFan_59 : decode cL_isFan 59 = .ok (.ireturn, 1) := by decide +kernel
set_option maxRecDepth 20000 in
theorem ggL_isRefused_L_all : GoodIn wsL_isRefused wsL_all := goodIn_ca (goodIn_r _ [6, 7, 8, 9, 10, 11, 12, 13, 14, 15, 16, 17, 18, 19, 20, 21, 22, 23, 24, 25, 26, 27, 28, 29, 30, 31, 32, 33, 34, 35, 36, 37, 38, 39, 40, 41, 42, 43, 44, 45, 46, 47, 48, 49, 50, 51, 52, 53, 54, 55, 56, 57, 58, 59, 60, 61, 62, 63, 64, 65, 66, 67, 68, 69, 70, 233, 234, 235, 236, 237, 238, 239, 240, 241, 242, 243, 244] (by decide +kernel) (by decide +kernel)) (goodIn_sub (fun _ h => List.mem_cons_of_mem _ (List.mem_append_left _ (List.mem_append_right _ h))) (by decide +kernel))
set_option maxRecDepth 20000 in
theorem gL_isRefused_L_all : GoodIn wsL_isRefused (va_wsS RL 94 yL_all wsL_all) := goodIn_app (goodIn_of _ (by decide +kernel)) ggL_isRefused_L_all
set_option maxRecDepth 20000 in
theorem ggL_isRefused_L_set : GoodIn wsL_isRefused wsL_set := goodIn_ca (goodIn_ca (goodIn_r _ [73, 74, 75, 1, 2, 76, 77, 78, 16, 79, 80, 81, 25, 26, 27, 28, 29, 30, 31, 32, 82, 83, 84, 85, 86, 23, 42, 87, 88, 89, 90, 91, 52, 53, 54, 92, 93, 94, 95, 96, 97, 98, 99, 100, 101, 102, 103, 104, 105, 106, 58, 107, 108, 109, 110, 111, 112, 113, 114, 115, 116, 117, 118, 119, 120, 121, 18, 122, 123, 124, 125, 126, 127, 128, 129, 130, 131, 132, 133, 134, 135, 136, 137, 138, 139, 140, 141, 142, 143, 144, 145, 146, 147, 64, 148, 149, 150, 151, 152, 153, 154, 155, 156, 157, 158, 61, 62, 63, 65, 159, 56, 57, 59, 60, 160, 161, 162, 163, 164, 165, 166, 167, 168, 169, 170, 171, 172, 173, 174, 175, 176, 177, 178, 179, 24, 180, 47, 233, 234, 235, 236, 237, 245, 246, 247, 248, 249, 250, 251, 252, 238, 239, 240, 241, 242, 243, 244] (by decide +kernel) (by decide +kernel)) (goodIn_sub (fun _ h => List.mem_cons_of_mem _ (List.mem_append_left _ (List.mem_append_right _ h))) (by decide +kernel))) (goodIn_sub (fun _ h => List.mem_cons_of_mem _ (List.mem_append_right _ h)) (by decide +kernel))
set_option maxRecDepth 20000 in
theorem gL_isRefused_L_set : GoodIn wsL_isRefused (va_wsS RL 100 yL_set wsL_set) := goodIn_app (goodIn_of _ (by decide +kernel)) ggL_isRefused_L_set
set_option maxRecDepth 20000 in
theorem ggL_isRefused_L_setGains : GoodIn wsL_isRefused wsL_setGains := goodIn_ca (goodIn_r _ [183, 74, 1, 184, 185, 186, 16, 187, 80, 188, 189, 28, 29, 30, 31, 32, 233, 234, 235, 236, 237, 245, 246, 247, 248, 249, 250, 251, 252] (by decide +kernel) (by decide +kernel)) (goodIn_sub (fun _ h => List.mem_cons_of_mem _ (List.mem_append_left _ (List.mem_append_right _ h))) (by decide +kernel))
set_option maxRecDepth 20000 in
theorem gL_isRefused_L_setGains : GoodIn wsL_isRefused (va_wsS RL 104 yL_setGains wsL_setGains) := goodIn_app (goodIn_of _ (by decide +kernel)) ggL_isRefused_L_setGains
set_option maxRecDepth 20000 in
theorem ggL_isRefused_L_setHall : GoodIn wsL_isRefused wsL_setHall := goodIn_ca (goodIn_r _ [192, 74, 1, 193, 194, 195, 16, 196, 80, 197, 180, 28, 29, 30, 31, 32, 233, 234, 235, 236, 237, 245, 246, 247, 248, 249, 250, 251, 252] (by decide +kernel) (by decide +kernel)) (goodIn_sub (fun _ h => List.mem_cons_of_mem _ (List.mem_append_left _ (List.mem_append_right _ h))) (by decide +kernel))
set_option maxRecDepth 20000 in
theorem gL_isRefused_L_setHall : GoodIn wsL_isRefused (va_wsS RL 107 yL_setHall wsL_setHall) := goodIn_app (goodIn_of _ (by decide +kernel)) ggL_isRefused_L_setHall
set_option maxRecDepth 20000 in
theorem ggL_isRefused_L_of : GoodIn wsL_isRefused wsL_of := goodIn_ca (goodIn_r _ [200, 74, 1, 48, 49, 50, 16, 51, 23, 52, 53, 54, 28, 29, 30, 31, 32, 55, 56, 57, 58, 59, 60, 61, 62, 63, 64, 65, 66, 67, 68, 69, 70, 19, 20, 21, 22, 24, 25, 26, 27, 33, 34, 35, 36, 37, 38, 39, 40, 41, 42, 43, 44, 45, 46, 47, 201, 202, 203, 204, 205, 206, 207, 208, 209, 210, 211, 212, 80, 143, 144, 141, 145, 213, 214, 215, 216, 128, 217, 218, 219, 220, 134, 127, 109, 108, 104, 105, 106, 107, 123, 124, 125, 126, 129, 130, 131, 132, 133, 135, 136, 137, 138, 139, 140, 142, 146, 147, 148, 149, 150, 151, 152, 153, 154, 155, 156, 157, 158, 159, 160, 161, 162, 163, 164, 165, 166, 167, 168, 169, 170, 171, 172, 173, 174, 175, 221, 222, 223, 224, 225, 226, 227, 228, 103, 229, 230, 231, 232, 180, 233, 234, 235, 236, 237, 238, 239, 240, 241, 242, 243, 244, 245, 246, 247, 248, 249, 250, 251, 252] (by decide +kernel) (by decide +kernel)) (goodIn_sub (fun _ h => List.mem_cons_of_mem _ (List.mem_append_left _ (List.mem_append_right _ h))) (by decide +kernel))
set_option maxRecDepth 20000 in
theorem gL_isRefused_L_of : GoodIn wsL_isRefused (va_wsS RL 109 yL_of wsL_of) := goodIn_app (goodIn_of _ (by decide +kernel)) ggL_isRefused_L_of
theorem dL_isRefused_0 : decode cL_isRefused 0 = .ok (.iload_n 2, 1) := by decide +kernel
theorem dL_isRefused_1 : decode cL_isRefused 1 = .ok (.iconst 2, 1) := by decide +kernel
theorem dL_isRefused_2 : decode cL_isRefused 2 = .ok (.irem, 1) := by decide +kernel
theorem dL_isRefused_3 : decode cL_isRefused 3 = .ok (.ifCond .ne 7, 3) := by decide +kernel
theorem dL_isRefused_6 : decode cL_isRefused 6 = .ok (.iconst 1, 1) := by decide +kernel
theorem dL_isRefused_7 : decode cL_isRefused 7 = .ok (.goto 4, 3) := by decide +kernel
theorem dL_isRefused_10 : decode cL_isRefused 10 = .ok (.iconst 0, 1) := by decide +kernel
theorem dL_isRefused_11 : decode cL_isRefused 11 = .ok (.istore_n 3, 1) := by decide +kernel
theorem dL_isRefused_12 : decode cL_isRefused 12 = .ok (.iload_n 3, 1) := by decide +kernel
theorem dL_isRefused_13 : decode cL_isRefused 13 = .ok (.ifCond .eq 12, 3) := by decide +kernel
theorem dL_isRefused_16 : decode cL_isRefused 16 = .ok (.iconst (-1), 1) := by decide +kernel
theorem dL_isRefused_17 : decode cL_isRefused 17 = .ok (.iload_n 2, 1) := by decide +kernel
theorem dL_isRefused_18 : decode cL_isRefused 18 = .ok (.bipush 30, 2) := by decide +kernel
theorem dL_isRefused_20 : decode cL_isRefused 20 = .ok (.irem, 1) := by decide +kernel
theorem dL_isRefused_21 : decode cL_isRefused 21 = .ok (.isub, 1) := by decide +kernel
theorem dL_isRefused_22 : decode cL_isRefused 22 = .ok (.goto 10, 3) := by decide +kernel
theorem dL_isRefused_25 : decode cL_isRefused 25 = .ok (.bipush 6, 2) := by decide +kernel
theorem dL_isRefused_27 : decode cL_isRefused 27 = .ok (.iload_n 2, 1) := by decide +kernel
theorem dL_isRefused_28 : decode cL_isRefused 28 = .ok (.bipush 30, 2) := by decide +kernel
theorem dL_isRefused_30 : decode cL_isRefused 30 = .ok (.irem, 1) := by decide +kernel
theorem dL_isRefused_31 : decode cL_isRefused 31 = .ok (.iadd, 1) := by decide +kernel
theorem dL_isRefused_32 : decode cL_isRefused 32 = .ok (.istore 4, 2) := by decide +kernel
theorem dL_isRefused_34 : decode cL_isRefused 34 = .ok (.iload_n 3, 1) := by decide +kernel
theorem dL_isRefused_35 : decode cL_isRefused 35 = .ok (.ifCond .eq 12, 3) := by decide +kernel
theorem dL_isRefused_38 : decode cL_isRefused 38 = .ok (.iconst (-1), 1) := by decide +kernel
theorem dL_isRefused_39 : decode cL_isRefused 39 = .ok (.iload_n 2, 1) := by decide +kernel
theorem dL_isRefused_40 : decode cL_isRefused 40 = .ok (.bipush 30, 2) := by decide +kernel
theorem dL_isRefused_42 : decode cL_isRefused 42 = .ok (.irem, 1) := by decide +kernel
theorem dL_isRefused_43 : decode cL_isRefused 43 = .ok (.isub, 1) := by decide +kernel
theorem dL_isRefused_44 : decode cL_isRefused 44 = .ok (.goto 10, 3) := by decide +kernel
theorem dL_isRefused_47 : decode cL_isRefused 47 = .ok (.bipush 8, 2) := by decide +kernel
theorem dL_isRefused_49 : decode cL_isRefused 49 = .ok (.iload_n 2, 1) := by decide +kernel
theorem dL_isRefused_50 : decode cL_isRefused 50 = .ok (.bipush 30, 2) := by decide +kernel
theorem dL_isRefused_52 : decode cL_isRefused 52 = .ok (.irem, 1) := by decide +kernel
theorem dL_isRefused_53 : decode cL_isRefused 53 = .ok (.iadd, 1) := by decide +kernel
theorem dL_isRefused_54 : decode cL_isRefused 54 = .ok (.istore 5, 2) := by decide +kernel
theorem dL_isRefused_56 : decode cL_isRefused 56 = .ok (.aload_n 0, 1) := by decide +kernel
theorem dL_isRefused_57 : decode cL_isRefused 57 = .ok (.invokestatic 94, 3) := by decide +kernel
theorem dL_isRefused_60 : decode cL_isRefused 60 = .ok (.lstore 6, 2) := by decide +kernel
theorem dL_isRefused_62 : decode cL_isRefused 62 = .ok (.aload_n 0, 1) := by decide +kernel
theorem dL_isRefused_63 : decode cL_isRefused 63 = .ok (.iconst 0, 1) := by decide +kernel
theorem dL_isRefused_64 : decode cL_isRefused 64 = .ok (.iload 4, 2) := by decide +kernel
theorem dL_isRefused_66 : decode cL_isRefused 66 = .ok (.iconst 1, 1) := by decide +kernel
theorem dL_isRefused_67 : decode cL_isRefused 67 = .ok (.iconst 0, 1) := by decide +kernel
theorem dL_isRefused_68 : decode cL_isRefused 68 = .ok (.invokestatic 100, 3) := by decide +kernel
theorem dL_isRefused_71 : decode cL_isRefused 71 = .ok (.ldc 37, 2) := by decide +kernel
theorem dL_isRefused_73 : decode cL_isRefused 73 = .ok (.if_icmp .ne 200, 3) := by decide +kernel
theorem dL_isRefused_76 : decode cL_isRefused 76 = .ok (.aload_n 0, 1) := by decide +kernel
theorem dL_isRefused_77 : decode cL_isRefused 77 = .ok (.iconst 0, 1) := by decide +kernel
theorem dL_isRefused_78 : decode cL_isRefused 78 = .ok (.iconst 3, 1) := by decide +kernel
theorem dL_isRefused_79 : decode cL_isRefused 79 = .ok (.iload_n 3, 1) := by decide +kernel
theorem dL_isRefused_80 : decode cL_isRefused 80 = .ok (.ifCond .eq 7, 3) := by decide +kernel
theorem dL_isRefused_83 : decode cL_isRefused 83 = .ok (.iconst (-1), 1) := by decide +kernel
theorem dL_isRefused_84 : decode cL_isRefused 84 = .ok (.goto 6, 3) := by decide +kernel
theorem dL_isRefused_87 : decode cL_isRefused 87 = .ok (.sipush 201, 3) := by decide +kernel
theorem dL_isRefused_90 : decode cL_isRefused 90 = .ok (.iconst 0, 1) := by decide +kernel
theorem dL_isRefused_91 : decode cL_isRefused 91 = .ok (.invokestatic 100, 3) := by decide +kernel
theorem dL_isRefused_94 : decode cL_isRefused 94 = .ok (.ldc 37, 2) := by decide +kernel
theorem dL_isRefused_96 : decode cL_isRefused 96 = .ok (.if_icmp .ne 177, 3) := by decide +kernel
theorem dL_isRefused_99 : decode cL_isRefused 99 = .ok (.aload_n 0, 1) := by decide +kernel
theorem dL_isRefused_100 : decode cL_isRefused 100 = .ok (.iconst 1, 1) := by decide +kernel
theorem dL_isRefused_101 : decode cL_isRefused 101 = .ok (.iload 4, 2) := by decide +kernel
theorem dL_isRefused_103 : decode cL_isRefused 103 = .ok (.sipush 2000, 3) := by decide +kernel
theorem dL_isRefused_106 : decode cL_isRefused 106 = .ok (.iconst 0, 1) := by decide +kernel
theorem dL_isRefused_107 : decode cL_isRefused 107 = .ok (.invokestatic 100, 3) := by decide +kernel
theorem dL_isRefused_110 : decode cL_isRefused 110 = .ok (.ldc 37, 2) := by decide +kernel
theorem dL_isRefused_112 : decode cL_isRefused 112 = .ok (.if_icmp .ne 161, 3) := by decide +kernel
theorem dL_isRefused_115 : decode cL_isRefused 115 = .ok (.aload_n 0, 1) := by decide +kernel
theorem dL_isRefused_116 : decode cL_isRefused 116 = .ok (.iconst 1, 1) := by decide +kernel
theorem dL_isRefused_117 : decode cL_isRefused 117 = .ok (.iconst 3, 1) := by decide +kernel
theorem dL_isRefused_118 : decode cL_isRefused 118 = .ok (.iload_n 3, 1) := by decide +kernel
theorem dL_isRefused_119 : decode cL_isRefused 119 = .ok (.ifCond .eq 9, 3) := by decide +kernel
theorem dL_isRefused_122 : decode cL_isRefused 122 = .ok (.sipush 1499, 3) := by decide +kernel
theorem dL_isRefused_125 : decode cL_isRefused 125 = .ok (.goto 6, 3) := by decide +kernel
theorem dL_isRefused_128 : decode cL_isRefused 128 = .ok (.sipush 3501, 3) := by decide +kernel
theorem dL_isRefused_131 : decode cL_isRefused 131 = .ok (.iconst 0, 1) := by decide +kernel
theorem dL_isRefused_132 : decode cL_isRefused 132 = .ok (.invokestatic 100, 3) := by decide +kernel
theorem dL_isRefused_135 : decode cL_isRefused 135 = .ok (.ldc 37, 2) := by decide +kernel
theorem dL_isRefused_137 : decode cL_isRefused 137 = .ok (.if_icmp .ne 136, 3) := by decide +kernel
theorem dL_isRefused_140 : decode cL_isRefused 140 = .ok (.aload_n 0, 1) := by decide +kernel
theorem dL_isRefused_141 : decode cL_isRefused 141 = .ok (.iconst 2, 1) := by decide +kernel
theorem dL_isRefused_142 : decode cL_isRefused 142 = .ok (.iload 5, 2) := by decide +kernel
theorem dL_isRefused_144 : decode cL_isRefused 144 = .ok (.iconst 1, 1) := by decide +kernel
theorem dL_isRefused_145 : decode cL_isRefused 145 = .ok (.iconst 1, 1) := by decide +kernel
theorem dL_isRefused_146 : decode cL_isRefused 146 = .ok (.invokestatic 100, 3) := by decide +kernel
theorem dL_isRefused_149 : decode cL_isRefused 149 = .ok (.ldc 37, 2) := by decide +kernel
theorem dL_isRefused_151 : decode cL_isRefused 151 = .ok (.if_icmp .ne 122, 3) := by decide +kernel
theorem dL_isRefused_154 : decode cL_isRefused 154 = .ok (.aload_n 0, 1) := by decide +kernel
theorem dL_isRefused_155 : decode cL_isRefused 155 = .ok (.iconst 2, 1) := by decide +kernel
theorem dL_isRefused_156 : decode cL_isRefused 156 = .ok (.iconst 1, 1) := by decide +kernel
theorem dL_isRefused_157 : decode cL_isRefused 157 = .ok (.iload 4, 2) := by decide +kernel
theorem dL_isRefused_159 : decode cL_isRefused 159 = .ok (.iconst 1, 1) := by decide +kernel
theorem dL_isRefused_160 : decode cL_isRefused 160 = .ok (.invokestatic 100, 3) := by decide +kernel
theorem dL_isRefused_163 : decode cL_isRefused 163 = .ok (.ldc 37, 2) := by decide +kernel
theorem dL_isRefused_165 : decode cL_isRefused 165 = .ok (.if_icmp .ne 108, 3) := by decide +kernel
theorem dL_isRefused_168 : decode cL_isRefused 168 = .ok (.aload_n 0, 1) := by decide +kernel
theorem dL_isRefused_169 : decode cL_isRefused 169 = .ok (.iconst 2, 1) := by decide +kernel
theorem dL_isRefused_170 : decode cL_isRefused 170 = .ok (.iconst 1, 1) := by decide +kernel
theorem dL_isRefused_171 : decode cL_isRefused 171 = .ok (.iconst 1, 1) := by decide +kernel
theorem dL_isRefused_172 : decode cL_isRefused 172 = .ok (.iload_n 3, 1) := by decide +kernel
theorem dL_isRefused_173 : decode cL_isRefused 173 = .ok (.ifCond .eq 7, 3) := by decide +kernel
theorem dL_isRefused_176 : decode cL_isRefused 176 = .ok (.iconst (-1), 1) := by decide +kernel
theorem dL_isRefused_177 : decode cL_isRefused 177 = .ok (.goto 5, 3) := by decide +kernel
theorem dL_isRefused_180 : decode cL_isRefused 180 = .ok (.bipush 101, 2) := by decide +kernel
theorem dL_isRefused_182 : decode cL_isRefused 182 = .ok (.invokestatic 100, 3) := by decide +kernel
theorem dL_isRefused_185 : decode cL_isRefused 185 = .ok (.ldc 37, 2) := by decide +kernel
theorem dL_isRefused_187 : decode cL_isRefused 187 = .ok (.if_icmp .ne 86, 3) := by decide +kernel
theorem dL_isRefused_190 : decode cL_isRefused 190 = .ok (.aload_n 0, 1) := by decide +kernel
theorem dL_isRefused_191 : decode cL_isRefused 191 = .ok (.iconst 3, 1) := by decide +kernel
theorem dL_isRefused_192 : decode cL_isRefused 192 = .ok (.iload_n 3, 1) := by decide +kernel
theorem dL_isRefused_193 : decode cL_isRefused 193 = .ok (.ifCond .eq 7, 3) := by decide +kernel
theorem dL_isRefused_196 : decode cL_isRefused 196 = .ok (.iconst (-1), 1) := by decide +kernel
theorem dL_isRefused_197 : decode cL_isRefused 197 = .ok (.goto 5, 3) := by decide +kernel
theorem dL_isRefused_200 : decode cL_isRefused 200 = .ok (.bipush 9, 2) := by decide +kernel
theorem dL_isRefused_202 : decode cL_isRefused 202 = .ok (.iconst 0, 1) := by decide +kernel
theorem dL_isRefused_203 : decode cL_isRefused 203 = .ok (.iconst 0, 1) := by decide +kernel
theorem dL_isRefused_204 : decode cL_isRefused 204 = .ok (.invokestatic 100, 3) := by decide +kernel
theorem dL_isRefused_207 : decode cL_isRefused 207 = .ok (.ldc 37, 2) := by decide +kernel
theorem dL_isRefused_209 : decode cL_isRefused 209 = .ok (.if_icmp .ne 64, 3) := by decide +kernel
theorem dL_isRefused_212 : decode cL_isRefused 212 = .ok (.aload_n 0, 1) := by decide +kernel
theorem dL_isRefused_213 : decode cL_isRefused 213 = .ok (.iconst 4, 1) := by decide +kernel
theorem dL_isRefused_214 : decode cL_isRefused 214 = .ok (.iload 5, 2) := by decide +kernel
theorem dL_isRefused_216 : decode cL_isRefused 216 = .ok (.iconst 0, 1) := by decide +kernel
theorem dL_isRefused_217 : decode cL_isRefused 217 = .ok (.iconst 0, 1) := by decide +kernel
theorem dL_isRefused_218 : decode cL_isRefused 218 = .ok (.invokestatic 100, 3) := by decide +kernel
theorem dL_isRefused_221 : decode cL_isRefused 221 = .ok (.ldc 37, 2) := by decide +kernel
theorem dL_isRefused_223 : decode cL_isRefused 223 = .ok (.if_icmp .ne 50, 3) := by decide +kernel
theorem dL_isRefused_226 : decode cL_isRefused 226 = .ok (.aload_n 0, 1) := by decide +kernel
theorem dL_isRefused_227 : decode cL_isRefused 227 = .ok (.iconst 5, 1) := by decide +kernel
theorem dL_isRefused_228 : decode cL_isRefused 228 = .ok (.iload 5, 2) := by decide +kernel
theorem dL_isRefused_230 : decode cL_isRefused 230 = .ok (.iconst 0, 1) := by decide +kernel
theorem dL_isRefused_231 : decode cL_isRefused 231 = .ok (.iconst 0, 1) := by decide +kernel
theorem dL_isRefused_232 : decode cL_isRefused 232 = .ok (.invokestatic 100, 3) := by decide +kernel
theorem dL_isRefused_235 : decode cL_isRefused 235 = .ok (.ldc 37, 2) := by decide +kernel
theorem dL_isRefused_237 : decode cL_isRefused 237 = .ok (.if_icmp .ne 36, 3) := by decide +kernel
theorem dL_isRefused_240 : decode cL_isRefused 240 = .ok (.aload_n 0, 1) := by decide +kernel
theorem dL_isRefused_241 : decode cL_isRefused 241 = .ok (.bipush 6, 2) := by decide +kernel
theorem dL_isRefused_243 : decode cL_isRefused 243 = .ok (.iload_n 3, 1) := by decide +kernel
theorem dL_isRefused_244 : decode cL_isRefused 244 = .ok (.ifCond .eq 12, 3) := by decide +kernel
theorem dL_isRefused_247 : decode cL_isRefused 247 = .ok (.iconst 0, 1) := by decide +kernel
theorem dL_isRefused_248 : decode cL_isRefused 248 = .ok (.iload_n 2, 1) := by decide +kernel
theorem dL_isRefused_249 : decode cL_isRefused 249 = .ok (.bipush 30, 2) := by decide +kernel
theorem dL_isRefused_251 : decode cL_isRefused 251 = .ok (.irem, 1) := by decide +kernel
theorem dL_isRefused_252 : decode cL_isRefused 252 = .ok (.isub, 1) := by decide +kernel
theorem dL_isRefused_253 : decode cL_isRefused 253 = .ok (.goto 6, 3) := by decide +kernel
theorem dL_isRefused_256 : decode cL_isRefused 256 = .ok (.sipush 301, 3) := by decide +kernel
theorem dL_isRefused_259 : decode cL_isRefused 259 = .ok (.iconst 0, 1) := by decide +kernel
theorem dL_isRefused_260 : decode cL_isRefused 260 = .ok (.iconst 0, 1) := by decide +kernel
theorem dL_isRefused_261 : decode cL_isRefused 261 = .ok (.invokestatic 100, 3) := by decide +kernel
theorem dL_isRefused_264 : decode cL_isRefused 264 = .ok (.ldc 37, 2) := by decide +kernel
theorem dL_isRefused_266 : decode cL_isRefused 266 = .ok (.if_icmp .ne 7, 3) := by decide +kernel
theorem dL_isRefused_269 : decode cL_isRefused 269 = .ok (.iconst 1, 1) := by decide +kernel
theorem dL_isRefused_270 : decode cL_isRefused 270 = .ok (.goto 4, 3) := by decide +kernel
theorem dL_isRefused_273 : decode cL_isRefused 273 = .ok (.iconst 0, 1) := by decide +kernel
theorem dL_isRefused_274 : decode cL_isRefused 274 = .ok (.istore 8, 2) := by decide +kernel
theorem dL_isRefused_276 : decode cL_isRefused 276 = .ok (.iload 8, 2) := by decide +kernel
theorem dL_isRefused_278 : decode cL_isRefused 278 = .ok (.ifCond .eq 99, 3) := by decide +kernel
theorem dL_isRefused_281 : decode cL_isRefused 281 = .ok (.aload_n 0, 1) := by decide +kernel
theorem dL_isRefused_282 : decode cL_isRefused 282 = .ok (.iload_n 3, 1) := by decide +kernel
theorem dL_isRefused_283 : decode cL_isRefused 283 = .ok (.ifCond .eq 7, 3) := by decide +kernel
theorem dL_isRefused_286 : decode cL_isRefused 286 = .ok (.iconst (-1), 1) := by decide +kernel
theorem dL_isRefused_287 : decode cL_isRefused 287 = .ok (.goto 6, 3) := by decide +kernel
theorem dL_isRefused_290 : decode cL_isRefused 290 = .ok (.sipush 201, 3) := by decide +kernel
theorem dL_isRefused_293 : decode cL_isRefused 293 = .ok (.iconst 5, 1) := by decide +kernel
theorem dL_isRefused_294 : decode cL_isRefused 294 = .ok (.invokestatic 104, 3) := by decide +kernel
theorem dL_isRefused_297 : decode cL_isRefused 297 = .ok (.ldc 37, 2) := by decide +kernel
theorem dL_isRefused_299 : decode cL_isRefused 299 = .ok (.if_icmp .ne 78, 3) := by decide +kernel
theorem dL_isRefused_302 : decode cL_isRefused 302 = .ok (.aload_n 0, 1) := by decide +kernel
theorem dL_isRefused_303 : decode cL_isRefused 303 = .ok (.iconst 5, 1) := by decide +kernel
theorem dL_isRefused_304 : decode cL_isRefused 304 = .ok (.iload_n 3, 1) := by decide +kernel
theorem dL_isRefused_305 : decode cL_isRefused 305 = .ok (.ifCond .eq 7, 3) := by decide +kernel
theorem dL_isRefused_308 : decode cL_isRefused 308 = .ok (.iconst (-1), 1) := by decide +kernel
theorem dL_isRefused_309 : decode cL_isRefused 309 = .ok (.goto 6, 3) := by decide +kernel
theorem dL_isRefused_312 : decode cL_isRefused 312 = .ok (.sipush 201, 3) := by decide +kernel
theorem dL_isRefused_315 : decode cL_isRefused 315 = .ok (.invokestatic 104, 3) := by decide +kernel
theorem dL_isRefused_318 : decode cL_isRefused 318 = .ok (.ldc 37, 2) := by decide +kernel
theorem dL_isRefused_320 : decode cL_isRefused 320 = .ok (.if_icmp .ne 57, 3) := by decide +kernel
theorem dL_isRefused_323 : decode cL_isRefused 323 = .ok (.aload_n 0, 1) := by decide +kernel
theorem dL_isRefused_324 : decode cL_isRefused 324 = .ok (.iload_n 3, 1) := by decide +kernel
theorem dL_isRefused_325 : decode cL_isRefused 325 = .ok (.ifCond .eq 9, 3) := by decide +kernel
theorem dL_isRefused_328 : decode cL_isRefused 328 = .ok (.sipush 999, 3) := by decide +kernel
theorem dL_isRefused_331 : decode cL_isRefused 331 = .ok (.goto 6, 3) := by decide +kernel
theorem dL_isRefused_334 : decode cL_isRefused 334 = .ok (.sipush 5001, 3) := by decide +kernel
theorem dL_isRefused_337 : decode cL_isRefused 337 = .ok (.sipush 2000, 3) := by decide +kernel
theorem dL_isRefused_340 : decode cL_isRefused 340 = .ok (.invokestatic 107, 3) := by decide +kernel
theorem dL_isRefused_343 : decode cL_isRefused 343 = .ok (.ldc 37, 2) := by decide +kernel
theorem dL_isRefused_345 : decode cL_isRefused 345 = .ok (.if_icmp .ne 32, 3) := by decide +kernel
theorem dL_isRefused_348 : decode cL_isRefused 348 = .ok (.aload_n 0, 1) := by decide +kernel
theorem dL_isRefused_349 : decode cL_isRefused 349 = .ok (.sipush 2000, 3) := by decide +kernel
theorem dL_isRefused_352 : decode cL_isRefused 352 = .ok (.iload_n 3, 1) := by decide +kernel
theorem dL_isRefused_353 : decode cL_isRefused 353 = .ok (.ifCond .eq 9, 3) := by decide +kernel
theorem dL_isRefused_356 : decode cL_isRefused 356 = .ok (.sipush 999, 3) := by decide +kernel
theorem dL_isRefused_359 : decode cL_isRefused 359 = .ok (.goto 6, 3) := by decide +kernel
theorem dL_isRefused_362 : decode cL_isRefused 362 = .ok (.sipush 5001, 3) := by decide +kernel
theorem dL_isRefused_365 : decode cL_isRefused 365 = .ok (.invokestatic 107, 3) := by decide +kernel
theorem dL_isRefused_368 : decode cL_isRefused 368 = .ok (.ldc 37, 2) := by decide +kernel
theorem dL_isRefused_370 : decode cL_isRefused 370 = .ok (.if_icmp .ne 7, 3) := by decide +kernel
theorem dL_isRefused_373 : decode cL_isRefused 373 = .ok (.iconst 1, 1) := by decide +kernel
theorem dL_isRefused_374 : decode cL_isRefused 374 = .ok (.goto 4, 3) := by decide +kernel
theorem dL_isRefused_377 : decode cL_isRefused 377 = .ok (.iconst 0, 1) := by decide +kernel
theorem dL_isRefused_378 : decode cL_isRefused 378 = .ok (.istore 8, 2) := by decide +kernel
theorem dL_isRefused_380 : decode cL_isRefused 380 = .ok (.iconst 0, 1) := by decide +kernel
theorem dL_isRefused_381 : decode cL_isRefused 381 = .ok (.istore 9, 2) := by decide +kernel
theorem dL_isRefused_383 : decode cL_isRefused 383 = .ok (.iload 9, 2) := by decide +kernel
theorem dL_isRefused_385 : decode cL_isRefused 385 = .ok (.bipush 9, 2) := by decide +kernel
theorem dL_isRefused_387 : decode cL_isRefused 387 = .ok (.if_icmp .ge 75, 3) := by decide +kernel
theorem dL_isRefused_390 : decode cL_isRefused 390 = .ok (.iload 8, 2) := by decide +kernel
theorem dL_isRefused_392 : decode cL_isRefused 392 = .ok (.ifCond .eq 70, 3) := by decide +kernel
theorem dL_isRefused_395 : decode cL_isRefused 395 = .ok (.aload_n 0, 1) := by decide +kernel
