theorem dX3_init_0 : decode cX3_init 0 = .ok (.aload_n 0, 1) := by decide +kernel
theorem dX3_init_1 : decode cX3_init 1 = .ok (.invokespecial 1, 3) := by decide +kernel
theorem dX3_init_4 : decode cX3_init 4 = .ok (.aload_n 0, 1) := by decide +kernel
theorem dX3_init_5 : decode cX3_init 5 = .ok (.bipush 6, 2) := by decide +kernel
theorem dX3_init_7 : decode cX3_init 7 = .ok (.newarray .int, 2) := by decide +kernel
theorem dX3_init_9 : decode cX3_init 9 = .ok (.putfield 7, 3) := by decide +kernel
theorem dX3_init_12 : decode cX3_init 12 = .ok (.aload_n 0, 1) := by decide +kernel
theorem dX3_init_13 : decode cX3_init 13 = .ok (.bipush 6, 2) := by decide +kernel
theorem dX3_init_15 : decode cX3_init 15 = .ok (.newarray .int, 2) := by decide +kernel
theorem dX3_init_17 : decode cX3_init 17 = .ok (.putfield 13, 3) := by decide +kernel
theorem dX3_init_20 : decode cX3_init 20 = .ok (.aload_n 0, 1) := by decide +kernel
theorem dX3_init_21 : decode cX3_init 21 = .ok (.bipush 48, 2) := by decide +kernel
theorem dX3_init_23 : decode cX3_init 23 = .ok (.newarray .int, 2) := by decide +kernel
theorem dX3_init_25 : decode cX3_init 25 = .ok (.putfield 16, 3) := by decide +kernel
theorem dX3_init_28 : decode cX3_init 28 = .ok (.aload_n 0, 1) := by decide +kernel
theorem dX3_init_29 : decode cX3_init 29 = .ok (.bipush 20, 2) := by decide +kernel
theorem dX3_init_31 : decode cX3_init 31 = .ok (.putfield 19, 3) := by decide +kernel
theorem dX3_init_34 : decode cX3_init 34 = .ok (.aload_n 0, 1) := by decide +kernel
theorem dX3_init_35 : decode cX3_init 35 = .ok (.bipush 10, 2) := by decide +kernel
theorem dX3_init_37 : decode cX3_init 37 = .ok (.putfield 23, 3) := by decide +kernel
theorem dX3_init_40 : decode cX3_init 40 = .ok (.aload_n 0, 1) := by decide +kernel
theorem dX3_init_41 : decode cX3_init 41 = .ok (.sipush 2500, 3) := by decide +kernel
theorem dX3_init_44 : decode cX3_init 44 = .ok (.putfield 26, 3) := by decide +kernel
theorem dX3_init_47 : decode cX3_init 47 = .ok (.aload_n 0, 1) := by decide +kernel
theorem dX3_init_48 : decode cX3_init 48 = .ok (.sipush 2700, 3) := by decide +kernel
theorem dX3_init_51 : decode cX3_init 51 = .ok (.putfield 29, 3) := by decide +kernel
theorem dX3_init_54 : decode cX3_init 54 = .ok (.aload_n 0, 1) := by decide +kernel
theorem dX3_init_55 : decode cX3_init 55 = .ok (.iconst 2, 1) := by decide +kernel
theorem dX3_init_56 : decode cX3_init 56 = .ok (.putfield 32, 3) := by decide +kernel
theorem dX3_init_59 : decode cX3_init 59 = .ok (.aload_n 0, 1) := by decide +kernel
theorem dX3_init_60 : decode cX3_init 60 = .ok (.iconst 2, 1) := by decide +kernel
theorem dX3_init_61 : decode cX3_init 61 = .ok (.newarray .int, 2) := by decide +kernel
theorem dX3_init_63 : decode cX3_init 63 = .ok (.putfield 35, 3) := by decide +kernel
theorem dX3_init_66 : decode cX3_init 66 = .ok (.aload_n 0, 1) := by decide +kernel
theorem dX3_init_67 : decode cX3_init 67 = .ok (.bipush 12, 2) := by decide +kernel
theorem dX3_init_69 : decode cX3_init 69 = .ok (.newarray .int, 2) := by decide +kernel
theorem dX3_init_71 : decode cX3_init 71 = .ok (.putfield 38, 3) := by decide +kernel
theorem dX3_init_74 : decode cX3_init 74 = .ok (.aload_n 0, 1) := by decide +kernel
theorem dX3_init_75 : decode cX3_init 75 = .ok (.bipush 12, 2) := by decide +kernel
theorem dX3_init_77 : decode cX3_init 77 = .ok (.newarray .int, 2) := by decide +kernel
theorem dX3_init_79 : decode cX3_init 79 = .ok (.putfield 41, 3) := by decide +kernel
theorem dX3_init_82 : decode cX3_init 82 = .ok (.aload_n 0, 1) := by decide +kernel
theorem dX3_init_83 : decode cX3_init 83 = .ok (.bipush 12, 2) := by decide +kernel
theorem dX3_init_85 : decode cX3_init 85 = .ok (.newarray .int, 2) := by decide +kernel
theorem dX3_init_87 : decode cX3_init 87 = .ok (.putfield 44, 3) := by decide +kernel
theorem dX3_init_90 : decode cX3_init 90 = .ok (.aload_n 0, 1) := by decide +kernel
theorem dX3_init_91 : decode cX3_init 91 = .ok (.bipush 16, 2) := by decide +kernel
theorem dX3_init_93 : decode cX3_init 93 = .ok (.newarray .boolean, 2) := by decide +kernel
theorem dX3_init_95 : decode cX3_init 95 = .ok (.putfield 47, 3) := by decide +kernel
theorem dX3_init_98 : decode cX3_init 98 = .ok (.aload_n 0, 1) := by decide +kernel
theorem dX3_init_99 : decode cX3_init 99 = .ok (.bipush 16, 2) := by decide +kernel
theorem dX3_init_101 : decode cX3_init 101 = .ok (.newarray .int, 2) := by decide +kernel
theorem dX3_init_103 : decode cX3_init 103 = .ok (.putfield 51, 3) := by decide +kernel
theorem dX3_init_106 : decode cX3_init 106 = .ok (.aload_n 0, 1) := by decide +kernel
theorem dX3_init_107 : decode cX3_init 107 = .ok (.sipush 144, 3) := by decide +kernel
theorem dX3_init_110 : decode cX3_init 110 = .ok (.newarray .int, 2) := by decide +kernel
theorem dX3_init_112 : decode cX3_init 112 = .ok (.putfield 54, 3) := by decide +kernel
theorem dX3_init_115 : decode cX3_init 115 = .ok (.aload_n 0, 1) := by decide +kernel
theorem dX3_init_116 : decode cX3_init 116 = .ok (.bipush 6, 2) := by decide +kernel
theorem dX3_init_118 : decode cX3_init 118 = .ok (.newarray .int, 2) := by decide +kernel
theorem dX3_init_120 : decode cX3_init 120 = .ok (.putfield 57, 3) := by decide +kernel
theorem dX3_init_123 : decode cX3_init 123 = .ok (.iconst 0, 1) := by decide +kernel
theorem dX3_init_124 : decode cX3_init 124 = .ok (.istore_n 1, 1) := by decide +kernel
theorem dX3_init_125 : decode cX3_init 125 = .ok (.iload_n 1, 1) := by decide +kernel
theorem dX3_init_126 : decode cX3_init 126 = .ok (.bipush 6, 2) := by decide +kernel
theorem dX3_init_128 : decode cX3_init 128 = .ok (.if_icmp .ge 62, 3) := by decide +kernel
theorem dX3_init_131 : decode cX3_init 131 = .ok (.aload_n 0, 1) := by decide +kernel
theorem dX3_init_132 : decode cX3_init 132 = .ok (.getfield 13, 3) := by decide +kernel
theorem dX3_init_135 : decode cX3_init 135 = .ok (.iload_n 1, 1) := by decide +kernel
theorem dX3_init_136 : decode cX3_init 136 = .ok (.sipush 2200, 3) := by decide +kernel
theorem dX3_init_139 : decode cX3_init 139 = .ok (.iastore, 1) := by decide +kernel
theorem dX3_init_140 : decode cX3_init 140 = .ok (.aload_n 0, 1) := by decide +kernel
theorem dX3_init_141 : decode cX3_init 141 = .ok (.getfield 38, 3) := by decide +kernel
theorem dX3_init_144 : decode cX3_init 144 = .ok (.iload_n 1, 1) := by decide +kernel
theorem dX3_init_145 : decode cX3_init 145 = .ok (.sipush 2000, 3) := by decide +kernel
theorem dX3_init_148 : decode cX3_init 148 = .ok (.iastore, 1) := by decide +kernel
theorem dX3_init_149 : decode cX3_init 149 = .ok (.aload_n 0, 1) := by decide +kernel
theorem dX3_init_150 : decode cX3_init 150 = .ok (.getfield 16, 3) := by decide +kernel
theorem dX3_init_153 : decode cX3_init 153 = .ok (.bipush 6, 2) := by decide +kernel
theorem dX3_init_155 : decode cX3_init 155 = .ok (.iload_n 1, 1) := by decide +kernel
theorem dX3_init_156 : decode cX3_init 156 = .ok (.imul, 1) := by decide +kernel
theorem dX3_init_157 : decode cX3_init 157 = .ok (.iload_n 1, 1) := by decide +kernel
theorem dX3_init_158 : decode cX3_init 158 = .ok (.iadd, 1) := by decide +kernel
theorem dX3_init_159 : decode cX3_init 159 = .ok (.bipush 60, 2) := by decide +kernel
theorem dX3_init_161 : decode cX3_init 161 = .ok (.iastore, 1) := by decide +kernel
theorem dX3_init_162 : decode cX3_init 162 = .ok (.aload_n 0, 1) := by decide +kernel
theorem dX3_init_163 : decode cX3_init 163 = .ok (.getfield 16, 3) := by decide +kernel
theorem dX3_init_166 : decode cX3_init 166 = .ok (.bipush 36, 2) := by decide +kernel
theorem dX3_init_168 : decode cX3_init 168 = .ok (.iload_n 1, 1) := by decide +kernel
theorem dX3_init_169 : decode cX3_init 169 = .ok (.iadd, 1) := by decide +kernel
theorem dX3_init_170 : decode cX3_init 170 = .ok (.bipush 20, 2) := by decide +kernel
theorem dX3_init_172 : decode cX3_init 172 = .ok (.iastore, 1) := by decide +kernel
theorem dX3_init_173 : decode cX3_init 173 = .ok (.aload_n 0, 1) := by decide +kernel
theorem dX3_init_174 : decode cX3_init 174 = .ok (.getfield 16, 3) := by decide +kernel
theorem dX3_init_177 : decode cX3_init 177 = .ok (.bipush 42, 2) := by decide +kernel
theorem dX3_init_179 : decode cX3_init 179 = .ok (.iload_n 1, 1) := by decide +kernel
theorem dX3_init_180 : decode cX3_init 180 = .ok (.iadd, 1) := by decide +kernel
theorem dX3_init_181 : decode cX3_init 181 = .ok (.bipush 20, 2) := by decide +kernel
theorem dX3_init_183 : decode cX3_init 183 = .ok (.iastore, 1) := by decide +kernel
theorem dX3_init_184 : decode cX3_init 184 = .ok (.iinc 1 1, 3) := by decide +kernel
theorem dX3_init_187 : decode cX3_init 187 = .ok (.goto (-62), 3) := by decide +kernel
theorem dX3_init_190 : decode cX3_init 190 = .ok (.return_, 1) := by decide +kernel
theorem dX3_thrown_0 : decode cX3_thrown 0 = .ok (.aload_n 0, 1) := by decide +kernel
theorem dX3_thrown_1 : decode cX3_thrown 1 = .ok (.getfield 60, 3) := by decide +kernel
theorem dX3_thrown_4 : decode cX3_thrown 4 = .ok (.ireturn, 1) := by decide +kernel
theorem dX3_goes_0 : decode cX3_goes 0 = .ok (.aload_n 0, 1) := by decide +kernel
theorem dX3_goes_1 : decode cX3_goes 1 = .ok (.iload_n 1, 1) := by decide +kernel
theorem dX3_goes_2 : decode cX3_goes 2 = .ok (.putfield 60, 3) := by decide +kernel
theorem dX3_goes_5 : decode cX3_goes 5 = .ok (.iload_n 1, 1) := by decide +kernel
theorem dX3_goes_6 : decode cX3_goes 6 = .ok (.ifCond .ne 7, 3) := by decide +kernel
theorem dX3_goes_9 : decode cX3_goes 9 = .ok (.iconst 1, 1) := by decide +kernel
theorem dX3_goes_10 : decode cX3_goes 10 = .ok (.goto 4, 3) := by decide +kernel
theorem dX3_goes_13 : decode cX3_goes 13 = .ok (.iconst 0, 1) := by decide +kernel
theorem dX3_goes_14 : decode cX3_goes 14 = .ok (.ireturn, 1) := by decide +kernel
theorem dX3_isIn_0 : decode cX3_isIn 0 = .ok (.iload_n 0, 1) := by decide +kernel
theorem dX3_isIn_1 : decode cX3_isIn 1 = .ok (.iload_n 1, 1) := by decide +kernel
theorem dX3_isIn_2 : decode cX3_isIn 2 = .ok (.if_icmp .lt 12, 3) := by decide +kernel
theorem dX3_isIn_5 : decode cX3_isIn 5 = .ok (.iload_n 0, 1) := by decide +kernel
theorem dX3_isIn_6 : decode cX3_isIn 6 = .ok (.iload_n 2, 1) := by decide +kernel
theorem dX3_isIn_7 : decode cX3_isIn 7 = .ok (.if_icmp .gt 7, 3) := by decide +kernel
theorem dX3_isIn_10 : decode cX3_isIn 10 = .ok (.iconst 1, 1) := by decide +kernel
theorem dX3_isIn_11 : decode cX3_isIn 11 = .ok (.goto 4, 3) := by decide +kernel
theorem dX3_isIn_14 : decode cX3_isIn 14 = .ok (.iconst 0, 1) := by decide +kernel
theorem dX3_isIn_15 : decode cX3_isIn 15 = .ok (.ireturn, 1) := by decide +kernel
set_option maxRecDepth 20000 in
theorem ggX3_isZone_X3_isIn : GoodIn wsX3_isZone wsX3_isIn := goodIn_r _ [4] (by decide +kernel) (by decide +kernel)
set_option maxRecDepth 20000 in
theorem gX3_isZone_X3_isIn : GoodIn wsX3_isZone (va_wsS RX3 63 yX3_isIn wsX3_isIn) := goodIn_app (goodIn_of _ (by decide +kernel)) ggX3_isZone_X3_isIn
theorem dX3_isZone_0 : decode cX3_isZone 0 = .ok (.iload_n 0, 1) := by decide +kernel
theorem dX3_isZone_1 : decode cX3_isZone 1 = .ok (.iconst 0, 1) := by decide +kernel
theorem dX3_isZone_2 : decode cX3_isZone 2 = .ok (.iconst 5, 1) := by decide +kernel
theorem dX3_isZone_3 : decode cX3_isZone 3 = .ok (.invokestatic 63, 3) := by decide +kernel
theorem dX3_isZone_6 : decode cX3_isZone 6 = .ok (.ireturn, 1) := by decide +kernel
set_option maxRecDepth 20000 in
theorem ggX3_isFan_X3_isIn : GoodIn wsX3_isFan wsX3_isIn := goodIn_r _ [4] (by decide +kernel) (by decide +kernel)
set_option maxRecDepth 20000 in
theorem gX3_isFan_X3_isIn : GoodIn wsX3_isFan (va_wsS RX3 63 yX3_isIn wsX3_isIn) := goodIn_app (goodIn_of _ (by decide +kernel)) ggX3_isFan_X3_isIn
theorem dX3_isFan_0 : decode cX3_isFan 0 = .ok (.iload_n 0, 1) := by decide +kernel
theorem dX3_isFan_1 : decode cX3_isFan 1 = .ok (.iconst 0, 1) := by decide +kernel
theorem dX3_isFan_2 : decode cX3_isFan 2 = .ok (.bipush 7, 2) := by decide +kernel
theorem dX3_isFan_4 : decode cX3_isFan 4 = .ok (.invokestatic 63, 3) := by decide +kernel
theorem dX3_isFan_7 : decode cX3_isFan 7 = .ok (.ireturn, 1) := by decide +kernel
theorem dX3_part_0 : decode cX3_part 0 = .ok (.iload_n 0, 1) := by decide +kernel
theorem dX3_part_1 : decode cX3_part 1 = .ok (.ifCond .lt 9, 3) := by decide +kernel
theorem dX3_part_4 : decode cX3_part 4 = .ok (.iload_n 0, 1) := by decide +kernel
theorem dX3_part_5 : decode cX3_part 5 = .ok (.iload_n 1, 1) := by decide +kernel
theorem dX3_part_6 : decode cX3_part 6 = .ok (.idiv, 1) := by decide +kernel
theorem dX3_part_7 : decode cX3_part 7 = .ok (.goto 11, 3) := by decide +kernel
theorem dX3_part_10 : decode cX3_part 10 = .ok (.iload_n 1, 1) := by decide +kernel
theorem dX3_part_11 : decode cX3_part 11 = .ok (.iconst 1, 1) := by decide +kernel
theorem dX3_part_12 : decode cX3_part 12 = .ok (.isub, 1) := by decide +kernel
theorem dX3_part_13 : decode cX3_part 13 = .ok (.iload_n 0, 1) := by decide +kernel
theorem dX3_part_14 : decode cX3_part 14 = .ok (.isub, 1) := by decide +kernel
theorem dX3_part_15 : decode cX3_part 15 = .ok (.iload_n 1, 1) := by decide +kernel
theorem dX3_part_16 : decode cX3_part 16 = .ok (.idiv, 1) := by decide +kernel
theorem dX3_part_17 : decode cX3_part 17 = .ok (.ineg, 1) := by decide +kernel
theorem dX3_part_18 : decode cX3_part 18 = .ok (.ireturn, 1) := by decide +kernel
theorem dX3_held_0 : decode cX3_held 0 = .ok (.iload_n 0, 1) := by decide +kernel
theorem dX3_held_1 : decode cX3_held 1 = .ok (.iload_n 1, 1) := by decide +kernel
theorem dX3_held_2 : decode cX3_held 2 = .ok (.if_icmp .ge 7, 3) := by decide +kernel
theorem dX3_held_5 : decode cX3_held 5 = .ok (.iload_n 1, 1) := by decide +kernel
theorem dX3_held_6 : decode cX3_held 6 = .ok (.goto 13, 3) := by decide +kernel
theorem dX3_held_9 : decode cX3_held 9 = .ok (.iload_n 0, 1) := by decide +kernel
theorem dX3_held_10 : decode cX3_held 10 = .ok (.iload_n 2, 1) := by decide +kernel
theorem dX3_held_11 : decode cX3_held 11 = .ok (.if_icmp .le 7, 3) := by decide +kernel
theorem dX3_held_14 : decode cX3_held 14 = .ok (.iload_n 2, 1) := by decide +kernel
theorem dX3_held_15 : decode cX3_held 15 = .ok (.goto 4, 3) := by decide +kernel
theorem dX3_held_18 : decode cX3_held 18 = .ok (.iload_n 0, 1) := by decide +kernel
theorem dX3_held_19 : decode cX3_held 19 = .ok (.ireturn, 1) := by decide +kernel
set_option maxRecDepth 20000 in
theorem ggX3_setLoad_X3_isZone : GoodIn wsX3_setLoad wsX3_isZone := goodIn_r _ [5, 6, 7, 4, 8] (by decide +kernel) (by decide +kernel)
set_option maxRecDepth 20000 in
theorem gX3_setLoad_X3_isZone : GoodIn wsX3_setLoad (va_wsS RX3 67 yX3_isZone wsX3_isZone) := goodIn_app (goodIn_of _ (by decide +kernel)) ggX3_setLoad_X3_isZone
set_option maxRecDepth 20000 in
theorem ggX3_setLoad_X3_isIn : GoodIn wsX3_setLoad wsX3_isIn := goodIn_r _ [8] (by decide +kernel) (by decide +kernel)
set_option maxRecDepth 20000 in
theorem gX3_setLoad_X3_isIn : GoodIn wsX3_setLoad (va_wsS RX3 63 yX3_isIn wsX3_isIn) := goodIn_app (goodIn_of _ (by decide +kernel)) ggX3_setLoad_X3_isIn
set_option maxRecDepth 20000 in
theorem ggX3_setLoad_X3_goes : GoodIn wsX3_setLoad wsX3_goes := goodIn_r _ [12, 13, 14, 15, 16, 17, 18, 19, 20, 21, 22, 23, 24, 25, 26, 27, 28, 29, 30] (by decide +kernel) (by decide +kernel)
set_option maxRecDepth 20000 in
theorem gX3_setLoad_X3_goes : GoodIn wsX3_setLoad (wsV RX3 71 RX3 yX3_goes wsX3_goes) := goodIn_app (goodIn_of _ (by decide +kernel)) ggX3_setLoad_X3_goes
theorem dX3_setLoad_0 : decode cX3_setLoad 0 = .ok (.aload_n 0, 1) := by decide +kernel
theorem dX3_setLoad_1 : decode cX3_setLoad 1 = .ok (.iload_n 1, 1) := by decide +kernel
theorem dX3_setLoad_2 : decode cX3_setLoad 2 = .ok (.invokestatic 67, 3) := by decide +kernel
theorem dX3_setLoad_5 : decode cX3_setLoad 5 = .ok (.ifCond .eq 18, 3) := by decide +kernel
theorem dX3_setLoad_8 : decode cX3_setLoad 8 = .ok (.iload_n 2, 1) := by decide +kernel
theorem dX3_setLoad_9 : decode cX3_setLoad 9 = .ok (.iconst 0, 1) := by decide +kernel
theorem dX3_setLoad_10 : decode cX3_setLoad 10 = .ok (.sipush 200, 3) := by decide +kernel
theorem dX3_setLoad_13 : decode cX3_setLoad 13 = .ok (.invokestatic 63, 3) := by decide +kernel
theorem dX3_setLoad_16 : decode cX3_setLoad 16 = .ok (.ifCond .eq 7, 3) := by decide +kernel
theorem dX3_setLoad_19 : decode cX3_setLoad 19 = .ok (.iconst 0, 1) := by decide +kernel
theorem dX3_setLoad_20 : decode cX3_setLoad 20 = .ok (.goto 4, 3) := by decide +kernel
theorem dX3_setLoad_23 : decode cX3_setLoad 23 = .ok (.iconst 1, 1) := by decide +kernel
theorem dX3_setLoad_24 : decode cX3_setLoad 24 = .ok (.invokevirtual 71, 3) := by decide +kernel
theorem dX3_setLoad_27 : decode cX3_setLoad 27 = .ok (.ifCond .ne 5, 3) := by decide +kernel
theorem dX3_setLoad_30 : decode cX3_setLoad 30 = .ok (.iconst 0, 1) := by decide +kernel
theorem dX3_setLoad_31 : decode cX3_setLoad 31 = .ok (.ireturn, 1) := by decide +kernel
theorem dX3_setLoad_32 : decode cX3_setLoad 32 = .ok (.aload_n 0, 1) := by decide +kernel
theorem dX3_setLoad_33 : decode cX3_setLoad 33 = .ok (.getfield 7, 3) := by decide +kernel
theorem dX3_setLoad_36 : decode cX3_setLoad 36 = .ok (.iload_n 1, 1) := by decide +kernel
theorem dX3_setLoad_37 : decode cX3_setLoad 37 = .ok (.iaload, 1) := by decide +kernel
theorem dX3_setLoad_38 : decode cX3_setLoad 38 = .ok (.istore_n 3, 1) := by decide +kernel
theorem dX3_setLoad_39 : decode cX3_setLoad 39 = .ok (.aload_n 0, 1) := by decide +kernel
theorem dX3_setLoad_40 : decode cX3_setLoad 40 = .ok (.getfield 7, 3) := by decide +kernel
theorem dX3_setLoad_43 : decode cX3_setLoad 43 = .ok (.iload_n 1, 1) := by decide +kernel
theorem dX3_setLoad_44 : decode cX3_setLoad 44 = .ok (.iload_n 2, 1) := by decide +kernel
theorem dX3_setLoad_45 : decode cX3_setLoad 45 = .ok (.iastore, 1) := by decide +kernel
theorem dX3_setLoad_46 : decode cX3_setLoad 46 = .ok (.iload_n 3, 1) := by decide +kernel
theorem dX3_setLoad_47 : decode cX3_setLoad 47 = .ok (.ireturn, 1) := by decide +kernel
set_option maxRecDepth 20000 in
theorem ggX3_setSetpoint_X3_isZone : GoodIn wsX3_setSetpoint wsX3_isZone := goodIn_r _ [6, 7, 8, 5, 9] (by decide +kernel) (by decide +kernel)
set_option maxRecDepth 20000 in
theorem gX3_setSetpoint_X3_isZone : GoodIn wsX3_setSetpoint (va_wsS RX3 67 yX3_isZone wsX3_isZone) := goodIn_app (goodIn_of _ (by decide +kernel)) ggX3_setSetpoint_X3_isZone
set_option maxRecDepth 20000 in
theorem ggX3_setSetpoint_X3_isIn : GoodIn wsX3_setSetpoint wsX3_isIn := goodIn_r _ [9] (by decide +kernel) (by decide +kernel)
set_option maxRecDepth 20000 in
theorem gX3_setSetpoint_X3_isIn : GoodIn wsX3_setSetpoint (va_wsS RX3 63 yX3_isIn wsX3_isIn) := goodIn_app (goodIn_of _ (by decide +kernel)) ggX3_setSetpoint_X3_isIn
set_option maxRecDepth 20000 in
theorem ggX3_setSetpoint_X3_goes : GoodIn wsX3_setSetpoint wsX3_goes := goodIn_r _ [13, 14, 15, 16, 17, 18, 19, 20, 21, 22, 23, 24, 25, 26, 27, 28, 29, 30, 31] (by decide +kernel) (by decide +kernel)
set_option maxRecDepth 20000 in
theorem gX3_setSetpoint_X3_goes : GoodIn wsX3_setSetpoint (wsV RX3 71 RX3 yX3_goes wsX3_goes) := goodIn_app (goodIn_of _ (by decide +kernel)) ggX3_setSetpoint_X3_goes
theorem dX3_setSetpoint_0 : decode cX3_setSetpoint 0 = .ok (.aload_n 0, 1) := by decide +kernel
theorem dX3_setSetpoint_1 : decode cX3_setSetpoint 1 = .ok (.iload_n 1, 1) := by decide +kernel
theorem dX3_setSetpoint_2 : decode cX3_setSetpoint 2 = .ok (.invokestatic 67, 3) := by decide +kernel
theorem dX3_setSetpoint_5 : decode cX3_setSetpoint 5 = .ok (.ifCond .eq 20, 3) := by decide +kernel
theorem dX3_setSetpoint_8 : decode cX3_setSetpoint 8 = .ok (.iload_n 2, 1) := by decide +kernel
theorem dX3_setSetpoint_9 : decode cX3_setSetpoint 9 = .ok (.sipush 1500, 3) := by decide +kernel
theorem dX3_setSetpoint_12 : decode cX3_setSetpoint 12 = .ok (.sipush 3500, 3) := by decide +kernel
theorem dX3_setSetpoint_15 : decode cX3_setSetpoint 15 = .ok (.invokestatic 63, 3) := by decide +kernel
theorem dX3_setSetpoint_18 : decode cX3_setSetpoint 18 = .ok (.ifCond .eq 7, 3) := by decide +kernel
theorem dX3_setSetpoint_21 : decode cX3_setSetpoint 21 = .ok (.iconst 0, 1) := by decide +kernel
theorem dX3_setSetpoint_22 : decode cX3_setSetpoint 22 = .ok (.goto 4, 3) := by decide +kernel
theorem dX3_setSetpoint_25 : decode cX3_setSetpoint 25 = .ok (.iconst 1, 1) := by decide +kernel
theorem dX3_setSetpoint_26 : decode cX3_setSetpoint 26 = .ok (.invokevirtual 71, 3) := by decide +kernel
theorem dX3_setSetpoint_29 : decode cX3_setSetpoint 29 = .ok (.ifCond .ne 5, 3) := by decide +kernel
theorem dX3_setSetpoint_32 : decode cX3_setSetpoint 32 = .ok (.iconst 0, 1) := by decide +kernel
theorem dX3_setSetpoint_33 : decode cX3_setSetpoint 33 = .ok (.ireturn, 1) := by decide +kernel
theorem dX3_setSetpoint_34 : decode cX3_setSetpoint 34 = .ok (.aload_n 0, 1) := by decide +kernel
theorem dX3_setSetpoint_35 : decode cX3_setSetpoint 35 = .ok (.getfield 13, 3) := by decide +kernel
theorem dX3_setSetpoint_38 : decode cX3_setSetpoint 38 = .ok (.iload_n 1, 1) := by decide +kernel
theorem dX3_setSetpoint_39 : decode cX3_setSetpoint 39 = .ok (.iaload, 1) := by decide +kernel
theorem dX3_setSetpoint_40 : decode cX3_setSetpoint 40 = .ok (.istore_n 3, 1) := by decide +kernel
theorem dX3_setSetpoint_41 : decode cX3_setSetpoint 41 = .ok (.aload_n 0, 1) := by decide +kernel
theorem dX3_setSetpoint_42 : decode cX3_setSetpoint 42 = .ok (.getfield 13, 3) := by decide +kernel
theorem dX3_setSetpoint_45 : decode cX3_setSetpoint 45 = .ok (.iload_n 1, 1) := by decide +kernel
theorem dX3_setSetpoint_46 : decode cX3_setSetpoint 46 = .ok (.iload_n 2, 1) := by decide +kernel
theorem dX3_setSetpoint_47 : decode cX3_setSetpoint 47 = .ok (.iastore, 1) := by decide +kernel
theorem dX3_setSetpoint_48 : decode cX3_setSetpoint 48 = .ok (.aload_n 0, 1) := by decide +kernel
theorem dX3_setSetpoint_49 : decode cX3_setSetpoint 49 = .ok (.getfield 41, 3) := by decide +kernel
theorem dX3_setSetpoint_52 : decode cX3_setSetpoint 52 = .ok (.iload_n 1, 1) := by decide +kernel
theorem dX3_setSetpoint_53 : decode cX3_setSetpoint 53 = .ok (.iconst 0, 1) := by decide +kernel
theorem dX3_setSetpoint_54 : decode cX3_setSetpoint 54 = .ok (.iastore, 1) := by decide +kernel
theorem dX3_setSetpoint_55 : decode cX3_setSetpoint 55 = .ok (.iload_n 3, 1) := by decide +kernel
theorem dX3_setSetpoint_56 : decode cX3_setSetpoint 56 = .ok (.ireturn, 1) := by decide +kernel
set_option maxRecDepth 20000 in
theorem ggX3_setEffect_X3_isFan : GoodIn wsX3_setEffect wsX3_isFan := goodIn_r _ [5, 6, 7, 4, 8] (by decide +kernel) (by decide +kernel)
set_option maxRecDepth 20000 in
theorem gX3_setEffect_X3_isFan : GoodIn wsX3_setEffect (va_wsS RX3 74 yX3_isFan wsX3_isFan) := goodIn_app (goodIn_of _ (by decide +kernel)) ggX3_setEffect_X3_isFan
set_option maxRecDepth 20000 in
theorem ggX3_setEffect_X3_isZone : GoodIn wsX3_setEffect wsX3_isZone := goodIn_r _ [11, 6, 7, 4, 8] (by decide +kernel) (by decide +kernel)
set_option maxRecDepth 20000 in
theorem gX3_setEffect_X3_isZone : GoodIn wsX3_setEffect (va_wsS RX3 67 yX3_isZone wsX3_isZone) := goodIn_app (goodIn_of _ (by decide +kernel)) ggX3_setEffect_X3_isZone
set_option maxRecDepth 20000 in
theorem ggX3_setEffect_X3_isIn : GoodIn wsX3_setEffect wsX3_isIn := goodIn_r _ [8] (by decide +kernel) (by decide +kernel)
set_option maxRecDepth 20000 in
theorem gX3_setEffect_X3_isIn : GoodIn wsX3_setEffect (va_wsS RX3 63 yX3_isIn wsX3_isIn) := goodIn_app (goodIn_of _ (by decide +kernel)) ggX3_setEffect_X3_isIn
set_option maxRecDepth 20000 in
theorem ggX3_setEffect_X3_goes : GoodIn wsX3_setEffect wsX3_goes := goodIn_r _ [15, 16, 17, 18, 19, 20, 21, 22, 23, 24, 25, 26, 27, 28, 29, 30, 31, 32, 33] (by decide +kernel) (by decide +kernel)
set_option maxRecDepth 20000 in
theorem gX3_setEffect_X3_goes : GoodIn wsX3_setEffect (wsV RX3 71 RX3 yX3_goes wsX3_goes) := goodIn_app (goodIn_of _ (by decide +kernel)) ggX3_setEffect_X3_goes
theorem dX3_setEffect_0 : decode cX3_setEffect 0 = .ok (.aload_n 0, 1) := by decide +kernel
theorem dX3_setEffect_1 : decode cX3_setEffect 1 = .ok (.iload_n 1, 1) := by decide +kernel
theorem dX3_setEffect_2 : decode cX3_setEffect 2 = .ok (.invokestatic 74, 3) := by decide +kernel
theorem dX3_setEffect_5 : decode cX3_setEffect 5 = .ok (.ifCond .eq 24, 3) := by decide +kernel
theorem dX3_setEffect_8 : decode cX3_setEffect 8 = .ok (.iload_n 2, 1) := by decide +kernel
theorem dX3_setEffect_9 : decode cX3_setEffect 9 = .ok (.invokestatic 67, 3) := by decide +kernel
theorem dX3_setEffect_12 : decode cX3_setEffect 12 = .ok (.ifCond .eq 17, 3) := by decide +kernel
theorem dX3_setEffect_15 : decode cX3_setEffect 15 = .ok (.iload_n 3, 1) := by decide +kernel
theorem dX3_setEffect_16 : decode cX3_setEffect 16 = .ok (.iconst 0, 1) := by decide +kernel
theorem dX3_setEffect_17 : decode cX3_setEffect 17 = .ok (.bipush 100, 2) := by decide +kernel
theorem dX3_setEffect_19 : decode cX3_setEffect 19 = .ok (.invokestatic 63, 3) := by decide +kernel
theorem dX3_setEffect_22 : decode cX3_setEffect 22 = .ok (.ifCond .eq 7, 3) := by decide +kernel
theorem dX3_setEffect_25 : decode cX3_setEffect 25 = .ok (.iconst 0, 1) := by decide +kernel
theorem dX3_setEffect_26 : decode cX3_setEffect 26 = .ok (.goto 4, 3) := by decide +kernel
theorem dX3_setEffect_29 : decode cX3_setEffect 29 = .ok (.iconst 1, 1) := by decide +kernel
theorem dX3_setEffect_30 : decode cX3_setEffect 30 = .ok (.invokevirtual 71, 3) := by decide +kernel
theorem dX3_setEffect_33 : decode cX3_setEffect 33 = .ok (.ifCond .ne 5, 3) := by decide +kernel
theorem dX3_setEffect_36 : decode cX3_setEffect 36 = .ok (.iconst 0, 1) := by decide +kernel
theorem dX3_setEffect_37 : decode cX3_setEffect 37 = .ok (.ireturn, 1) := by decide +kernel
theorem dX3_setEffect_38 : decode cX3_setEffect 38 = .ok (.aload_n 0, 1) := by decide +kernel
theorem dX3_setEffect_39 : decode cX3_setEffect 39 = .ok (.getfield 16, 3) := by decide +kernel
theorem dX3_setEffect_42 : decode cX3_setEffect 42 = .ok (.bipush 6, 2) := by decide +kernel
theorem dX3_setEffect_44 : decode cX3_setEffect 44 = .ok (.iload_n 1, 1) := by decide +kernel
theorem dX3_setEffect_45 : decode cX3_setEffect 45 = .ok (.imul, 1) := by decide +kernel
theorem dX3_setEffect_46 : decode cX3_setEffect 46 = .ok (.iload_n 2, 1) := by decide +kernel
theorem dX3_setEffect_47 : decode cX3_setEffect 47 = .ok (.iadd, 1) := by decide +kernel
theorem dX3_setEffect_48 : decode cX3_setEffect 48 = .ok (.iaload, 1) := by decide +kernel
theorem dX3_setEffect_49 : decode cX3_setEffect 49 = .ok (.istore 4, 2) := by decide +kernel
theorem dX3_setEffect_51 : decode cX3_setEffect 51 = .ok (.aload_n 0, 1) := by decide +kernel
theorem dX3_setEffect_52 : decode cX3_setEffect 52 = .ok (.getfield 16, 3) := by decide +kernel
theorem dX3_setEffect_55 : decode cX3_setEffect 55 = .ok (.bipush 6, 2) := by decide +kernel
theorem dX3_setEffect_57 : decode cX3_setEffect 57 = .ok (.iload_n 1, 1) := by decide +kernel
theorem dX3_setEffect_58 : decode cX3_setEffect 58 = .ok (.imul, 1) := by decide +kernel
theorem dX3_setEffect_59 : decode cX3_setEffect 59 = .ok (.iload_n 2, 1) := by decide +kernel
theorem dX3_setEffect_60 : decode cX3_setEffect 60 = .ok (.iadd, 1) := by decide +kernel
theorem dX3_setEffect_61 : decode cX3_setEffect 61 = .ok (.iload_n 3, 1) := by decide +kernel
theorem dX3_setEffect_62 : decode cX3_setEffect 62 = .ok (.iastore, 1) := by decide +kernel
theorem dX3_setEffect_63 : decode cX3_setEffect 63 = .ok (.iload 4, 2) := by decide +kernel
theorem dX3_setEffect_65 : decode cX3_setEffect 65 = .ok (.ireturn, 1) := by decide +kernel
set_option maxRecDepth 20000 in
theorem ggX3_setGains_X3_isIn : GoodIn wsX3_setGains wsX3_isIn := goodIn_r _ [6] (by decide +kernel) (by decide +kernel)
set_option maxRecDepth 20000 in
theorem gX3_setGains_X3_isIn : GoodIn wsX3_setGains (va_wsS RX3 63 yX3_isIn wsX3_isIn) := goodIn_app (goodIn_of _ (by decide +kernel)) ggX3_setGains_X3_isIn
set_option maxRecDepth 20000 in
theorem ggX3_setGains_X3_goes : GoodIn wsX3_setGains wsX3_goes := goodIn_r _ [10, 11, 12, 13, 14, 15, 16, 17, 18, 19, 20, 21, 22, 23, 24, 25, 26, 27, 28] (by decide +kernel) (by decide +kernel)
set_option maxRecDepth 20000 in
theorem gX3_setGains_X3_goes : GoodIn wsX3_setGains (wsV RX3 71 RX3 yX3_goes wsX3_goes) := goodIn_app (goodIn_of _ (by decide +kernel)) ggX3_setGains_X3_goes
theorem dX3_setGains_0 : decode cX3_setGains 0 = .ok (.aload_n 0, 1) := by decide +kernel
theorem dX3_setGains_1 : decode cX3_setGains 1 = .ok (.iload_n 1, 1) := by decide +kernel
theorem dX3_setGains_2 : decode cX3_setGains 2 = .ok (.iconst 0, 1) := by decide +kernel
theorem dX3_setGains_3 : decode cX3_setGains 3 = .ok (.sipush 200, 3) := by decide +kernel
theorem dX3_setGains_6 : decode cX3_setGains 6 = .ok (.invokestatic 63, 3) := by decide +kernel
theorem dX3_setGains_9 : decode cX3_setGains 9 = .ok (.ifCond .eq 18, 3) := by decide +kernel
theorem dX3_setGains_12 : decode cX3_setGains 12 = .ok (.iload_n 2, 1) := by decide +kernel
theorem dX3_setGains_13 : decode cX3_setGains 13 = .ok (.iconst 0, 1) := by decide +kernel
theorem dX3_setGains_14 : decode cX3_setGains 14 = .ok (.sipush 200, 3) := by decide +kernel
theorem dX3_setGains_17 : decode cX3_setGains 17 = .ok (.invokestatic 63, 3) := by decide +kernel
theorem dX3_setGains_20 : decode cX3_setGains 20 = .ok (.ifCond .eq 7, 3) := by decide +kernel
theorem dX3_setGains_23 : decode cX3_setGains 23 = .ok (.iconst 0, 1) := by decide +kernel
theorem dX3_setGains_24 : decode cX3_setGains 24 = .ok (.goto 4, 3) := by decide +kernel
theorem dX3_setGains_27 : decode cX3_setGains 27 = .ok (.iconst 1, 1) := by decide +kernel
theorem dX3_setGains_28 : decode cX3_setGains 28 = .ok (.invokevirtual 71, 3) := by decide +kernel
theorem dX3_setGains_31 : decode cX3_setGains 31 = .ok (.ifCond .eq 13, 3) := by decide +kernel
theorem dX3_setGains_34 : decode cX3_setGains 34 = .ok (.aload_n 0, 1) := by decide +kernel
theorem dX3_setGains_35 : decode cX3_setGains 35 = .ok (.iload_n 1, 1) := by decide +kernel
theorem dX3_setGains_36 : decode cX3_setGains 36 = .ok (.putfield 19, 3) := by decide +kernel
theorem dX3_setGains_39 : decode cX3_setGains 39 = .ok (.aload_n 0, 1) := by decide +kernel
theorem dX3_setGains_40 : decode cX3_setGains 40 = .ok (.iload_n 2, 1) := by decide +kernel
theorem dX3_setGains_41 : decode cX3_setGains 41 = .ok (.putfield 23, 3) := by decide +kernel
theorem dX3_setGains_44 : decode cX3_setGains 44 = .ok (.return_, 1) := by decide +kernel
set_option maxRecDepth 20000 in
theorem ggX3_setHall_X3_isIn : GoodIn wsX3_setHall wsX3_isIn := goodIn_r _ [6] (by decide +kernel) (by decide +kernel)
set_option maxRecDepth 20000 in
theorem gX3_setHall_X3_isIn : GoodIn wsX3_setHall (va_wsS RX3 63 yX3_isIn wsX3_isIn) := goodIn_app (goodIn_of _ (by decide +kernel)) ggX3_setHall_X3_isIn
set_option maxRecDepth 20000 in
theorem ggX3_setHall_X3_goes : GoodIn wsX3_setHall wsX3_goes := goodIn_r _ [10, 11, 12, 13, 14, 15, 16, 17, 18, 19, 20, 21, 22, 23, 24, 25, 26, 27, 28] (by decide +kernel) (by decide +kernel)
set_option maxRecDepth 20000 in
theorem gX3_setHall_X3_goes : GoodIn wsX3_setHall (wsV RX3 71 RX3 yX3_goes wsX3_goes) := goodIn_app (goodIn_of _ (by decide +kernel)) ggX3_setHall_X3_goes
theorem dX3_setHall_0 : decode cX3_setHall 0 = .ok (.aload_n 0, 1) := by decide +kernel
theorem dX3_setHall_1 : decode cX3_setHall 1 = .ok (.iload_n 1, 1) := by decide +kernel
theorem dX3_setHall_2 : decode cX3_setHall 2 = .ok (.sipush 1000, 3) := by decide +kernel
theorem dX3_setHall_5 : decode cX3_setHall 5 = .ok (.sipush 5000, 3) := by decide +kernel
theorem dX3_setHall_8 : decode cX3_setHall 8 = .ok (.invokestatic 63, 3) := by decide +kernel
theorem dX3_setHall_11 : decode cX3_setHall 11 = .ok (.ifCond .eq 20, 3) := by decide +kernel
theorem dX3_setHall_14 : decode cX3_setHall 14 = .ok (.iload_n 2, 1) := by decide +kernel
theorem dX3_setHall_15 : decode cX3_setHall 15 = .ok (.sipush 1000, 3) := by decide +kernel
theorem dX3_setHall_18 : decode cX3_setHall 18 = .ok (.sipush 5000, 3) := by decide +kernel
