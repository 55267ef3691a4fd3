theorem dL_isFailing_42 : decode cL_isFailing 42 = .ok (.iconst 4, 1) := by decide +kernel
theorem dL_isFailing_43 : decode cL_isFailing 43 = .ok (.iload_n 1, 1) := by decide +kernel
theorem dL_isFailing_44 : decode cL_isFailing 44 = .ok (.iconst 0, 1) := by decide +kernel
theorem dL_isFailing_45 : decode cL_isFailing 45 = .ok (.iconst 0, 1) := by decide +kernel
theorem dL_isFailing_46 : decode cL_isFailing 46 = .ok (.invokestatic 100, 3) := by decide +kernel
theorem dL_isFailing_49 : decode cL_isFailing 49 = .ok (.istore 9, 2) := by decide +kernel
theorem dL_isFailing_51 : decode cL_isFailing 51 = .ok (.aload 4, 2) := by decide +kernel
theorem dL_isFailing_53 : decode cL_isFailing 53 = .ok (.iconst 5, 1) := by decide +kernel
theorem dL_isFailing_54 : decode cL_isFailing 54 = .ok (.dup2, 1) := by decide +kernel
theorem dL_isFailing_55 : decode cL_isFailing 55 = .ok (.iaload, 1) := by decide +kernel
theorem dL_isFailing_56 : decode cL_isFailing 56 = .ok (.iconst 1, 1) := by decide +kernel
theorem dL_isFailing_57 : decode cL_isFailing 57 = .ok (.iload_n 1, 1) := by decide +kernel
theorem dL_isFailing_58 : decode cL_isFailing 58 = .ok (.ishl, 1) := by decide +kernel
theorem dL_isFailing_59 : decode cL_isFailing 59 = .ok (.ior, 1) := by decide +kernel
theorem dL_isFailing_60 : decode cL_isFailing 60 = .ok (.iastore, 1) := by decide +kernel
theorem dL_isFailing_61 : decode cL_isFailing 61 = .ok (.iload 9, 2) := by decide +kernel
theorem dL_isFailing_63 : decode cL_isFailing 63 = .ok (.iload 5, 2) := by decide +kernel
theorem dL_isFailing_65 : decode cL_isFailing 65 = .ok (.ifCond .eq 11, 3) := by decide +kernel
theorem dL_isFailing_68 : decode cL_isFailing 68 = .ok (.aload 4, 2) := by decide +kernel
theorem dL_isFailing_70 : decode cL_isFailing 70 = .ok (.invokestatic 114, 3) := by decide +kernel
theorem dL_isFailing_73 : decode cL_isFailing 73 = .ok (.goto 5, 3) := by decide +kernel
theorem dL_isFailing_76 : decode cL_isFailing 76 = .ok (.ldc 40, 2) := by decide +kernel
theorem dL_isFailing_78 : decode cL_isFailing 78 = .ok (.if_icmp .ne 25, 3) := by decide +kernel
theorem dL_isFailing_81 : decode cL_isFailing 81 = .ok (.aload_n 0, 1) := by decide +kernel
theorem dL_isFailing_82 : decode cL_isFailing 82 = .ok (.iload_n 1, 1) := by decide +kernel
theorem dL_isFailing_83 : decode cL_isFailing 83 = .ok (.invokevirtual 51, 3) := by decide +kernel
theorem dL_isFailing_86 : decode cL_isFailing 86 = .ok (.ifCond .ne 17, 3) := by decide +kernel
theorem dL_isFailing_89 : decode cL_isFailing 89 = .ok (.aload_n 0, 1) := by decide +kernel
theorem dL_isFailing_90 : decode cL_isFailing 90 = .ok (.iload_n 1, 1) := by decide +kernel
theorem dL_isFailing_91 : decode cL_isFailing 91 = .ok (.invokevirtual 48, 3) := by decide +kernel
theorem dL_isFailing_94 : decode cL_isFailing 94 = .ok (.iload 8, 2) := by decide +kernel
theorem dL_isFailing_96 : decode cL_isFailing 96 = .ok (.if_icmp .ne 7, 3) := by decide +kernel
theorem dL_isFailing_99 : decode cL_isFailing 99 = .ok (.iconst 1, 1) := by decide +kernel
theorem dL_isFailing_100 : decode cL_isFailing 100 = .ok (.goto 4, 3) := by decide +kernel
theorem dL_isFailing_103 : decode cL_isFailing 103 = .ok (.iconst 0, 1) := by decide +kernel
theorem dL_isFailing_104 : decode cL_isFailing 104 = .ok (.istore 10, 2) := by decide +kernel
theorem dL_isFailing_106 : decode cL_isFailing 106 = .ok (.aload_n 0, 1) := by decide +kernel
theorem dL_isFailing_107 : decode cL_isFailing 107 = .ok (.iload_n 2, 1) := by decide +kernel
theorem dL_isFailing_108 : decode cL_isFailing 108 = .ok (.iload_n 3, 1) := by decide +kernel
theorem dL_isFailing_109 : decode cL_isFailing 109 = .ok (.invokevirtual 66, 3) := by decide +kernel
theorem dL_isFailing_112 : decode cL_isFailing 112 = .ok (.istore 11, 2) := by decide +kernel
theorem dL_isFailing_114 : decode cL_isFailing 114 = .ok (.iload 10, 2) := by decide +kernel
theorem dL_isFailing_116 : decode cL_isFailing 116 = .ok (.ifCond .eq 45, 3) := by decide +kernel
theorem dL_isFailing_119 : decode cL_isFailing 119 = .ok (.iload 5, 2) := by decide +kernel
theorem dL_isFailing_121 : decode cL_isFailing 121 = .ok (.ifCond .eq 36, 3) := by decide +kernel
theorem dL_isFailing_124 : decode cL_isFailing 124 = .ok (.iload_n 1, 1) := by decide +kernel
theorem dL_isFailing_125 : decode cL_isFailing 125 = .ok (.iload 6, 2) := by decide +kernel
theorem dL_isFailing_127 : decode cL_isFailing 127 = .ok (.if_icmp .ne 18, 3) := by decide +kernel
theorem dL_isFailing_130 : decode cL_isFailing 130 = .ok (.iload 7, 2) := by decide +kernel
theorem dL_isFailing_132 : decode cL_isFailing 132 = .ok (.aload 4, 2) := by decide +kernel
theorem dL_isFailing_134 : decode cL_isFailing 134 = .ok (.iconst 3, 1) := by decide +kernel
theorem dL_isFailing_135 : decode cL_isFailing 135 = .ok (.iaload, 1) := by decide +kernel
theorem dL_isFailing_136 : decode cL_isFailing 136 = .ok (.iload 11, 2) := by decide +kernel
theorem dL_isFailing_138 : decode cL_isFailing 138 = .ok (.isub, 1) := by decide +kernel
theorem dL_isFailing_139 : decode cL_isFailing 139 = .ok (.if_icmp .ne 22, 3) := by decide +kernel
theorem dL_isFailing_142 : decode cL_isFailing 142 = .ok (.goto 15, 3) := by decide +kernel
theorem dL_isFailing_145 : decode cL_isFailing 145 = .ok (.iload 7, 2) := by decide +kernel
theorem dL_isFailing_147 : decode cL_isFailing 147 = .ok (.aload 4, 2) := by decide +kernel
theorem dL_isFailing_149 : decode cL_isFailing 149 = .ok (.iconst 3, 1) := by decide +kernel
theorem dL_isFailing_150 : decode cL_isFailing 150 = .ok (.iaload, 1) := by decide +kernel
theorem dL_isFailing_151 : decode cL_isFailing 151 = .ok (.iload 11, 2) := by decide +kernel
theorem dL_isFailing_153 : decode cL_isFailing 153 = .ok (.isub, 1) := by decide +kernel
theorem dL_isFailing_154 : decode cL_isFailing 154 = .ok (.if_icmp .gt 7, 3) := by decide +kernel
theorem dL_isFailing_157 : decode cL_isFailing 157 = .ok (.iconst 1, 1) := by decide +kernel
theorem dL_isFailing_158 : decode cL_isFailing 158 = .ok (.goto 4, 3) := by decide +kernel
theorem dL_isFailing_161 : decode cL_isFailing 161 = .ok (.iconst 0, 1) := by decide +kernel
theorem dL_isFailing_162 : decode cL_isFailing 162 = .ok (.ireturn, 1) := by decide +kernel
