/-! ===== the law: its rows, printed ===== -/
theorem dL_both_112 : decode cL_both 112 = .ok (.iconst (-1), 1) := by decide +kernel
theorem dL_both_113 : decode cL_both 113 = .ok (.if_icmp .ne 7, 3) := by decide +kernel
theorem dL_both_116 : decode cL_both 116 = .ok (.iconst (-1), 1) := by decide +kernel
theorem dL_both_117 : decode cL_both 117 = .ok (.goto 26, 3) := by decide +kernel
theorem dL_both_120 : decode cL_both 120 = .ok (.iload 7, 2) := by decide +kernel
theorem dL_both_122 : decode cL_both 122 = .ok (.iload 8, 2) := by decide +kernel
theorem dL_both_124 : decode cL_both 124 = .ok (.if_icmp .ge 7, 3) := by decide +kernel
theorem dL_both_127 : decode cL_both 127 = .ok (.iconst 0, 1) := by decide +kernel
theorem dL_both_128 : decode cL_both 128 = .ok (.goto 15, 3) := by decide +kernel
theorem dL_both_131 : decode cL_both 131 = .ok (.iload 7, 2) := by decide +kernel
theorem dL_both_133 : decode cL_both 133 = .ok (.iload 8, 2) := by decide +kernel
theorem dL_both_135 : decode cL_both 135 = .ok (.if_icmp .le 7, 3) := by decide +kernel
theorem dL_both_138 : decode cL_both 138 = .ok (.iconst 1, 1) := by decide +kernel
theorem dL_both_139 : decode cL_both 139 = .ok (.goto 4, 3) := by decide +kernel
theorem dL_both_142 : decode cL_both 142 = .ok (.iconst 2, 1) := by decide +kernel
theorem dL_both_143 : decode cL_both 143 = .ok (.if_icmp .ne 42, 3) := by decide +kernel
theorem dL_both_146 : decode cL_both 146 = .ok (.aload_n 0, 1) := by decide +kernel
theorem dL_both_147 : decode cL_both 147 = .ok (.bipush 14, 2) := by decide +kernel
theorem dL_both_149 : decode cL_both 149 = .ok (.iload 5, 2) := by decide +kernel
theorem dL_both_151 : decode cL_both 151 = .ok (.iload 4, 2) := by decide +kernel
theorem dL_both_153 : decode cL_both 153 = .ok (.iconst 0, 1) := by decide +kernel
theorem dL_both_154 : decode cL_both 154 = .ok (.invokestatic 144, 3) := by decide +kernel
theorem dL_both_157 : decode cL_both 157 = .ok (.iload 6, 2) := by decide +kernel
theorem dL_both_159 : decode cL_both 159 = .ok (.iconst (-1), 1) := by decide +kernel
theorem dL_both_160 : decode cL_both 160 = .ok (.if_icmp .eq 9, 3) := by decide +kernel
theorem dL_both_163 : decode cL_both 163 = .ok (.iload 6, 2) := by decide +kernel
theorem dL_both_165 : decode cL_both 165 = .ok (.iconst 2, 1) := by decide +kernel
theorem dL_both_166 : decode cL_both 166 = .ok (.if_icmp .ne 8, 3) := by decide +kernel
theorem dL_both_169 : decode cL_both 169 = .ok (.iload 6, 2) := by decide +kernel
theorem dL_both_171 : decode cL_both 171 = .ok (.goto 7, 3) := by decide +kernel
theorem dL_both_174 : decode cL_both 174 = .ok (.iconst 1, 1) := by decide +kernel
theorem dL_both_175 : decode cL_both 175 = .ok (.iload 6, 2) := by decide +kernel
theorem dL_both_177 : decode cL_both 177 = .ok (.isub, 1) := by decide +kernel
theorem dL_both_178 : decode cL_both 178 = .ok (.if_icmp .ne 7, 3) := by decide +kernel
theorem dL_both_181 : decode cL_both 181 = .ok (.iconst 1, 1) := by decide +kernel
theorem dL_both_182 : decode cL_both 182 = .ok (.goto 4, 3) := by decide +kernel
theorem dL_both_185 : decode cL_both 185 = .ok (.iconst 0, 1) := by decide +kernel
theorem dL_both_186 : decode cL_both 186 = .ok (.ireturn, 1) := by decide +kernel
theorem dL_law_0 : decode cL_law 0 = .ok (.new 8, 3) := by decide +kernel
theorem dL_law_3 : decode cL_law 3 = .ok (.dup, 1) := by decide +kernel
theorem dL_law_4 : decode cL_law 4 = .ok (.invokespecial 177, 3) := by decide +kernel
theorem dL_law_7 : decode cL_law 7 = .ok (.astore_n 1, 1) := by decide +kernel
theorem dL_law_8 : decode cL_law 8 = .ok (.new 8, 3) := by decide +kernel
theorem dL_law_11 : decode cL_law 11 = .ok (.dup, 1) := by decide +kernel
theorem dL_law_12 : decode cL_law 12 = .ok (.invokespecial 177, 3) := by decide +kernel
theorem dL_law_15 : decode cL_law 15 = .ok (.astore_n 2, 1) := by decide +kernel
theorem dL_law_16 : decode cL_law 16 = .ok (.aload_n 0, 1) := by decide +kernel
theorem dL_law_17 : decode cL_law 17 = .ok (.iconst 0, 1) := by decide +kernel
theorem dL_law_18 : decode cL_law 18 = .ok (.invokestatic 178, 3) := by decide +kernel
theorem dL_law_21 : decode cL_law 21 = .ok (.istore_n 3, 1) := by decide +kernel
theorem dL_law_22 : decode cL_law 22 = .ok (.iconst 1, 1) := by decide +kernel
theorem dL_law_23 : decode cL_law 23 = .ok (.istore 4, 2) := by decide +kernel
theorem dL_law_25 : decode cL_law 25 = .ok (.iconst 0, 1) := by decide +kernel
theorem dL_law_26 : decode cL_law 26 = .ok (.istore 5, 2) := by decide +kernel
theorem dL_law_28 : decode cL_law 28 = .ok (.iload 5, 2) := by decide +kernel
theorem dL_law_30 : decode cL_law 30 = .ok (.iconst 2, 1) := by decide +kernel
theorem dL_law_31 : decode cL_law 31 = .ok (.if_icmp .ge 111, 3) := by decide +kernel
theorem dL_law_34 : decode cL_law 34 = .ok (.iload 4, 2) := by decide +kernel
theorem dL_law_36 : decode cL_law 36 = .ok (.ifCond .eq 106, 3) := by decide +kernel
theorem dL_law_39 : decode cL_law 39 = .ok (.aload_n 1, 1) := by decide +kernel
theorem dL_law_40 : decode cL_law 40 = .ok (.bipush 6, 2) := by decide +kernel
theorem dL_law_42 : decode cL_law 42 = .ok (.iconst 0, 1) := by decide +kernel
theorem dL_law_43 : decode cL_law 43 = .ok (.iload 5, 2) := by decide +kernel
theorem dL_law_45 : decode cL_law 45 = .ok (.iload_n 3, 1) := by decide +kernel
theorem dL_law_46 : decode cL_law 46 = .ok (.bipush 9, 2) := by decide +kernel
theorem dL_law_48 : decode cL_law 48 = .ok (.irem, 1) := by decide +kernel
theorem dL_law_49 : decode cL_law 49 = .ok (.iadd, 1) := by decide +kernel
theorem dL_law_50 : decode cL_law 50 = .ok (.iconst 0, 1) := by decide +kernel
theorem dL_law_51 : decode cL_law 51 = .ok (.invokestatic 144, 3) := by decide +kernel
theorem dL_law_54 : decode cL_law 54 = .ok (.iload 5, 2) := by decide +kernel
theorem dL_law_56 : decode cL_law 56 = .ok (.if_icmp .ne 77, 3) := by decide +kernel
theorem dL_law_59 : decode cL_law 59 = .ok (.aload_n 2, 1) := by decide +kernel
theorem dL_law_60 : decode cL_law 60 = .ok (.bipush 6, 2) := by decide +kernel
theorem dL_law_62 : decode cL_law 62 = .ok (.iconst 0, 1) := by decide +kernel
theorem dL_law_63 : decode cL_law 63 = .ok (.iload 5, 2) := by decide +kernel
theorem dL_law_65 : decode cL_law 65 = .ok (.iload_n 3, 1) := by decide +kernel
theorem dL_law_66 : decode cL_law 66 = .ok (.bipush 9, 2) := by decide +kernel
theorem dL_law_68 : decode cL_law 68 = .ok (.irem, 1) := by decide +kernel
theorem dL_law_69 : decode cL_law 69 = .ok (.iadd, 1) := by decide +kernel
theorem dL_law_70 : decode cL_law 70 = .ok (.iconst 0, 1) := by decide +kernel
theorem dL_law_71 : decode cL_law 71 = .ok (.invokestatic 144, 3) := by decide +kernel
theorem dL_law_74 : decode cL_law 74 = .ok (.iload 5, 2) := by decide +kernel
theorem dL_law_76 : decode cL_law 76 = .ok (.if_icmp .ne 57, 3) := by decide +kernel
theorem dL_law_79 : decode cL_law 79 = .ok (.aload_n 1, 1) := by decide +kernel
theorem dL_law_80 : decode cL_law 80 = .ok (.iconst 0, 1) := by decide +kernel
theorem dL_law_81 : decode cL_law 81 = .ok (.iconst 1, 1) := by decide +kernel
theorem dL_law_82 : decode cL_law 82 = .ok (.iload_n 3, 1) := by decide +kernel
theorem dL_law_83 : decode cL_law 83 = .ok (.iconst 2, 1) := by decide +kernel
theorem dL_law_84 : decode cL_law 84 = .ok (.irem, 1) := by decide +kernel
theorem dL_law_85 : decode cL_law 85 = .ok (.iadd, 1) := by decide +kernel
theorem dL_law_86 : decode cL_law 86 = .ok (.iload 5, 2) := by decide +kernel
theorem dL_law_88 : decode cL_law 88 = .ok (.iconst 0, 1) := by decide +kernel
theorem dL_law_89 : decode cL_law 89 = .ok (.bipush 30, 2) := by decide +kernel
theorem dL_law_91 : decode cL_law 91 = .ok (.iload_n 3, 1) := by decide +kernel
theorem dL_law_92 : decode cL_law 92 = .ok (.bipush 99, 2) := by decide +kernel
theorem dL_law_94 : decode cL_law 94 = .ok (.irem, 1) := by decide +kernel
theorem dL_law_95 : decode cL_law 95 = .ok (.iadd, 1) := by decide +kernel
theorem dL_law_96 : decode cL_law 96 = .ok (.invokestatic 148, 3) := by decide +kernel
theorem dL_law_99 : decode cL_law 99 = .ok (.iload 5, 2) := by decide +kernel
theorem dL_law_101 : decode cL_law 101 = .ok (.if_icmp .ne 32, 3) := by decide +kernel
theorem dL_law_104 : decode cL_law 104 = .ok (.aload_n 2, 1) := by decide +kernel
theorem dL_law_105 : decode cL_law 105 = .ok (.iconst 0, 1) := by decide +kernel
theorem dL_law_106 : decode cL_law 106 = .ok (.iconst 1, 1) := by decide +kernel
theorem dL_law_107 : decode cL_law 107 = .ok (.iload_n 3, 1) := by decide +kernel
theorem dL_law_108 : decode cL_law 108 = .ok (.iconst 2, 1) := by decide +kernel
theorem dL_law_109 : decode cL_law 109 = .ok (.irem, 1) := by decide +kernel
theorem dL_law_110 : decode cL_law 110 = .ok (.iadd, 1) := by decide +kernel
theorem dL_law_111 : decode cL_law 111 = .ok (.iload 5, 2) := by decide +kernel
theorem dL_law_113 : decode cL_law 113 = .ok (.iconst 0, 1) := by decide +kernel
theorem dL_law_114 : decode cL_law 114 = .ok (.bipush 30, 2) := by decide +kernel
