/-! ===== the law: its rows, printed ===== -/
theorem dL_alike_9 : decode cL_alike 9 = .ok (.invokestatic 158, 3) := by decide +kernel
theorem dL_alike_12 : decode cL_alike 12 = .ok (.aload_n 1, 1) := by decide +kernel
theorem dL_alike_13 : decode cL_alike 13 = .ok (.iload_n 2, 1) := by decide +kernel
theorem dL_alike_14 : decode cL_alike 14 = .ok (.i2l, 1) := by decide +kernel
theorem dL_alike_15 : decode cL_alike 15 = .ok (.iconst 1, 1) := by decide +kernel
theorem dL_alike_16 : decode cL_alike 16 = .ok (.iload_n 2, 1) := by decide +kernel
theorem dL_alike_17 : decode cL_alike 17 = .ok (.bipush 30, 2) := by decide +kernel
theorem dL_alike_19 : decode cL_alike 19 = .ok (.irem, 1) := by decide +kernel
theorem dL_alike_20 : decode cL_alike 20 = .ok (.iadd, 1) := by decide +kernel
theorem dL_alike_21 : decode cL_alike 21 = .ok (.invokestatic 158, 3) := by decide +kernel
theorem dL_alike_24 : decode cL_alike 24 = .ok (.if_icmp .ne 18, 3) := by decide +kernel
theorem dL_alike_27 : decode cL_alike 27 = .ok (.aload_n 0, 1) := by decide +kernel
theorem dL_alike_28 : decode cL_alike 28 = .ok (.invokevirtual 168, 3) := by decide +kernel
theorem dL_alike_31 : decode cL_alike 31 = .ok (.aload_n 1, 1) := by decide +kernel
theorem dL_alike_32 : decode cL_alike 32 = .ok (.invokevirtual 168, 3) := by decide +kernel
theorem dL_alike_35 : decode cL_alike 35 = .ok (.if_icmp .ne 7, 3) := by decide +kernel
theorem dL_alike_38 : decode cL_alike 38 = .ok (.iconst 1, 1) := by decide +kernel
theorem dL_alike_39 : decode cL_alike 39 = .ok (.goto 4, 3) := by decide +kernel
theorem dL_alike_42 : decode cL_alike 42 = .ok (.iconst 0, 1) := by decide +kernel
theorem dL_alike_43 : decode cL_alike 43 = .ok (.istore_n 3, 1) := by decide +kernel
theorem dL_alike_44 : decode cL_alike 44 = .ok (.iconst 0, 1) := by decide +kernel
theorem dL_alike_45 : decode cL_alike 45 = .ok (.istore 4, 2) := by decide +kernel
theorem dL_alike_47 : decode cL_alike 47 = .ok (.iload 4, 2) := by decide +kernel
theorem dL_alike_49 : decode cL_alike 49 = .ok (.bipush 14, 2) := by decide +kernel
theorem dL_alike_51 : decode cL_alike 51 = .ok (.if_icmp .ge 159, 3) := by decide +kernel
theorem dL_alike_54 : decode cL_alike 54 = .ok (.iload_n 3, 1) := by decide +kernel
theorem dL_alike_55 : decode cL_alike 55 = .ok (.ifCond .eq 155, 3) := by decide +kernel
theorem dL_alike_58 : decode cL_alike 58 = .ok (.aload_n 0, 1) := by decide +kernel
theorem dL_alike_59 : decode cL_alike 59 = .ok (.iconst 2, 1) := by decide +kernel
theorem dL_alike_60 : decode cL_alike 60 = .ok (.iload 4, 2) := by decide +kernel
theorem dL_alike_62 : decode cL_alike 62 = .ok (.iconst 0, 1) := by decide +kernel
theorem dL_alike_63 : decode cL_alike 63 = .ok (.iconst 0, 1) := by decide +kernel
theorem dL_alike_64 : decode cL_alike 64 = .ok (.invokestatic 144, 3) := by decide +kernel
theorem dL_alike_67 : decode cL_alike 67 = .ok (.aload_n 1, 1) := by decide +kernel
theorem dL_alike_68 : decode cL_alike 68 = .ok (.iconst 2, 1) := by decide +kernel
theorem dL_alike_69 : decode cL_alike 69 = .ok (.iload 4, 2) := by decide +kernel
theorem dL_alike_71 : decode cL_alike 71 = .ok (.iconst 0, 1) := by decide +kernel
theorem dL_alike_72 : decode cL_alike 72 = .ok (.iconst 0, 1) := by decide +kernel
theorem dL_alike_73 : decode cL_alike 73 = .ok (.invokestatic 144, 3) := by decide +kernel
theorem dL_alike_76 : decode cL_alike 76 = .ok (.if_icmp .ne 126, 3) := by decide +kernel
theorem dL_alike_79 : decode cL_alike 79 = .ok (.aload_n 0, 1) := by decide +kernel
theorem dL_alike_80 : decode cL_alike 80 = .ok (.iconst 5, 1) := by decide +kernel
theorem dL_alike_81 : decode cL_alike 81 = .ok (.iload 4, 2) := by decide +kernel
theorem dL_alike_83 : decode cL_alike 83 = .ok (.iconst 0, 1) := by decide +kernel
theorem dL_alike_84 : decode cL_alike 84 = .ok (.iconst 0, 1) := by decide +kernel
theorem dL_alike_85 : decode cL_alike 85 = .ok (.invokestatic 144, 3) := by decide +kernel
theorem dL_alike_88 : decode cL_alike 88 = .ok (.aload_n 1, 1) := by decide +kernel
theorem dL_alike_89 : decode cL_alike 89 = .ok (.iconst 5, 1) := by decide +kernel
theorem dL_alike_90 : decode cL_alike 90 = .ok (.iload 4, 2) := by decide +kernel
theorem dL_alike_92 : decode cL_alike 92 = .ok (.iconst 0, 1) := by decide +kernel
theorem dL_alike_93 : decode cL_alike 93 = .ok (.iconst 0, 1) := by decide +kernel
theorem dL_alike_94 : decode cL_alike 94 = .ok (.invokestatic 144, 3) := by decide +kernel
theorem dL_alike_97 : decode cL_alike 97 = .ok (.if_icmp .ne 105, 3) := by decide +kernel
theorem dL_alike_100 : decode cL_alike 100 = .ok (.aload_n 0, 1) := by decide +kernel
theorem dL_alike_101 : decode cL_alike 101 = .ok (.iconst 3, 1) := by decide +kernel
theorem dL_alike_102 : decode cL_alike 102 = .ok (.iload 4, 2) := by decide +kernel
theorem dL_alike_104 : decode cL_alike 104 = .ok (.iconst 3, 1) := by decide +kernel
theorem dL_alike_105 : decode cL_alike 105 = .ok (.iconst 0, 1) := by decide +kernel
theorem dL_alike_106 : decode cL_alike 106 = .ok (.invokestatic 144, 3) := by decide +kernel
theorem dL_alike_109 : decode cL_alike 109 = .ok (.aload_n 1, 1) := by decide +kernel
theorem dL_alike_110 : decode cL_alike 110 = .ok (.iconst 3, 1) := by decide +kernel
theorem dL_alike_111 : decode cL_alike 111 = .ok (.iload 4, 2) := by decide +kernel
theorem dL_alike_113 : decode cL_alike 113 = .ok (.iconst 3, 1) := by decide +kernel
theorem dL_alike_114 : decode cL_alike 114 = .ok (.iconst 0, 1) := by decide +kernel
theorem dL_alike_115 : decode cL_alike 115 = .ok (.invokestatic 144, 3) := by decide +kernel
theorem dL_alike_118 : decode cL_alike 118 = .ok (.if_icmp .ne 84, 3) := by decide +kernel
theorem dL_alike_121 : decode cL_alike 121 = .ok (.aload_n 0, 1) := by decide +kernel
theorem dL_alike_122 : decode cL_alike 122 = .ok (.iconst 3, 1) := by decide +kernel
theorem dL_alike_123 : decode cL_alike 123 = .ok (.iload 4, 2) := by decide +kernel
theorem dL_alike_125 : decode cL_alike 125 = .ok (.iload_n 2, 1) := by decide +kernel
theorem dL_alike_126 : decode cL_alike 126 = .ok (.bipush 7, 2) := by decide +kernel
theorem dL_alike_128 : decode cL_alike 128 = .ok (.irem, 1) := by decide +kernel
theorem dL_alike_129 : decode cL_alike 129 = .ok (.iconst 0, 1) := by decide +kernel
theorem dL_alike_130 : decode cL_alike 130 = .ok (.invokestatic 144, 3) := by decide +kernel
theorem dL_alike_133 : decode cL_alike 133 = .ok (.aload_n 1, 1) := by decide +kernel
theorem dL_alike_134 : decode cL_alike 134 = .ok (.iconst 3, 1) := by decide +kernel
theorem dL_alike_135 : decode cL_alike 135 = .ok (.iload 4, 2) := by decide +kernel
theorem dL_alike_137 : decode cL_alike 137 = .ok (.iload_n 2, 1) := by decide +kernel
theorem dL_alike_138 : decode cL_alike 138 = .ok (.bipush 7, 2) := by decide +kernel
theorem dL_alike_140 : decode cL_alike 140 = .ok (.irem, 1) := by decide +kernel
theorem dL_alike_141 : decode cL_alike 141 = .ok (.iconst 0, 1) := by decide +kernel
theorem dL_alike_142 : decode cL_alike 142 = .ok (.invokestatic 144, 3) := by decide +kernel
theorem dL_alike_145 : decode cL_alike 145 = .ok (.if_icmp .ne 57, 3) := by decide +kernel
theorem dL_alike_148 : decode cL_alike 148 = .ok (.aload_n 0, 1) := by decide +kernel
theorem dL_alike_149 : decode cL_alike 149 = .ok (.iconst 4, 1) := by decide +kernel
theorem dL_alike_150 : decode cL_alike 150 = .ok (.iload 4, 2) := by decide +kernel
theorem dL_alike_152 : decode cL_alike 152 = .ok (.bipush 6, 2) := by decide +kernel
theorem dL_alike_154 : decode cL_alike 154 = .ok (.iconst 0, 1) := by decide +kernel
theorem dL_alike_155 : decode cL_alike 155 = .ok (.invokestatic 144, 3) := by decide +kernel
theorem dL_alike_158 : decode cL_alike 158 = .ok (.aload_n 1, 1) := by decide +kernel
theorem dL_alike_159 : decode cL_alike 159 = .ok (.iconst 4, 1) := by decide +kernel
theorem dL_alike_160 : decode cL_alike 160 = .ok (.iload 4, 2) := by decide +kernel
theorem dL_alike_162 : decode cL_alike 162 = .ok (.bipush 6, 2) := by decide +kernel
theorem dL_alike_164 : decode cL_alike 164 = .ok (.iconst 0, 1) := by decide +kernel
theorem dL_alike_165 : decode cL_alike 165 = .ok (.invokestatic 144, 3) := by decide +kernel
theorem dL_alike_168 : decode cL_alike 168 = .ok (.if_icmp .ne 34, 3) := by decide +kernel
theorem dL_alike_171 : decode cL_alike 171 = .ok (.aload_n 0, 1) := by decide +kernel
theorem dL_alike_172 : decode cL_alike 172 = .ok (.iconst 4, 1) := by decide +kernel
theorem dL_alike_173 : decode cL_alike 173 = .ok (.iload 4, 2) := by decide +kernel
theorem dL_alike_175 : decode cL_alike 175 = .ok (.iload_n 2, 1) := by decide +kernel
theorem dL_alike_176 : decode cL_alike 176 = .ok (.bipush 9, 2) := by decide +kernel
theorem dL_alike_178 : decode cL_alike 178 = .ok (.irem, 1) := by decide +kernel
theorem dL_alike_179 : decode cL_alike 179 = .ok (.iconst 0, 1) := by decide +kernel
theorem dL_alike_180 : decode cL_alike 180 = .ok (.invokestatic 144, 3) := by decide +kernel
theorem dL_alike_183 : decode cL_alike 183 = .ok (.aload_n 1, 1) := by decide +kernel
theorem dL_alike_184 : decode cL_alike 184 = .ok (.iconst 4, 1) := by decide +kernel
theorem dL_alike_185 : decode cL_alike 185 = .ok (.iload 4, 2) := by decide +kernel
theorem dL_alike_187 : decode cL_alike 187 = .ok (.iload_n 2, 1) := by decide +kernel
theorem dL_alike_188 : decode cL_alike 188 = .ok (.bipush 9, 2) := by decide +kernel
theorem dL_alike_190 : decode cL_alike 190 = .ok (.irem, 1) := by decide +kernel
