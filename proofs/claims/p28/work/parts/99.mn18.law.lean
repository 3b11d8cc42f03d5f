/-! ===== names of the law, printed ===== -/
theorem dL_both_80 : decode cL_both 80 = .ok (.iload 4, 2) := by decide +kernel
theorem dL_both_82 : decode cL_both 82 = .ok (.invokestatic 209, 3) := by decide +kernel
theorem dL_both_85 : decode cL_both 85 = .ok (.iload 8, 2) := by decide +kernel
theorem dL_both_87 : decode cL_both 87 = .ok (.if_icmp .ne 98, 3) := by decide +kernel
theorem dL_both_90 : decode cL_both 90 = .ok (.iload 7, 2) := by decide +kernel
theorem dL_both_92 : decode cL_both 92 = .ok (.iconst (-1), 1) := by decide +kernel
theorem dL_both_93 : decode cL_both 93 = .ok (.if_icmp .lt 92, 3) := by decide +kernel
theorem dL_both_96 : decode cL_both 96 = .ok (.iload 8, 2) := by decide +kernel
theorem dL_both_98 : decode cL_both 98 = .ok (.iconst (-1), 1) := by decide +kernel
theorem dL_both_99 : decode cL_both 99 = .ok (.if_icmp .lt 86, 3) := by decide +kernel
theorem dL_both_102 : decode cL_both 102 = .ok (.iload 6, 2) := by decide +kernel
theorem dL_both_104 : decode cL_both 104 = .ok (.iload 7, 2) := by decide +kernel
theorem dL_both_106 : decode cL_both 106 = .ok (.iconst (-1), 1) := by decide +kernel
theorem dL_both_107 : decode cL_both 107 = .ok (.if_icmp .eq 9, 3) := by decide +kernel
theorem dL_both_110 : decode cL_both 110 = .ok (.iload 8, 2) := by decide +kernel
theorem dL_both_112 : decode cL_both 112 = .ok (.iconst (-1), 1) := by decide +kernel
theorem dL_both_113 : decode cL_both 113 = .ok (.if_icmp .ne 7, 3) := by decide +kernel
theorem dL_both_116 : decode cL_both 116 = .ok (.iconst (-1), 1) := by decide +kernel
theorem dL_both_117 : decode cL_both 117 = .ok (.goto 26, 3) := by decide +kernel
theorem dL_both_120 : decode cL_both 120 = .ok (.iload 7, 2) := by decide +kernel
theorem dL_both_122 : decode cL_both 122 = .ok (.iload 8, 2) := by decide +kernel
theorem dL_both_124 : decode cL_both 124 = .ok (.if_icmp .ge 7, 3) := by decide +kernel
theorem dL_both_127 : decode cL_both 127 = .ok (.iconst 0, 1) := by decide +kernel
theorem dL_both_128 : decode cL_both 128 = .ok (.goto 15, 3) := by decide +kernel
theorem dL_both_131 : decode cL_both 131 = .ok (.iload 7, 2) := by decide +kernel
theorem dL_both_133 : decode cL_both 133 = .ok (.iload 8, 2) := by decide +kernel
theorem dL_both_135 : decode cL_both 135 = .ok (.if_icmp .le 7, 3) := by decide +kernel
theorem dL_both_138 : decode cL_both 138 = .ok (.iconst 1, 1) := by decide +kernel
theorem dL_both_139 : decode cL_both 139 = .ok (.goto 4, 3) := by decide +kernel
theorem dL_both_142 : decode cL_both 142 = .ok (.iconst 2, 1) := by decide +kernel
theorem dL_both_143 : decode cL_both 143 = .ok (.if_icmp .ne 42, 3) := by decide +kernel
theorem dL_both_146 : decode cL_both 146 = .ok (.aload_n 0, 1) := by decide +kernel
theorem dL_both_147 : decode cL_both 147 = .ok (.bipush 14, 2) := by decide +kernel
theorem dL_both_149 : decode cL_both 149 = .ok (.iload 5, 2) := by decide +kernel
theorem dL_both_151 : decode cL_both 151 = .ok (.iload 4, 2) := by decide +kernel
theorem dL_both_153 : decode cL_both 153 = .ok (.iconst 0, 1) := by decide +kernel
theorem dL_both_154 : decode cL_both 154 = .ok (.invokestatic 144, 3) := by decide +kernel
theorem dL_both_157 : decode cL_both 157 = .ok (.iload 6, 2) := by decide +kernel
theorem dL_both_159 : decode cL_both 159 = .ok (.iconst (-1), 1) := by decide +kernel
theorem dL_both_160 : decode cL_both 160 = .ok (.if_icmp .eq 9, 3) := by decide +kernel
theorem dL_both_163 : decode cL_both 163 = .ok (.iload 6, 2) := by decide +kernel
theorem dL_both_165 : decode cL_both 165 = .ok (.iconst 2, 1) := by decide +kernel
theorem dL_both_166 : decode cL_both 166 = .ok (.if_icmp .ne 8, 3) := by decide +kernel
theorem dL_both_169 : decode cL_both 169 = .ok (.iload 6, 2) := by decide +kernel
theorem dL_both_171 : decode cL_both 171 = .ok (.goto 7, 3) := by decide +kernel
theorem dL_both_174 : decode cL_both 174 = .ok (.iconst 1, 1) := by decide +kernel
theorem dL_both_175 : decode cL_both 175 = .ok (.iload 6, 2) := by decide +kernel
theorem dL_both_177 : decode cL_both 177 = .ok (.isub, 1) := by decide +kernel
theorem dL_both_178 : decode cL_both 178 = .ok (.if_icmp .ne 7, 3) := by decide +kernel
theorem dL_both_181 : decode cL_both 181 = .ok (.iconst 1, 1) := by decide +kernel
theorem dL_both_182 : decode cL_both 182 = .ok (.goto 4, 3) := by decide +kernel
theorem dL_both_185 : decode cL_both 185 = .ok (.iconst 0, 1) := by decide +kernel
theorem dL_both_186 : decode cL_both 186 = .ok (.ireturn, 1) := by decide +kernel
