/-! ===== the law: its rows, printed ===== -/
theorem dL_refuses_87 : decode cL_refuses 87 = .ok (.iconst 0, 1) := by decide +kernel
theorem dL_refuses_88 : decode cL_refuses 88 = .ok (.invokestatic 144, 3) := by decide +kernel
theorem dL_refuses_91 : decode cL_refuses 91 = .ok (.ldc 44, 2) := by decide +kernel
theorem dL_refuses_93 : decode cL_refuses 93 = .ok (.if_icmp .ne 587, 3) := by decide +kernel
theorem dL_refuses_96 : decode cL_refuses 96 = .ok (.aload_n 0, 1) := by decide +kernel
theorem dL_refuses_97 : decode cL_refuses 97 = .ok (.iconst 3, 1) := by decide +kernel
theorem dL_refuses_98 : decode cL_refuses 98 = .ok (.iconst 0, 1) := by decide +kernel
theorem dL_refuses_99 : decode cL_refuses 99 = .ok (.bipush 7, 2) := by decide +kernel
theorem dL_refuses_101 : decode cL_refuses 101 = .ok (.iload_n 1, 1) := by decide +kernel
theorem dL_refuses_102 : decode cL_refuses 102 = .ok (.bipush 9, 2) := by decide +kernel
theorem dL_refuses_104 : decode cL_refuses 104 = .ok (.irem, 1) := by decide +kernel
theorem dL_refuses_105 : decode cL_refuses 105 = .ok (.iadd, 1) := by decide +kernel
theorem dL_refuses_106 : decode cL_refuses 106 = .ok (.iconst 0, 1) := by decide +kernel
theorem dL_refuses_107 : decode cL_refuses 107 = .ok (.invokestatic 144, 3) := by decide +kernel
theorem dL_refuses_110 : decode cL_refuses 110 = .ok (.ldc 15, 2) := by decide +kernel
theorem dL_refuses_112 : decode cL_refuses 112 = .ok (.if_icmp .ne 568, 3) := by decide +kernel
theorem dL_refuses_115 : decode cL_refuses 115 = .ok (.aload_n 0, 1) := by decide +kernel
theorem dL_refuses_116 : decode cL_refuses 116 = .ok (.iconst 4, 1) := by decide +kernel
theorem dL_refuses_117 : decode cL_refuses 117 = .ok (.iload_n 3, 1) := by decide +kernel
theorem dL_refuses_118 : decode cL_refuses 118 = .ok (.bipush 9, 2) := by decide +kernel
theorem dL_refuses_120 : decode cL_refuses 120 = .ok (.iconst 0, 1) := by decide +kernel
theorem dL_refuses_121 : decode cL_refuses 121 = .ok (.invokestatic 144, 3) := by decide +kernel
theorem dL_refuses_124 : decode cL_refuses 124 = .ok (.ldc 44, 2) := by decide +kernel
theorem dL_refuses_126 : decode cL_refuses 126 = .ok (.if_icmp .ne 554, 3) := by decide +kernel
theorem dL_refuses_129 : decode cL_refuses 129 = .ok (.aload_n 0, 1) := by decide +kernel
theorem dL_refuses_130 : decode cL_refuses 130 = .ok (.iconst 4, 1) := by decide +kernel
theorem dL_refuses_131 : decode cL_refuses 131 = .ok (.iconst 0, 1) := by decide +kernel
theorem dL_refuses_132 : decode cL_refuses 132 = .ok (.bipush 9, 2) := by decide +kernel
theorem dL_refuses_134 : decode cL_refuses 134 = .ok (.iload_n 1, 1) := by decide +kernel
theorem dL_refuses_135 : decode cL_refuses 135 = .ok (.bipush 9, 2) := by decide +kernel
theorem dL_refuses_137 : decode cL_refuses 137 = .ok (.irem, 1) := by decide +kernel
theorem dL_refuses_138 : decode cL_refuses 138 = .ok (.iadd, 1) := by decide +kernel
theorem dL_refuses_139 : decode cL_refuses 139 = .ok (.iconst 0, 1) := by decide +kernel
theorem dL_refuses_140 : decode cL_refuses 140 = .ok (.invokestatic 144, 3) := by decide +kernel
theorem dL_refuses_143 : decode cL_refuses 143 = .ok (.ldc 15, 2) := by decide +kernel
theorem dL_refuses_145 : decode cL_refuses 145 = .ok (.if_icmp .ne 535, 3) := by decide +kernel
theorem dL_refuses_148 : decode cL_refuses 148 = .ok (.aload_n 0, 1) := by decide +kernel
theorem dL_refuses_149 : decode cL_refuses 149 = .ok (.iconst 5, 1) := by decide +kernel
theorem dL_refuses_150 : decode cL_refuses 150 = .ok (.iconst 3, 1) := by decide +kernel
theorem dL_refuses_151 : decode cL_refuses 151 = .ok (.iload_n 1, 1) := by decide +kernel
theorem dL_refuses_152 : decode cL_refuses 152 = .ok (.bipush 9, 2) := by decide +kernel
theorem dL_refuses_154 : decode cL_refuses 154 = .ok (.irem, 1) := by decide +kernel
theorem dL_refuses_155 : decode cL_refuses 155 = .ok (.iadd, 1) := by decide +kernel
theorem dL_refuses_156 : decode cL_refuses 156 = .ok (.iconst 0, 1) := by decide +kernel
theorem dL_refuses_157 : decode cL_refuses 157 = .ok (.iconst 0, 1) := by decide +kernel
theorem dL_refuses_158 : decode cL_refuses 158 = .ok (.invokestatic 144, 3) := by decide +kernel
theorem dL_refuses_161 : decode cL_refuses 161 = .ok (.ldc 15, 2) := by decide +kernel
theorem dL_refuses_163 : decode cL_refuses 163 = .ok (.if_icmp .ne 517, 3) := by decide +kernel
theorem dL_refuses_166 : decode cL_refuses 166 = .ok (.aload_n 0, 1) := by decide +kernel
theorem dL_refuses_167 : decode cL_refuses 167 = .ok (.bipush 6, 2) := by decide +kernel
theorem dL_refuses_169 : decode cL_refuses 169 = .ok (.iconst 5, 1) := by decide +kernel
theorem dL_refuses_170 : decode cL_refuses 170 = .ok (.iload_n 1, 1) := by decide +kernel
theorem dL_refuses_171 : decode cL_refuses 171 = .ok (.bipush 9, 2) := by decide +kernel
theorem dL_refuses_173 : decode cL_refuses 173 = .ok (.irem, 1) := by decide +kernel
theorem dL_refuses_174 : decode cL_refuses 174 = .ok (.iadd, 1) := by decide +kernel
theorem dL_refuses_175 : decode cL_refuses 175 = .ok (.iconst 0, 1) := by decide +kernel
theorem dL_refuses_176 : decode cL_refuses 176 = .ok (.iconst 0, 1) := by decide +kernel
theorem dL_refuses_177 : decode cL_refuses 177 = .ok (.invokestatic 144, 3) := by decide +kernel
theorem dL_refuses_180 : decode cL_refuses 180 = .ok (.ldc 15, 2) := by decide +kernel
theorem dL_refuses_182 : decode cL_refuses 182 = .ok (.if_icmp .ne 498, 3) := by decide +kernel
theorem dL_refuses_185 : decode cL_refuses 185 = .ok (.aload_n 0, 1) := by decide +kernel
theorem dL_refuses_186 : decode cL_refuses 186 = .ok (.bipush 6, 2) := by decide +kernel
theorem dL_refuses_188 : decode cL_refuses 188 = .ok (.iload_n 1, 1) := by decide +kernel
theorem dL_refuses_189 : decode cL_refuses 189 = .ok (.iconst 5, 1) := by decide +kernel
theorem dL_refuses_190 : decode cL_refuses 190 = .ok (.irem, 1) := by decide +kernel
theorem dL_refuses_191 : decode cL_refuses 191 = .ok (.bipush 14, 2) := by decide +kernel
theorem dL_refuses_193 : decode cL_refuses 193 = .ok (.iload_n 1, 1) := by decide +kernel
theorem dL_refuses_194 : decode cL_refuses 194 = .ok (.bipush 9, 2) := by decide +kernel
theorem dL_refuses_196 : decode cL_refuses 196 = .ok (.irem, 1) := by decide +kernel
theorem dL_refuses_197 : decode cL_refuses 197 = .ok (.iadd, 1) := by decide +kernel
theorem dL_refuses_198 : decode cL_refuses 198 = .ok (.iconst 0, 1) := by decide +kernel
theorem dL_refuses_199 : decode cL_refuses 199 = .ok (.invokestatic 144, 3) := by decide +kernel
theorem dL_refuses_202 : decode cL_refuses 202 = .ok (.ldc 15, 2) := by decide +kernel
theorem dL_refuses_204 : decode cL_refuses 204 = .ok (.if_icmp .ne 476, 3) := by decide +kernel
theorem dL_refuses_207 : decode cL_refuses 207 = .ok (.aload_n 0, 1) := by decide +kernel
theorem dL_refuses_208 : decode cL_refuses 208 = .ok (.bipush 6, 2) := by decide +kernel
theorem dL_refuses_210 : decode cL_refuses 210 = .ok (.iconst (-1), 1) := by decide +kernel
theorem dL_refuses_211 : decode cL_refuses 211 = .ok (.iload_n 1, 1) := by decide +kernel
theorem dL_refuses_212 : decode cL_refuses 212 = .ok (.bipush 9, 2) := by decide +kernel
theorem dL_refuses_214 : decode cL_refuses 214 = .ok (.irem, 1) := by decide +kernel
theorem dL_refuses_215 : decode cL_refuses 215 = .ok (.isub, 1) := by decide +kernel
theorem dL_refuses_216 : decode cL_refuses 216 = .ok (.iconst 0, 1) := by decide +kernel
theorem dL_refuses_217 : decode cL_refuses 217 = .ok (.iconst 0, 1) := by decide +kernel
theorem dL_refuses_218 : decode cL_refuses 218 = .ok (.invokestatic 144, 3) := by decide +kernel
theorem dL_refuses_221 : decode cL_refuses 221 = .ok (.ldc 15, 2) := by decide +kernel
theorem dL_refuses_223 : decode cL_refuses 223 = .ok (.if_icmp .ne 457, 3) := by decide +kernel
theorem dL_refuses_226 : decode cL_refuses 226 = .ok (.aload_n 0, 1) := by decide +kernel
theorem dL_refuses_227 : decode cL_refuses 227 = .ok (.iload_n 1, 1) := by decide +kernel
theorem dL_refuses_228 : decode cL_refuses 228 = .ok (.iconst 5, 1) := by decide +kernel
theorem dL_refuses_229 : decode cL_refuses 229 = .ok (.irem, 1) := by decide +kernel
theorem dL_refuses_230 : decode cL_refuses 230 = .ok (.iload_n 1, 1) := by decide +kernel
theorem dL_refuses_231 : decode cL_refuses 231 = .ok (.iconst 2, 1) := by decide +kernel
theorem dL_refuses_232 : decode cL_refuses 232 = .ok (.irem, 1) := by decide +kernel
theorem dL_refuses_233 : decode cL_refuses 233 = .ok (.ifCond .ne 7, 3) := by decide +kernel
theorem dL_refuses_236 : decode cL_refuses 236 = .ok (.iconst 0, 1) := by decide +kernel
theorem dL_refuses_237 : decode cL_refuses 237 = .ok (.goto 10, 3) := by decide +kernel
theorem dL_refuses_240 : decode cL_refuses 240 = .ok (.bipush 7, 2) := by decide +kernel
theorem dL_refuses_242 : decode cL_refuses 242 = .ok (.iload_n 1, 1) := by decide +kernel
theorem dL_refuses_243 : decode cL_refuses 243 = .ok (.bipush 9, 2) := by decide +kernel
theorem dL_refuses_245 : decode cL_refuses 245 = .ok (.irem, 1) := by decide +kernel
theorem dL_refuses_246 : decode cL_refuses 246 = .ok (.iadd, 1) := by decide +kernel
theorem dL_refuses_247 : decode cL_refuses 247 = .ok (.iconst 0, 1) := by decide +kernel
theorem dL_refuses_248 : decode cL_refuses 248 = .ok (.iconst 0, 1) := by decide +kernel
theorem dL_refuses_249 : decode cL_refuses 249 = .ok (.bipush 60, 2) := by decide +kernel
theorem dL_refuses_251 : decode cL_refuses 251 = .ok (.invokestatic 148, 3) := by decide +kernel
theorem dL_refuses_254 : decode cL_refuses 254 = .ok (.ldc 15, 2) := by decide +kernel
theorem dL_refuses_256 : decode cL_refuses 256 = .ok (.if_icmp .ne 424, 3) := by decide +kernel
theorem dL_refuses_259 : decode cL_refuses 259 = .ok (.aload_n 0, 1) := by decide +kernel
theorem dL_refuses_260 : decode cL_refuses 260 = .ok (.iload_n 1, 1) := by decide +kernel
theorem dL_refuses_261 : decode cL_refuses 261 = .ok (.iconst 5, 1) := by decide +kernel
