/-! ===== the law: its rows, printed ===== -/
theorem dL_scene_135 : decode cL_scene 135 = .ok (.aload_n 1, 1) := by decide +kernel
theorem dL_scene_136 : decode cL_scene 136 = .ok (.bipush 7, 2) := by decide +kernel
theorem dL_scene_138 : decode cL_scene 138 = .ok (.iload_n 3, 1) := by decide +kernel
theorem dL_scene_139 : decode cL_scene 139 = .ok (.iconst 0, 1) := by decide +kernel
theorem dL_scene_140 : decode cL_scene 140 = .ok (.iconst 0, 1) := by decide +kernel
theorem dL_scene_141 : decode cL_scene 141 = .ok (.invokestatic 144, 3) := by decide +kernel
theorem dL_scene_144 : decode cL_scene 144 = .ok (.iload 4, 2) := by decide +kernel
theorem dL_scene_146 : decode cL_scene 146 = .ok (.if_icmp .ne 79, 3) := by decide +kernel
theorem dL_scene_149 : decode cL_scene 149 = .ok (.aload_n 0, 1) := by decide +kernel
theorem dL_scene_150 : decode cL_scene 150 = .ok (.invokestatic 202, 3) := by decide +kernel
theorem dL_scene_153 : decode cL_scene 153 = .ok (.iload 7, 2) := by decide +kernel
theorem dL_scene_155 : decode cL_scene 155 = .ok (.iload 5, 2) := by decide +kernel
theorem dL_scene_157 : decode cL_scene 157 = .ok (.iadd, 1) := by decide +kernel
theorem dL_scene_158 : decode cL_scene 158 = .ok (.if_icmp .ne 67, 3) := by decide +kernel
theorem dL_scene_161 : decode cL_scene 161 = .ok (.aload_n 0, 1) := by decide +kernel
theorem dL_scene_162 : decode cL_scene 162 = .ok (.iconst 2, 1) := by decide +kernel
theorem dL_scene_163 : decode cL_scene 163 = .ok (.bipush 7, 2) := by decide +kernel
theorem dL_scene_165 : decode cL_scene 165 = .ok (.iconst 0, 1) := by decide +kernel
theorem dL_scene_166 : decode cL_scene 166 = .ok (.iconst 0, 1) := by decide +kernel
theorem dL_scene_167 : decode cL_scene 167 = .ok (.invokestatic 144, 3) := by decide +kernel
theorem dL_scene_170 : decode cL_scene 170 = .ok (.iload 8, 2) := by decide +kernel
theorem dL_scene_172 : decode cL_scene 172 = .ok (.iload 6, 2) := by decide +kernel
theorem dL_scene_174 : decode cL_scene 174 = .ok (.iadd, 1) := by decide +kernel
theorem dL_scene_175 : decode cL_scene 175 = .ok (.if_icmp .ne 50, 3) := by decide +kernel
theorem dL_scene_178 : decode cL_scene 178 = .ok (.aload_n 0, 1) := by decide +kernel
theorem dL_scene_179 : decode cL_scene 179 = .ok (.iconst 2, 1) := by decide +kernel
theorem dL_scene_180 : decode cL_scene 180 = .ok (.iconst 2, 1) := by decide +kernel
theorem dL_scene_181 : decode cL_scene 181 = .ok (.iconst 0, 1) := by decide +kernel
theorem dL_scene_182 : decode cL_scene 182 = .ok (.iconst 0, 1) := by decide +kernel
theorem dL_scene_183 : decode cL_scene 183 = .ok (.invokestatic 144, 3) := by decide +kernel
theorem dL_scene_186 : decode cL_scene 186 = .ok (.iload 9, 2) := by decide +kernel
theorem dL_scene_188 : decode cL_scene 188 = .ok (.iconst 1, 1) := by decide +kernel
theorem dL_scene_189 : decode cL_scene 189 = .ok (.iadd, 1) := by decide +kernel
theorem dL_scene_190 : decode cL_scene 190 = .ok (.if_icmp .ne 35, 3) := by decide +kernel
theorem dL_scene_193 : decode cL_scene 193 = .ok (.aload_n 0, 1) := by decide +kernel
theorem dL_scene_194 : decode cL_scene 194 = .ok (.iconst 4, 1) := by decide +kernel
theorem dL_scene_195 : decode cL_scene 195 = .ok (.iload_n 3, 1) := by decide +kernel
theorem dL_scene_196 : decode cL_scene 196 = .ok (.bipush 6, 2) := by decide +kernel
theorem dL_scene_198 : decode cL_scene 198 = .ok (.iconst 0, 1) := by decide +kernel
theorem dL_scene_199 : decode cL_scene 199 = .ok (.invokestatic 144, 3) := by decide +kernel
theorem dL_scene_202 : decode cL_scene 202 = .ok (.iload 4, 2) := by decide +kernel
theorem dL_scene_204 : decode cL_scene 204 = .ok (.if_icmp .ne 21, 3) := by decide +kernel
theorem dL_scene_207 : decode cL_scene 207 = .ok (.aload_n 0, 1) := by decide +kernel
theorem dL_scene_208 : decode cL_scene 208 = .ok (.bipush 7, 2) := by decide +kernel
theorem dL_scene_210 : decode cL_scene 210 = .ok (.iload_n 3, 1) := by decide +kernel
theorem dL_scene_211 : decode cL_scene 211 = .ok (.iconst 0, 1) := by decide +kernel
theorem dL_scene_212 : decode cL_scene 212 = .ok (.iconst 0, 1) := by decide +kernel
theorem dL_scene_213 : decode cL_scene 213 = .ok (.invokestatic 144, 3) := by decide +kernel
theorem dL_scene_216 : decode cL_scene 216 = .ok (.ldc 18, 2) := by decide +kernel
theorem dL_scene_218 : decode cL_scene 218 = .ok (.if_icmp .ne 7, 3) := by decide +kernel
theorem dL_scene_221 : decode cL_scene 221 = .ok (.iconst 1, 1) := by decide +kernel
theorem dL_scene_222 : decode cL_scene 222 = .ok (.goto 4, 3) := by decide +kernel
theorem dL_scene_225 : decode cL_scene 225 = .ok (.iconst 0, 1) := by decide +kernel
theorem dL_scene_226 : decode cL_scene 226 = .ok (.istore 10, 2) := by decide +kernel
theorem dL_scene_228 : decode cL_scene 228 = .ok (.iload 10, 2) := by decide +kernel
theorem dL_scene_230 : decode cL_scene 230 = .ok (.ifCond .eq 60, 3) := by decide +kernel
theorem dL_scene_233 : decode cL_scene 233 = .ok (.aload_n 0, 1) := by decide +kernel
theorem dL_scene_234 : decode cL_scene 234 = .ok (.bipush 10, 2) := by decide +kernel
theorem dL_scene_236 : decode cL_scene 236 = .ok (.iconst 0, 1) := by decide +kernel
theorem dL_scene_237 : decode cL_scene 237 = .ok (.iconst 0, 1) := by decide +kernel
theorem dL_scene_238 : decode cL_scene 238 = .ok (.iconst 0, 1) := by decide +kernel
theorem dL_scene_239 : decode cL_scene 239 = .ok (.invokestatic 144, 3) := by decide +kernel
theorem dL_scene_242 : decode cL_scene 242 = .ok (.invokestatic 205, 3) := by decide +kernel
theorem dL_scene_245 : decode cL_scene 245 = .ok (.ifCond .ne 45, 3) := by decide +kernel
theorem dL_scene_248 : decode cL_scene 248 = .ok (.aload_n 1, 1) := by decide +kernel
theorem dL_scene_249 : decode cL_scene 249 = .ok (.bipush 10, 2) := by decide +kernel
theorem dL_scene_251 : decode cL_scene 251 = .ok (.iconst 0, 1) := by decide +kernel
theorem dL_scene_252 : decode cL_scene 252 = .ok (.iconst 0, 1) := by decide +kernel
theorem dL_scene_253 : decode cL_scene 253 = .ok (.iconst 0, 1) := by decide +kernel
theorem dL_scene_254 : decode cL_scene 254 = .ok (.invokestatic 144, 3) := by decide +kernel
theorem dL_scene_257 : decode cL_scene 257 = .ok (.invokestatic 205, 3) := by decide +kernel
theorem dL_scene_260 : decode cL_scene 260 = .ok (.ifCond .ne 30, 3) := by decide +kernel
theorem dL_scene_263 : decode cL_scene 263 = .ok (.aload_n 0, 1) := by decide +kernel
theorem dL_scene_264 : decode cL_scene 264 = .ok (.invokestatic 202, 3) := by decide +kernel
theorem dL_scene_267 : decode cL_scene 267 = .ok (.iload 7, 2) := by decide +kernel
theorem dL_scene_269 : decode cL_scene 269 = .ok (.if_icmp .ne 21, 3) := by decide +kernel
theorem dL_scene_272 : decode cL_scene 272 = .ok (.aload_n 0, 1) := by decide +kernel
theorem dL_scene_273 : decode cL_scene 273 = .ok (.bipush 11, 2) := by decide +kernel
theorem dL_scene_275 : decode cL_scene 275 = .ok (.iload_n 3, 1) := by decide +kernel
theorem dL_scene_276 : decode cL_scene 276 = .ok (.iconst 0, 1) := by decide +kernel
theorem dL_scene_277 : decode cL_scene 277 = .ok (.iconst 0, 1) := by decide +kernel
theorem dL_scene_278 : decode cL_scene 278 = .ok (.invokestatic 144, 3) := by decide +kernel
theorem dL_scene_281 : decode cL_scene 281 = .ok (.iload 4, 2) := by decide +kernel
theorem dL_scene_283 : decode cL_scene 283 = .ok (.if_icmp .ne 7, 3) := by decide +kernel
theorem dL_scene_286 : decode cL_scene 286 = .ok (.iconst 1, 1) := by decide +kernel
theorem dL_scene_287 : decode cL_scene 287 = .ok (.goto 4, 3) := by decide +kernel
theorem dL_scene_290 : decode cL_scene 290 = .ok (.iconst 0, 1) := by decide +kernel
theorem dL_scene_291 : decode cL_scene 291 = .ok (.ireturn, 1) := by decide +kernel
theorem dL_price_0 : decode cL_price 0 = .ok (.aload_n 0, 1) := by decide +kernel
theorem dL_price_1 : decode cL_price 1 = .ok (.invokestatic 202, 3) := by decide +kernel
theorem dL_price_4 : decode cL_price 4 = .ok (.istore_n 3, 1) := by decide +kernel
theorem dL_price_5 : decode cL_price 5 = .ok (.aload_n 0, 1) := by decide +kernel
theorem dL_price_6 : decode cL_price 6 = .ok (.bipush 7, 2) := by decide +kernel
theorem dL_price_8 : decode cL_price 8 = .ok (.iload_n 1, 1) := by decide +kernel
theorem dL_price_9 : decode cL_price 9 = .ok (.iconst 0, 1) := by decide +kernel
theorem dL_price_10 : decode cL_price 10 = .ok (.iconst 0, 1) := by decide +kernel
theorem dL_price_11 : decode cL_price 11 = .ok (.invokestatic 144, 3) := by decide +kernel
theorem dL_price_14 : decode cL_price 14 = .ok (.istore 4, 2) := by decide +kernel
theorem dL_price_16 : decode cL_price 16 = .ok (.iload 4, 2) := by decide +kernel
theorem dL_price_18 : decode cL_price 18 = .ok (.ldc 18, 2) := by decide +kernel
theorem dL_price_20 : decode cL_price 20 = .ok (.if_icmp .ne 8, 3) := by decide +kernel
theorem dL_price_23 : decode cL_price 23 = .ok (.ldc 18, 2) := by decide +kernel
theorem dL_price_25 : decode cL_price 25 = .ok (.goto 12, 3) := by decide +kernel
theorem dL_price_28 : decode cL_price 28 = .ok (.aload_n 0, 1) := by decide +kernel
theorem dL_price_29 : decode cL_price 29 = .ok (.bipush 7, 2) := by decide +kernel
theorem dL_price_31 : decode cL_price 31 = .ok (.iload_n 2, 1) := by decide +kernel
theorem dL_price_32 : decode cL_price 32 = .ok (.iconst 0, 1) := by decide +kernel
theorem dL_price_33 : decode cL_price 33 = .ok (.iconst 0, 1) := by decide +kernel
theorem dL_price_34 : decode cL_price 34 = .ok (.invokestatic 144, 3) := by decide +kernel
theorem dL_price_37 : decode cL_price 37 = .ok (.istore 5, 2) := by decide +kernel
