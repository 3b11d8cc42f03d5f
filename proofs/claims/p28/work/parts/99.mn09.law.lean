/-! ===== names of the law, printed ===== -/
theorem dL_holds_153 : decode cL_holds 153 = .ok (.bipush 8, 2) := by decide +kernel
theorem dL_holds_155 : decode cL_holds 155 = .ok (.iconst 0, 1) := by decide +kernel
theorem dL_holds_156 : decode cL_holds 156 = .ok (.invokestatic 144, 3) := by decide +kernel
theorem dL_holds_159 : decode cL_holds 159 = .ok (.iand, 1) := by decide +kernel
theorem dL_holds_160 : decode cL_holds 160 = .ok (.ifCond .ne 21, 3) := by decide +kernel
theorem dL_holds_163 : decode cL_holds 163 = .ok (.aload_n 0, 1) := by decide +kernel
theorem dL_holds_164 : decode cL_holds 164 = .ok (.bipush 11, 2) := by decide +kernel
theorem dL_holds_166 : decode cL_holds 166 = .ok (.iload 7, 2) := by decide +kernel
theorem dL_holds_168 : decode cL_holds 168 = .ok (.iconst 0, 1) := by decide +kernel
theorem dL_holds_169 : decode cL_holds 169 = .ok (.iconst 0, 1) := by decide +kernel
theorem dL_holds_170 : decode cL_holds 170 = .ok (.invokestatic 144, 3) := by decide +kernel
theorem dL_holds_173 : decode cL_holds 173 = .ok (.iconst (-1), 1) := by decide +kernel
theorem dL_holds_174 : decode cL_holds 174 = .ok (.if_icmp .ne 7, 3) := by decide +kernel
theorem dL_holds_177 : decode cL_holds 177 = .ok (.iconst 1, 1) := by decide +kernel
theorem dL_holds_178 : decode cL_holds 178 = .ok (.goto 57, 3) := by decide +kernel
theorem dL_holds_181 : decode cL_holds 181 = .ok (.iconst 0, 1) := by decide +kernel
theorem dL_holds_182 : decode cL_holds 182 = .ok (.goto 53, 3) := by decide +kernel
theorem dL_holds_185 : decode cL_holds 185 = .ok (.iload 8, 2) := by decide +kernel
theorem dL_holds_187 : decode cL_holds 187 = .ok (.ifCond .ne 47, 3) := by decide +kernel
theorem dL_holds_190 : decode cL_holds 190 = .ok (.aload_n 0, 1) := by decide +kernel
theorem dL_holds_191 : decode cL_holds 191 = .ok (.bipush 11, 2) := by decide +kernel
theorem dL_holds_193 : decode cL_holds 193 = .ok (.iload 7, 2) := by decide +kernel
theorem dL_holds_195 : decode cL_holds 195 = .ok (.iconst 0, 1) := by decide +kernel
theorem dL_holds_196 : decode cL_holds 196 = .ok (.iconst 0, 1) := by decide +kernel
theorem dL_holds_197 : decode cL_holds 197 = .ok (.invokestatic 144, 3) := by decide +kernel
theorem dL_holds_200 : decode cL_holds 200 = .ok (.iconst (-1), 1) := by decide +kernel
theorem dL_holds_201 : decode cL_holds 201 = .ok (.if_icmp .ne 7, 3) := by decide +kernel
theorem dL_holds_204 : decode cL_holds 204 = .ok (.iconst 1, 1) := by decide +kernel
theorem dL_holds_205 : decode cL_holds 205 = .ok (.goto 4, 3) := by decide +kernel
theorem dL_holds_208 : decode cL_holds 208 = .ok (.iconst 0, 1) := by decide +kernel
theorem dL_holds_209 : decode cL_holds 209 = .ok (.aload_n 0, 1) := by decide +kernel
theorem dL_holds_210 : decode cL_holds 210 = .ok (.bipush 13, 2) := by decide +kernel
theorem dL_holds_212 : decode cL_holds 212 = .ok (.iload 7, 2) := by decide +kernel
theorem dL_holds_214 : decode cL_holds 214 = .ok (.iconst 0, 1) := by decide +kernel
theorem dL_holds_215 : decode cL_holds 215 = .ok (.iconst 0, 1) := by decide +kernel
theorem dL_holds_216 : decode cL_holds 216 = .ok (.invokestatic 144, 3) := by decide +kernel
theorem dL_holds_219 : decode cL_holds 219 = .ok (.ifCond .le 7, 3) := by decide +kernel
theorem dL_holds_222 : decode cL_holds 222 = .ok (.iconst 1, 1) := by decide +kernel
theorem dL_holds_223 : decode cL_holds 223 = .ok (.goto 4, 3) := by decide +kernel
theorem dL_holds_226 : decode cL_holds 226 = .ok (.iconst 0, 1) := by decide +kernel
theorem dL_holds_227 : decode cL_holds 227 = .ok (.if_icmp .ne 7, 3) := by decide +kernel
theorem dL_holds_230 : decode cL_holds 230 = .ok (.iconst 1, 1) := by decide +kernel
theorem dL_holds_231 : decode cL_holds 231 = .ok (.goto 4, 3) := by decide +kernel
theorem dL_holds_234 : decode cL_holds 234 = .ok (.iconst 0, 1) := by decide +kernel
theorem dL_holds_235 : decode cL_holds 235 = .ok (.istore 6, 2) := by decide +kernel
theorem dL_holds_237 : decode cL_holds 237 = .ok (.iconst 0, 1) := by decide +kernel
theorem dL_holds_238 : decode cL_holds 238 = .ok (.istore 11, 2) := by decide +kernel
theorem dL_holds_240 : decode cL_holds 240 = .ok (.iload 11, 2) := by decide +kernel
theorem dL_holds_242 : decode cL_holds 242 = .ok (.iload_n 2, 1) := by decide +kernel
theorem dL_holds_243 : decode cL_holds 243 = .ok (.if_icmp .ge 52, 3) := by decide +kernel
theorem dL_holds_246 : decode cL_holds 246 = .ok (.iload 6, 2) := by decide +kernel
theorem dL_holds_248 : decode cL_holds 248 = .ok (.ifCond .eq 47, 3) := by decide +kernel
theorem dL_holds_251 : decode cL_holds 251 = .ok (.iload 8, 2) := by decide +kernel
theorem dL_holds_253 : decode cL_holds 253 = .ok (.iload 11, 2) := by decide +kernel
theorem dL_holds_255 : decode cL_holds 255 = .ok (.ishr, 1) := by decide +kernel
theorem dL_holds_256 : decode cL_holds 256 = .ok (.iconst 1, 1) := by decide +kernel
theorem dL_holds_257 : decode cL_holds 257 = .ok (.iand, 1) := by decide +kernel
theorem dL_holds_258 : decode cL_holds 258 = .ok (.ifCond .eq 24, 3) := by decide +kernel
theorem dL_holds_261 : decode cL_holds 261 = .ok (.aload_n 0, 1) := by decide +kernel
theorem dL_holds_262 : decode cL_holds 262 = .ok (.iconst 3, 1) := by decide +kernel
theorem dL_holds_263 : decode cL_holds 263 = .ok (.iload 11, 2) := by decide +kernel
theorem dL_holds_265 : decode cL_holds 265 = .ok (.iconst 0, 1) := by decide +kernel
theorem dL_holds_266 : decode cL_holds 266 = .ok (.iconst 0, 1) := by decide +kernel
theorem dL_holds_267 : decode cL_holds 267 = .ok (.invokestatic 144, 3) := by decide +kernel
theorem dL_holds_270 : decode cL_holds 270 = .ok (.aload_n 0, 1) := by decide +kernel
theorem dL_holds_271 : decode cL_holds 271 = .ok (.iconst 4, 1) := by decide +kernel
theorem dL_holds_272 : decode cL_holds 272 = .ok (.iload 7, 2) := by decide +kernel
theorem dL_holds_274 : decode cL_holds 274 = .ok (.iconst 0, 1) := by decide +kernel
theorem dL_holds_275 : decode cL_holds 275 = .ok (.iconst 0, 1) := by decide +kernel
theorem dL_holds_276 : decode cL_holds 276 = .ok (.invokestatic 144, 3) := by decide +kernel
theorem dL_holds_279 : decode cL_holds 279 = .ok (.if_icmp .ne 7, 3) := by decide +kernel
theorem dL_holds_282 : decode cL_holds 282 = .ok (.iconst 1, 1) := by decide +kernel
theorem dL_holds_283 : decode cL_holds 283 = .ok (.goto 4, 3) := by decide +kernel
theorem dL_holds_286 : decode cL_holds 286 = .ok (.iconst 0, 1) := by decide +kernel
theorem dL_holds_287 : decode cL_holds 287 = .ok (.istore 6, 2) := by decide +kernel
theorem dL_holds_289 : decode cL_holds 289 = .ok (.iinc 11 1, 3) := by decide +kernel
theorem dL_holds_292 : decode cL_holds 292 = .ok (.goto (-52), 3) := by decide +kernel
theorem dL_holds_295 : decode cL_holds 295 = .ok (.iinc 7 1, 3) := by decide +kernel
theorem dL_holds_298 : decode cL_holds 298 = .ok (.goto (-252), 3) := by decide +kernel
theorem dL_holds_301 : decode cL_holds 301 = .ok (.iconst 0, 1) := by decide +kernel
theorem dL_holds_302 : decode cL_holds 302 = .ok (.istore 7, 2) := by decide +kernel
theorem dL_holds_304 : decode cL_holds 304 = .ok (.iload 7, 2) := by decide +kernel
theorem dL_holds_306 : decode cL_holds 306 = .ok (.iload_n 2, 1) := by decide +kernel
theorem dL_holds_307 : decode cL_holds 307 = .ok (.if_icmp .ge 72, 3) := by decide +kernel
theorem dL_holds_310 : decode cL_holds 310 = .ok (.iload 5, 2) := by decide +kernel
theorem dL_holds_312 : decode cL_holds 312 = .ok (.aload_n 0, 1) := by decide +kernel
theorem dL_holds_313 : decode cL_holds 313 = .ok (.iconst 3, 1) := by decide +kernel
theorem dL_holds_314 : decode cL_holds 314 = .ok (.iload 7, 2) := by decide +kernel
theorem dL_holds_316 : decode cL_holds 316 = .ok (.bipush 6, 2) := by decide +kernel
theorem dL_holds_318 : decode cL_holds 318 = .ok (.iconst 0, 1) := by decide +kernel
theorem dL_holds_319 : decode cL_holds 319 = .ok (.invokestatic 144, 3) := by decide +kernel
theorem dL_holds_322 : decode cL_holds 322 = .ok (.iadd, 1) := by decide +kernel
theorem dL_holds_323 : decode cL_holds 323 = .ok (.istore 5, 2) := by decide +kernel
theorem dL_holds_325 : decode cL_holds 325 = .ok (.iload 6, 2) := by decide +kernel
theorem dL_holds_327 : decode cL_holds 327 = .ok (.ifCond .eq 43, 3) := by decide +kernel
theorem dL_holds_330 : decode cL_holds 330 = .ok (.aload_n 0, 1) := by decide +kernel
theorem dL_holds_331 : decode cL_holds 331 = .ok (.iconst 3, 1) := by decide +kernel
theorem dL_holds_332 : decode cL_holds 332 = .ok (.iload 7, 2) := by decide +kernel
theorem dL_holds_334 : decode cL_holds 334 = .ok (.iconst 2, 1) := by decide +kernel
theorem dL_holds_335 : decode cL_holds 335 = .ok (.iconst 0, 1) := by decide +kernel
theorem dL_holds_336 : decode cL_holds 336 = .ok (.invokestatic 144, 3) := by decide +kernel
theorem dL_holds_339 : decode cL_holds 339 = .ok (.aload_n 0, 1) := by decide +kernel
theorem dL_holds_340 : decode cL_holds 340 = .ok (.iconst 3, 1) := by decide +kernel
theorem dL_holds_341 : decode cL_holds 341 = .ok (.iload 7, 2) := by decide +kernel
theorem dL_holds_343 : decode cL_holds 343 = .ok (.iconst 3, 1) := by decide +kernel
