/-! ===== the law: its rows, printed ===== -/
theorem dL_holds_242 : decode cL_holds 242 = .ok (.iload_n 2, 1) := by decide +kernel
theorem dL_holds_243 : decode cL_holds 243 = .ok (.if_icmp .ge 52, 3) := by decide +kernel
theorem dL_holds_246 : decode cL_holds 246 = .ok (.iload 6, 2) := by decide +kernel
theorem dL_holds_248 : decode cL_holds 248 = .ok (.ifCond .eq 47, 3) := by decide +kernel
theorem dL_holds_251 : decode cL_holds 251 = .ok (.iload 8, 2) := by decide +kernel
theorem dL_holds_253 : decode cL_holds 253 = .ok (.iload 11, 2) := by decide +kernel
theorem dL_holds_255 : decode cL_holds 255 = .ok (.ishr, 1) := by decide +kernel
theorem dL_holds_256 : decode cL_holds 256 = .ok (.iconst 1, 1) := by decide +kernel
theorem dL_holds_257 : decode cL_holds 257 = .ok (.iand, 1) := by decide +kernel
theorem dL_holds_258 : decode cL_holds 258 = .ok (.ifCond .eq 24, 3) := by decide +kernel
theorem dL_holds_261 : decode cL_holds 261 = .ok (.aload_n 0, 1) := by decide +kernel
theorem dL_holds_262 : decode cL_holds 262 = .ok (.iconst 3, 1) := by decide +kernel
theorem dL_holds_263 : decode cL_holds 263 = .ok (.iload 11, 2) := by decide +kernel
theorem dL_holds_265 : decode cL_holds 265 = .ok (.iconst 0, 1) := by decide +kernel
theorem dL_holds_266 : decode cL_holds 266 = .ok (.iconst 0, 1) := by decide +kernel
theorem dL_holds_267 : decode cL_holds 267 = .ok (.invokestatic 144, 3) := by decide +kernel
theorem dL_holds_270 : decode cL_holds 270 = .ok (.aload_n 0, 1) := by decide +kernel
theorem dL_holds_271 : decode cL_holds 271 = .ok (.iconst 4, 1) := by decide +kernel
theorem dL_holds_272 : decode cL_holds 272 = .ok (.iload 7, 2) := by decide +kernel
theorem dL_holds_274 : decode cL_holds 274 = .ok (.iconst 0, 1) := by decide +kernel
theorem dL_holds_275 : decode cL_holds 275 = .ok (.iconst 0, 1) := by decide +kernel
theorem dL_holds_276 : decode cL_holds 276 = .ok (.invokestatic 144, 3) := by decide +kernel
theorem dL_holds_279 : decode cL_holds 279 = .ok (.if_icmp .ne 7, 3) := by decide +kernel
theorem dL_holds_282 : decode cL_holds 282 = .ok (.iconst 1, 1) := by decide +kernel
theorem dL_holds_283 : decode cL_holds 283 = .ok (.goto 4, 3) := by decide +kernel
theorem dL_holds_286 : decode cL_holds 286 = .ok (.iconst 0, 1) := by decide +kernel
theorem dL_holds_287 : decode cL_holds 287 = .ok (.istore 6, 2) := by decide +kernel
theorem dL_holds_289 : decode cL_holds 289 = .ok (.iinc 11 1, 3) := by decide +kernel
theorem dL_holds_292 : decode cL_holds 292 = .ok (.goto (-52), 3) := by decide +kernel
theorem dL_holds_295 : decode cL_holds 295 = .ok (.iinc 7 1, 3) := by decide +kernel
theorem dL_holds_298 : decode cL_holds 298 = .ok (.goto (-252), 3) := by decide +kernel
theorem dL_holds_301 : decode cL_holds 301 = .ok (.iconst 0, 1) := by decide +kernel
theorem dL_holds_302 : decode cL_holds 302 = .ok (.istore 7, 2) := by decide +kernel
theorem dL_holds_304 : decode cL_holds 304 = .ok (.iload 7, 2) := by decide +kernel
theorem dL_holds_306 : decode cL_holds 306 = .ok (.iload_n 2, 1) := by decide +kernel
theorem dL_holds_307 : decode cL_holds 307 = .ok (.if_icmp .ge 72, 3) := by decide +kernel
theorem dL_holds_310 : decode cL_holds 310 = .ok (.iload 5, 2) := by decide +kernel
theorem dL_holds_312 : decode cL_holds 312 = .ok (.aload_n 0, 1) := by decide +kernel
theorem dL_holds_313 : decode cL_holds 313 = .ok (.iconst 3, 1) := by decide +kernel
theorem dL_holds_314 : decode cL_holds 314 = .ok (.iload 7, 2) := by decide +kernel
theorem dL_holds_316 : decode cL_holds 316 = .ok (.bipush 6, 2) := by decide +kernel
theorem dL_holds_318 : decode cL_holds 318 = .ok (.iconst 0, 1) := by decide +kernel
theorem dL_holds_319 : decode cL_holds 319 = .ok (.invokestatic 144, 3) := by decide +kernel
theorem dL_holds_322 : decode cL_holds 322 = .ok (.iadd, 1) := by decide +kernel
theorem dL_holds_323 : decode cL_holds 323 = .ok (.istore 5, 2) := by decide +kernel
theorem dL_holds_325 : decode cL_holds 325 = .ok (.iload 6, 2) := by decide +kernel
theorem dL_holds_327 : decode cL_holds 327 = .ok (.ifCond .eq 43, 3) := by decide +kernel
theorem dL_holds_330 : decode cL_holds 330 = .ok (.aload_n 0, 1) := by decide +kernel
theorem dL_holds_331 : decode cL_holds 331 = .ok (.iconst 3, 1) := by decide +kernel
theorem dL_holds_332 : decode cL_holds 332 = .ok (.iload 7, 2) := by decide +kernel
theorem dL_holds_334 : decode cL_holds 334 = .ok (.iconst 2, 1) := by decide +kernel
theorem dL_holds_335 : decode cL_holds 335 = .ok (.iconst 0, 1) := by decide +kernel
theorem dL_holds_336 : decode cL_holds 336 = .ok (.invokestatic 144, 3) := by decide +kernel
theorem dL_holds_339 : decode cL_holds 339 = .ok (.aload_n 0, 1) := by decide +kernel
theorem dL_holds_340 : decode cL_holds 340 = .ok (.iconst 3, 1) := by decide +kernel
theorem dL_holds_341 : decode cL_holds 341 = .ok (.iload 7, 2) := by decide +kernel
theorem dL_holds_343 : decode cL_holds 343 = .ok (.iconst 3, 1) := by decide +kernel
theorem dL_holds_344 : decode cL_holds 344 = .ok (.iconst 0, 1) := by decide +kernel
theorem dL_holds_345 : decode cL_holds 345 = .ok (.invokestatic 144, 3) := by decide +kernel
theorem dL_holds_348 : decode cL_holds 348 = .ok (.if_icmp .lt 22, 3) := by decide +kernel
theorem dL_holds_351 : decode cL_holds 351 = .ok (.aload_n 0, 1) := by decide +kernel
theorem dL_holds_352 : decode cL_holds 352 = .ok (.iconst 3, 1) := by decide +kernel
theorem dL_holds_353 : decode cL_holds 353 = .ok (.iload 7, 2) := by decide +kernel
theorem dL_holds_355 : decode cL_holds 355 = .ok (.iconst 2, 1) := by decide +kernel
theorem dL_holds_356 : decode cL_holds 356 = .ok (.iconst 0, 1) := by decide +kernel
theorem dL_holds_357 : decode cL_holds 357 = .ok (.invokestatic 144, 3) := by decide +kernel
theorem dL_holds_360 : decode cL_holds 360 = .ok (.sipush 960, 3) := by decide +kernel
theorem dL_holds_363 : decode cL_holds 363 = .ok (.if_icmp .gt 7, 3) := by decide +kernel
theorem dL_holds_366 : decode cL_holds 366 = .ok (.iconst 1, 1) := by decide +kernel
theorem dL_holds_367 : decode cL_holds 367 = .ok (.goto 4, 3) := by decide +kernel
theorem dL_holds_370 : decode cL_holds 370 = .ok (.iconst 0, 1) := by decide +kernel
theorem dL_holds_371 : decode cL_holds 371 = .ok (.istore 6, 2) := by decide +kernel
theorem dL_holds_373 : decode cL_holds 373 = .ok (.iinc 7 1, 3) := by decide +kernel
theorem dL_holds_376 : decode cL_holds 376 = .ok (.goto (-72), 3) := by decide +kernel
theorem dL_holds_379 : decode cL_holds 379 = .ok (.iload_n 1, 1) := by decide +kernel
theorem dL_holds_380 : decode cL_holds 380 = .ok (.iload_n 3, 1) := by decide +kernel
theorem dL_holds_381 : decode cL_holds 381 = .ok (.irem, 1) := by decide +kernel
theorem dL_holds_382 : decode cL_holds 382 = .ok (.istore 7, 2) := by decide +kernel
theorem dL_holds_384 : decode cL_holds 384 = .ok (.aload_n 0, 1) := by decide +kernel
theorem dL_holds_385 : decode cL_holds 385 = .ok (.bipush 11, 2) := by decide +kernel
theorem dL_holds_387 : decode cL_holds 387 = .ok (.iload 7, 2) := by decide +kernel
theorem dL_holds_389 : decode cL_holds 389 = .ok (.iconst 0, 1) := by decide +kernel
theorem dL_holds_390 : decode cL_holds 390 = .ok (.iconst 0, 1) := by decide +kernel
theorem dL_holds_391 : decode cL_holds 391 = .ok (.invokestatic 144, 3) := by decide +kernel
theorem dL_holds_394 : decode cL_holds 394 = .ok (.istore 8, 2) := by decide +kernel
theorem dL_holds_396 : decode cL_holds 396 = .ok (.iconst 0, 1) := by decide +kernel
theorem dL_holds_397 : decode cL_holds 397 = .ok (.istore 9, 2) := by decide +kernel
theorem dL_holds_399 : decode cL_holds 399 = .ok (.iload 9, 2) := by decide +kernel
theorem dL_holds_401 : decode cL_holds 401 = .ok (.iload_n 2, 1) := by decide +kernel
theorem dL_holds_402 : decode cL_holds 402 = .ok (.if_icmp .ge 81, 3) := by decide +kernel
theorem dL_holds_405 : decode cL_holds 405 = .ok (.iload 6, 2) := by decide +kernel
theorem dL_holds_407 : decode cL_holds 407 = .ok (.ifCond .eq 76, 3) := by decide +kernel
theorem dL_holds_410 : decode cL_holds 410 = .ok (.aload_n 0, 1) := by decide +kernel
theorem dL_holds_411 : decode cL_holds 411 = .ok (.bipush 12, 2) := by decide +kernel
theorem dL_holds_413 : decode cL_holds 413 = .ok (.iload 7, 2) := by decide +kernel
theorem dL_holds_415 : decode cL_holds 415 = .ok (.iload 9, 2) := by decide +kernel
theorem dL_holds_417 : decode cL_holds 417 = .ok (.iconst 0, 1) := by decide +kernel
theorem dL_holds_418 : decode cL_holds 418 = .ok (.invokestatic 144, 3) := by decide +kernel
theorem dL_holds_421 : decode cL_holds 421 = .ok (.istore 10, 2) := by decide +kernel
theorem dL_holds_423 : decode cL_holds 423 = .ok (.iload 10, 2) := by decide +kernel
theorem dL_holds_425 : decode cL_holds 425 = .ok (.ifCond .ne 7, 3) := by decide +kernel
theorem dL_holds_428 : decode cL_holds 428 = .ok (.iconst 1, 1) := by decide +kernel
theorem dL_holds_429 : decode cL_holds 429 = .ok (.goto 4, 3) := by decide +kernel
theorem dL_holds_432 : decode cL_holds 432 = .ok (.iconst 0, 1) := by decide +kernel
theorem dL_holds_433 : decode cL_holds 433 = .ok (.iload 8, 2) := by decide +kernel
theorem dL_holds_435 : decode cL_holds 435 = .ok (.iconst (-1), 1) := by decide +kernel
theorem dL_holds_436 : decode cL_holds 436 = .ok (.if_icmp .eq 18, 3) := by decide +kernel
theorem dL_holds_439 : decode cL_holds 439 = .ok (.iload 8, 2) := by decide +kernel
theorem dL_holds_441 : decode cL_holds 441 = .ok (.iload 9, 2) := by decide +kernel
theorem dL_holds_443 : decode cL_holds 443 = .ok (.ishr, 1) := by decide +kernel
