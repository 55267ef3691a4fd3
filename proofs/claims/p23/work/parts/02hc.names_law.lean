theorem dL_law_262 : decode cL_law 262 = .ok (.iload 8, 2) := by decide +kernel
theorem dL_law_264 : decode cL_law 264 = .ok (.iconst 2, 1) := by decide +kernel
theorem dL_law_265 : decode cL_law 265 = .ok (.irem, 1) := by decide +kernel
theorem dL_law_266 : decode cL_law 266 = .ok (.ifCond .ne 19, 3) := by decide +kernel
theorem dL_law_269 : decode cL_law 269 = .ok (.sipush 1500, 3) := by decide +kernel
theorem dL_law_272 : decode cL_law 272 = .ok (.iload 8, 2) := by decide +kernel
theorem dL_law_274 : decode cL_law 274 = .ok (.bipush 12, 2) := by decide +kernel
theorem dL_law_276 : decode cL_law 276 = .ok (.idiv, 1) := by decide +kernel
theorem dL_law_277 : decode cL_law 277 = .ok (.sipush 2001, 3) := by decide +kernel
theorem dL_law_280 : decode cL_law 280 = .ok (.irem, 1) := by decide +kernel
theorem dL_law_281 : decode cL_law 281 = .ok (.iadd, 1) := by decide +kernel
theorem dL_law_282 : decode cL_law 282 = .ok (.goto 16, 3) := by decide +kernel
theorem dL_law_285 : decode cL_law 285 = .ok (.sipush 2000, 3) := by decide +kernel
theorem dL_law_288 : decode cL_law 288 = .ok (.iload 8, 2) := by decide +kernel
theorem dL_law_290 : decode cL_law 290 = .ok (.bipush 12, 2) := by decide +kernel
theorem dL_law_292 : decode cL_law 292 = .ok (.idiv, 1) := by decide +kernel
theorem dL_law_293 : decode cL_law 293 = .ok (.sipush 500, 3) := by decide +kernel
theorem dL_law_296 : decode cL_law 296 = .ok (.irem, 1) := by decide +kernel
theorem dL_law_297 : decode cL_law 297 = .ok (.iadd, 1) := by decide +kernel
theorem dL_law_298 : decode cL_law 298 = .ok (.iastore, 1) := by decide +kernel
theorem dL_law_299 : decode cL_law 299 = .ok (.aload_n 1, 1) := by decide +kernel
theorem dL_law_300 : decode cL_law 300 = .ok (.iconst 1, 1) := by decide +kernel
theorem dL_law_301 : decode cL_law 301 = .ok (.iload 10, 2) := by decide +kernel
theorem dL_law_303 : decode cL_law 303 = .ok (.aload_n 3, 1) := by decide +kernel
theorem dL_law_304 : decode cL_law 304 = .ok (.bipush 6, 2) := by decide +kernel
theorem dL_law_306 : decode cL_law 306 = .ok (.iload 10, 2) := by decide +kernel
theorem dL_law_308 : decode cL_law 308 = .ok (.iadd, 1) := by decide +kernel
theorem dL_law_309 : decode cL_law 309 = .ok (.iaload, 1) := by decide +kernel
theorem dL_law_310 : decode cL_law 310 = .ok (.iconst 0, 1) := by decide +kernel
theorem dL_law_311 : decode cL_law 311 = .ok (.invokestatic 100, 3) := by decide +kernel
theorem dL_law_314 : decode cL_law 314 = .ok (.iload 12, 2) := by decide +kernel
theorem dL_law_316 : decode cL_law 316 = .ok (.if_icmp .ne 16, 3) := by decide +kernel
theorem dL_law_319 : decode cL_law 319 = .ok (.aload_n 1, 1) := by decide +kernel
theorem dL_law_320 : decode cL_law 320 = .ok (.iload 10, 2) := by decide +kernel
theorem dL_law_322 : decode cL_law 322 = .ok (.invokevirtual 60, 3) := by decide +kernel
theorem dL_law_325 : decode cL_law 325 = .ok (.ifCond .ne 7, 3) := by decide +kernel
theorem dL_law_328 : decode cL_law 328 = .ok (.iconst 1, 1) := by decide +kernel
theorem dL_law_329 : decode cL_law 329 = .ok (.goto 4, 3) := by decide +kernel
theorem dL_law_332 : decode cL_law 332 = .ok (.iconst 0, 1) := by decide +kernel
theorem dL_law_333 : decode cL_law 333 = .ok (.istore 5, 2) := by decide +kernel
theorem dL_law_335 : decode cL_law 335 = .ok (.goto 545, 3) := by decide +kernel
theorem dL_law_338 : decode cL_law 338 = .ok (.iload 9, 2) := by decide +kernel
theorem dL_law_340 : decode cL_law 340 = .ok (.bipush 8, 2) := by decide +kernel
theorem dL_law_342 : decode cL_law 342 = .ok (.if_icmp .ge 82, 3) := by decide +kernel
theorem dL_law_345 : decode cL_law 345 = .ok (.aload_n 2, 1) := by decide +kernel
theorem dL_law_346 : decode cL_law 346 = .ok (.bipush 6, 2) := by decide +kernel
theorem dL_law_348 : decode cL_law 348 = .ok (.iload 11, 2) := by decide +kernel
theorem dL_law_350 : decode cL_law 350 = .ok (.imul, 1) := by decide +kernel
theorem dL_law_351 : decode cL_law 351 = .ok (.iload 10, 2) := by decide +kernel
theorem dL_law_353 : decode cL_law 353 = .ok (.iadd, 1) := by decide +kernel
theorem dL_law_354 : decode cL_law 354 = .ok (.iaload, 1) := by decide +kernel
theorem dL_law_355 : decode cL_law 355 = .ok (.istore 12, 2) := by decide +kernel
theorem dL_law_357 : decode cL_law 357 = .ok (.aload_n 2, 1) := by decide +kernel
theorem dL_law_358 : decode cL_law 358 = .ok (.bipush 6, 2) := by decide +kernel
theorem dL_law_360 : decode cL_law 360 = .ok (.iload 11, 2) := by decide +kernel
theorem dL_law_362 : decode cL_law 362 = .ok (.imul, 1) := by decide +kernel
theorem dL_law_363 : decode cL_law 363 = .ok (.iload 10, 2) := by decide +kernel
theorem dL_law_365 : decode cL_law 365 = .ok (.iadd, 1) := by decide +kernel
theorem dL_law_366 : decode cL_law 366 = .ok (.iload 8, 2) := by decide +kernel
theorem dL_law_368 : decode cL_law 368 = .ok (.bipush 48, 2) := by decide +kernel
theorem dL_law_370 : decode cL_law 370 = .ok (.idiv, 1) := by decide +kernel
theorem dL_law_371 : decode cL_law 371 = .ok (.iconst 3, 1) := by decide +kernel
theorem dL_law_372 : decode cL_law 372 = .ok (.irem, 1) := by decide +kernel
theorem dL_law_373 : decode cL_law 373 = .ok (.ifCond .ne 7, 3) := by decide +kernel
theorem dL_law_376 : decode cL_law 376 = .ok (.iconst 0, 1) := by decide +kernel
theorem dL_law_377 : decode cL_law 377 = .ok (.goto 12, 3) := by decide +kernel
theorem dL_law_380 : decode cL_law 380 = .ok (.iload 8, 2) := by decide +kernel
theorem dL_law_382 : decode cL_law 382 = .ok (.sipush 144, 3) := by decide +kernel
theorem dL_law_385 : decode cL_law 385 = .ok (.idiv, 1) := by decide +kernel
theorem dL_law_386 : decode cL_law 386 = .ok (.bipush 101, 2) := by decide +kernel
theorem dL_law_388 : decode cL_law 388 = .ok (.irem, 1) := by decide +kernel
theorem dL_law_389 : decode cL_law 389 = .ok (.iastore, 1) := by decide +kernel
theorem dL_law_390 : decode cL_law 390 = .ok (.aload_n 1, 1) := by decide +kernel
theorem dL_law_391 : decode cL_law 391 = .ok (.iconst 2, 1) := by decide +kernel
theorem dL_law_392 : decode cL_law 392 = .ok (.iload 11, 2) := by decide +kernel
