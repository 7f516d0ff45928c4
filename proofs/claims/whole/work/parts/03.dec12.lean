theorem d_La_law_286 : decode b_La_law 286 = .ok (.iconst 1, 1) := by decide +kernel
theorem d_La_law_287 : decode b_La_law 287 = .ok (.iadd, 1) := by decide +kernel
theorem d_La_law_288 : decode b_La_law 288 = .ok (.iaload, 1) := by decide +kernel
theorem d_La_law_289 : decode b_La_law 289 = .ok (.aload_n 0, 1) := by decide +kernel
theorem d_La_law_290 : decode b_La_law 290 = .ok (.iload 4, 2) := by decide +kernel
theorem d_La_law_292 : decode b_La_law 292 = .ok (.iconst 2, 1) := by decide +kernel
theorem d_La_law_293 : decode b_La_law 293 = .ok (.iadd, 1) := by decide +kernel
theorem d_La_law_294 : decode b_La_law 294 = .ok (.iaload, 1) := by decide +kernel
theorem d_La_law_295 : decode b_La_law 295 = .ok (.invokevirtual 77, 3) := by decide +kernel
theorem d_La_law_298 : decode b_La_law 298 = .ok (.istore 6, 2) := by decide +kernel
theorem d_La_law_300 : decode b_La_law 300 = .ok (.aload_n 2, 1) := by decide +kernel
theorem d_La_law_301 : decode b_La_law 301 = .ok (.invokevirtual 63, 3) := by decide +kernel
theorem d_La_law_304 : decode b_La_law 304 = .ok (.iload 5, 2) := by decide +kernel
theorem d_La_law_306 : decode b_La_law 306 = .ok (.if_icmp .eq 5, 3) := by decide +kernel
theorem d_La_law_309 : decode b_La_law 309 = .ok (.iconst 0, 1) := by decide +kernel
theorem d_La_law_310 : decode b_La_law 310 = .ok (.ireturn, 1) := by decide +kernel
theorem d_La_law_311 : decode b_La_law 311 = .ok (.iload 5, 2) := by decide +kernel
theorem d_La_law_313 : decode b_La_law 313 = .ok (.ifCond .ne 15, 3) := by decide +kernel
theorem d_La_law_316 : decode b_La_law 316 = .ok (.aload_n 3, 1) := by decide +kernel
theorem d_La_law_317 : decode b_La_law 317 = .ok (.iconst 0, 1) := by decide +kernel
theorem d_La_law_318 : decode b_La_law 318 = .ok (.laload, 1) := by decide +kernel
theorem d_La_law_319 : decode b_La_law 319 = .ok (.iload 6, 2) := by decide +kernel
theorem d_La_law_321 : decode b_La_law 321 = .ok (.i2l, 1) := by decide +kernel
theorem d_La_law_322 : decode b_La_law 322 = .ok (.lcmp, 1) := by decide +kernel
theorem d_La_law_323 : decode b_La_law 323 = .ok (.ifCond .eq 5, 3) := by decide +kernel
theorem d_La_law_326 : decode b_La_law 326 = .ok (.iconst 0, 1) := by decide +kernel
theorem d_La_law_327 : decode b_La_law 327 = .ok (.ireturn, 1) := by decide +kernel
theorem d_La_law_328 : decode b_La_law 328 = .ok (.goto 471, 3) := by decide +kernel
theorem d_La_law_331 : decode b_La_law 331 = .ok (.aload_n 1, 1) := by decide +kernel
theorem d_La_law_332 : decode b_La_law 332 = .ok (.aload_n 0, 1) := by decide +kernel
theorem d_La_law_333 : decode b_La_law 333 = .ok (.iload 4, 2) := by decide +kernel
theorem d_La_law_335 : decode b_La_law 335 = .ok (.iconst 1, 1) := by decide +kernel
theorem d_La_law_336 : decode b_La_law 336 = .ok (.iadd, 1) := by decide +kernel
theorem d_La_law_337 : decode b_La_law 337 = .ok (.iaload, 1) := by decide +kernel
theorem d_La_law_338 : decode b_La_law 338 = .ok (.ifCond .eq 7, 3) := by decide +kernel
theorem d_La_law_341 : decode b_La_law 341 = .ok (.iconst 1, 1) := by decide +kernel
theorem d_La_law_342 : decode b_La_law 342 = .ok (.goto 4, 3) := by decide +kernel
theorem d_La_law_345 : decode b_La_law 345 = .ok (.iconst 0, 1) := by decide +kernel
theorem d_La_law_346 : decode b_La_law 346 = .ok (.aload_n 0, 1) := by decide +kernel
theorem d_La_law_347 : decode b_La_law 347 = .ok (.iload 4, 2) := by decide +kernel
theorem d_La_law_349 : decode b_La_law 349 = .ok (.iconst 2, 1) := by decide +kernel
theorem d_La_law_350 : decode b_La_law 350 = .ok (.iadd, 1) := by decide +kernel
theorem d_La_law_351 : decode b_La_law 351 = .ok (.iaload, 1) := by decide +kernel
theorem d_La_law_352 : decode b_La_law 352 = .ok (.aload_n 0, 1) := by decide +kernel
theorem d_La_law_353 : decode b_La_law 353 = .ok (.iload 4, 2) := by decide +kernel
theorem d_La_law_355 : decode b_La_law 355 = .ok (.iconst 3, 1) := by decide +kernel
theorem d_La_law_356 : decode b_La_law 356 = .ok (.iadd, 1) := by decide +kernel
theorem d_La_law_357 : decode b_La_law 357 = .ok (.iaload, 1) := by decide +kernel
theorem d_La_law_358 : decode b_La_law 358 = .ok (.invokestatic 78, 3) := by decide +kernel
theorem d_La_law_361 : decode b_La_law 361 = .ok (.istore 5, 2) := by decide +kernel
theorem d_La_law_363 : decode b_La_law 363 = .ok (.aload_n 2, 1) := by decide +kernel
theorem d_La_law_364 : decode b_La_law 364 = .ok (.aload_n 0, 1) := by decide +kernel
theorem d_La_law_365 : decode b_La_law 365 = .ok (.iload 4, 2) := by decide +kernel
theorem d_La_law_367 : decode b_La_law 367 = .ok (.iconst 1, 1) := by decide +kernel
theorem d_La_law_368 : decode b_La_law 368 = .ok (.iadd, 1) := by decide +kernel
theorem d_La_law_369 : decode b_La_law 369 = .ok (.iaload, 1) := by decide +kernel
theorem d_La_law_370 : decode b_La_law 370 = .ok (.ifCond .eq 7, 3) := by decide +kernel
theorem d_La_law_373 : decode b_La_law 373 = .ok (.iconst 1, 1) := by decide +kernel
theorem d_La_law_374 : decode b_La_law 374 = .ok (.goto 4, 3) := by decide +kernel
theorem d_La_law_377 : decode b_La_law 377 = .ok (.iconst 0, 1) := by decide +kernel
theorem d_La_law_378 : decode b_La_law 378 = .ok (.aload_n 0, 1) := by decide +kernel
theorem d_La_law_379 : decode b_La_law 379 = .ok (.iload 4, 2) := by decide +kernel
theorem d_La_law_381 : decode b_La_law 381 = .ok (.iconst 2, 1) := by decide +kernel
theorem d_La_law_382 : decode b_La_law 382 = .ok (.iadd, 1) := by decide +kernel
theorem d_La_law_383 : decode b_La_law 383 = .ok (.iaload, 1) := by decide +kernel
theorem d_La_law_384 : decode b_La_law 384 = .ok (.aload_n 0, 1) := by decide +kernel
theorem d_La_law_385 : decode b_La_law 385 = .ok (.iload 4, 2) := by decide +kernel
theorem d_La_law_387 : decode b_La_law 387 = .ok (.iconst 3, 1) := by decide +kernel
theorem d_La_law_388 : decode b_La_law 388 = .ok (.iadd, 1) := by decide +kernel
theorem d_La_law_389 : decode b_La_law 389 = .ok (.iaload, 1) := by decide +kernel
theorem d_La_law_390 : decode b_La_law 390 = .ok (.invokevirtual 81, 3) := by decide +kernel
theorem d_La_law_393 : decode b_La_law 393 = .ok (.aload_n 2, 1) := by decide +kernel
theorem d_La_law_394 : decode b_La_law 394 = .ok (.invokevirtual 63, 3) := by decide +kernel
theorem d_La_law_397 : decode b_La_law 397 = .ok (.iload 5, 2) := by decide +kernel
theorem d_La_law_399 : decode b_La_law 399 = .ok (.if_icmp .eq 5, 3) := by decide +kernel
theorem d_La_law_402 : decode b_La_law 402 = .ok (.iconst 0, 1) := by decide +kernel
theorem d_La_law_403 : decode b_La_law 403 = .ok (.ireturn, 1) := by decide +kernel
theorem d_La_law_404 : decode b_La_law 404 = .ok (.goto 395, 3) := by decide +kernel
theorem d_La_law_407 : decode b_La_law 407 = .ok (.aload_n 1, 1) := by decide +kernel
theorem d_La_law_408 : decode b_La_law 408 = .ok (.aload_n 0, 1) := by decide +kernel
