theorem dL_acts_286 : decode cL_acts 286 = .ok (.iload 9, 2) := by decide +kernel
theorem dL_acts_288 : decode cL_acts 288 = .ok (.ifCond .le 7, 3) := by decide +kernel
theorem dL_acts_291 : decode cL_acts 291 = .ok (.iconst 1, 1) := by decide +kernel
theorem dL_acts_292 : decode cL_acts 292 = .ok (.goto 4, 3) := by decide +kernel
theorem dL_acts_295 : decode cL_acts 295 = .ok (.iconst 0, 1) := by decide +kernel
theorem dL_acts_296 : decode cL_acts 296 = .ok (.istore 11, 2) := by decide +kernel
theorem dL_acts_298 : decode cL_acts 298 = .ok (.iload 11, 2) := by decide +kernel
theorem dL_acts_300 : decode cL_acts 300 = .ok (.ifCond .eq 55, 3) := by decide +kernel
theorem dL_acts_303 : decode cL_acts 303 = .ok (.iload 10, 2) := by decide +kernel
theorem dL_acts_305 : decode cL_acts 305 = .ok (.ifCond .lt 84, 3) := by decide +kernel
theorem dL_acts_308 : decode cL_acts 308 = .ok (.iload 10, 2) := by decide +kernel
theorem dL_acts_310 : decode cL_acts 310 = .ok (.bipush 40, 2) := by decide +kernel
theorem dL_acts_312 : decode cL_acts 312 = .ok (.if_icmp .ge 77, 3) := by decide +kernel
theorem dL_acts_315 : decode cL_acts 315 = .ok (.aload_n 0, 1) := by decide +kernel
theorem dL_acts_316 : decode cL_acts 316 = .ok (.iload 6, 2) := by decide +kernel
theorem dL_acts_318 : decode cL_acts 318 = .ok (.iload 8, 2) := by decide +kernel
theorem dL_acts_320 : decode cL_acts 320 = .ok (.invokestatic 77, 3) := by decide +kernel
theorem dL_acts_323 : decode cL_acts 323 = .ok (.iload 10, 2) := by decide +kernel
theorem dL_acts_325 : decode cL_acts 325 = .ok (.if_icmp .ne 64, 3) := by decide +kernel
theorem dL_acts_328 : decode cL_acts 328 = .ok (.aload_n 0, 1) := by decide +kernel
theorem dL_acts_329 : decode cL_acts 329 = .ok (.iload 6, 2) := by decide +kernel
theorem dL_acts_331 : decode cL_acts 331 = .ok (.invokestatic 72, 3) := by decide +kernel
theorem dL_acts_334 : decode cL_acts 334 = .ok (.iload 8, 2) := by decide +kernel
theorem dL_acts_336 : decode cL_acts 336 = .ok (.iconst 1, 1) := by decide +kernel
theorem dL_acts_337 : decode cL_acts 337 = .ok (.iadd, 1) := by decide +kernel
theorem dL_acts_338 : decode cL_acts 338 = .ok (.if_icmp .ne 51, 3) := by decide +kernel
theorem dL_acts_341 : decode cL_acts 341 = .ok (.aload_n 0, 1) := by decide +kernel
theorem dL_acts_342 : decode cL_acts 342 = .ok (.invokevirtual 106, 3) := by decide +kernel
theorem dL_acts_345 : decode cL_acts 345 = .ok (.iload 9, 2) := by decide +kernel
theorem dL_acts_347 : decode cL_acts 347 = .ok (.iconst 1, 1) := by decide +kernel
theorem dL_acts_348 : decode cL_acts 348 = .ok (.isub, 1) := by decide +kernel
theorem dL_acts_349 : decode cL_acts 349 = .ok (.if_icmp .ne 40, 3) := by decide +kernel
theorem dL_acts_352 : decode cL_acts 352 = .ok (.goto 21, 3) := by decide +kernel
theorem dL_acts_355 : decode cL_acts 355 = .ok (.iload 10, 2) := by decide +kernel
theorem dL_acts_357 : decode cL_acts 357 = .ok (.ldc 21, 2) := by decide +kernel
theorem dL_acts_359 : decode cL_acts 359 = .ok (.if_icmp .ne 30, 3) := by decide +kernel
theorem dL_acts_362 : decode cL_acts 362 = .ok (.aload_n 0, 1) := by decide +kernel
theorem dL_acts_363 : decode cL_acts 363 = .ok (.iload 6, 2) := by decide +kernel
theorem dL_acts_365 : decode cL_acts 365 = .ok (.invokestatic 72, 3) := by decide +kernel
theorem dL_acts_368 : decode cL_acts 368 = .ok (.iload 8, 2) := by decide +kernel
theorem dL_acts_370 : decode cL_acts 370 = .ok (.if_icmp .ne 19, 3) := by decide +kernel
theorem dL_acts_373 : decode cL_acts 373 = .ok (.aload_n 0, 1) := by decide +kernel
theorem dL_acts_374 : decode cL_acts 374 = .ok (.aload_n 2, 1) := by decide +kernel
theorem dL_acts_375 : decode cL_acts 375 = .ok (.iconst 0, 1) := by decide +kernel
theorem dL_acts_376 : decode cL_acts 376 = .ok (.iaload, 1) := by decide +kernel
theorem dL_acts_377 : decode cL_acts 377 = .ok (.invokestatic 100, 3) := by decide +kernel
theorem dL_acts_380 : decode cL_acts 380 = .ok (.ldc 28, 2) := by decide +kernel
theorem dL_acts_382 : decode cL_acts 382 = .ok (.if_icmp .ne 7, 3) := by decide +kernel
theorem dL_acts_385 : decode cL_acts 385 = .ok (.iconst 1, 1) := by decide +kernel
theorem dL_acts_386 : decode cL_acts 386 = .ok (.goto 4, 3) := by decide +kernel
theorem dL_acts_389 : decode cL_acts 389 = .ok (.iconst 0, 1) := by decide +kernel
theorem dL_acts_390 : decode cL_acts 390 = .ok (.ireturn, 1) := by decide +kernel
theorem dL_acts_391 : decode cL_acts 391 = .ok (.iload 5, 2) := by decide +kernel
theorem dL_acts_393 : decode cL_acts 393 = .ok (.bipush 14, 2) := by decide +kernel
theorem dL_acts_395 : decode cL_acts 395 = .ok (.if_icmp .ge 160, 3) := by decide +kernel
theorem dL_acts_398 : decode cL_acts 398 = .ok (.aload_n 0, 1) := by decide +kernel
theorem dL_acts_399 : decode cL_acts 399 = .ok (.iload 6, 2) := by decide +kernel
theorem dL_acts_401 : decode cL_acts 401 = .ok (.invokestatic 86, 3) := by decide +kernel
theorem dL_acts_404 : decode cL_acts 404 = .ok (.istore 10, 2) := by decide +kernel
theorem dL_acts_406 : decode cL_acts 406 = .ok (.iload 7, 2) := by decide +kernel
theorem dL_acts_408 : decode cL_acts 408 = .ok (.ifCond .eq 13, 3) := by decide +kernel
theorem dL_acts_411 : decode cL_acts 411 = .ok (.aload_n 0, 1) := by decide +kernel
theorem dL_acts_412 : decode cL_acts 412 = .ok (.iload 6, 2) := by decide +kernel
theorem dL_acts_414 : decode cL_acts 414 = .ok (.iconst 0, 1) := by decide +kernel
theorem dL_acts_415 : decode cL_acts 415 = .ok (.invokestatic 77, 3) := by decide +kernel
theorem dL_acts_418 : decode cL_acts 418 = .ok (.goto 4, 3) := by decide +kernel
theorem dL_acts_421 : decode cL_acts 421 = .ok (.iconst (-1), 1) := by decide +kernel
theorem dL_acts_422 : decode cL_acts 422 = .ok (.istore 11, 2) := by decide +kernel
theorem dL_acts_424 : decode cL_acts 424 = .ok (.aload_n 0, 1) := by decide +kernel
theorem dL_acts_425 : decode cL_acts 425 = .ok (.iload 6, 2) := by decide +kernel
theorem dL_acts_427 : decode cL_acts 427 = .ok (.invokestatic 102, 3) := by decide +kernel
theorem dL_acts_430 : decode cL_acts 430 = .ok (.istore 12, 2) := by decide +kernel
theorem dL_acts_432 : decode cL_acts 432 = .ok (.iload 7, 2) := by decide +kernel
theorem dL_acts_434 : decode cL_acts 434 = .ok (.ifCond .eq 14, 3) := by decide +kernel
theorem dL_acts_437 : decode cL_acts 437 = .ok (.iload 8, 2) := by decide +kernel
theorem dL_acts_439 : decode cL_acts 439 = .ok (.iload 9, 2) := by decide +kernel
theorem dL_acts_441 : decode cL_acts 441 = .ok (.if_icmp .gt 7, 3) := by decide +kernel
theorem dL_acts_444 : decode cL_acts 444 = .ok (.iconst 1, 1) := by decide +kernel
