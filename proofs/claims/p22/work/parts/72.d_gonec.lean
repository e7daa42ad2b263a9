theorem dL_gone_298 : decode cL_gone 298 = .ok (.iconst 2, 1) := by decide +kernel
theorem dL_gone_299 : decode cL_gone 299 = .ok (.goto 13, 3) := by decide +kernel
theorem dL_gone_302 : decode cL_gone 302 = .ok (.iload 9, 2) := by decide +kernel
theorem dL_gone_304 : decode cL_gone 304 = .ok (.ifCond .eq 7, 3) := by decide +kernel
theorem dL_gone_307 : decode cL_gone 307 = .ok (.iconst 1, 1) := by decide +kernel
theorem dL_gone_308 : decode cL_gone 308 = .ok (.goto 4, 3) := by decide +kernel
theorem dL_gone_311 : decode cL_gone 311 = .ok (.iconst 0, 1) := by decide +kernel
theorem dL_gone_312 : decode cL_gone 312 = .ok (.istore 12, 2) := by decide +kernel
theorem dL_gone_314 : decode cL_gone 314 = .ok (.iload 5, 2) := by decide +kernel
theorem dL_gone_316 : decode cL_gone 316 = .ok (.iload_n 3, 1) := by decide +kernel
theorem dL_gone_317 : decode cL_gone 317 = .ok (.if_icmp .gt 63, 3) := by decide +kernel
theorem dL_gone_320 : decode cL_gone 320 = .ok (.iload 5, 2) := by decide +kernel
theorem dL_gone_322 : decode cL_gone 322 = .ok (.ifCond .ne 16, 3) := by decide +kernel
theorem dL_gone_325 : decode cL_gone 325 = .ok (.aload_n 0, 1) := by decide +kernel
theorem dL_gone_326 : decode cL_gone 326 = .ok (.iload 4, 2) := by decide +kernel
theorem dL_gone_328 : decode cL_gone 328 = .ok (.invokestatic 82, 3) := by decide +kernel
theorem dL_gone_331 : decode cL_gone 331 = .ok (.iconst (-1), 1) := by decide +kernel
theorem dL_gone_332 : decode cL_gone 332 = .ok (.if_icmp .eq 48, 3) := by decide +kernel
theorem dL_gone_335 : decode cL_gone 335 = .ok (.goto 13, 3) := by decide +kernel
theorem dL_gone_338 : decode cL_gone 338 = .ok (.iload 10, 2) := by decide +kernel
theorem dL_gone_340 : decode cL_gone 340 = .ok (.ifCond .ne 8, 3) := by decide +kernel
theorem dL_gone_343 : decode cL_gone 343 = .ok (.iload 8, 2) := by decide +kernel
theorem dL_gone_345 : decode cL_gone 345 = .ok (.ifCond .ne 35, 3) := by decide +kernel
theorem dL_gone_348 : decode cL_gone 348 = .ok (.aload_n 0, 1) := by decide +kernel
theorem dL_gone_349 : decode cL_gone 349 = .ok (.iload_n 2, 1) := by decide +kernel
theorem dL_gone_350 : decode cL_gone 350 = .ok (.invokestatic 90, 3) := by decide +kernel
theorem dL_gone_353 : decode cL_gone 353 = .ok (.iload 12, 2) := by decide +kernel
theorem dL_gone_355 : decode cL_gone 355 = .ok (.if_icmp .ne 25, 3) := by decide +kernel
theorem dL_gone_358 : decode cL_gone 358 = .ok (.iload 5, 2) := by decide +kernel
theorem dL_gone_360 : decode cL_gone 360 = .ok (.bipush 8, 2) := by decide +kernel
theorem dL_gone_362 : decode cL_gone 362 = .ok (.if_icmp .eq 14, 3) := by decide +kernel
theorem dL_gone_365 : decode cL_gone 365 = .ok (.aload_n 0, 1) := by decide +kernel
theorem dL_gone_366 : decode cL_gone 366 = .ok (.iload_n 2, 1) := by decide +kernel
theorem dL_gone_367 : decode cL_gone 367 = .ok (.iload 5, 2) := by decide +kernel
theorem dL_gone_369 : decode cL_gone 369 = .ok (.invokestatic 98, 3) := by decide +kernel
theorem dL_gone_372 : decode cL_gone 372 = .ok (.iconst (-1), 1) := by decide +kernel
theorem dL_gone_373 : decode cL_gone 373 = .ok (.if_icmp .ne 7, 3) := by decide +kernel
theorem dL_gone_376 : decode cL_gone 376 = .ok (.iconst 1, 1) := by decide +kernel
theorem dL_gone_377 : decode cL_gone 377 = .ok (.goto 4, 3) := by decide +kernel
theorem dL_gone_380 : decode cL_gone 380 = .ok (.iconst 0, 1) := by decide +kernel
theorem dL_gone_381 : decode cL_gone 381 = .ok (.istore 13, 2) := by decide +kernel
theorem dL_gone_383 : decode cL_gone 383 = .ok (.iload 13, 2) := by decide +kernel
theorem dL_gone_385 : decode cL_gone 385 = .ok (.ifCond .eq 59, 3) := by decide +kernel
theorem dL_gone_388 : decode cL_gone 388 = .ok (.aload_n 0, 1) := by decide +kernel
theorem dL_gone_389 : decode cL_gone 389 = .ok (.iload_n 2, 1) := by decide +kernel
theorem dL_gone_390 : decode cL_gone 390 = .ok (.iconst 0, 1) := by decide +kernel
theorem dL_gone_391 : decode cL_gone 391 = .ok (.invokestatic 77, 3) := by decide +kernel
theorem dL_gone_394 : decode cL_gone 394 = .ok (.ldc 21, 2) := by decide +kernel
theorem dL_gone_396 : decode cL_gone 396 = .ok (.if_icmp .ne 48, 3) := by decide +kernel
theorem dL_gone_399 : decode cL_gone 399 = .ok (.aload_n 0, 1) := by decide +kernel
theorem dL_gone_400 : decode cL_gone 400 = .ok (.iload_n 2, 1) := by decide +kernel
theorem dL_gone_401 : decode cL_gone 401 = .ok (.iload_n 3, 1) := by decide +kernel
theorem dL_gone_402 : decode cL_gone 402 = .ok (.invokestatic 77, 3) := by decide +kernel
theorem dL_gone_405 : decode cL_gone 405 = .ok (.ldc 18, 2) := by decide +kernel
theorem dL_gone_407 : decode cL_gone 407 = .ok (.if_icmp .ne 37, 3) := by decide +kernel
theorem dL_gone_410 : decode cL_gone 410 = .ok (.aload_n 0, 1) := by decide +kernel
theorem dL_gone_411 : decode cL_gone 411 = .ok (.iload_n 2, 1) := by decide +kernel
theorem dL_gone_412 : decode cL_gone 412 = .ok (.invokestatic 100, 3) := by decide +kernel
theorem dL_gone_415 : decode cL_gone 415 = .ok (.ldc 21, 2) := by decide +kernel
theorem dL_gone_417 : decode cL_gone 417 = .ok (.if_icmp .ne 27, 3) := by decide +kernel
theorem dL_gone_420 : decode cL_gone 420 = .ok (.aload_n 0, 1) := by decide +kernel
theorem dL_gone_421 : decode cL_gone 421 = .ok (.iload_n 2, 1) := by decide +kernel
theorem dL_gone_422 : decode cL_gone 422 = .ok (.invokestatic 102, 3) := by decide +kernel
theorem dL_gone_425 : decode cL_gone 425 = .ok (.ldc 21, 2) := by decide +kernel
theorem dL_gone_427 : decode cL_gone 427 = .ok (.if_icmp .ne 17, 3) := by decide +kernel
theorem dL_gone_430 : decode cL_gone 430 = .ok (.aload_n 0, 1) := by decide +kernel
theorem dL_gone_431 : decode cL_gone 431 = .ok (.iload_n 2, 1) := by decide +kernel
theorem dL_gone_432 : decode cL_gone 432 = .ok (.invokestatic 104, 3) := by decide +kernel
theorem dL_gone_435 : decode cL_gone 435 = .ok (.ldc 21, 2) := by decide +kernel
theorem dL_gone_437 : decode cL_gone 437 = .ok (.if_icmp .ne 7, 3) := by decide +kernel
theorem dL_gone_440 : decode cL_gone 440 = .ok (.iconst 1, 1) := by decide +kernel
theorem dL_gone_441 : decode cL_gone 441 = .ok (.goto 4, 3) := by decide +kernel
theorem dL_gone_444 : decode cL_gone 444 = .ok (.iconst 0, 1) := by decide +kernel
theorem dL_gone_445 : decode cL_gone 445 = .ok (.ireturn, 1) := by decide +kernel
