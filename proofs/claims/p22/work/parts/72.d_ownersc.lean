theorem dL_owners_292 : decode cL_owners 292 = .ok (.imul, 1) := by decide +kernel
theorem dL_owners_293 : decode cL_owners 293 = .ok (.iconst 1, 1) := by decide +kernel
theorem dL_owners_294 : decode cL_owners 294 = .ok (.iadd, 1) := by decide +kernel
theorem dL_owners_295 : decode cL_owners 295 = .ok (.iaload, 1) := by decide +kernel
theorem dL_owners_296 : decode cL_owners 296 = .ok (.ifCond .le 38, 3) := by decide +kernel
theorem dL_owners_299 : decode cL_owners 299 = .ok (.iload 5, 2) := by decide +kernel
theorem dL_owners_301 : decode cL_owners 301 = .ok (.aload_n 0, 1) := by decide +kernel
theorem dL_owners_302 : decode cL_owners 302 = .ok (.iload 6, 2) := by decide +kernel
theorem dL_owners_304 : decode cL_owners 304 = .ok (.invokestatic 90, 3) := by decide +kernel
theorem dL_owners_307 : decode cL_owners 307 = .ok (.iconst 3, 1) := by decide +kernel
theorem dL_owners_308 : decode cL_owners 308 = .ok (.if_icmp .ne 7, 3) := by decide +kernel
theorem dL_owners_311 : decode cL_owners 311 = .ok (.iconst 1, 1) := by decide +kernel
theorem dL_owners_312 : decode cL_owners 312 = .ok (.goto 4, 3) := by decide +kernel
theorem dL_owners_315 : decode cL_owners 315 = .ok (.iconst 0, 1) := by decide +kernel
theorem dL_owners_316 : decode cL_owners 316 = .ok (.iadd, 1) := by decide +kernel
theorem dL_owners_317 : decode cL_owners 317 = .ok (.istore 5, 2) := by decide +kernel
theorem dL_owners_319 : decode cL_owners 319 = .ok (.aload_n 0, 1) := by decide +kernel
theorem dL_owners_320 : decode cL_owners 320 = .ok (.iload 6, 2) := by decide +kernel
theorem dL_owners_322 : decode cL_owners 322 = .ok (.invokestatic 92, 3) := by decide +kernel
theorem dL_owners_325 : decode cL_owners 325 = .ok (.aload_n 3, 1) := by decide +kernel
theorem dL_owners_326 : decode cL_owners 326 = .ok (.iload 6, 2) := by decide +kernel
theorem dL_owners_328 : decode cL_owners 328 = .ok (.iaload, 1) := by decide +kernel
theorem dL_owners_329 : decode cL_owners 329 = .ok (.if_icmp .eq 5, 3) := by decide +kernel
theorem dL_owners_332 : decode cL_owners 332 = .ok (.iconst 0, 1) := by decide +kernel
theorem dL_owners_333 : decode cL_owners 333 = .ok (.ireturn, 1) := by decide +kernel
theorem dL_owners_334 : decode cL_owners 334 = .ok (.iinc 6 1, 3) := by decide +kernel
theorem dL_owners_337 : decode cL_owners 337 = .ok (.goto (-57), 3) := by decide +kernel
theorem dL_owners_340 : decode cL_owners 340 = .ok (.aload_n 0, 1) := by decide +kernel
theorem dL_owners_341 : decode cL_owners 341 = .ok (.invokevirtual 106, 3) := by decide +kernel
theorem dL_owners_344 : decode cL_owners 344 = .ok (.iload 4, 2) := by decide +kernel
theorem dL_owners_346 : decode cL_owners 346 = .ok (.if_icmp .ne 92, 3) := by decide +kernel
theorem dL_owners_349 : decode cL_owners 349 = .ok (.aload_n 0, 1) := by decide +kernel
theorem dL_owners_350 : decode cL_owners 350 = .ok (.invokevirtual 110, 3) := by decide +kernel
theorem dL_owners_353 : decode cL_owners 353 = .ok (.iload 5, 2) := by decide +kernel
theorem dL_owners_355 : decode cL_owners 355 = .ok (.if_icmp .ne 83, 3) := by decide +kernel
theorem dL_owners_358 : decode cL_owners 358 = .ok (.aload_n 0, 1) := by decide +kernel
theorem dL_owners_359 : decode cL_owners 359 = .ok (.invokevirtual 113, 3) := by decide +kernel
theorem dL_owners_362 : decode cL_owners 362 = .ok (.aload_n 2, 1) := by decide +kernel
theorem dL_owners_363 : decode cL_owners 363 = .ok (.iconst 0, 1) := by decide +kernel
theorem dL_owners_364 : decode cL_owners 364 = .ok (.iaload, 1) := by decide +kernel
theorem dL_owners_365 : decode cL_owners 365 = .ok (.if_icmp .ne 73, 3) := by decide +kernel
theorem dL_owners_368 : decode cL_owners 368 = .ok (.aload_n 0, 1) := by decide +kernel
theorem dL_owners_369 : decode cL_owners 369 = .ok (.bipush 40, 2) := by decide +kernel
theorem dL_owners_371 : decode cL_owners 371 = .ok (.invokestatic 82, 3) := by decide +kernel
theorem dL_owners_374 : decode cL_owners 374 = .ok (.ldc 28, 2) := by decide +kernel
theorem dL_owners_376 : decode cL_owners 376 = .ok (.if_icmp .ne 62, 3) := by decide +kernel
theorem dL_owners_379 : decode cL_owners 379 = .ok (.aload_n 0, 1) := by decide +kernel
theorem dL_owners_380 : decode cL_owners 380 = .ok (.iconst (-1), 1) := by decide +kernel
theorem dL_owners_381 : decode cL_owners 381 = .ok (.invokestatic 84, 3) := by decide +kernel
theorem dL_owners_384 : decode cL_owners 384 = .ok (.ldc 28, 2) := by decide +kernel
theorem dL_owners_386 : decode cL_owners 386 = .ok (.if_icmp .ne 52, 3) := by decide +kernel
theorem dL_owners_389 : decode cL_owners 389 = .ok (.aload_n 0, 1) := by decide +kernel
theorem dL_owners_390 : decode cL_owners 390 = .ok (.bipush 40, 2) := by decide +kernel
theorem dL_owners_392 : decode cL_owners 392 = .ok (.iconst 4, 1) := by decide +kernel
theorem dL_owners_393 : decode cL_owners 393 = .ok (.invokestatic 80, 3) := by decide +kernel
theorem dL_owners_396 : decode cL_owners 396 = .ok (.ldc 28, 2) := by decide +kernel
theorem dL_owners_398 : decode cL_owners 398 = .ok (.if_icmp .ne 40, 3) := by decide +kernel
theorem dL_owners_401 : decode cL_owners 401 = .ok (.aload_n 0, 1) := by decide +kernel
theorem dL_owners_402 : decode cL_owners 402 = .ok (.iconst 0, 1) := by decide +kernel
theorem dL_owners_403 : decode cL_owners 403 = .ok (.iconst 4, 1) := by decide +kernel
theorem dL_owners_404 : decode cL_owners 404 = .ok (.invokestatic 80, 3) := by decide +kernel
theorem dL_owners_407 : decode cL_owners 407 = .ok (.ldc 18, 2) := by decide +kernel
theorem dL_owners_409 : decode cL_owners 409 = .ok (.if_icmp .ne 29, 3) := by decide +kernel
theorem dL_owners_412 : decode cL_owners 412 = .ok (.aload_n 0, 1) := by decide +kernel
theorem dL_owners_413 : decode cL_owners 413 = .ok (.aload_n 2, 1) := by decide +kernel
theorem dL_owners_414 : decode cL_owners 414 = .ok (.iconst 0, 1) := by decide +kernel
theorem dL_owners_415 : decode cL_owners 415 = .ok (.iaload, 1) := by decide +kernel
theorem dL_owners_416 : decode cL_owners 416 = .ok (.invokestatic 72, 3) := by decide +kernel
theorem dL_owners_419 : decode cL_owners 419 = .ok (.ldc 28, 2) := by decide +kernel
theorem dL_owners_421 : decode cL_owners 421 = .ok (.if_icmp .ne 17, 3) := by decide +kernel
theorem dL_owners_424 : decode cL_owners 424 = .ok (.aload_n 0, 1) := by decide +kernel
theorem dL_owners_425 : decode cL_owners 425 = .ok (.iconst (-1), 1) := by decide +kernel
theorem dL_owners_426 : decode cL_owners 426 = .ok (.invokestatic 86, 3) := by decide +kernel
theorem dL_owners_429 : decode cL_owners 429 = .ok (.ldc 28, 2) := by decide +kernel
theorem dL_owners_431 : decode cL_owners 431 = .ok (.if_icmp .ne 7, 3) := by decide +kernel
theorem dL_owners_434 : decode cL_owners 434 = .ok (.iconst 1, 1) := by decide +kernel
theorem dL_owners_435 : decode cL_owners 435 = .ok (.goto 4, 3) := by decide +kernel
theorem dL_owners_438 : decode cL_owners 438 = .ok (.iconst 0, 1) := by decide +kernel
theorem dL_owners_439 : decode cL_owners 439 = .ok (.ireturn, 1) := by decide +kernel
