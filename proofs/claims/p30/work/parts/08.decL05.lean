theorem dL_law_363 : decode cL_law 363 = .ok (.if_icmp .ne 7, 3) := by decide +kernel
theorem dL_law_366 : decode cL_law 366 = .ok (.iconst 1, 1) := by decide +kernel
theorem dL_law_367 : decode cL_law 367 = .ok (.goto 4, 3) := by decide +kernel
theorem dL_law_370 : decode cL_law 370 = .ok (.iconst 0, 1) := by decide +kernel
theorem dL_law_371 : decode cL_law 371 = .ok (.istore 4, 2) := by decide +kernel
theorem dL_law_373 : decode cL_law 373 = .ok (.goto 152, 3) := by decide +kernel
theorem dL_law_376 : decode cL_law 376 = .ok (.iload 7, 2) := by decide +kernel
theorem dL_law_378 : decode cL_law 378 = .ok (.bipush 16, 2) := by decide +kernel
theorem dL_law_380 : decode cL_law 380 = .ok (.if_icmp .ne 46, 3) := by decide +kernel
theorem dL_law_383 : decode cL_law 383 = .ok (.aload_n 1, 1) := by decide +kernel
theorem dL_law_384 : decode cL_law 384 = .ok (.iload 10, 2) := by decide +kernel
theorem dL_law_386 : decode cL_law 386 = .ok (.iload 8, 2) := by decide +kernel
theorem dL_law_388 : decode cL_law 388 = .ok (.bipush 6, 2) := by decide +kernel
theorem dL_law_390 : decode cL_law 390 = .ok (.idiv, 1) := by decide +kernel
theorem dL_law_391 : decode cL_law 391 = .ok (.bipush 64, 2) := by decide +kernel
theorem dL_law_393 : decode cL_law 393 = .ok (.irem, 1) := by decide +kernel
theorem dL_law_394 : decode cL_law 394 = .ok (.iconst (-1), 1) := by decide +kernel
theorem dL_law_395 : decode cL_law 395 = .ok (.invokestatic 116, 3) := by decide +kernel
theorem dL_law_398 : decode cL_law 398 = .ok (.aload_n 2, 1) := by decide +kernel
theorem dL_law_399 : decode cL_law 399 = .ok (.iload 10, 2) := by decide +kernel
theorem dL_law_401 : decode cL_law 401 = .ok (.iload 8, 2) := by decide +kernel
theorem dL_law_403 : decode cL_law 403 = .ok (.bipush 6, 2) := by decide +kernel
theorem dL_law_405 : decode cL_law 405 = .ok (.idiv, 1) := by decide +kernel
theorem dL_law_406 : decode cL_law 406 = .ok (.bipush 64, 2) := by decide +kernel
theorem dL_law_408 : decode cL_law 408 = .ok (.irem, 1) := by decide +kernel
theorem dL_law_409 : decode cL_law 409 = .ok (.iconst (-1), 1) := by decide +kernel
theorem dL_law_410 : decode cL_law 410 = .ok (.invokestatic 116, 3) := by decide +kernel
theorem dL_law_413 : decode cL_law 413 = .ok (.if_icmp .ne 7, 3) := by decide +kernel
theorem dL_law_416 : decode cL_law 416 = .ok (.iconst 1, 1) := by decide +kernel
theorem dL_law_417 : decode cL_law 417 = .ok (.goto 4, 3) := by decide +kernel
theorem dL_law_420 : decode cL_law 420 = .ok (.iconst 0, 1) := by decide +kernel
theorem dL_law_421 : decode cL_law 421 = .ok (.istore 4, 2) := by decide +kernel
theorem dL_law_423 : decode cL_law 423 = .ok (.goto 102, 3) := by decide +kernel
theorem dL_law_426 : decode cL_law 426 = .ok (.iload 7, 2) := by decide +kernel
theorem dL_law_428 : decode cL_law 428 = .ok (.bipush 17, 2) := by decide +kernel
theorem dL_law_430 : decode cL_law 430 = .ok (.if_icmp .ne 38, 3) := by decide +kernel
theorem dL_law_433 : decode cL_law 433 = .ok (.aload_n 1, 1) := by decide +kernel
theorem dL_law_434 : decode cL_law 434 = .ok (.iconst 1, 1) := by decide +kernel
theorem dL_law_435 : decode cL_law 435 = .ok (.iload 8, 2) := by decide +kernel
theorem dL_law_437 : decode cL_law 437 = .ok (.bipush 12, 2) := by decide +kernel
