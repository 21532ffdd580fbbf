theorem d_LW_357 : decode code 357 = .ok (.iaload, 1) := by decide +kernel
theorem d_LW_358 : decode code 358 = .ok (.invokevirtual 54, 3) := by decide +kernel
theorem d_LW_361 : decode code 361 = .ok (.aload_n 2, 1) := by decide +kernel
theorem d_LW_362 : decode code 362 = .ok (.aload_n 0, 1) := by decide +kernel
theorem d_LW_363 : decode code 363 = .ok (.iload_n 3, 1) := by decide +kernel
theorem d_LW_364 : decode code 364 = .ok (.iconst 1, 1) := by decide +kernel
theorem d_LW_365 : decode code 365 = .ok (.iadd, 1) := by decide +kernel
theorem d_LW_366 : decode code 366 = .ok (.iaload, 1) := by decide +kernel
theorem d_LW_367 : decode code 367 = .ok (.invokevirtual 58, 3) := by decide +kernel
theorem d_LW_370 : decode code 370 = .ok (.if_icmp .eq 87, 3) := by decide +kernel
theorem d_LW_373 : decode code 373 = .ok (.iconst 0, 1) := by decide +kernel
theorem d_LW_374 : decode code 374 = .ok (.ireturn, 1) := by decide +kernel
theorem d_LW_375 : decode code 375 = .ok (.aload_n 1, 1) := by decide +kernel
theorem d_LW_376 : decode code 376 = .ok (.invokevirtual 59, 3) := by decide +kernel
theorem d_LW_379 : decode code 379 = .ok (.aload_n 2, 1) := by decide +kernel
theorem d_LW_380 : decode code 380 = .ok (.invokevirtual 62, 3) := by decide +kernel
theorem d_LW_383 : decode code 383 = .ok (.if_icmp .eq 74, 3) := by decide +kernel
theorem d_LW_386 : decode code 386 = .ok (.iconst 0, 1) := by decide +kernel
theorem d_LW_387 : decode code 387 = .ok (.ireturn, 1) := by decide +kernel
theorem d_LW_388 : decode code 388 = .ok (.aload_n 1, 1) := by decide +kernel
theorem d_LW_389 : decode code 389 = .ok (.aload_n 0, 1) := by decide +kernel
theorem d_LW_390 : decode code 390 = .ok (.iload_n 3, 1) := by decide +kernel
theorem d_LW_391 : decode code 391 = .ok (.iconst 1, 1) := by decide +kernel
theorem d_LW_392 : decode code 392 = .ok (.iadd, 1) := by decide +kernel
theorem d_LW_393 : decode code 393 = .ok (.iaload, 1) := by decide +kernel
theorem d_LW_394 : decode code 394 = .ok (.invokevirtual 63, 3) := by decide +kernel
theorem d_LW_397 : decode code 397 = .ok (.aload_n 2, 1) := by decide +kernel
theorem d_LW_398 : decode code 398 = .ok (.aload_n 0, 1) := by decide +kernel
theorem d_LW_399 : decode code 399 = .ok (.iload_n 3, 1) := by decide +kernel
theorem d_LW_400 : decode code 400 = .ok (.iconst 1, 1) := by decide +kernel
theorem d_LW_401 : decode code 401 = .ok (.iadd, 1) := by decide +kernel
theorem d_LW_402 : decode code 402 = .ok (.iaload, 1) := by decide +kernel
theorem d_LW_403 : decode code 403 = .ok (.invokevirtual 66, 3) := by decide +kernel
theorem d_LW_406 : decode code 406 = .ok (.if_icmp .eq 51, 3) := by decide +kernel
theorem d_LW_409 : decode code 409 = .ok (.iconst 0, 1) := by decide +kernel
theorem d_LW_410 : decode code 410 = .ok (.ireturn, 1) := by decide +kernel
theorem d_LW_411 : decode code 411 = .ok (.aload_n 1, 1) := by decide +kernel
theorem d_LW_412 : decode code 412 = .ok (.aload_n 0, 1) := by decide +kernel
theorem d_LW_413 : decode code 413 = .ok (.iload_n 3, 1) := by decide +kernel
theorem d_LW_414 : decode code 414 = .ok (.iconst 1, 1) := by decide +kernel
theorem d_LW_415 : decode code 415 = .ok (.iadd, 1) := by decide +kernel
theorem d_LW_416 : decode code 416 = .ok (.iaload, 1) := by decide +kernel
theorem d_LW_417 : decode code 417 = .ok (.invokevirtual 67, 3) := by decide +kernel
theorem d_LW_420 : decode code 420 = .ok (.aload_n 2, 1) := by decide +kernel
theorem d_LW_421 : decode code 421 = .ok (.aload_n 0, 1) := by decide +kernel
theorem d_LW_422 : decode code 422 = .ok (.iload_n 3, 1) := by decide +kernel
theorem d_LW_423 : decode code 423 = .ok (.iconst 1, 1) := by decide +kernel
theorem d_LW_424 : decode code 424 = .ok (.iadd, 1) := by decide +kernel
theorem d_LW_425 : decode code 425 = .ok (.iaload, 1) := by decide +kernel
theorem d_LW_426 : decode code 426 = .ok (.invokevirtual 70, 3) := by decide +kernel
theorem d_LW_429 : decode code 429 = .ok (.if_icmp .eq 28, 3) := by decide +kernel
theorem d_LW_432 : decode code 432 = .ok (.iconst 0, 1) := by decide +kernel
theorem d_LW_433 : decode code 433 = .ok (.ireturn, 1) := by decide +kernel
theorem d_LW_434 : decode code 434 = .ok (.aload_n 1, 1) := by decide +kernel
theorem d_LW_435 : decode code 435 = .ok (.aload_n 0, 1) := by decide +kernel
theorem d_LW_436 : decode code 436 = .ok (.iload_n 3, 1) := by decide +kernel
theorem d_LW_437 : decode code 437 = .ok (.iconst 1, 1) := by decide +kernel
theorem d_LW_438 : decode code 438 = .ok (.iadd, 1) := by decide +kernel
theorem d_LW_439 : decode code 439 = .ok (.iaload, 1) := by decide +kernel
theorem d_LW_440 : decode code 440 = .ok (.invokevirtual 71, 3) := by decide +kernel
theorem d_LW_443 : decode code 443 = .ok (.aload_n 2, 1) := by decide +kernel
theorem d_LW_444 : decode code 444 = .ok (.aload_n 0, 1) := by decide +kernel
theorem d_LW_445 : decode code 445 = .ok (.iload_n 3, 1) := by decide +kernel
theorem d_LW_446 : decode code 446 = .ok (.iconst 1, 1) := by decide +kernel
theorem d_LW_447 : decode code 447 = .ok (.iadd, 1) := by decide +kernel
theorem d_LW_448 : decode code 448 = .ok (.iaload, 1) := by decide +kernel
theorem d_LW_449 : decode code 449 = .ok (.invokevirtual 74, 3) := by decide +kernel
theorem d_LW_452 : decode code 452 = .ok (.if_icmp .eq 5, 3) := by decide +kernel
theorem d_LW_455 : decode code 455 = .ok (.iconst 0, 1) := by decide +kernel
theorem d_LW_456 : decode code 456 = .ok (.ireturn, 1) := by decide +kernel
theorem d_LW_457 : decode code 457 = .ok (.iinc 3 6, 3) := by decide +kernel
theorem d_LW_460 : decode code 460 = .ok (.goto (-442), 3) := by decide +kernel
theorem d_LW_463 : decode code 463 = .ok (.iconst 1, 1) := by decide +kernel
theorem d_LW_464 : decode code 464 = .ok (.ireturn, 1) := by decide +kernel
