theorem dL_holds_376 : decode cL_holds 376 = .ok (.iconst 0, 1) := by decide +kernel
theorem dL_holds_377 : decode cL_holds 377 = .ok (.if_icmp .eq 5, 3) := by decide +kernel
theorem dL_holds_380 : decode cL_holds 380 = .ok (.iconst 0, 1) := by decide +kernel
theorem dL_holds_381 : decode cL_holds 381 = .ok (.ireturn, 1) := by decide +kernel
theorem dL_holds_382 : decode cL_holds 382 = .ok (.aload_n 0, 1) := by decide +kernel
theorem dL_holds_383 : decode cL_holds 383 = .ok (.iload 5, 2) := by decide +kernel
theorem dL_holds_385 : decode cL_holds 385 = .ok (.iconst 3, 1) := by decide +kernel
theorem dL_holds_386 : decode cL_holds 386 = .ok (.invokevirtual 18, 3) := by decide +kernel
theorem dL_holds_389 : decode cL_holds 389 = .ok (.istore 4, 2) := by decide +kernel
theorem dL_holds_391 : decode cL_holds 391 = .ok (.iinc 5 1, 3) := by decide +kernel
theorem dL_holds_394 : decode cL_holds 394 = .ok (.goto (-378), 3) := by decide +kernel
theorem dL_holds_397 : decode cL_holds 397 = .ok (.aload_n 0, 1) := by decide +kernel
theorem dL_holds_398 : decode cL_holds 398 = .ok (.invokevirtual 55, 3) := by decide +kernel
theorem dL_holds_401 : decode cL_holds 401 = .ok (.iload_n 2, 1) := by decide +kernel
theorem dL_holds_402 : decode cL_holds 402 = .ok (.ifCond .ne 7, 3) := by decide +kernel
theorem dL_holds_405 : decode cL_holds 405 = .ok (.dconst 1, 1) := by decide +kernel
theorem dL_holds_406 : decode cL_holds 406 = .ok (.goto 10, 3) := by decide +kernel
theorem dL_holds_409 : decode cL_holds 409 = .ok (.iload_n 2, 1) := by decide +kernel
theorem dL_holds_410 : decode cL_holds 410 = .ok (.iload_n 3, 1) := by decide +kernel
theorem dL_holds_411 : decode cL_holds 411 = .ok (.isub, 1) := by decide +kernel
theorem dL_holds_412 : decode cL_holds 412 = .ok (.i2d, 1) := by decide +kernel
theorem dL_holds_413 : decode cL_holds 413 = .ok (.iload_n 2, 1) := by decide +kernel
theorem dL_holds_414 : decode cL_holds 414 = .ok (.i2d, 1) := by decide +kernel
theorem dL_holds_415 : decode cL_holds 415 = .ok (.ddiv, 1) := by decide +kernel
theorem dL_holds_416 : decode cL_holds 416 = .ok (.dcmp .l, 1) := by decide +kernel
theorem dL_holds_417 : decode cL_holds 417 = .ok (.ifCond .ne 7, 3) := by decide +kernel
theorem dL_holds_420 : decode cL_holds 420 = .ok (.iconst 1, 1) := by decide +kernel
theorem dL_holds_421 : decode cL_holds 421 = .ok (.goto 4, 3) := by decide +kernel
theorem dL_holds_424 : decode cL_holds 424 = .ok (.iconst 0, 1) := by decide +kernel
theorem dL_holds_425 : decode cL_holds 425 = .ok (.istore 5, 2) := by decide +kernel
theorem dL_holds_427 : decode cL_holds 427 = .ok (.iload_n 2, 1) := by decide +kernel
theorem dL_holds_428 : decode cL_holds 428 = .ok (.ifCond .ne 31, 3) := by decide +kernel
theorem dL_holds_431 : decode cL_holds 431 = .ok (.aload_n 0, 1) := by decide +kernel
theorem dL_holds_432 : decode cL_holds 432 = .ok (.bipush 7, 2) := by decide +kernel
theorem dL_holds_434 : decode cL_holds 434 = .ok (.invokevirtual 12, 3) := by decide +kernel
theorem dL_holds_437 : decode cL_holds 437 = .ok (.iconst (-1), 1) := by decide +kernel
theorem dL_holds_438 : decode cL_holds 438 = .ok (.if_icmp .ne 17, 3) := by decide +kernel
theorem dL_holds_441 : decode cL_holds 441 = .ok (.aload_n 0, 1) := by decide +kernel
theorem dL_holds_442 : decode cL_holds 442 = .ok (.bipush 8, 2) := by decide +kernel
theorem dL_holds_444 : decode cL_holds 444 = .ok (.invokevirtual 12, 3) := by decide +kernel
theorem dL_holds_447 : decode cL_holds 447 = .ok (.iconst (-1), 1) := by decide +kernel
theorem dL_holds_448 : decode cL_holds 448 = .ok (.if_icmp .ne 7, 3) := by decide +kernel
theorem dL_holds_451 : decode cL_holds 451 = .ok (.iconst 1, 1) := by decide +kernel
theorem dL_holds_452 : decode cL_holds 452 = .ok (.goto 84, 3) := by decide +kernel
theorem dL_holds_455 : decode cL_holds 455 = .ok (.iconst 0, 1) := by decide +kernel
theorem dL_holds_456 : decode cL_holds 456 = .ok (.goto 80, 3) := by decide +kernel
theorem dL_holds_459 : decode cL_holds 459 = .ok (.aload_n 0, 1) := by decide +kernel
theorem dL_holds_460 : decode cL_holds 460 = .ok (.bipush 7, 2) := by decide +kernel
theorem dL_holds_462 : decode cL_holds 462 = .ok (.invokevirtual 12, 3) := by decide +kernel
theorem dL_holds_465 : decode cL_holds 465 = .ok (.aload_n 0, 1) := by decide +kernel
theorem dL_holds_466 : decode cL_holds 466 = .ok (.aload_n 0, 1) := by decide +kernel
theorem dL_holds_467 : decode cL_holds 467 = .ok (.iconst 0, 1) := by decide +kernel
theorem dL_holds_468 : decode cL_holds 468 = .ok (.invokevirtual 59, 3) := by decide +kernel
theorem dL_holds_471 : decode cL_holds 471 = .ok (.iconst 5, 1) := by decide +kernel
theorem dL_holds_472 : decode cL_holds 472 = .ok (.invokevirtual 18, 3) := by decide +kernel
theorem dL_holds_475 : decode cL_holds 475 = .ok (.if_icmp .ne 60, 3) := by decide +kernel
theorem dL_holds_478 : decode cL_holds 478 = .ok (.aload_n 0, 1) := by decide +kernel
theorem dL_holds_479 : decode cL_holds 479 = .ok (.bipush 8, 2) := by decide +kernel
theorem dL_holds_481 : decode cL_holds 481 = .ok (.invokevirtual 12, 3) := by decide +kernel
theorem dL_holds_484 : decode cL_holds 484 = .ok (.aload_n 0, 1) := by decide +kernel
theorem dL_holds_485 : decode cL_holds 485 = .ok (.aload_n 0, 1) := by decide +kernel
theorem dL_holds_486 : decode cL_holds 486 = .ok (.iload_n 2, 1) := by decide +kernel
theorem dL_holds_487 : decode cL_holds 487 = .ok (.iconst 1, 1) := by decide +kernel
theorem dL_holds_488 : decode cL_holds 488 = .ok (.isub, 1) := by decide +kernel
theorem dL_holds_489 : decode cL_holds 489 = .ok (.invokevirtual 59, 3) := by decide +kernel
