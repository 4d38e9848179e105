theorem d_L_law_395 : decode code 395 = .ok (.bipush 32, 2) := by decide +kernel
theorem d_L_law_397 : decode code 397 = .ok (.lshl, 1) := by decide +kernel
theorem d_L_law_398 : decode code 398 = .ok (.aload_n 0, 1) := by decide +kernel
theorem d_L_law_399 : decode code 399 = .ok (.iload_n 3, 1) := by decide +kernel
theorem d_L_law_400 : decode code 400 = .ok (.iconst 4, 1) := by decide +kernel
theorem d_L_law_401 : decode code 401 = .ok (.iadd, 1) := by decide +kernel
theorem d_L_law_402 : decode code 402 = .ok (.iaload, 1) := by decide +kernel
theorem d_L_law_403 : decode code 403 = .ok (.i2l, 1) := by decide +kernel
theorem d_L_law_404 : decode code 404 = .ok (.ldc2_w 23, 3) := by decide +kernel
theorem d_L_law_407 : decode code 407 = .ok (.land, 1) := by decide +kernel
theorem d_L_law_408 : decode code 408 = .ok (.lor, 1) := by decide +kernel
theorem d_L_law_409 : decode code 409 = .ok (.invokevirtual 39, 3) := by decide +kernel
theorem d_L_law_412 : decode code 412 = .ok (.aload_n 2, 1) := by decide +kernel
theorem d_L_law_413 : decode code 413 = .ok (.aload_n 0, 1) := by decide +kernel
theorem d_L_law_414 : decode code 414 = .ok (.iload_n 3, 1) := by decide +kernel
theorem d_L_law_415 : decode code 415 = .ok (.iconst 1, 1) := by decide +kernel
theorem d_L_law_416 : decode code 416 = .ok (.iadd, 1) := by decide +kernel
theorem d_L_law_417 : decode code 417 = .ok (.iaload, 1) := by decide +kernel
theorem d_L_law_418 : decode code 418 = .ok (.i2l, 1) := by decide +kernel
theorem d_L_law_419 : decode code 419 = .ok (.bipush 32, 2) := by decide +kernel
theorem d_L_law_421 : decode code 421 = .ok (.lshl, 1) := by decide +kernel
theorem d_L_law_422 : decode code 422 = .ok (.aload_n 0, 1) := by decide +kernel
theorem d_L_law_423 : decode code 423 = .ok (.iload_n 3, 1) := by decide +kernel
theorem d_L_law_424 : decode code 424 = .ok (.iconst 2, 1) := by decide +kernel
theorem d_L_law_425 : decode code 425 = .ok (.iadd, 1) := by decide +kernel
theorem d_L_law_426 : decode code 426 = .ok (.iaload, 1) := by decide +kernel
theorem d_L_law_427 : decode code 427 = .ok (.i2l, 1) := by decide +kernel
theorem d_L_law_428 : decode code 428 = .ok (.ldc2_w 23, 3) := by decide +kernel
theorem d_L_law_431 : decode code 431 = .ok (.land, 1) := by decide +kernel
theorem d_L_law_432 : decode code 432 = .ok (.lor, 1) := by decide +kernel
theorem d_L_law_433 : decode code 433 = .ok (.aload_n 0, 1) := by decide +kernel
theorem d_L_law_434 : decode code 434 = .ok (.iload_n 3, 1) := by decide +kernel
theorem d_L_law_435 : decode code 435 = .ok (.iconst 3, 1) := by decide +kernel
theorem d_L_law_436 : decode code 436 = .ok (.iadd, 1) := by decide +kernel
theorem d_L_law_437 : decode code 437 = .ok (.iaload, 1) := by decide +kernel
theorem d_L_law_438 : decode code 438 = .ok (.i2l, 1) := by decide +kernel
theorem d_L_law_439 : decode code 439 = .ok (.bipush 32, 2) := by decide +kernel
theorem d_L_law_441 : decode code 441 = .ok (.lshl, 1) := by decide +kernel
theorem d_L_law_442 : decode code 442 = .ok (.aload_n 0, 1) := by decide +kernel
theorem d_L_law_443 : decode code 443 = .ok (.iload_n 3, 1) := by decide +kernel
theorem d_L_law_444 : decode code 444 = .ok (.iconst 4, 1) := by decide +kernel
theorem d_L_law_445 : decode code 445 = .ok (.iadd, 1) := by decide +kernel
theorem d_L_law_446 : decode code 446 = .ok (.iaload, 1) := by decide +kernel
theorem d_L_law_447 : decode code 447 = .ok (.i2l, 1) := by decide +kernel
theorem d_L_law_448 : decode code 448 = .ok (.ldc2_w 23, 3) := by decide +kernel
theorem d_L_law_451 : decode code 451 = .ok (.land, 1) := by decide +kernel
theorem d_L_law_452 : decode code 452 = .ok (.lor, 1) := by decide +kernel
theorem d_L_law_453 : decode code 453 = .ok (.invokevirtual 42, 3) := by decide +kernel
theorem d_L_law_456 : decode code 456 = .ok (.lcmp, 1) := by decide +kernel
theorem d_L_law_457 : decode code 457 = .ok (.ifCond .eq 448, 3) := by decide +kernel
theorem d_L_law_460 : decode code 460 = .ok (.iconst 0, 1) := by decide +kernel
theorem d_L_law_461 : decode code 461 = .ok (.ireturn, 1) := by decide +kernel
theorem d_L_law_462 : decode code 462 = .ok (.aload_n 1, 1) := by decide +kernel
theorem d_L_law_463 : decode code 463 = .ok (.aload_n 0, 1) := by decide +kernel
theorem d_L_law_464 : decode code 464 = .ok (.iload_n 3, 1) := by decide +kernel
theorem d_L_law_465 : decode code 465 = .ok (.iconst 1, 1) := by decide +kernel
theorem d_L_law_466 : decode code 466 = .ok (.iadd, 1) := by decide +kernel
theorem d_L_law_467 : decode code 467 = .ok (.iaload, 1) := by decide +kernel
theorem d_L_law_468 : decode code 468 = .ok (.i2l, 1) := by decide +kernel
theorem d_L_law_469 : decode code 469 = .ok (.bipush 32, 2) := by decide +kernel
theorem d_L_law_471 : decode code 471 = .ok (.lshl, 1) := by decide +kernel
theorem d_L_law_472 : decode code 472 = .ok (.aload_n 0, 1) := by decide +kernel
theorem d_L_law_473 : decode code 473 = .ok (.iload_n 3, 1) := by decide +kernel
theorem d_L_law_474 : decode code 474 = .ok (.iconst 2, 1) := by decide +kernel
theorem d_L_law_475 : decode code 475 = .ok (.iadd, 1) := by decide +kernel
theorem d_L_law_476 : decode code 476 = .ok (.iaload, 1) := by decide +kernel
theorem d_L_law_477 : decode code 477 = .ok (.i2l, 1) := by decide +kernel
theorem d_L_law_478 : decode code 478 = .ok (.ldc2_w 23, 3) := by decide +kernel
theorem d_L_law_481 : decode code 481 = .ok (.land, 1) := by decide +kernel
theorem d_L_law_482 : decode code 482 = .ok (.lor, 1) := by decide +kernel
theorem d_L_law_483 : decode code 483 = .ok (.aload_n 0, 1) := by decide +kernel
theorem d_L_law_484 : decode code 484 = .ok (.iload_n 3, 1) := by decide +kernel
theorem d_L_law_485 : decode code 485 = .ok (.iconst 3, 1) := by decide +kernel
theorem d_L_law_486 : decode code 486 = .ok (.iadd, 1) := by decide +kernel
theorem d_L_law_487 : decode code 487 = .ok (.iaload, 1) := by decide +kernel
theorem d_L_law_488 : decode code 488 = .ok (.invokevirtual 43, 3) := by decide +kernel
theorem d_L_law_491 : decode code 491 = .ok (.aload_n 2, 1) := by decide +kernel
theorem d_L_law_492 : decode code 492 = .ok (.aload_n 0, 1) := by decide +kernel
theorem d_L_law_493 : decode code 493 = .ok (.iload_n 3, 1) := by decide +kernel
theorem d_L_law_494 : decode code 494 = .ok (.iconst 1, 1) := by decide +kernel
