theorem d_LW_law_378 : decode b_LW_law 378 = .ok (.if_icmp .eq 5, 3) := by decide +kernel
theorem d_LW_law_381 : decode b_LW_law 381 = .ok (.iconst 0, 1) := by decide +kernel
theorem d_LW_law_382 : decode b_LW_law 382 = .ok (.ireturn, 1) := by decide +kernel
theorem d_LW_law_383 : decode b_LW_law 383 = .ok (.iload 5, 2) := by decide +kernel
theorem d_LW_law_385 : decode b_LW_law 385 = .ok (.ifCond .ne 15, 3) := by decide +kernel
theorem d_LW_law_388 : decode b_LW_law 388 = .ok (.aload_n 3, 1) := by decide +kernel
theorem d_LW_law_389 : decode b_LW_law 389 = .ok (.iconst 0, 1) := by decide +kernel
theorem d_LW_law_390 : decode b_LW_law 390 = .ok (.laload, 1) := by decide +kernel
theorem d_LW_law_391 : decode b_LW_law 391 = .ok (.iload 6, 2) := by decide +kernel
theorem d_LW_law_393 : decode b_LW_law 393 = .ok (.i2l, 1) := by decide +kernel
theorem d_LW_law_394 : decode b_LW_law 394 = .ok (.lcmp, 1) := by decide +kernel
theorem d_LW_law_395 : decode b_LW_law 395 = .ok (.ifCond .eq 5, 3) := by decide +kernel
theorem d_LW_law_398 : decode b_LW_law 398 = .ok (.iconst 0, 1) := by decide +kernel
theorem d_LW_law_399 : decode b_LW_law 399 = .ok (.ireturn, 1) := by decide +kernel
theorem d_LW_law_400 : decode b_LW_law 400 = .ok (.goto 441, 3) := by decide +kernel
theorem d_LW_law_403 : decode b_LW_law 403 = .ok (.aload_n 1, 1) := by decide +kernel
theorem d_LW_law_404 : decode b_LW_law 404 = .ok (.aload_n 0, 1) := by decide +kernel
theorem d_LW_law_405 : decode b_LW_law 405 = .ok (.iload 4, 2) := by decide +kernel
theorem d_LW_law_407 : decode b_LW_law 407 = .ok (.iconst 1, 1) := by decide +kernel
theorem d_LW_law_408 : decode b_LW_law 408 = .ok (.iadd, 1) := by decide +kernel
theorem d_LW_law_409 : decode b_LW_law 409 = .ok (.iaload, 1) := by decide +kernel
theorem d_LW_law_410 : decode b_LW_law 410 = .ok (.aload_n 0, 1) := by decide +kernel
theorem d_LW_law_411 : decode b_LW_law 411 = .ok (.iload 4, 2) := by decide +kernel
theorem d_LW_law_413 : decode b_LW_law 413 = .ok (.iconst 2, 1) := by decide +kernel
theorem d_LW_law_414 : decode b_LW_law 414 = .ok (.iadd, 1) := by decide +kernel
theorem d_LW_law_415 : decode b_LW_law 415 = .ok (.iaload, 1) := by decide +kernel
theorem d_LW_law_416 : decode b_LW_law 416 = .ok (.aload_n 0, 1) := by decide +kernel
theorem d_LW_law_417 : decode b_LW_law 417 = .ok (.iload 4, 2) := by decide +kernel
theorem d_LW_law_419 : decode b_LW_law 419 = .ok (.iconst 3, 1) := by decide +kernel
theorem d_LW_law_420 : decode b_LW_law 420 = .ok (.iadd, 1) := by decide +kernel
theorem d_LW_law_421 : decode b_LW_law 421 = .ok (.iaload, 1) := by decide +kernel
theorem d_LW_law_422 : decode b_LW_law 422 = .ok (.aload_n 3, 1) := by decide +kernel
theorem d_LW_law_423 : decode b_LW_law 423 = .ok (.invokestatic 71, 3) := by decide +kernel
theorem d_LW_law_426 : decode b_LW_law 426 = .ok (.istore 5, 2) := by decide +kernel
theorem d_LW_law_428 : decode b_LW_law 428 = .ok (.aload_n 2, 1) := by decide +kernel
theorem d_LW_law_429 : decode b_LW_law 429 = .ok (.aload_n 0, 1) := by decide +kernel
theorem d_LW_law_430 : decode b_LW_law 430 = .ok (.iload 4, 2) := by decide +kernel
theorem d_LW_law_432 : decode b_LW_law 432 = .ok (.iconst 1, 1) := by decide +kernel
theorem d_LW_law_433 : decode b_LW_law 433 = .ok (.iadd, 1) := by decide +kernel
theorem d_LW_law_434 : decode b_LW_law 434 = .ok (.iaload, 1) := by decide +kernel
theorem d_LW_law_435 : decode b_LW_law 435 = .ok (.aload_n 0, 1) := by decide +kernel
theorem d_LW_law_436 : decode b_LW_law 436 = .ok (.iload 4, 2) := by decide +kernel
theorem d_LW_law_438 : decode b_LW_law 438 = .ok (.iconst 2, 1) := by decide +kernel
theorem d_LW_law_439 : decode b_LW_law 439 = .ok (.iadd, 1) := by decide +kernel
theorem d_LW_law_440 : decode b_LW_law 440 = .ok (.iaload, 1) := by decide +kernel
theorem d_LW_law_441 : decode b_LW_law 441 = .ok (.aload_n 0, 1) := by decide +kernel
theorem d_LW_law_442 : decode b_LW_law 442 = .ok (.iload 4, 2) := by decide +kernel
theorem d_LW_law_444 : decode b_LW_law 444 = .ok (.iconst 3, 1) := by decide +kernel
theorem d_LW_law_445 : decode b_LW_law 445 = .ok (.iadd, 1) := by decide +kernel
theorem d_LW_law_446 : decode b_LW_law 446 = .ok (.iaload, 1) := by decide +kernel
theorem d_LW_law_447 : decode b_LW_law 447 = .ok (.invokevirtual 73, 3) := by decide +kernel
theorem d_LW_law_450 : decode b_LW_law 450 = .ok (.istore 6, 2) := by decide +kernel
theorem d_LW_law_452 : decode b_LW_law 452 = .ok (.aload_n 2, 1) := by decide +kernel
theorem d_LW_law_453 : decode b_LW_law 453 = .ok (.invokevirtual 60, 3) := by decide +kernel
theorem d_LW_law_456 : decode b_LW_law 456 = .ok (.iload 5, 2) := by decide +kernel
theorem d_LW_law_458 : decode b_LW_law 458 = .ok (.if_icmp .eq 5, 3) := by decide +kernel
theorem d_LW_law_461 : decode b_LW_law 461 = .ok (.iconst 0, 1) := by decide +kernel
theorem d_LW_law_462 : decode b_LW_law 462 = .ok (.ireturn, 1) := by decide +kernel
theorem d_LW_law_463 : decode b_LW_law 463 = .ok (.iload 5, 2) := by decide +kernel
theorem d_LW_law_465 : decode b_LW_law 465 = .ok (.ifCond .ne 22, 3) := by decide +kernel
theorem d_LW_law_468 : decode b_LW_law 468 = .ok (.aload_n 3, 1) := by decide +kernel
theorem d_LW_law_469 : decode b_LW_law 469 = .ok (.iconst 0, 1) := by decide +kernel
theorem d_LW_law_470 : decode b_LW_law 470 = .ok (.laload, 1) := by decide +kernel
theorem d_LW_law_471 : decode b_LW_law 471 = .ok (.iload 6, 2) := by decide +kernel
theorem d_LW_law_473 : decode b_LW_law 473 = .ok (.ifCond .eq 7, 3) := by decide +kernel
theorem d_LW_law_476 : decode b_LW_law 476 = .ok (.lconst 1, 1) := by decide +kernel
theorem d_LW_law_477 : decode b_LW_law 477 = .ok (.goto 4, 3) := by decide +kernel
theorem d_LW_law_480 : decode b_LW_law 480 = .ok (.lconst 0, 1) := by decide +kernel
theorem d_LW_law_481 : decode b_LW_law 481 = .ok (.lcmp, 1) := by decide +kernel
theorem d_LW_law_482 : decode b_LW_law 482 = .ok (.ifCond .eq 5, 3) := by decide +kernel
theorem d_LW_law_485 : decode b_LW_law 485 = .ok (.iconst 0, 1) := by decide +kernel
theorem d_LW_law_486 : decode b_LW_law 486 = .ok (.ireturn, 1) := by decide +kernel
theorem d_LW_law_487 : decode b_LW_law 487 = .ok (.goto 354, 3) := by decide +kernel
theorem d_LW_law_490 : decode b_LW_law 490 = .ok (.aload_n 1, 1) := by decide +kernel
theorem d_LW_law_491 : decode b_LW_law 491 = .ok (.invokevirtual 74, 3) := by decide +kernel
theorem d_LW_law_494 : decode b_LW_law 494 = .ok (.aload_n 2, 1) := by decide +kernel
theorem d_LW_law_495 : decode b_LW_law 495 = .ok (.invokevirtual 77, 3) := by decide +kernel
theorem d_LW_law_498 : decode b_LW_law 498 = .ok (.if_icmp .eq 343, 3) := by decide +kernel
theorem d_LW_law_501 : decode b_LW_law 501 = .ok (.iconst 0, 1) := by decide +kernel
theorem d_LW_law_502 : decode b_LW_law 502 = .ok (.ireturn, 1) := by decide +kernel
theorem d_LW_law_503 : decode b_LW_law 503 = .ok (.aload_n 1, 1) := by decide +kernel
theorem d_LW_law_504 : decode b_LW_law 504 = .ok (.invokevirtual 78, 3) := by decide +kernel
theorem d_LW_law_507 : decode b_LW_law 507 = .ok (.aload_n 2, 1) := by decide +kernel
theorem d_LW_law_508 : decode b_LW_law 508 = .ok (.invokevirtual 81, 3) := by decide +kernel
theorem d_LW_law_511 : decode b_LW_law 511 = .ok (.if_icmp .eq 330, 3) := by decide +kernel
theorem d_LW_law_514 : decode b_LW_law 514 = .ok (.iconst 0, 1) := by decide +kernel
theorem d_LW_law_515 : decode b_LW_law 515 = .ok (.ireturn, 1) := by decide +kernel
theorem d_LW_law_516 : decode b_LW_law 516 = .ok (.aload_n 1, 1) := by decide +kernel
theorem d_LW_law_517 : decode b_LW_law 517 = .ok (.aload_n 0, 1) := by decide +kernel
theorem d_LW_law_518 : decode b_LW_law 518 = .ok (.iload 4, 2) := by decide +kernel
theorem d_LW_law_520 : decode b_LW_law 520 = .ok (.iconst 1, 1) := by decide +kernel
theorem d_LW_law_521 : decode b_LW_law 521 = .ok (.iadd, 1) := by decide +kernel
theorem d_LW_law_522 : decode b_LW_law 522 = .ok (.iaload, 1) := by decide +kernel
theorem d_LW_law_523 : decode b_LW_law 523 = .ok (.aload_n 3, 1) := by decide +kernel
theorem d_LW_law_524 : decode b_LW_law 524 = .ok (.invokestatic 82, 3) := by decide +kernel
theorem d_LW_law_527 : decode b_LW_law 527 = .ok (.istore 5, 2) := by decide +kernel
theorem d_LW_law_529 : decode b_LW_law 529 = .ok (.aload_n 2, 1) := by decide +kernel
theorem d_LW_law_530 : decode b_LW_law 530 = .ok (.aload_n 0, 1) := by decide +kernel
theorem d_LW_law_531 : decode b_LW_law 531 = .ok (.iload 4, 2) := by decide +kernel
theorem d_LW_law_533 : decode b_LW_law 533 = .ok (.iconst 1, 1) := by decide +kernel
