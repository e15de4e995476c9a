theorem d_Model_valid2_630 : decode prog_14_method_26_code 630 = .ok (.iconst 1, 1) := by decide +kernel
theorem d_Model_valid2_631 : decode prog_14_method_26_code 631 = .ok (.goto 4, 3) := by decide +kernel
theorem d_Model_valid2_638 : decode prog_14_method_26_code 638 = .ok (.iinc 1 1, 3) := by decide +kernel
theorem d_Model_valid2_641 : decode prog_14_method_26_code 641 = .ok (.goto (-72), 3) := by decide +kernel
theorem d_Model_valid2_433 : decode prog_14_method_26_code 433 = .ok (.aload_n 0, 1) := by decide +kernel
theorem d_Model_valid2_434 : decode prog_14_method_26_code 434 = .ok (.aload_n 0, 1) := by decide +kernel
theorem d_Model_valid2_435 : decode prog_14_method_26_code 435 = .ok (.getfield 16, 3) := by decide +kernel
theorem d_Model_valid2_438 : decode prog_14_method_26_code 438 = .ok (.getfield 292, 3) := by decide +kernel
theorem d_Model_valid2_441 : decode prog_14_method_26_code 441 = .ok (.iload_n 1, 1) := by decide +kernel
theorem d_Model_valid2_442 : decode prog_14_method_26_code 442 = .ok (.iaload, 1) := by decide +kernel
theorem d_Model_valid2_443 : decode prog_14_method_26_code 443 = .ok (.ifCond .ne 44, 3) := by decide +kernel
theorem d_Model_valid2_487 : decode prog_14_method_26_code 487 = .ok (.iconst 0, 1) := by decide +kernel
theorem d_Model_valid2_488 : decode prog_14_method_26_code 488 = .ok (.invokevirtual 351, 3) := by decide +kernel
theorem d_Model_valid2_446 : decode prog_14_method_26_code 446 = .ok (.aload_n 0, 1) := by decide +kernel
theorem d_Model_valid2_447 : decode prog_14_method_26_code 447 = .ok (.getfield 16, 3) := by decide +kernel
theorem d_Model_valid2_450 : decode prog_14_method_26_code 450 = .ok (.getfield 116, 3) := by decide +kernel
theorem d_Model_valid2_453 : decode prog_14_method_26_code 453 = .ok (.iconst 1, 1) := by decide +kernel
theorem d_Model_valid2_454 : decode prog_14_method_26_code 454 = .ok (.if_icmp .ne 33, 3) := by decide +kernel
theorem d_Model_valid2_457 : decode prog_14_method_26_code 457 = .ok (.aload_n 0, 1) := by decide +kernel
theorem d_Model_valid2_458 : decode prog_14_method_26_code 458 = .ok (.aload_n 0, 1) := by decide +kernel
theorem d_Model_valid2_459 : decode prog_14_method_26_code 459 = .ok (.getfield 16, 3) := by decide +kernel
theorem d_Model_valid2_462 : decode prog_14_method_26_code 462 = .ok (.getfield 295, 3) := by decide +kernel
theorem d_Model_valid2_465 : decode prog_14_method_26_code 465 = .ok (.iload_n 1, 1) := by decide +kernel
theorem d_Model_valid2_466 : decode prog_14_method_26_code 466 = .ok (.iaload, 1) := by decide +kernel
theorem d_Model_valid2_467 : decode prog_14_method_26_code 467 = .ok (.aload_n 0, 1) := by decide +kernel
theorem d_Model_valid2_468 : decode prog_14_method_26_code 468 = .ok (.getfield 16, 3) := by decide +kernel
theorem d_Model_valid2_471 : decode prog_14_method_26_code 471 = .ok (.getfield 298, 3) := by decide +kernel
theorem d_Model_valid2_474 : decode prog_14_method_26_code 474 = .ok (.iload_n 1, 1) := by decide +kernel
theorem d_Model_valid2_475 : decode prog_14_method_26_code 475 = .ok (.laload, 1) := by decide +kernel
theorem d_Model_valid2_476 : decode prog_14_method_26_code 476 = .ok (.iconst 1, 1) := by decide +kernel
theorem d_Model_valid2_477 : decode prog_14_method_26_code 477 = .ok (.invokevirtual 355, 3) := by decide +kernel
theorem d_Model_valid2_480 : decode prog_14_method_26_code 480 = .ok (.ifCond .eq 7, 3) := by decide +kernel
theorem d_Model_valid2_483 : decode prog_14_method_26_code 483 = .ok (.iconst 1, 1) := by decide +kernel
theorem d_Model_valid2_484 : decode prog_14_method_26_code 484 = .ok (.goto 4, 3) := by decide +kernel
theorem d_Model_valid2_491 : decode prog_14_method_26_code 491 = .ok (.aload_n 0, 1) := by decide +kernel
theorem d_Model_valid2_492 : decode prog_14_method_26_code 492 = .ok (.aload_n 0, 1) := by decide +kernel
theorem d_Model_valid2_493 : decode prog_14_method_26_code 493 = .ok (.getfield 16, 3) := by decide +kernel
theorem d_Model_valid2_496 : decode prog_14_method_26_code 496 = .ok (.getfield 304, 3) := by decide +kernel
theorem d_Model_valid2_499 : decode prog_14_method_26_code 499 = .ok (.iload_n 1, 1) := by decide +kernel
theorem d_Model_valid2_500 : decode prog_14_method_26_code 500 = .ok (.iaload, 1) := by decide +kernel
theorem d_Model_valid2_501 : decode prog_14_method_26_code 501 = .ok (.putfield 50, 3) := by decide +kernel
theorem d_Model_valid2_504 : decode prog_14_method_26_code 504 = .ok (.aload_n 0, 1) := by decide +kernel
theorem d_Model_valid2_505 : decode prog_14_method_26_code 505 = .ok (.aload_n 0, 1) := by decide +kernel
theorem d_Model_valid2_506 : decode prog_14_method_26_code 506 = .ok (.getfield 16, 3) := by decide +kernel
theorem d_Model_valid2_509 : decode prog_14_method_26_code 509 = .ok (.getfield 98, 3) := by decide +kernel
theorem d_Model_valid2_512 : decode prog_14_method_26_code 512 = .ok (.putfield 53, 3) := by decide +kernel
theorem d_Model_valid2_515 : decode prog_14_method_26_code 515 = .ok (.iconst 0, 1) := by decide +kernel
theorem d_Model_valid2_516 : decode prog_14_method_26_code 516 = .ok (.istore_n 2, 1) := by decide +kernel
theorem d_Model_valid2_517 : decode prog_14_method_26_code 517 = .ok (.iload_n 2, 1) := by decide +kernel
theorem d_Model_valid2_518 : decode prog_14_method_26_code 518 = .ok (.aload_n 0, 1) := by decide +kernel
theorem d_Model_valid2_519 : decode prog_14_method_26_code 519 = .ok (.getfield 16, 3) := by decide +kernel
theorem d_Model_valid2_522 : decode prog_14_method_26_code 522 = .ok (.getfield 301, 3) := by decide +kernel
theorem d_Model_valid2_525 : decode prog_14_method_26_code 525 = .ok (.iload_n 1, 1) := by decide +kernel
theorem d_Model_valid2_526 : decode prog_14_method_26_code 526 = .ok (.iaload, 1) := by decide +kernel
theorem d_Model_valid2_527 : decode prog_14_method_26_code 527 = .ok (.if_icmp .ge 34, 3) := by decide +kernel
theorem d_Model_valid2_561 : decode prog_14_method_26_code 561 = .ok (.iinc 1 1, 3) := by decide +kernel
theorem d_Model_valid2_564 : decode prog_14_method_26_code 564 = .ok (.goto (-142), 3) := by decide +kernel
theorem d_Model_valid2_530 : decode prog_14_method_26_code 530 = .ok (.aload_n 0, 1) := by decide +kernel
theorem d_Model_valid2_531 : decode prog_14_method_26_code 531 = .ok (.aload_n 0, 1) := by decide +kernel
theorem d_Model_valid2_532 : decode prog_14_method_26_code 532 = .ok (.invokevirtual 68, 3) := by decide +kernel
theorem d_Model_valid2_535 : decode prog_14_method_26_code 535 = .ok (.aload_n 0, 1) := by decide +kernel
theorem d_Model_valid2_536 : decode prog_14_method_26_code 536 = .ok (.getfield 16, 3) := by decide +kernel
theorem d_Model_valid2_539 : decode prog_14_method_26_code 539 = .ok (.getfield 110, 3) := by decide +kernel
theorem d_Model_valid2_542 : decode prog_14_method_26_code 542 = .ok (.i2l, 1) := by decide +kernel
theorem d_Model_valid2_543 : decode prog_14_method_26_code 543 = .ok (.lcmp, 1) := by decide +kernel
theorem d_Model_valid2_544 : decode prog_14_method_26_code 544 = .ok (.ifCond .ge 7, 3) := by decide +kernel
theorem d_Model_valid2_551 : decode prog_14_method_26_code 551 = .ok (.iconst 0, 1) := by decide +kernel
theorem d_Model_valid2_552 : decode prog_14_method_26_code 552 = .ok (.invokevirtual 351, 3) := by decide +kernel
theorem d_Model_valid2_547 : decode prog_14_method_26_code 547 = .ok (.iconst 1, 1) := by decide +kernel
theorem d_Model_valid2_548 : decode prog_14_method_26_code 548 = .ok (.goto 4, 3) := by decide +kernel
theorem d_Model_valid2_555 : decode prog_14_method_26_code 555 = .ok (.iinc 2 1, 3) := by decide +kernel
theorem d_Model_valid2_558 : decode prog_14_method_26_code 558 = .ok (.goto (-41), 3) := by decide +kernel
theorem d_Model_valid2_342 : decode prog_14_method_26_code 342 = .ok (.aload_n 0, 1) := by decide +kernel
theorem d_Model_valid2_343 : decode prog_14_method_26_code 343 = .ok (.aload_n 0, 1) := by decide +kernel
theorem d_Model_valid2_344 : decode prog_14_method_26_code 344 = .ok (.getfield 16, 3) := by decide +kernel
theorem d_Model_valid2_347 : decode prog_14_method_26_code 347 = .ok (.getfield 137, 3) := by decide +kernel
theorem d_Model_valid2_350 : decode prog_14_method_26_code 350 = .ok (.aload_n 0, 1) := by decide +kernel
theorem d_Model_valid2_351 : decode prog_14_method_26_code 351 = .ok (.getfield 16, 3) := by decide +kernel
theorem d_Model_valid2_354 : decode prog_14_method_26_code 354 = .ok (.getfield 110, 3) := by decide +kernel
theorem d_Model_valid2_357 : decode prog_14_method_26_code 357 = .ok (.if_icmp .ge 59, 3) := by decide +kernel
theorem d_Model_valid2_416 : decode prog_14_method_26_code 416 = .ok (.iconst 0, 1) := by decide +kernel
theorem d_Model_valid2_417 : decode prog_14_method_26_code 417 = .ok (.invokevirtual 351, 3) := by decide +kernel
theorem d_Model_valid2_360 : decode prog_14_method_26_code 360 = .ok (.aload_n 0, 1) := by decide +kernel
theorem d_Model_valid2_361 : decode prog_14_method_26_code 361 = .ok (.getfield 16, 3) := by decide +kernel
theorem d_Model_valid2_364 : decode prog_14_method_26_code 364 = .ok (.getfield 228, 3) := by decide +kernel
theorem d_Model_valid2_367 : decode prog_14_method_26_code 367 = .ok (.aload_n 0, 1) := by decide +kernel
theorem d_Model_valid2_368 : decode prog_14_method_26_code 368 = .ok (.getfield 16, 3) := by decide +kernel
theorem d_Model_valid2_371 : decode prog_14_method_26_code 371 = .ok (.getfield 234, 3) := by decide +kernel
theorem d_Model_valid2_374 : decode prog_14_method_26_code 374 = .ok (.aload_n 0, 1) := by decide +kernel
theorem d_Model_valid2_375 : decode prog_14_method_26_code 375 = .ok (.getfield 16, 3) := by decide +kernel
theorem d_Model_valid2_378 : decode prog_14_method_26_code 378 = .ok (.getfield 137, 3) := by decide +kernel
theorem d_Model_valid2_381 : decode prog_14_method_26_code 381 = .ok (.iaload, 1) := by decide +kernel
theorem d_Model_valid2_382 : decode prog_14_method_26_code 382 = .ok (.iaload, 1) := by decide +kernel
theorem d_Model_valid2_383 : decode prog_14_method_26_code 383 = .ok (.ifCond .ne 33, 3) := by decide +kernel
theorem d_Model_valid2_386 : decode prog_14_method_26_code 386 = .ok (.aload_n 0, 1) := by decide +kernel
theorem d_Model_valid2_387 : decode prog_14_method_26_code 387 = .ok (.getfield 16, 3) := by decide +kernel
theorem d_Model_valid2_390 : decode prog_14_method_26_code 390 = .ok (.getfield 231, 3) := by decide +kernel
theorem d_Model_valid2_393 : decode prog_14_method_26_code 393 = .ok (.aload_n 0, 1) := by decide +kernel
theorem d_Model_valid2_394 : decode prog_14_method_26_code 394 = .ok (.getfield 16, 3) := by decide +kernel
theorem d_Model_valid2_397 : decode prog_14_method_26_code 397 = .ok (.getfield 234, 3) := by decide +kernel
