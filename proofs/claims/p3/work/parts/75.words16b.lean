theorem d_Model_valid_426 : decode prog_14_method_34_code 426 = .ok (.iconst 4, 1) := by decide +kernel
theorem d_Model_valid_427 : decode prog_14_method_34_code 427 = .ok (.if_icmp .ne 9, 3) := by decide +kernel
theorem d_Model_valid_436 : decode prog_14_method_34_code 436 = .ok (.aload_n 0, 1) := by decide +kernel
theorem d_Model_valid_437 : decode prog_14_method_34_code 437 = .ok (.iload 6, 2) := by decide +kernel
theorem d_Model_valid_439 : decode prog_14_method_34_code 439 = .ok (.iload 6, 2) := by decide +kernel
theorem d_Model_valid_441 : decode prog_14_method_34_code 441 = .ok (.iconst 3, 1) := by decide +kernel
theorem d_Model_valid_442 : decode prog_14_method_34_code 442 = .ok (.if_icmp .ne 7, 3) := by decide +kernel
theorem d_Model_valid_449 : decode prog_14_method_34_code 449 = .ok (.iload 7, 2) := by decide +kernel
theorem d_Model_valid_451 : decode prog_14_method_34_code 451 = .ok (.iload 7, 2) := by decide +kernel
theorem d_Model_valid_453 : decode prog_14_method_34_code 453 = .ok (.invokevirtual 375, 3) := by decide +kernel
theorem d_Model_valid_456 : decode prog_14_method_34_code 456 = .ok (.goto 697, 3) := by decide +kernel
theorem d_Model_valid_445 : decode prog_14_method_34_code 445 = .ok (.iconst 0, 1) := by decide +kernel
theorem d_Model_valid_446 : decode prog_14_method_34_code 446 = .ok (.goto 5, 3) := by decide +kernel
theorem d_Model_valid_430 : decode prog_14_method_34_code 430 = .ok (.aload_n 0, 1) := by decide +kernel
theorem d_Model_valid_431 : decode prog_14_method_34_code 431 = .ok (.iconst 1, 1) := by decide +kernel
theorem d_Model_valid_432 : decode prog_14_method_34_code 432 = .ok (.invokevirtual 372, 3) := by decide +kernel
theorem d_Model_valid_435 : decode prog_14_method_34_code 435 = .ok (.pop, 1) := by decide +kernel
theorem d_Model_valid_459 : decode prog_14_method_34_code 459 = .ok (.aload_n 0, 1) := by decide +kernel
theorem d_Model_valid_460 : decode prog_14_method_34_code 460 = .ok (.getfield 33, 3) := by decide +kernel
theorem d_Model_valid_463 : decode prog_14_method_34_code 463 = .ok (.aload_n 0, 1) := by decide +kernel
theorem d_Model_valid_464 : decode prog_14_method_34_code 464 = .ok (.getfield 369, 3) := by decide +kernel
theorem d_Model_valid_467 : decode prog_14_method_34_code 467 = .ok (.iconst 1, 1) := by decide +kernel
theorem d_Model_valid_468 : decode prog_14_method_34_code 468 = .ok (.isub, 1) := by decide +kernel
theorem d_Model_valid_469 : decode prog_14_method_34_code 469 = .ok (.iaload, 1) := by decide +kernel
theorem d_Model_valid_470 : decode prog_14_method_34_code 470 = .ok (.istore 7, 2) := by decide +kernel
theorem d_Model_valid_472 : decode prog_14_method_34_code 472 = .ok (.aload_n 0, 1) := by decide +kernel
theorem d_Model_valid_473 : decode prog_14_method_34_code 473 = .ok (.iload 7, 2) := by decide +kernel
theorem d_Model_valid_475 : decode prog_14_method_34_code 475 = .ok (.invokevirtual 384, 3) := by decide +kernel
theorem d_Model_valid_478 : decode prog_14_method_34_code 478 = .ok (.aload_n 0, 1) := by decide +kernel
theorem d_Model_valid_479 : decode prog_14_method_34_code 479 = .ok (.aload_n 0, 1) := by decide +kernel
theorem d_Model_valid_480 : decode prog_14_method_34_code 480 = .ok (.getfield 366, 3) := by decide +kernel
theorem d_Model_valid_483 : decode prog_14_method_34_code 483 = .ok (.aload_n 0, 1) := by decide +kernel
theorem d_Model_valid_484 : decode prog_14_method_34_code 484 = .ok (.getfield 36, 3) := by decide +kernel
theorem d_Model_valid_487 : decode prog_14_method_34_code 487 = .ok (.aload_n 0, 1) := by decide +kernel
theorem d_Model_valid_488 : decode prog_14_method_34_code 488 = .ok (.getfield 369, 3) := by decide +kernel
theorem d_Model_valid_491 : decode prog_14_method_34_code 491 = .ok (.iconst 1, 1) := by decide +kernel
theorem d_Model_valid_492 : decode prog_14_method_34_code 492 = .ok (.isub, 1) := by decide +kernel
theorem d_Model_valid_493 : decode prog_14_method_34_code 493 = .ok (.iaload, 1) := by decide +kernel
theorem d_Model_valid_494 : decode prog_14_method_34_code 494 = .ok (.if_icmp .ne 7, 3) := by decide +kernel
theorem d_Model_valid_501 : decode prog_14_method_34_code 501 = .ok (.iconst 0, 1) := by decide +kernel
theorem d_Model_valid_502 : decode prog_14_method_34_code 502 = .ok (.invokevirtual 351, 3) := by decide +kernel
theorem d_Model_valid_497 : decode prog_14_method_34_code 497 = .ok (.iconst 1, 1) := by decide +kernel
theorem d_Model_valid_498 : decode prog_14_method_34_code 498 = .ok (.goto 4, 3) := by decide +kernel
theorem d_Model_valid_505 : decode prog_14_method_34_code 505 = .ok (.aload_n 0, 1) := by decide +kernel
theorem d_Model_valid_506 : decode prog_14_method_34_code 506 = .ok (.dup, 1) := by decide +kernel
theorem d_Model_valid_507 : decode prog_14_method_34_code 507 = .ok (.getfield 369, 3) := by decide +kernel
theorem d_Model_valid_510 : decode prog_14_method_34_code 510 = .ok (.iconst 1, 1) := by decide +kernel
theorem d_Model_valid_511 : decode prog_14_method_34_code 511 = .ok (.isub, 1) := by decide +kernel
theorem d_Model_valid_512 : decode prog_14_method_34_code 512 = .ok (.putfield 369, 3) := by decide +kernel
theorem d_Model_valid_515 : decode prog_14_method_34_code 515 = .ok (.aload_n 0, 1) := by decide +kernel
theorem d_Model_valid_516 : decode prog_14_method_34_code 516 = .ok (.iconst 5, 1) := by decide +kernel
theorem d_Model_valid_517 : decode prog_14_method_34_code 517 = .ok (.iload 7, 2) := by decide +kernel
theorem d_Model_valid_519 : decode prog_14_method_34_code 519 = .ok (.iload 7, 2) := by decide +kernel
theorem d_Model_valid_521 : decode prog_14_method_34_code 521 = .ok (.invokevirtual 375, 3) := by decide +kernel
theorem d_Model_valid_524 : decode prog_14_method_34_code 524 = .ok (.goto 629, 3) := by decide +kernel
theorem d_Model_valid_1131 : decode prog_14_method_34_code 1131 = .ok (.iload 6, 2) := by decide +kernel
theorem d_Model_valid_1133 : decode prog_14_method_34_code 1133 = .ok (.bipush 65, 2) := by decide +kernel
theorem d_Model_valid_1135 : decode prog_14_method_34_code 1135 = .ok (.if_icmp .ge 12, 3) := by decide +kernel
theorem d_Model_valid_1147 : decode prog_14_method_34_code 1147 = .ok (.aload_n 0, 1) := by decide +kernel
theorem d_Model_valid_1148 : decode prog_14_method_34_code 1148 = .ok (.iload 6, 2) := by decide +kernel
theorem d_Model_valid_1150 : decode prog_14_method_34_code 1150 = .ok (.invokevirtual 402, 3) := by decide +kernel
theorem nm_Model_numeric : x_nm y_Model_numeric 1 = true := by decide +kernel
theorem d_Model_valid_1138 : decode prog_14_method_34_code 1138 = .ok (.aload_n 0, 1) := by decide +kernel
theorem d_Model_valid_1139 : decode prog_14_method_34_code 1139 = .ok (.iload 6, 2) := by decide +kernel
theorem d_Model_valid_1141 : decode prog_14_method_34_code 1141 = .ok (.invokevirtual 399, 3) := by decide +kernel
theorem nm_Model_access : x_nm y_Model_access 1 = true := by decide +kernel
theorem d_Model_valid_1144 : decode prog_14_method_34_code 1144 = .ok (.goto 9, 3) := by decide +kernel
theorem d_Model_valid_527 : decode prog_14_method_34_code 527 = .ok (.aload_n 0, 1) := by decide +kernel
theorem d_Model_valid_528 : decode prog_14_method_34_code 528 = .ok (.getfield 33, 3) := by decide +kernel
theorem d_Model_valid_531 : decode prog_14_method_34_code 531 = .ok (.aload_n 0, 1) := by decide +kernel
theorem d_Model_valid_532 : decode prog_14_method_34_code 532 = .ok (.getfield 369, 3) := by decide +kernel
theorem d_Model_valid_535 : decode prog_14_method_34_code 535 = .ok (.iconst 1, 1) := by decide +kernel
theorem d_Model_valid_536 : decode prog_14_method_34_code 536 = .ok (.isub, 1) := by decide +kernel
theorem d_Model_valid_537 : decode prog_14_method_34_code 537 = .ok (.iaload, 1) := by decide +kernel
theorem d_Model_valid_538 : decode prog_14_method_34_code 538 = .ok (.istore 7, 2) := by decide +kernel
theorem d_Model_valid_540 : decode prog_14_method_34_code 540 = .ok (.aload_n 0, 1) := by decide +kernel
theorem d_Model_valid_541 : decode prog_14_method_34_code 541 = .ok (.iload 7, 2) := by decide +kernel
theorem d_Model_valid_543 : decode prog_14_method_34_code 543 = .ok (.invokevirtual 384, 3) := by decide +kernel
theorem d_Model_valid_546 : decode prog_14_method_34_code 546 = .ok (.aload_n 0, 1) := by decide +kernel
theorem d_Model_valid_547 : decode prog_14_method_34_code 547 = .ok (.aload_n 0, 1) := by decide +kernel
theorem d_Model_valid_548 : decode prog_14_method_34_code 548 = .ok (.getfield 366, 3) := by decide +kernel
theorem d_Model_valid_551 : decode prog_14_method_34_code 551 = .ok (.aload_n 0, 1) := by decide +kernel
theorem d_Model_valid_552 : decode prog_14_method_34_code 552 = .ok (.getfield 36, 3) := by decide +kernel
theorem d_Model_valid_555 : decode prog_14_method_34_code 555 = .ok (.aload_n 0, 1) := by decide +kernel
theorem d_Model_valid_556 : decode prog_14_method_34_code 556 = .ok (.getfield 369, 3) := by decide +kernel
theorem d_Model_valid_559 : decode prog_14_method_34_code 559 = .ok (.iconst 1, 1) := by decide +kernel
theorem d_Model_valid_560 : decode prog_14_method_34_code 560 = .ok (.isub, 1) := by decide +kernel
theorem d_Model_valid_561 : decode prog_14_method_34_code 561 = .ok (.iaload, 1) := by decide +kernel
theorem d_Model_valid_562 : decode prog_14_method_34_code 562 = .ok (.if_icmp .ne 27, 3) := by decide +kernel
theorem d_Model_valid_589 : decode prog_14_method_34_code 589 = .ok (.iconst 0, 1) := by decide +kernel
theorem d_Model_valid_590 : decode prog_14_method_34_code 590 = .ok (.invokevirtual 351, 3) := by decide +kernel
theorem d_Model_valid_565 : decode prog_14_method_34_code 565 = .ok (.aload_n 0, 1) := by decide +kernel
theorem d_Model_valid_566 : decode prog_14_method_34_code 566 = .ok (.getfield 39, 3) := by decide +kernel
theorem d_Model_valid_569 : decode prog_14_method_34_code 569 = .ok (.aload_n 0, 1) := by decide +kernel
theorem d_Model_valid_570 : decode prog_14_method_34_code 570 = .ok (.getfield 369, 3) := by decide +kernel
theorem d_Model_valid_573 : decode prog_14_method_34_code 573 = .ok (.iconst 1, 1) := by decide +kernel
theorem d_Model_valid_574 : decode prog_14_method_34_code 574 = .ok (.isub, 1) := by decide +kernel
theorem d_Model_valid_575 : decode prog_14_method_34_code 575 = .ok (.iaload, 1) := by decide +kernel
theorem d_Model_valid_576 : decode prog_14_method_34_code 576 = .ok (.iconst 4, 1) := by decide +kernel
theorem d_Model_valid_577 : decode prog_14_method_34_code 577 = .ok (.if_icmp .ne 8, 3) := by decide +kernel
theorem d_Model_valid_585 : decode prog_14_method_34_code 585 = .ok (.iconst 1, 1) := by decide +kernel
