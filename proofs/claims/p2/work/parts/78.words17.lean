def y_Model_valid2 : MethodName := ⟨"WasmReaderModel", "valid", "()V"⟩
theorem m_931 : Cond.code y_Model_valid prog_14_method_34_code 10 none ∈ xtb := x_in (List.mem_of_getElem? (i := 1559) (by decide +kernel)) (by decide +kernel)
theorem m_932 : Cond.methodLink "WasmReaderModel" 363 y_Model_valid ∈ xtb := x_in (List.mem_of_getElem? (i := 1556) (by decide +kernel)) (by decide +kernel)
theorem m_933 : Cond.instanceMethod y_Model_valid ∈ xtb := x_in (List.mem_of_getElem? (i := 1558) (by decide +kernel)) (by decide +kernel)
theorem m_934 : Cond.selects "WasmReaderModel" y_Model_valid y_Model_valid ∈ xtb := x_in (List.mem_of_getElem? (i := 74) (by decide +kernel)) (by decide +kernel)
theorem m_935 : Cond.methodLink "WasmReaderModel" 355 y_Model_isInitial ∈ xtb := x_in (List.mem_of_getElem? (i := 1549) (by decide +kernel)) (by decide +kernel)
theorem m_936 : Cond.code y_Model_isInitial prog_14_method_25_code 5 (some .boolean) ∈ xtb := x_in (List.mem_of_getElem? (i := 1552) (by decide +kernel)) (by decide +kernel)
theorem m_937 : Cond.instanceMethod y_Model_isInitial ∈ xtb := x_in (List.mem_of_getElem? (i := 1551) (by decide +kernel)) (by decide +kernel)
theorem m_938 : Cond.selects "WasmReaderModel" y_Model_isInitial y_Model_isInitial ∈ xtb := x_in (List.mem_of_getElem? (i := 73) (by decide +kernel)) (by decide +kernel)
theorem m_939 : Cond.methodLink "WasmReaderModel" 359 y_Model_isSame ∈ xtb := x_in (List.mem_of_getElem? (i := 1553) (by decide +kernel)) (by decide +kernel)
theorem m_940 : Cond.code y_Model_isSame prog_14_method_27_code 7 (some .boolean) ∈ xtb := x_in (List.mem_of_getElem? (i := 1555) (by decide +kernel)) (by decide +kernel)
theorem m_941 : Cond.static y_Model_isSame ∈ xtb := x_in (List.mem_of_getElem? (i := 1554) (by decide +kernel)) (by decide +kernel)
theorem d_Model_valid2_0 : decode prog_14_method_26_code 0 = .ok (.aload_n 0, 1) := by decide +kernel
theorem d_Model_valid2_1 : decode prog_14_method_26_code 1 = .ok (.aload_n 0, 1) := by decide +kernel
theorem d_Model_valid2_2 : decode prog_14_method_26_code 2 = .ok (.getfield 101, 3) := by decide +kernel
theorem d_Model_valid2_5 : decode prog_14_method_26_code 5 = .ok (.ifCond .ne 29, 3) := by decide +kernel
theorem d_Model_valid2_34 : decode prog_14_method_26_code 34 = .ok (.iconst 0, 1) := by decide +kernel
theorem d_Model_valid2_35 : decode prog_14_method_26_code 35 = .ok (.invokevirtual 351, 3) := by decide +kernel
theorem d_Model_valid2_8 : decode prog_14_method_26_code 8 = .ok (.aload_n 0, 1) := by decide +kernel
theorem d_Model_valid2_9 : decode prog_14_method_26_code 9 = .ok (.getfield 16, 3) := by decide +kernel
theorem d_Model_valid2_12 : decode prog_14_method_26_code 12 = .ok (.getfield 116, 3) := by decide +kernel
theorem d_Model_valid2_15 : decode prog_14_method_26_code 15 = .ok (.iconst 1, 1) := by decide +kernel
theorem d_Model_valid2_16 : decode prog_14_method_26_code 16 = .ok (.if_icmp .gt 18, 3) := by decide +kernel
theorem d_Model_valid2_19 : decode prog_14_method_26_code 19 = .ok (.aload_n 0, 1) := by decide +kernel
theorem d_Model_valid2_20 : decode prog_14_method_26_code 20 = .ok (.getfield 16, 3) := by decide +kernel
theorem d_Model_valid2_23 : decode prog_14_method_26_code 23 = .ok (.getfield 119, 3) := by decide +kernel
theorem d_Model_valid2_26 : decode prog_14_method_26_code 26 = .ok (.iconst 1, 1) := by decide +kernel
theorem d_Model_valid2_27 : decode prog_14_method_26_code 27 = .ok (.if_icmp .gt 7, 3) := by decide +kernel
theorem d_Model_valid2_30 : decode prog_14_method_26_code 30 = .ok (.iconst 1, 1) := by decide +kernel
theorem d_Model_valid2_31 : decode prog_14_method_26_code 31 = .ok (.goto 4, 3) := by decide +kernel
theorem d_Model_valid2_38 : decode prog_14_method_26_code 38 = .ok (.iconst 0, 1) := by decide +kernel
theorem d_Model_valid2_39 : decode prog_14_method_26_code 39 = .ok (.istore_n 1, 1) := by decide +kernel
theorem d_Model_valid2_40 : decode prog_14_method_26_code 40 = .ok (.iload_n 1, 1) := by decide +kernel
theorem d_Model_valid2_41 : decode prog_14_method_26_code 41 = .ok (.aload_n 0, 1) := by decide +kernel
theorem d_Model_valid2_42 : decode prog_14_method_26_code 42 = .ok (.getfield 16, 3) := by decide +kernel
theorem d_Model_valid2_45 : decode prog_14_method_26_code 45 = .ok (.getfield 110, 3) := by decide +kernel
theorem d_Model_valid2_48 : decode prog_14_method_26_code 48 = .ok (.if_icmp .ge 37, 3) := by decide +kernel
theorem d_Model_valid2_85 : decode prog_14_method_26_code 85 = .ok (.iconst 0, 1) := by decide +kernel
theorem d_Model_valid2_86 : decode prog_14_method_26_code 86 = .ok (.istore_n 1, 1) := by decide +kernel
theorem d_Model_valid2_87 : decode prog_14_method_26_code 87 = .ok (.iload_n 1, 1) := by decide +kernel
theorem d_Model_valid2_88 : decode prog_14_method_26_code 88 = .ok (.aload_n 0, 1) := by decide +kernel
theorem d_Model_valid2_89 : decode prog_14_method_26_code 89 = .ok (.getfield 16, 3) := by decide +kernel
theorem d_Model_valid2_92 : decode prog_14_method_26_code 92 = .ok (.getfield 122, 3) := by decide +kernel
theorem d_Model_valid2_95 : decode prog_14_method_26_code 95 = .ok (.if_icmp .ge 64, 3) := by decide +kernel
theorem d_Model_valid2_159 : decode prog_14_method_26_code 159 = .ok (.iconst 0, 1) := by decide +kernel
theorem d_Model_valid2_160 : decode prog_14_method_26_code 160 = .ok (.istore_n 1, 1) := by decide +kernel
theorem d_Model_valid2_161 : decode prog_14_method_26_code 161 = .ok (.iload_n 1, 1) := by decide +kernel
theorem d_Model_valid2_162 : decode prog_14_method_26_code 162 = .ok (.aload_n 0, 1) := by decide +kernel
theorem d_Model_valid2_163 : decode prog_14_method_26_code 163 = .ok (.getfield 16, 3) := by decide +kernel
theorem d_Model_valid2_166 : decode prog_14_method_26_code 166 = .ok (.getfield 125, 3) := by decide +kernel
theorem d_Model_valid2_169 : decode prog_14_method_26_code 169 = .ok (.if_icmp .ge 163, 3) := by decide +kernel
theorem d_Model_valid2_332 : decode prog_14_method_26_code 332 = .ok (.aload_n 0, 1) := by decide +kernel
theorem d_Model_valid2_333 : decode prog_14_method_26_code 333 = .ok (.getfield 16, 3) := by decide +kernel
theorem d_Model_valid2_336 : decode prog_14_method_26_code 336 = .ok (.getfield 137, 3) := by decide +kernel
theorem d_Model_valid2_339 : decode prog_14_method_26_code 339 = .ok (.ifCond .lt 81, 3) := by decide +kernel
theorem d_Model_valid2_420 : decode prog_14_method_26_code 420 = .ok (.iconst 0, 1) := by decide +kernel
theorem d_Model_valid2_421 : decode prog_14_method_26_code 421 = .ok (.istore_n 1, 1) := by decide +kernel
theorem d_Model_valid2_422 : decode prog_14_method_26_code 422 = .ok (.iload_n 1, 1) := by decide +kernel
theorem d_Model_valid2_423 : decode prog_14_method_26_code 423 = .ok (.aload_n 0, 1) := by decide +kernel
theorem d_Model_valid2_424 : decode prog_14_method_26_code 424 = .ok (.getfield 16, 3) := by decide +kernel
theorem d_Model_valid2_427 : decode prog_14_method_26_code 427 = .ok (.getfield 128, 3) := by decide +kernel
theorem d_Model_valid2_430 : decode prog_14_method_26_code 430 = .ok (.if_icmp .ge 137, 3) := by decide +kernel
theorem d_Model_valid2_567 : decode prog_14_method_26_code 567 = .ok (.iconst 0, 1) := by decide +kernel
theorem d_Model_valid2_568 : decode prog_14_method_26_code 568 = .ok (.istore_n 1, 1) := by decide +kernel
theorem d_Model_valid2_569 : decode prog_14_method_26_code 569 = .ok (.iload_n 1, 1) := by decide +kernel
theorem d_Model_valid2_570 : decode prog_14_method_26_code 570 = .ok (.aload_n 0, 1) := by decide +kernel
theorem d_Model_valid2_571 : decode prog_14_method_26_code 571 = .ok (.getfield 16, 3) := by decide +kernel
theorem d_Model_valid2_574 : decode prog_14_method_26_code 574 = .ok (.getfield 131, 3) := by decide +kernel
theorem d_Model_valid2_577 : decode prog_14_method_26_code 577 = .ok (.if_icmp .ge 67, 3) := by decide +kernel
theorem d_Model_valid2_644 : decode prog_14_method_26_code 644 = .ok (.iconst 0, 1) := by decide +kernel
theorem d_Model_valid2_645 : decode prog_14_method_26_code 645 = .ok (.istore_n 1, 1) := by decide +kernel
theorem d_Model_valid2_646 : decode prog_14_method_26_code 646 = .ok (.iload_n 1, 1) := by decide +kernel
theorem d_Model_valid2_647 : decode prog_14_method_26_code 647 = .ok (.aload_n 0, 1) := by decide +kernel
theorem d_Model_valid2_648 : decode prog_14_method_26_code 648 = .ok (.getfield 16, 3) := by decide +kernel
theorem d_Model_valid2_651 : decode prog_14_method_26_code 651 = .ok (.getfield 134, 3) := by decide +kernel
theorem d_Model_valid2_654 : decode prog_14_method_26_code 654 = .ok (.if_icmp .ge 14, 3) := by decide +kernel
theorem d_Model_valid2_668 : decode prog_14_method_26_code 668 = .ok (.return_, 1) := by decide +kernel
theorem d_Model_valid2_657 : decode prog_14_method_26_code 657 = .ok (.aload_n 0, 1) := by decide +kernel
theorem d_Model_valid2_658 : decode prog_14_method_26_code 658 = .ok (.iload_n 1, 1) := by decide +kernel
theorem d_Model_valid2_659 : decode prog_14_method_26_code 659 = .ok (.invokevirtual 363, 3) := by decide +kernel
theorem nm_Model_valid : x_nm y_Model_valid 1 = true := by decide +kernel
theorem d_Model_valid2_662 : decode prog_14_method_26_code 662 = .ok (.iinc 1 1, 3) := by decide +kernel
theorem d_Model_valid2_665 : decode prog_14_method_26_code 665 = .ok (.goto (-19), 3) := by decide +kernel
theorem d_Model_valid2_580 : decode prog_14_method_26_code 580 = .ok (.aload_n 0, 1) := by decide +kernel
theorem d_Model_valid2_581 : decode prog_14_method_26_code 581 = .ok (.aload_n 0, 1) := by decide +kernel
theorem d_Model_valid2_582 : decode prog_14_method_26_code 582 = .ok (.getfield 16, 3) := by decide +kernel
theorem d_Model_valid2_585 : decode prog_14_method_26_code 585 = .ok (.getfield 307, 3) := by decide +kernel
theorem d_Model_valid2_588 : decode prog_14_method_26_code 588 = .ok (.iload_n 1, 1) := by decide +kernel
theorem d_Model_valid2_589 : decode prog_14_method_26_code 589 = .ok (.iaload, 1) := by decide +kernel
theorem d_Model_valid2_590 : decode prog_14_method_26_code 590 = .ok (.ifCond .ne 44, 3) := by decide +kernel
theorem d_Model_valid2_634 : decode prog_14_method_26_code 634 = .ok (.iconst 0, 1) := by decide +kernel
theorem d_Model_valid2_635 : decode prog_14_method_26_code 635 = .ok (.invokevirtual 351, 3) := by decide +kernel
theorem d_Model_valid2_593 : decode prog_14_method_26_code 593 = .ok (.aload_n 0, 1) := by decide +kernel
theorem d_Model_valid2_594 : decode prog_14_method_26_code 594 = .ok (.getfield 16, 3) := by decide +kernel
theorem d_Model_valid2_597 : decode prog_14_method_26_code 597 = .ok (.getfield 119, 3) := by decide +kernel
theorem d_Model_valid2_600 : decode prog_14_method_26_code 600 = .ok (.iconst 1, 1) := by decide +kernel
theorem d_Model_valid2_601 : decode prog_14_method_26_code 601 = .ok (.if_icmp .ne 33, 3) := by decide +kernel
theorem d_Model_valid2_604 : decode prog_14_method_26_code 604 = .ok (.aload_n 0, 1) := by decide +kernel
theorem d_Model_valid2_605 : decode prog_14_method_26_code 605 = .ok (.aload_n 0, 1) := by decide +kernel
theorem d_Model_valid2_606 : decode prog_14_method_26_code 606 = .ok (.getfield 16, 3) := by decide +kernel
theorem d_Model_valid2_609 : decode prog_14_method_26_code 609 = .ok (.getfield 310, 3) := by decide +kernel
theorem d_Model_valid2_612 : decode prog_14_method_26_code 612 = .ok (.iload_n 1, 1) := by decide +kernel
theorem d_Model_valid2_613 : decode prog_14_method_26_code 613 = .ok (.iaload, 1) := by decide +kernel
theorem d_Model_valid2_614 : decode prog_14_method_26_code 614 = .ok (.aload_n 0, 1) := by decide +kernel
theorem d_Model_valid2_615 : decode prog_14_method_26_code 615 = .ok (.getfield 16, 3) := by decide +kernel
theorem d_Model_valid2_618 : decode prog_14_method_26_code 618 = .ok (.getfield 313, 3) := by decide +kernel
theorem d_Model_valid2_621 : decode prog_14_method_26_code 621 = .ok (.iload_n 1, 1) := by decide +kernel
theorem d_Model_valid2_622 : decode prog_14_method_26_code 622 = .ok (.laload, 1) := by decide +kernel
theorem d_Model_valid2_623 : decode prog_14_method_26_code 623 = .ok (.iconst 1, 1) := by decide +kernel
theorem d_Model_valid2_624 : decode prog_14_method_26_code 624 = .ok (.invokevirtual 355, 3) := by decide +kernel
theorem nm_Model_isInitial : x_nm y_Model_isInitial 3 = true := by decide +kernel
theorem d_Model_valid2_627 : decode prog_14_method_26_code 627 = .ok (.ifCond .eq 7, 3) := by decide +kernel
theorem d_Model_valid2_630 : decode prog_14_method_26_code 630 = .ok (.iconst 1, 1) := by decide +kernel
theorem d_Model_valid2_631 : decode prog_14_method_26_code 631 = .ok (.goto 4, 3) := by decide +kernel
theorem d_Model_valid2_638 : decode prog_14_method_26_code 638 = .ok (.iinc 1 1, 3) := by decide +kernel
theorem d_Model_valid2_641 : decode prog_14_method_26_code 641 = .ok (.goto (-72), 3) := by decide +kernel
theorem d_Model_valid2_433 : decode prog_14_method_26_code 433 = .ok (.aload_n 0, 1) := by decide +kernel
theorem d_Model_valid2_434 : decode prog_14_method_26_code 434 = .ok (.aload_n 0, 1) := by decide +kernel
theorem d_Model_valid2_435 : decode prog_14_method_26_code 435 = .ok (.getfield 16, 3) := by decide +kernel
theorem d_Model_valid2_438 : decode prog_14_method_26_code 438 = .ok (.getfield 292, 3) := by decide +kernel
theorem d_Model_valid2_441 : decode prog_14_method_26_code 441 = .ok (.iload_n 1, 1) := by decide +kernel
theorem d_Model_valid2_442 : decode prog_14_method_26_code 442 = .ok (.iaload, 1) := by decide +kernel
theorem d_Model_valid2_443 : decode prog_14_method_26_code 443 = .ok (.ifCond .ne 44, 3) := by decide +kernel
theorem d_Model_valid2_487 : decode prog_14_method_26_code 487 = .ok (.iconst 0, 1) := by decide +kernel
theorem d_Model_valid2_488 : decode prog_14_method_26_code 488 = .ok (.invokevirtual 351, 3) := by decide +kernel
theorem d_Model_valid2_446 : decode prog_14_method_26_code 446 = .ok (.aload_n 0, 1) := by decide +kernel
theorem d_Model_valid2_447 : decode prog_14_method_26_code 447 = .ok (.getfield 16, 3) := by decide +kernel
theorem d_Model_valid2_450 : decode prog_14_method_26_code 450 = .ok (.getfield 116, 3) := by decide +kernel
theorem d_Model_valid2_453 : decode prog_14_method_26_code 453 = .ok (.iconst 1, 1) := by decide +kernel
theorem d_Model_valid2_454 : decode prog_14_method_26_code 454 = .ok (.if_icmp .ne 33, 3) := by decide +kernel
theorem d_Model_valid2_457 : decode prog_14_method_26_code 457 = .ok (.aload_n 0, 1) := by decide +kernel
theorem d_Model_valid2_458 : decode prog_14_method_26_code 458 = .ok (.aload_n 0, 1) := by decide +kernel
theorem d_Model_valid2_459 : decode prog_14_method_26_code 459 = .ok (.getfield 16, 3) := by decide +kernel
theorem d_Model_valid2_462 : decode prog_14_method_26_code 462 = .ok (.getfield 295, 3) := by decide +kernel
theorem d_Model_valid2_465 : decode prog_14_method_26_code 465 = .ok (.iload_n 1, 1) := by decide +kernel
theorem d_Model_valid2_466 : decode prog_14_method_26_code 466 = .ok (.iaload, 1) := by decide +kernel
theorem d_Model_valid2_467 : decode prog_14_method_26_code 467 = .ok (.aload_n 0, 1) := by decide +kernel
theorem d_Model_valid2_468 : decode prog_14_method_26_code 468 = .ok (.getfield 16, 3) := by decide +kernel
theorem d_Model_valid2_471 : decode prog_14_method_26_code 471 = .ok (.getfield 298, 3) := by decide +kernel
theorem d_Model_valid2_474 : decode prog_14_method_26_code 474 = .ok (.iload_n 1, 1) := by decide +kernel
theorem d_Model_valid2_475 : decode prog_14_method_26_code 475 = .ok (.laload, 1) := by decide +kernel
theorem d_Model_valid2_476 : decode prog_14_method_26_code 476 = .ok (.iconst 1, 1) := by decide +kernel
theorem d_Model_valid2_477 : decode prog_14_method_26_code 477 = .ok (.invokevirtual 355, 3) := by decide +kernel
theorem d_Model_valid2_480 : decode prog_14_method_26_code 480 = .ok (.ifCond .eq 7, 3) := by decide +kernel
theorem d_Model_valid2_483 : decode prog_14_method_26_code 483 = .ok (.iconst 1, 1) := by decide +kernel
theorem d_Model_valid2_484 : decode prog_14_method_26_code 484 = .ok (.goto 4, 3) := by decide +kernel
theorem d_Model_valid2_491 : decode prog_14_method_26_code 491 = .ok (.aload_n 0, 1) := by decide +kernel
theorem d_Model_valid2_492 : decode prog_14_method_26_code 492 = .ok (.aload_n 0, 1) := by decide +kernel
theorem d_Model_valid2_493 : decode prog_14_method_26_code 493 = .ok (.getfield 16, 3) := by decide +kernel
theorem d_Model_valid2_496 : decode prog_14_method_26_code 496 = .ok (.getfield 304, 3) := by decide +kernel
theorem d_Model_valid2_499 : decode prog_14_method_26_code 499 = .ok (.iload_n 1, 1) := by decide +kernel
theorem d_Model_valid2_500 : decode prog_14_method_26_code 500 = .ok (.iaload, 1) := by decide +kernel
theorem d_Model_valid2_501 : decode prog_14_method_26_code 501 = .ok (.putfield 50, 3) := by decide +kernel
theorem d_Model_valid2_504 : decode prog_14_method_26_code 504 = .ok (.aload_n 0, 1) := by decide +kernel
theorem d_Model_valid2_505 : decode prog_14_method_26_code 505 = .ok (.aload_n 0, 1) := by decide +kernel
theorem d_Model_valid2_506 : decode prog_14_method_26_code 506 = .ok (.getfield 16, 3) := by decide +kernel
theorem d_Model_valid2_509 : decode prog_14_method_26_code 509 = .ok (.getfield 98, 3) := by decide +kernel
theorem d_Model_valid2_512 : decode prog_14_method_26_code 512 = .ok (.putfield 53, 3) := by decide +kernel
theorem d_Model_valid2_515 : decode prog_14_method_26_code 515 = .ok (.iconst 0, 1) := by decide +kernel
theorem d_Model_valid2_516 : decode prog_14_method_26_code 516 = .ok (.istore_n 2, 1) := by decide +kernel
theorem d_Model_valid2_517 : decode prog_14_method_26_code 517 = .ok (.iload_n 2, 1) := by decide +kernel
theorem d_Model_valid2_518 : decode prog_14_method_26_code 518 = .ok (.aload_n 0, 1) := by decide +kernel
theorem d_Model_valid2_519 : decode prog_14_method_26_code 519 = .ok (.getfield 16, 3) := by decide +kernel
theorem d_Model_valid2_522 : decode prog_14_method_26_code 522 = .ok (.getfield 301, 3) := by decide +kernel
theorem d_Model_valid2_525 : decode prog_14_method_26_code 525 = .ok (.iload_n 1, 1) := by decide +kernel
theorem d_Model_valid2_526 : decode prog_14_method_26_code 526 = .ok (.iaload, 1) := by decide +kernel
theorem d_Model_valid2_527 : decode prog_14_method_26_code 527 = .ok (.if_icmp .ge 34, 3) := by decide +kernel
theorem d_Model_valid2_561 : decode prog_14_method_26_code 561 = .ok (.iinc 1 1, 3) := by decide +kernel
theorem d_Model_valid2_564 : decode prog_14_method_26_code 564 = .ok (.goto (-142), 3) := by decide +kernel
theorem d_Model_valid2_530 : decode prog_14_method_26_code 530 = .ok (.aload_n 0, 1) := by decide +kernel
theorem d_Model_valid2_531 : decode prog_14_method_26_code 531 = .ok (.aload_n 0, 1) := by decide +kernel
theorem d_Model_valid2_532 : decode prog_14_method_26_code 532 = .ok (.invokevirtual 68, 3) := by decide +kernel
theorem d_Model_valid2_535 : decode prog_14_method_26_code 535 = .ok (.aload_n 0, 1) := by decide +kernel
theorem d_Model_valid2_536 : decode prog_14_method_26_code 536 = .ok (.getfield 16, 3) := by decide +kernel
theorem d_Model_valid2_539 : decode prog_14_method_26_code 539 = .ok (.getfield 110, 3) := by decide +kernel
theorem d_Model_valid2_542 : decode prog_14_method_26_code 542 = .ok (.i2l, 1) := by decide +kernel
theorem d_Model_valid2_543 : decode prog_14_method_26_code 543 = .ok (.lcmp, 1) := by decide +kernel
theorem d_Model_valid2_544 : decode prog_14_method_26_code 544 = .ok (.ifCond .ge 7, 3) := by decide +kernel
theorem d_Model_valid2_551 : decode prog_14_method_26_code 551 = .ok (.iconst 0, 1) := by decide +kernel
theorem d_Model_valid2_552 : decode prog_14_method_26_code 552 = .ok (.invokevirtual 351, 3) := by decide +kernel
theorem d_Model_valid2_547 : decode prog_14_method_26_code 547 = .ok (.iconst 1, 1) := by decide +kernel
theorem d_Model_valid2_548 : decode prog_14_method_26_code 548 = .ok (.goto 4, 3) := by decide +kernel
theorem d_Model_valid2_555 : decode prog_14_method_26_code 555 = .ok (.iinc 2 1, 3) := by decide +kernel
theorem d_Model_valid2_558 : decode prog_14_method_26_code 558 = .ok (.goto (-41), 3) := by decide +kernel
theorem d_Model_valid2_342 : decode prog_14_method_26_code 342 = .ok (.aload_n 0, 1) := by decide +kernel
theorem d_Model_valid2_343 : decode prog_14_method_26_code 343 = .ok (.aload_n 0, 1) := by decide +kernel
theorem d_Model_valid2_344 : decode prog_14_method_26_code 344 = .ok (.getfield 16, 3) := by decide +kernel
theorem d_Model_valid2_347 : decode prog_14_method_26_code 347 = .ok (.getfield 137, 3) := by decide +kernel
theorem d_Model_valid2_350 : decode prog_14_method_26_code 350 = .ok (.aload_n 0, 1) := by decide +kernel
theorem d_Model_valid2_351 : decode prog_14_method_26_code 351 = .ok (.getfield 16, 3) := by decide +kernel
theorem d_Model_valid2_354 : decode prog_14_method_26_code 354 = .ok (.getfield 110, 3) := by decide +kernel
theorem d_Model_valid2_357 : decode prog_14_method_26_code 357 = .ok (.if_icmp .ge 59, 3) := by decide +kernel
theorem d_Model_valid2_416 : decode prog_14_method_26_code 416 = .ok (.iconst 0, 1) := by decide +kernel
theorem d_Model_valid2_417 : decode prog_14_method_26_code 417 = .ok (.invokevirtual 351, 3) := by decide +kernel
theorem d_Model_valid2_360 : decode prog_14_method_26_code 360 = .ok (.aload_n 0, 1) := by decide +kernel
theorem d_Model_valid2_361 : decode prog_14_method_26_code 361 = .ok (.getfield 16, 3) := by decide +kernel
theorem d_Model_valid2_364 : decode prog_14_method_26_code 364 = .ok (.getfield 228, 3) := by decide +kernel
theorem d_Model_valid2_367 : decode prog_14_method_26_code 367 = .ok (.aload_n 0, 1) := by decide +kernel
theorem d_Model_valid2_368 : decode prog_14_method_26_code 368 = .ok (.getfield 16, 3) := by decide +kernel
theorem d_Model_valid2_371 : decode prog_14_method_26_code 371 = .ok (.getfield 234, 3) := by decide +kernel
theorem d_Model_valid2_374 : decode prog_14_method_26_code 374 = .ok (.aload_n 0, 1) := by decide +kernel
theorem d_Model_valid2_375 : decode prog_14_method_26_code 375 = .ok (.getfield 16, 3) := by decide +kernel
theorem d_Model_valid2_378 : decode prog_14_method_26_code 378 = .ok (.getfield 137, 3) := by decide +kernel
theorem d_Model_valid2_381 : decode prog_14_method_26_code 381 = .ok (.iaload, 1) := by decide +kernel
theorem d_Model_valid2_382 : decode prog_14_method_26_code 382 = .ok (.iaload, 1) := by decide +kernel
theorem d_Model_valid2_383 : decode prog_14_method_26_code 383 = .ok (.ifCond .ne 33, 3) := by decide +kernel
theorem d_Model_valid2_386 : decode prog_14_method_26_code 386 = .ok (.aload_n 0, 1) := by decide +kernel
theorem d_Model_valid2_387 : decode prog_14_method_26_code 387 = .ok (.getfield 16, 3) := by decide +kernel
theorem d_Model_valid2_390 : decode prog_14_method_26_code 390 = .ok (.getfield 231, 3) := by decide +kernel
theorem d_Model_valid2_393 : decode prog_14_method_26_code 393 = .ok (.aload_n 0, 1) := by decide +kernel
theorem d_Model_valid2_394 : decode prog_14_method_26_code 394 = .ok (.getfield 16, 3) := by decide +kernel
theorem d_Model_valid2_397 : decode prog_14_method_26_code 397 = .ok (.getfield 234, 3) := by decide +kernel
theorem d_Model_valid2_400 : decode prog_14_method_26_code 400 = .ok (.aload_n 0, 1) := by decide +kernel
theorem d_Model_valid2_401 : decode prog_14_method_26_code 401 = .ok (.getfield 16, 3) := by decide +kernel
theorem d_Model_valid2_404 : decode prog_14_method_26_code 404 = .ok (.getfield 137, 3) := by decide +kernel
theorem d_Model_valid2_407 : decode prog_14_method_26_code 407 = .ok (.iaload, 1) := by decide +kernel
theorem d_Model_valid2_408 : decode prog_14_method_26_code 408 = .ok (.iaload, 1) := by decide +kernel
theorem d_Model_valid2_409 : decode prog_14_method_26_code 409 = .ok (.ifCond .ne 7, 3) := by decide +kernel
theorem d_Model_valid2_412 : decode prog_14_method_26_code 412 = .ok (.iconst 1, 1) := by decide +kernel
theorem d_Model_valid2_413 : decode prog_14_method_26_code 413 = .ok (.goto 4, 3) := by decide +kernel
theorem d_Model_valid2_172 : decode prog_14_method_26_code 172 = .ok (.aload_n 0, 1) := by decide +kernel
theorem d_Model_valid2_173 : decode prog_14_method_26_code 173 = .ok (.getfield 16, 3) := by decide +kernel
theorem d_Model_valid2_176 : decode prog_14_method_26_code 176 = .ok (.getfield 208, 3) := by decide +kernel
theorem d_Model_valid2_179 : decode prog_14_method_26_code 179 = .ok (.iload_n 1, 1) := by decide +kernel
theorem d_Model_valid2_180 : decode prog_14_method_26_code 180 = .ok (.iaload, 1) := by decide +kernel
theorem d_Model_valid2_181 : decode prog_14_method_26_code 181 = .ok (.istore_n 2, 1) := by decide +kernel
theorem d_Model_valid2_182 : decode prog_14_method_26_code 182 = .ok (.aload_n 0, 1) := by decide +kernel
theorem d_Model_valid2_183 : decode prog_14_method_26_code 183 = .ok (.aload_n 0, 1) := by decide +kernel
theorem d_Model_valid2_184 : decode prog_14_method_26_code 184 = .ok (.getfield 16, 3) := by decide +kernel
theorem d_Model_valid2_187 : decode prog_14_method_26_code 187 = .ok (.getfield 211, 3) := by decide +kernel
theorem d_Model_valid2_190 : decode prog_14_method_26_code 190 = .ok (.iload_n 1, 1) := by decide +kernel
theorem d_Model_valid2_191 : decode prog_14_method_26_code 191 = .ok (.iaload, 1) := by decide +kernel
theorem d_Model_valid2_192 : decode prog_14_method_26_code 192 = .ok (.iload_n 2, 1) := by decide +kernel
theorem d_Model_valid2_193 : decode prog_14_method_26_code 193 = .ok (.ifCond .ne 13, 3) := by decide +kernel
theorem d_Model_valid2_206 : decode prog_14_method_26_code 206 = .ok (.iload_n 2, 1) := by decide +kernel
theorem d_Model_valid2_207 : decode prog_14_method_26_code 207 = .ok (.iconst 1, 1) := by decide +kernel
theorem d_Model_valid2_208 : decode prog_14_method_26_code 208 = .ok (.if_icmp .ne 13, 3) := by decide +kernel
theorem d_Model_valid2_221 : decode prog_14_method_26_code 221 = .ok (.iload_n 2, 1) := by decide +kernel
theorem d_Model_valid2_222 : decode prog_14_method_26_code 222 = .ok (.iconst 2, 1) := by decide +kernel
theorem d_Model_valid2_223 : decode prog_14_method_26_code 223 = .ok (.if_icmp .ne 13, 3) := by decide +kernel
theorem d_Model_valid2_236 : decode prog_14_method_26_code 236 = .ok (.aload_n 0, 1) := by decide +kernel
theorem d_Model_valid2_237 : decode prog_14_method_26_code 237 = .ok (.getfield 16, 3) := by decide +kernel
theorem d_Model_valid2_240 : decode prog_14_method_26_code 240 = .ok (.getfield 122, 3) := by decide +kernel
theorem d_Model_valid2_243 : decode prog_14_method_26_code 243 = .ok (.if_icmp .ge 7, 3) := by decide +kernel
theorem d_Model_valid2_250 : decode prog_14_method_26_code 250 = .ok (.iconst 0, 1) := by decide +kernel
theorem d_Model_valid2_251 : decode prog_14_method_26_code 251 = .ok (.invokevirtual 351, 3) := by decide +kernel
theorem d_Model_valid2_246 : decode prog_14_method_26_code 246 = .ok (.iconst 1, 1) := by decide +kernel
theorem d_Model_valid2_247 : decode prog_14_method_26_code 247 = .ok (.goto 4, 3) := by decide +kernel
theorem d_Model_valid2_254 : decode prog_14_method_26_code 254 = .ok (.iconst 0, 1) := by decide +kernel
theorem d_Model_valid2_255 : decode prog_14_method_26_code 255 = .ok (.istore_n 3, 1) := by decide +kernel
theorem d_Model_valid2_256 : decode prog_14_method_26_code 256 = .ok (.iload_n 3, 1) := by decide +kernel
theorem d_Model_valid2_257 : decode prog_14_method_26_code 257 = .ok (.iload_n 1, 1) := by decide +kernel
theorem d_Model_valid2_258 : decode prog_14_method_26_code 258 = .ok (.if_icmp .ge 68, 3) := by decide +kernel
theorem d_Model_valid2_326 : decode prog_14_method_26_code 326 = .ok (.iinc 1 1, 3) := by decide +kernel
theorem d_Model_valid2_329 : decode prog_14_method_26_code 329 = .ok (.goto (-168), 3) := by decide +kernel
theorem d_Model_valid2_261 : decode prog_14_method_26_code 261 = .ok (.aload_n 0, 1) := by decide +kernel
theorem d_Model_valid2_262 : decode prog_14_method_26_code 262 = .ok (.aload_n 0, 1) := by decide +kernel
theorem d_Model_valid2_263 : decode prog_14_method_26_code 263 = .ok (.getfield 16, 3) := by decide +kernel
theorem d_Model_valid2_266 : decode prog_14_method_26_code 266 = .ok (.aload_n 0, 1) := by decide +kernel
theorem d_Model_valid2_267 : decode prog_14_method_26_code 267 = .ok (.getfield 16, 3) := by decide +kernel
theorem d_Model_valid2_270 : decode prog_14_method_26_code 270 = .ok (.getfield 202, 3) := by decide +kernel
theorem d_Model_valid2_273 : decode prog_14_method_26_code 273 = .ok (.iload_n 3, 1) := by decide +kernel
theorem d_Model_valid2_274 : decode prog_14_method_26_code 274 = .ok (.iaload, 1) := by decide +kernel
theorem d_Model_valid2_275 : decode prog_14_method_26_code 275 = .ok (.aload_n 0, 1) := by decide +kernel
theorem d_Model_valid2_276 : decode prog_14_method_26_code 276 = .ok (.getfield 16, 3) := by decide +kernel
theorem d_Model_valid2_279 : decode prog_14_method_26_code 279 = .ok (.getfield 205, 3) := by decide +kernel
theorem d_Model_valid2_282 : decode prog_14_method_26_code 282 = .ok (.iload_n 3, 1) := by decide +kernel
theorem d_Model_valid2_283 : decode prog_14_method_26_code 283 = .ok (.iaload, 1) := by decide +kernel
theorem d_Model_valid2_284 : decode prog_14_method_26_code 284 = .ok (.aload_n 0, 1) := by decide +kernel
theorem d_Model_valid2_285 : decode prog_14_method_26_code 285 = .ok (.getfield 16, 3) := by decide +kernel
theorem d_Model_valid2_288 : decode prog_14_method_26_code 288 = .ok (.aload_n 0, 1) := by decide +kernel
theorem d_Model_valid2_289 : decode prog_14_method_26_code 289 = .ok (.getfield 16, 3) := by decide +kernel
theorem d_Model_valid2_292 : decode prog_14_method_26_code 292 = .ok (.getfield 202, 3) := by decide +kernel
theorem d_Model_valid2_295 : decode prog_14_method_26_code 295 = .ok (.iload_n 1, 1) := by decide +kernel
theorem d_Model_valid2_296 : decode prog_14_method_26_code 296 = .ok (.iaload, 1) := by decide +kernel
theorem d_Model_valid2_297 : decode prog_14_method_26_code 297 = .ok (.aload_n 0, 1) := by decide +kernel
theorem d_Model_valid2_298 : decode prog_14_method_26_code 298 = .ok (.getfield 16, 3) := by decide +kernel
theorem d_Model_valid2_301 : decode prog_14_method_26_code 301 = .ok (.getfield 205, 3) := by decide +kernel
theorem d_Model_valid2_304 : decode prog_14_method_26_code 304 = .ok (.iload_n 1, 1) := by decide +kernel
theorem d_Model_valid2_305 : decode prog_14_method_26_code 305 = .ok (.iaload, 1) := by decide +kernel
theorem d_Model_valid2_306 : decode prog_14_method_26_code 306 = .ok (.invokestatic 359, 3) := by decide +kernel
theorem nm_Model_isSame : x_nm y_Model_isSame 6 = true := by decide +kernel
theorem d_Model_valid2_309 : decode prog_14_method_26_code 309 = .ok (.ifCond .ne 7, 3) := by decide +kernel
theorem d_Model_valid2_316 : decode prog_14_method_26_code 316 = .ok (.iconst 0, 1) := by decide +kernel
theorem d_Model_valid2_317 : decode prog_14_method_26_code 317 = .ok (.invokevirtual 351, 3) := by decide +kernel
theorem d_Model_valid2_312 : decode prog_14_method_26_code 312 = .ok (.iconst 1, 1) := by decide +kernel
theorem d_Model_valid2_313 : decode prog_14_method_26_code 313 = .ok (.goto 4, 3) := by decide +kernel
theorem d_Model_valid2_320 : decode prog_14_method_26_code 320 = .ok (.iinc 3 1, 3) := by decide +kernel
theorem d_Model_valid2_323 : decode prog_14_method_26_code 323 = .ok (.goto (-67), 3) := by decide +kernel
theorem d_Model_valid2_226 : decode prog_14_method_26_code 226 = .ok (.aload_n 0, 1) := by decide +kernel
theorem d_Model_valid2_227 : decode prog_14_method_26_code 227 = .ok (.getfield 16, 3) := by decide +kernel
theorem d_Model_valid2_230 : decode prog_14_method_26_code 230 = .ok (.getfield 119, 3) := by decide +kernel
theorem d_Model_valid2_233 : decode prog_14_method_26_code 233 = .ok (.goto 10, 3) := by decide +kernel
theorem d_Model_valid2_211 : decode prog_14_method_26_code 211 = .ok (.aload_n 0, 1) := by decide +kernel
theorem d_Model_valid2_212 : decode prog_14_method_26_code 212 = .ok (.getfield 16, 3) := by decide +kernel
theorem d_Model_valid2_215 : decode prog_14_method_26_code 215 = .ok (.getfield 116, 3) := by decide +kernel
theorem d_Model_valid2_218 : decode prog_14_method_26_code 218 = .ok (.goto 25, 3) := by decide +kernel
theorem d_Model_valid2_196 : decode prog_14_method_26_code 196 = .ok (.aload_n 0, 1) := by decide +kernel
theorem d_Model_valid2_197 : decode prog_14_method_26_code 197 = .ok (.getfield 16, 3) := by decide +kernel
theorem d_Model_valid2_200 : decode prog_14_method_26_code 200 = .ok (.getfield 110, 3) := by decide +kernel
theorem d_Model_valid2_203 : decode prog_14_method_26_code 203 = .ok (.goto 40, 3) := by decide +kernel
theorem d_Model_valid2_98 : decode prog_14_method_26_code 98 = .ok (.aload_n 0, 1) := by decide +kernel
theorem d_Model_valid2_99 : decode prog_14_method_26_code 99 = .ok (.aload_n 0, 1) := by decide +kernel
theorem d_Model_valid2_100 : decode prog_14_method_26_code 100 = .ok (.getfield 16, 3) := by decide +kernel
theorem d_Model_valid2_103 : decode prog_14_method_26_code 103 = .ok (.getfield 246, 3) := by decide +kernel
theorem d_Model_valid2_106 : decode prog_14_method_26_code 106 = .ok (.iload_n 1, 1) := by decide +kernel
theorem d_Model_valid2_107 : decode prog_14_method_26_code 107 = .ok (.iaload, 1) := by decide +kernel
theorem d_Model_valid2_108 : decode prog_14_method_26_code 108 = .ok (.ifCond .ge 37, 3) := by decide +kernel
theorem d_Model_valid2_145 : decode prog_14_method_26_code 145 = .ok (.iconst 1, 1) := by decide +kernel
theorem d_Model_valid2_146 : decode prog_14_method_26_code 146 = .ok (.goto 4, 3) := by decide +kernel
theorem d_Model_valid2_150 : decode prog_14_method_26_code 150 = .ok (.invokevirtual 351, 3) := by decide +kernel
theorem d_Model_valid2_153 : decode prog_14_method_26_code 153 = .ok (.iinc 1 1, 3) := by decide +kernel
theorem d_Model_valid2_156 : decode prog_14_method_26_code 156 = .ok (.goto (-69), 3) := by decide +kernel
theorem d_Model_valid2_111 : decode prog_14_method_26_code 111 = .ok (.aload_n 0, 1) := by decide +kernel
theorem d_Model_valid2_112 : decode prog_14_method_26_code 112 = .ok (.aload_n 0, 1) := by decide +kernel
theorem d_Model_valid2_113 : decode prog_14_method_26_code 113 = .ok (.getfield 16, 3) := by decide +kernel
theorem d_Model_valid2_116 : decode prog_14_method_26_code 116 = .ok (.getfield 185, 3) := by decide +kernel
theorem d_Model_valid2_119 : decode prog_14_method_26_code 119 = .ok (.iload_n 1, 1) := by decide +kernel
theorem d_Model_valid2_120 : decode prog_14_method_26_code 120 = .ok (.iaload, 1) := by decide +kernel
theorem d_Model_valid2_121 : decode prog_14_method_26_code 121 = .ok (.aload_n 0, 1) := by decide +kernel
theorem d_Model_valid2_122 : decode prog_14_method_26_code 122 = .ok (.getfield 16, 3) := by decide +kernel
theorem d_Model_valid2_125 : decode prog_14_method_26_code 125 = .ok (.getfield 191, 3) := by decide +kernel
theorem d_Model_valid2_128 : decode prog_14_method_26_code 128 = .ok (.iload_n 1, 1) := by decide +kernel
theorem d_Model_valid2_129 : decode prog_14_method_26_code 129 = .ok (.laload, 1) := by decide +kernel
theorem d_Model_valid2_130 : decode prog_14_method_26_code 130 = .ok (.aload_n 0, 1) := by decide +kernel
theorem d_Model_valid2_131 : decode prog_14_method_26_code 131 = .ok (.getfield 16, 3) := by decide +kernel
theorem d_Model_valid2_134 : decode prog_14_method_26_code 134 = .ok (.getfield 240, 3) := by decide +kernel
theorem d_Model_valid2_137 : decode prog_14_method_26_code 137 = .ok (.iload_n 1, 1) := by decide +kernel
theorem d_Model_valid2_138 : decode prog_14_method_26_code 138 = .ok (.iaload, 1) := by decide +kernel
theorem d_Model_valid2_139 : decode prog_14_method_26_code 139 = .ok (.invokevirtual 355, 3) := by decide +kernel
theorem d_Model_valid2_142 : decode prog_14_method_26_code 142 = .ok (.ifCond .eq 7, 3) := by decide +kernel
theorem d_Model_valid2_149 : decode prog_14_method_26_code 149 = .ok (.iconst 0, 1) := by decide +kernel
theorem d_Model_valid2_51 : decode prog_14_method_26_code 51 = .ok (.aload_n 0, 1) := by decide +kernel
theorem d_Model_valid2_52 : decode prog_14_method_26_code 52 = .ok (.aload_n 0, 1) := by decide +kernel
theorem d_Model_valid2_53 : decode prog_14_method_26_code 53 = .ok (.getfield 16, 3) := by decide +kernel
theorem d_Model_valid2_56 : decode prog_14_method_26_code 56 = .ok (.getfield 234, 3) := by decide +kernel
theorem d_Model_valid2_59 : decode prog_14_method_26_code 59 = .ok (.iload_n 1, 1) := by decide +kernel
theorem d_Model_valid2_60 : decode prog_14_method_26_code 60 = .ok (.iaload, 1) := by decide +kernel
theorem d_Model_valid2_61 : decode prog_14_method_26_code 61 = .ok (.aload_n 0, 1) := by decide +kernel
theorem d_Model_valid2_62 : decode prog_14_method_26_code 62 = .ok (.getfield 16, 3) := by decide +kernel
theorem d_Model_valid2_65 : decode prog_14_method_26_code 65 = .ok (.getfield 104, 3) := by decide +kernel
theorem d_Model_valid2_68 : decode prog_14_method_26_code 68 = .ok (.if_icmp .ge 7, 3) := by decide +kernel
theorem d_Model_valid2_75 : decode prog_14_method_26_code 75 = .ok (.iconst 0, 1) := by decide +kernel
theorem d_Model_valid2_76 : decode prog_14_method_26_code 76 = .ok (.invokevirtual 351, 3) := by decide +kernel
theorem d_Model_valid2_71 : decode prog_14_method_26_code 71 = .ok (.iconst 1, 1) := by decide +kernel
theorem d_Model_valid2_72 : decode prog_14_method_26_code 72 = .ok (.goto 4, 3) := by decide +kernel
theorem d_Model_valid2_79 : decode prog_14_method_26_code 79 = .ok (.iinc 1 1, 3) := by decide +kernel
theorem d_Model_valid2_82 : decode prog_14_method_26_code 82 = .ok (.goto (-42), 3) := by decide +kernel
