theorem d_Model_code_608 : decode prog_14_method_22_code 608 = .ok (.bipush 40, 2) := by decide +kernel
theorem d_Model_code_610 : decode prog_14_method_22_code 610 = .ok (.if_icmp .lt 29, 3) := by decide +kernel
theorem d_Model_code_639 : decode prog_14_method_22_code 639 = .ok (.iload_n 3, 1) := by decide +kernel
theorem d_Model_code_640 : decode prog_14_method_22_code 640 = .ok (.iconst 1, 1) := by decide +kernel
theorem d_Model_code_641 : decode prog_14_method_22_code 641 = .ok (.if_icmp .le 76, 3) := by decide +kernel
theorem d_Model_code_644 : decode prog_14_method_22_code 644 = .ok (.iload_n 3, 1) := by decide +kernel
theorem d_Model_code_645 : decode prog_14_method_22_code 645 = .ok (.bipush 15, 2) := by decide +kernel
theorem d_Model_code_647 : decode prog_14_method_22_code 647 = .ok (.if_icmp .eq 70, 3) := by decide +kernel
theorem d_Model_code_650 : decode prog_14_method_22_code 650 = .ok (.iload_n 3, 1) := by decide +kernel
theorem d_Model_code_651 : decode prog_14_method_22_code 651 = .ok (.bipush 26, 2) := by decide +kernel
theorem d_Model_code_653 : decode prog_14_method_22_code 653 = .ok (.if_icmp .eq 64, 3) := by decide +kernel
theorem d_Model_code_656 : decode prog_14_method_22_code 656 = .ok (.iload_n 3, 1) := by decide +kernel
theorem d_Model_code_657 : decode prog_14_method_22_code 657 = .ok (.bipush 27, 2) := by decide +kernel
theorem d_Model_code_659 : decode prog_14_method_22_code 659 = .ok (.if_icmp .eq 58, 3) := by decide +kernel
theorem d_Model_code_662 : decode prog_14_method_22_code 662 = .ok (.iload_n 3, 1) := by decide +kernel
theorem d_Model_code_663 : decode prog_14_method_22_code 663 = .ok (.bipush 69, 2) := by decide +kernel
theorem d_Model_code_665 : decode prog_14_method_22_code 665 = .ok (.if_icmp .lt 9, 3) := by decide +kernel
theorem d_Model_code_674 : decode prog_14_method_22_code 674 = .ok (.iload_n 3, 1) := by decide +kernel
theorem d_Model_code_675 : decode prog_14_method_22_code 675 = .ok (.bipush 103, 2) := by decide +kernel
theorem d_Model_code_677 : decode prog_14_method_22_code 677 = .ok (.if_icmp .lt 10, 3) := by decide +kernel
theorem d_Model_code_687 : decode prog_14_method_22_code 687 = .ok (.iload_n 3, 1) := by decide +kernel
theorem d_Model_code_688 : decode prog_14_method_22_code 688 = .ok (.sipush 167, 3) := by decide +kernel
theorem d_Model_code_691 : decode prog_14_method_22_code 691 = .ok (.if_icmp .eq 26, 3) := by decide +kernel
theorem d_Model_code_694 : decode prog_14_method_22_code 694 = .ok (.iload_n 3, 1) := by decide +kernel
theorem d_Model_code_695 : decode prog_14_method_22_code 695 = .ok (.sipush 172, 3) := by decide +kernel
theorem d_Model_code_698 : decode prog_14_method_22_code 698 = .ok (.if_icmp .eq 19, 3) := by decide +kernel
theorem d_Model_code_701 : decode prog_14_method_22_code 701 = .ok (.iload_n 3, 1) := by decide +kernel
theorem d_Model_code_702 : decode prog_14_method_22_code 702 = .ok (.sipush 173, 3) := by decide +kernel
theorem d_Model_code_705 : decode prog_14_method_22_code 705 = .ok (.if_icmp .eq 12, 3) := by decide +kernel
theorem d_Model_code_708 : decode prog_14_method_22_code 708 = .ok (.new 56, 3) := by decide +kernel
theorem d_Model_code_711 : decode prog_14_method_22_code 711 = .ok (.dup, 1) := by decide +kernel
theorem d_Model_code_712 : decode prog_14_method_22_code 712 = .ok (.iconst 1, 1) := by decide +kernel
theorem d_Model_code_713 : decode prog_14_method_22_code 713 = .ok (.invokespecial 58, 3) := by decide +kernel
theorem d_Model_code_716 : decode prog_14_method_22_code 716 = .ok (.athrow, 1) := by decide +kernel
theorem d_Model_code_680 : decode prog_14_method_22_code 680 = .ok (.iload_n 3, 1) := by decide +kernel
theorem d_Model_code_681 : decode prog_14_method_22_code 681 = .ok (.sipush 138, 3) := by decide +kernel
theorem d_Model_code_684 : decode prog_14_method_22_code 684 = .ok (.if_icmp .le 33, 3) := by decide +kernel
theorem d_Model_code_668 : decode prog_14_method_22_code 668 = .ok (.iload_n 3, 1) := by decide +kernel
theorem d_Model_code_669 : decode prog_14_method_22_code 669 = .ok (.bipush 90, 2) := by decide +kernel
theorem d_Model_code_671 : decode prog_14_method_22_code 671 = .ok (.if_icmp .le 46, 3) := by decide +kernel
theorem d_Model_code_613 : decode prog_14_method_22_code 613 = .ok (.iload_n 3, 1) := by decide +kernel
theorem d_Model_code_614 : decode prog_14_method_22_code 614 = .ok (.bipush 62, 2) := by decide +kernel
theorem d_Model_code_616 : decode prog_14_method_22_code 616 = .ok (.if_icmp .gt 23, 3) := by decide +kernel
theorem d_Model_code_619 : decode prog_14_method_22_code 619 = .ok (.iload_n 3, 1) := by decide +kernel
theorem d_Model_code_620 : decode prog_14_method_22_code 620 = .ok (.invokestatic 347, 3) := by decide +kernel
theorem nm_Model_width : x_nm y_Model_width 1 = true := by decide +kernel
theorem d_Model_code_623 : decode prog_14_method_22_code 623 = .ok (.ifCond .le 16, 3) := by decide +kernel
theorem d_Model_code_626 : decode prog_14_method_22_code 626 = .ok (.aload_n 0, 1) := by decide +kernel
theorem d_Model_code_627 : decode prog_14_method_22_code 627 = .ok (.invokevirtual 68, 3) := by decide +kernel
theorem d_Model_code_630 : decode prog_14_method_22_code 630 = .ok (.pop2, 1) := by decide +kernel
theorem d_Model_code_631 : decode prog_14_method_22_code 631 = .ok (.aload_n 0, 1) := by decide +kernel
theorem d_Model_code_632 : decode prog_14_method_22_code 632 = .ok (.invokevirtual 68, 3) := by decide +kernel
theorem d_Model_code_635 : decode prog_14_method_22_code 635 = .ok (.pop2, 1) := by decide +kernel
theorem d_Model_code_636 : decode prog_14_method_22_code 636 = .ok (.goto 81, 3) := by decide +kernel
theorem d_Model_code_428 : decode prog_14_method_22_code 428 = .ok (.iload_n 1, 1) := by decide +kernel
theorem d_Model_code_429 : decode prog_14_method_22_code 429 = .ok (.ifCond .ne 4, 3) := by decide +kernel
theorem d_Model_code_433 : decode prog_14_method_22_code 433 = .ok (.iinc 1 (-1), 3) := by decide +kernel
theorem d_Model_code_436 : decode prog_14_method_22_code 436 = .ok (.aload_n 0, 1) := by decide +kernel
theorem d_Model_code_437 : decode prog_14_method_22_code 437 = .ok (.getfield 16, 3) := by decide +kernel
theorem d_Model_code_440 : decode prog_14_method_22_code 440 = .ok (.getfield 344, 3) := by decide +kernel
theorem d_Model_code_443 : decode prog_14_method_22_code 443 = .ok (.aload_n 0, 1) := by decide +kernel
theorem d_Model_code_444 : decode prog_14_method_22_code 444 = .ok (.getfield 20, 3) := by decide +kernel
theorem d_Model_code_447 : decode prog_14_method_22_code 447 = .ok (.iload_n 1, 1) := by decide +kernel
theorem d_Model_code_448 : decode prog_14_method_22_code 448 = .ok (.iaload, 1) := by decide +kernel
theorem d_Model_code_449 : decode prog_14_method_22_code 449 = .ok (.iload_n 2, 1) := by decide +kernel
theorem d_Model_code_450 : decode prog_14_method_22_code 450 = .ok (.iastore, 1) := by decide +kernel
theorem d_Model_code_451 : decode prog_14_method_22_code 451 = .ok (.aload_n 0, 1) := by decide +kernel
theorem d_Model_code_452 : decode prog_14_method_22_code 452 = .ok (.getfield 16, 3) := by decide +kernel
theorem d_Model_code_455 : decode prog_14_method_22_code 455 = .ok (.getfield 341, 3) := by decide +kernel
theorem d_Model_code_458 : decode prog_14_method_22_code 458 = .ok (.aload_n 0, 1) := by decide +kernel
theorem d_Model_code_459 : decode prog_14_method_22_code 459 = .ok (.getfield 20, 3) := by decide +kernel
theorem d_Model_code_462 : decode prog_14_method_22_code 462 = .ok (.iload_n 1, 1) := by decide +kernel
theorem d_Model_code_463 : decode prog_14_method_22_code 463 = .ok (.iaload, 1) := by decide +kernel
theorem d_Model_code_464 : decode prog_14_method_22_code 464 = .ok (.iaload, 1) := by decide +kernel
theorem d_Model_code_465 : decode prog_14_method_22_code 465 = .ok (.ifCond .lt 252, 3) := by decide +kernel
theorem d_Model_code_468 : decode prog_14_method_22_code 468 = .ok (.aload_n 0, 1) := by decide +kernel
theorem d_Model_code_469 : decode prog_14_method_22_code 469 = .ok (.getfield 16, 3) := by decide +kernel
theorem d_Model_code_472 : decode prog_14_method_22_code 472 = .ok (.getfield 344, 3) := by decide +kernel
theorem d_Model_code_475 : decode prog_14_method_22_code 475 = .ok (.aload_n 0, 1) := by decide +kernel
theorem d_Model_code_476 : decode prog_14_method_22_code 476 = .ok (.getfield 16, 3) := by decide +kernel
theorem d_Model_code_479 : decode prog_14_method_22_code 479 = .ok (.getfield 341, 3) := by decide +kernel
theorem d_Model_code_482 : decode prog_14_method_22_code 482 = .ok (.aload_n 0, 1) := by decide +kernel
theorem d_Model_code_483 : decode prog_14_method_22_code 483 = .ok (.getfield 20, 3) := by decide +kernel
theorem d_Model_code_486 : decode prog_14_method_22_code 486 = .ok (.iload_n 1, 1) := by decide +kernel
theorem d_Model_code_487 : decode prog_14_method_22_code 487 = .ok (.iaload, 1) := by decide +kernel
theorem d_Model_code_488 : decode prog_14_method_22_code 488 = .ok (.iaload, 1) := by decide +kernel
theorem d_Model_code_489 : decode prog_14_method_22_code 489 = .ok (.iload_n 2, 1) := by decide +kernel
theorem d_Model_code_490 : decode prog_14_method_22_code 490 = .ok (.iastore, 1) := by decide +kernel
theorem d_Model_code_491 : decode prog_14_method_22_code 491 = .ok (.goto 226, 3) := by decide +kernel
theorem d_Model_code_432 : decode prog_14_method_22_code 432 = .ok (.return_, 1) := by decide +kernel
theorem d_Model_code_542 : decode prog_14_method_22_code 542 = .ok (.aload_n 0, 1) := by decide +kernel
theorem d_Model_code_543 : decode prog_14_method_22_code 543 = .ok (.invokevirtual 68, 3) := by decide +kernel
theorem d_Model_code_546 : decode prog_14_method_22_code 546 = .ok (.pop2, 1) := by decide +kernel
theorem d_Model_code_547 : decode prog_14_method_22_code 547 = .ok (.goto 170, 3) := by decide +kernel
theorem d_Model_code_494 : decode prog_14_method_22_code 494 = .ok (.aload_n 0, 1) := by decide +kernel
theorem d_Model_code_495 : decode prog_14_method_22_code 495 = .ok (.invokevirtual 68, 3) := by decide +kernel
theorem d_Model_code_498 : decode prog_14_method_22_code 498 = .ok (.lstore 4, 2) := by decide +kernel
theorem d_Model_code_500 : decode prog_14_method_22_code 500 = .ok (.lload 4, 2) := by decide +kernel
theorem d_Model_code_502 : decode prog_14_method_22_code 502 = .ok (.ldc2_w 75, 3) := by decide +kernel
theorem d_Model_code_505 : decode prog_14_method_22_code 505 = .ok (.lcmp, 1) := by decide +kernel
