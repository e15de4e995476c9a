theorem d_Model_valid_586 : decode prog_14_method_34_code 586 = .ok (.goto 4, 3) := by decide +kernel
theorem d_Model_valid_593 : decode prog_14_method_34_code 593 = .ok (.aload_n 0, 1) := by decide +kernel
theorem d_Model_valid_594 : decode prog_14_method_34_code 594 = .ok (.dup, 1) := by decide +kernel
theorem d_Model_valid_595 : decode prog_14_method_34_code 595 = .ok (.getfield 369, 3) := by decide +kernel
theorem d_Model_valid_598 : decode prog_14_method_34_code 598 = .ok (.iconst 1, 1) := by decide +kernel
theorem d_Model_valid_599 : decode prog_14_method_34_code 599 = .ok (.isub, 1) := by decide +kernel
theorem d_Model_valid_600 : decode prog_14_method_34_code 600 = .ok (.putfield 369, 3) := by decide +kernel
theorem d_Model_valid_603 : decode prog_14_method_34_code 603 = .ok (.aload_n 0, 1) := by decide +kernel
theorem d_Model_valid_604 : decode prog_14_method_34_code 604 = .ok (.getfield 369, 3) := by decide +kernel
theorem d_Model_valid_607 : decode prog_14_method_34_code 607 = .ok (.ifCond .le 546, 3) := by decide +kernel
theorem d_Model_valid_610 : decode prog_14_method_34_code 610 = .ok (.aload_n 0, 1) := by decide +kernel
theorem d_Model_valid_611 : decode prog_14_method_34_code 611 = .ok (.iload 7, 2) := by decide +kernel
theorem d_Model_valid_613 : decode prog_14_method_34_code 613 = .ok (.invokevirtual 387, 3) := by decide +kernel
theorem d_Model_valid_616 : decode prog_14_method_34_code 616 = .ok (.goto 537, 3) := by decide +kernel
theorem d_Model_valid_580 : decode prog_14_method_34_code 580 = .ok (.iload 7, 2) := by decide +kernel
theorem d_Model_valid_582 : decode prog_14_method_34_code 582 = .ok (.ifCond .ne 7, 3) := by decide +kernel
theorem d_Model_valid_619 : decode prog_14_method_34_code 619 = .ok (.aload_n 0, 1) := by decide +kernel
theorem d_Model_valid_620 : decode prog_14_method_34_code 620 = .ok (.aload_n 0, 1) := by decide +kernel
theorem d_Model_valid_621 : decode prog_14_method_34_code 621 = .ok (.getfield 30, 3) := by decide +kernel
theorem d_Model_valid_624 : decode prog_14_method_34_code 624 = .ok (.aload_n 0, 1) := by decide +kernel
theorem d_Model_valid_625 : decode prog_14_method_34_code 625 = .ok (.aload_n 0, 1) := by decide +kernel
theorem d_Model_valid_626 : decode prog_14_method_34_code 626 = .ok (.invokevirtual 68, 3) := by decide +kernel
theorem d_Model_valid_629 : decode prog_14_method_34_code 629 = .ok (.invokevirtual 390, 3) := by decide +kernel
theorem d_Model_valid_632 : decode prog_14_method_34_code 632 = .ok (.iaload, 1) := by decide +kernel
theorem d_Model_valid_633 : decode prog_14_method_34_code 633 = .ok (.invokevirtual 384, 3) := by decide +kernel
theorem d_Model_valid_636 : decode prog_14_method_34_code 636 = .ok (.aload_n 0, 1) := by decide +kernel
theorem d_Model_valid_637 : decode prog_14_method_34_code 637 = .ok (.invokevirtual 378, 3) := by decide +kernel
theorem d_Model_valid_640 : decode prog_14_method_34_code 640 = .ok (.goto 513, 3) := by decide +kernel
theorem d_Model_valid_643 : decode prog_14_method_34_code 643 = .ok (.aload_n 0, 1) := by decide +kernel
theorem d_Model_valid_644 : decode prog_14_method_34_code 644 = .ok (.getfield 30, 3) := by decide +kernel
theorem d_Model_valid_647 : decode prog_14_method_34_code 647 = .ok (.aload_n 0, 1) := by decide +kernel
theorem d_Model_valid_648 : decode prog_14_method_34_code 648 = .ok (.aload_n 0, 1) := by decide +kernel
theorem d_Model_valid_649 : decode prog_14_method_34_code 649 = .ok (.invokevirtual 68, 3) := by decide +kernel
theorem d_Model_valid_652 : decode prog_14_method_34_code 652 = .ok (.invokevirtual 390, 3) := by decide +kernel
theorem d_Model_valid_655 : decode prog_14_method_34_code 655 = .ok (.iaload, 1) := by decide +kernel
theorem d_Model_valid_656 : decode prog_14_method_34_code 656 = .ok (.istore 7, 2) := by decide +kernel
theorem d_Model_valid_658 : decode prog_14_method_34_code 658 = .ok (.aload_n 0, 1) := by decide +kernel
theorem d_Model_valid_659 : decode prog_14_method_34_code 659 = .ok (.iconst 1, 1) := by decide +kernel
theorem d_Model_valid_660 : decode prog_14_method_34_code 660 = .ok (.invokevirtual 372, 3) := by decide +kernel
theorem d_Model_valid_663 : decode prog_14_method_34_code 663 = .ok (.pop, 1) := by decide +kernel
theorem d_Model_valid_664 : decode prog_14_method_34_code 664 = .ok (.aload_n 0, 1) := by decide +kernel
theorem d_Model_valid_665 : decode prog_14_method_34_code 665 = .ok (.iload 7, 2) := by decide +kernel
theorem d_Model_valid_667 : decode prog_14_method_34_code 667 = .ok (.invokevirtual 384, 3) := by decide +kernel
theorem d_Model_valid_670 : decode prog_14_method_34_code 670 = .ok (.aload_n 0, 1) := by decide +kernel
theorem d_Model_valid_671 : decode prog_14_method_34_code 671 = .ok (.iload 7, 2) := by decide +kernel
theorem d_Model_valid_673 : decode prog_14_method_34_code 673 = .ok (.invokevirtual 387, 3) := by decide +kernel
theorem d_Model_valid_676 : decode prog_14_method_34_code 676 = .ok (.goto 477, 3) := by decide +kernel
theorem d_Model_valid_679 : decode prog_14_method_34_code 679 = .ok (.aload_n 0, 1) := by decide +kernel
theorem d_Model_valid_680 : decode prog_14_method_34_code 680 = .ok (.invokevirtual 393, 3) := by decide +kernel
theorem nm_Model_table : x_nm y_Model_table 0 = true := by decide +kernel
theorem d_Model_valid_683 : decode prog_14_method_34_code 683 = .ok (.goto 470, 3) := by decide +kernel
theorem d_Model_valid_686 : decode prog_14_method_34_code 686 = .ok (.aload_n 0, 1) := by decide +kernel
theorem d_Model_valid_687 : decode prog_14_method_34_code 687 = .ok (.aload_n 0, 1) := by decide +kernel
theorem d_Model_valid_688 : decode prog_14_method_34_code 688 = .ok (.getfield 16, 3) := by decide +kernel
theorem d_Model_valid_691 : decode prog_14_method_34_code 691 = .ok (.getfield 231, 3) := by decide +kernel
theorem d_Model_valid_694 : decode prog_14_method_34_code 694 = .ok (.iload_n 3, 1) := by decide +kernel
theorem d_Model_valid_695 : decode prog_14_method_34_code 695 = .ok (.iaload, 1) := by decide +kernel
theorem d_Model_valid_696 : decode prog_14_method_34_code 696 = .ok (.invokevirtual 384, 3) := by decide +kernel
theorem d_Model_valid_699 : decode prog_14_method_34_code 699 = .ok (.aload_n 0, 1) := by decide +kernel
theorem d_Model_valid_700 : decode prog_14_method_34_code 700 = .ok (.invokevirtual 378, 3) := by decide +kernel
theorem d_Model_valid_703 : decode prog_14_method_34_code 703 = .ok (.goto 450, 3) := by decide +kernel
theorem d_Model_valid_706 : decode prog_14_method_34_code 706 = .ok (.aload_n 0, 1) := by decide +kernel
theorem d_Model_valid_707 : decode prog_14_method_34_code 707 = .ok (.invokevirtual 68, 3) := by decide +kernel
theorem d_Model_valid_710 : decode prog_14_method_34_code 710 = .ok (.lstore 7, 2) := by decide +kernel
theorem d_Model_valid_712 : decode prog_14_method_34_code 712 = .ok (.aload_n 0, 1) := by decide +kernel
theorem d_Model_valid_713 : decode prog_14_method_34_code 713 = .ok (.lload 7, 2) := by decide +kernel
theorem d_Model_valid_715 : decode prog_14_method_34_code 715 = .ok (.aload_n 0, 1) := by decide +kernel
theorem d_Model_valid_716 : decode prog_14_method_34_code 716 = .ok (.getfield 16, 3) := by decide +kernel
theorem d_Model_valid_719 : decode prog_14_method_34_code 719 = .ok (.getfield 110, 3) := by decide +kernel
theorem d_Model_valid_722 : decode prog_14_method_34_code 722 = .ok (.i2l, 1) := by decide +kernel
theorem d_Model_valid_723 : decode prog_14_method_34_code 723 = .ok (.lcmp, 1) := by decide +kernel
theorem d_Model_valid_724 : decode prog_14_method_34_code 724 = .ok (.ifCond .ge 7, 3) := by decide +kernel
theorem d_Model_valid_731 : decode prog_14_method_34_code 731 = .ok (.iconst 0, 1) := by decide +kernel
theorem d_Model_valid_732 : decode prog_14_method_34_code 732 = .ok (.invokevirtual 351, 3) := by decide +kernel
theorem d_Model_valid_727 : decode prog_14_method_34_code 727 = .ok (.iconst 1, 1) := by decide +kernel
theorem d_Model_valid_728 : decode prog_14_method_34_code 728 = .ok (.goto 4, 3) := by decide +kernel
theorem d_Model_valid_735 : decode prog_14_method_34_code 735 = .ok (.aload_n 0, 1) := by decide +kernel
theorem d_Model_valid_736 : decode prog_14_method_34_code 736 = .ok (.aload_n 0, 1) := by decide +kernel
theorem d_Model_valid_737 : decode prog_14_method_34_code 737 = .ok (.getfield 16, 3) := by decide +kernel
theorem d_Model_valid_740 : decode prog_14_method_34_code 740 = .ok (.getfield 234, 3) := by decide +kernel
theorem d_Model_valid_743 : decode prog_14_method_34_code 743 = .ok (.lload 7, 2) := by decide +kernel
theorem d_Model_valid_745 : decode prog_14_method_34_code 745 = .ok (.l2i, 1) := by decide +kernel
theorem d_Model_valid_746 : decode prog_14_method_34_code 746 = .ok (.iaload, 1) := by decide +kernel
theorem d_Model_valid_747 : decode prog_14_method_34_code 747 = .ok (.invokevirtual 396, 3) := by decide +kernel
theorem nm_Model_called : x_nm y_Model_called 1 = true := by decide +kernel
theorem d_Model_valid_750 : decode prog_14_method_34_code 750 = .ok (.goto 403, 3) := by decide +kernel
theorem d_Model_valid_753 : decode prog_14_method_34_code 753 = .ok (.aload_n 0, 1) := by decide +kernel
theorem d_Model_valid_754 : decode prog_14_method_34_code 754 = .ok (.invokevirtual 68, 3) := by decide +kernel
theorem d_Model_valid_757 : decode prog_14_method_34_code 757 = .ok (.lstore 7, 2) := by decide +kernel
theorem d_Model_valid_759 : decode prog_14_method_34_code 759 = .ok (.aload_n 0, 1) := by decide +kernel
theorem d_Model_valid_760 : decode prog_14_method_34_code 760 = .ok (.invokevirtual 64, 3) := by decide +kernel
theorem d_Model_valid_763 : decode prog_14_method_34_code 763 = .ok (.pop, 1) := by decide +kernel
theorem d_Model_valid_764 : decode prog_14_method_34_code 764 = .ok (.aload_n 0, 1) := by decide +kernel
theorem d_Model_valid_765 : decode prog_14_method_34_code 765 = .ok (.lload 7, 2) := by decide +kernel
theorem d_Model_valid_767 : decode prog_14_method_34_code 767 = .ok (.aload_n 0, 1) := by decide +kernel
theorem d_Model_valid_768 : decode prog_14_method_34_code 768 = .ok (.getfield 16, 3) := by decide +kernel
theorem d_Model_valid_771 : decode prog_14_method_34_code 771 = .ok (.getfield 104, 3) := by decide +kernel
theorem d_Model_valid_774 : decode prog_14_method_34_code 774 = .ok (.i2l, 1) := by decide +kernel
theorem d_Model_valid_775 : decode prog_14_method_34_code 775 = .ok (.lcmp, 1) := by decide +kernel
theorem d_Model_valid_776 : decode prog_14_method_34_code 776 = .ok (.ifCond .ge 18, 3) := by decide +kernel
theorem d_Model_valid_794 : decode prog_14_method_34_code 794 = .ok (.iconst 0, 1) := by decide +kernel
