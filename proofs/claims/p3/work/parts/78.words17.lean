def y_Model_valid2 : MethodName := ⟨"WasmReaderModel", "valid", "()V"⟩
set_option maxRecDepth 100000 in
theorem m_931 : Cond.code y_Model_valid prog_14_method_34_code 10 none ∈ xtb := x_in (List.mem_of_getElem? (i := 1559) rfl) (by decide +kernel)
theorem m_932 : Cond.methodLink "WasmReaderModel" 363 y_Model_valid ∈ xtb := x_in (List.mem_of_getElem? (i := 1556) (by decide +kernel)) (by decide +kernel)
theorem m_933 : Cond.instanceMethod y_Model_valid ∈ xtb := x_in (List.mem_of_getElem? (i := 1558) (by decide +kernel)) (by decide +kernel)
theorem m_934 : Cond.selects "WasmReaderModel" y_Model_valid y_Model_valid ∈ xtb := x_in (List.mem_of_getElem? (i := 74) (by decide +kernel)) (by decide +kernel)
theorem m_935 : Cond.methodLink "WasmReaderModel" 355 y_Model_isInitial ∈ xtb := x_in (List.mem_of_getElem? (i := 1549) (by decide +kernel)) (by decide +kernel)
theorem m_936 : Cond.code y_Model_isInitial prog_14_method_25_code 5 (some .boolean) ∈ xtb := x_in (List.mem_of_getElem? (i := 1552) (by decide +kernel)) (by decide +kernel)
theorem m_937 : Cond.instanceMethod y_Model_isInitial ∈ xtb := x_in (List.mem_of_getElem? (i := 1551) (by decide +kernel)) (by decide +kernel)
theorem m_938 : Cond.selects "WasmReaderModel" y_Model_isInitial y_Model_isInitial ∈ xtb := x_in (List.mem_of_getElem? (i := 73) (by decide +kernel)) (by decide +kernel)
theorem m_939 : Cond.methodLink "WasmReaderModel" 359 y_Model_isSame ∈ xtb := x_in (List.mem_of_getElem? (i := 1553) (by decide +kernel)) (by decide +kernel)
theorem m_940 : Cond.code y_Model_isSame prog_14_method_27_code 7 (some .boolean) ∈ xtb := x_in (List.mem_of_getElem? (i := 1555) (by decide +kernel)) (by decide +kernel)
theorem m_941 : Cond.static y_Model_isSame ∈ xtb := x_in (List.mem_of_getElem? (i := 1554) (by decide +kernel)) (by decide +kernel)
theorem d_Model_valid2_0 : decode prog_14_method_26_code 0 = .ok (.aload_n 0, 1) := by decide +kernel
theorem d_Model_valid2_1 : decode prog_14_method_26_code 1 = .ok (.aload_n 0, 1) := by decide +kernel
theorem d_Model_valid2_2 : decode prog_14_method_26_code 2 = .ok (.getfield 101, 3) := by decide +kernel
theorem d_Model_valid2_5 : decode prog_14_method_26_code 5 = .ok (.ifCond .ne 29, 3) := by decide +kernel
theorem d_Model_valid2_34 : decode prog_14_method_26_code 34 = .ok (.iconst 0, 1) := by decide +kernel
theorem d_Model_valid2_35 : decode prog_14_method_26_code 35 = .ok (.invokevirtual 351, 3) := by decide +kernel
theorem d_Model_valid2_8 : decode prog_14_method_26_code 8 = .ok (.aload_n 0, 1) := by decide +kernel
theorem d_Model_valid2_9 : decode prog_14_method_26_code 9 = .ok (.getfield 16, 3) := by decide +kernel
theorem d_Model_valid2_12 : decode prog_14_method_26_code 12 = .ok (.getfield 116, 3) := by decide +kernel
theorem d_Model_valid2_15 : decode prog_14_method_26_code 15 = .ok (.iconst 1, 1) := by decide +kernel
theorem d_Model_valid2_16 : decode prog_14_method_26_code 16 = .ok (.if_icmp .gt 18, 3) := by decide +kernel
theorem d_Model_valid2_19 : decode prog_14_method_26_code 19 = .ok (.aload_n 0, 1) := by decide +kernel
theorem d_Model_valid2_20 : decode prog_14_method_26_code 20 = .ok (.getfield 16, 3) := by decide +kernel
theorem d_Model_valid2_23 : decode prog_14_method_26_code 23 = .ok (.getfield 119, 3) := by decide +kernel
theorem d_Model_valid2_26 : decode prog_14_method_26_code 26 = .ok (.iconst 1, 1) := by decide +kernel
theorem d_Model_valid2_27 : decode prog_14_method_26_code 27 = .ok (.if_icmp .gt 7, 3) := by decide +kernel
theorem d_Model_valid2_30 : decode prog_14_method_26_code 30 = .ok (.iconst 1, 1) := by decide +kernel
theorem d_Model_valid2_31 : decode prog_14_method_26_code 31 = .ok (.goto 4, 3) := by decide +kernel
theorem d_Model_valid2_38 : decode prog_14_method_26_code 38 = .ok (.iconst 0, 1) := by decide +kernel
theorem d_Model_valid2_39 : decode prog_14_method_26_code 39 = .ok (.istore_n 1, 1) := by decide +kernel
theorem d_Model_valid2_40 : decode prog_14_method_26_code 40 = .ok (.iload_n 1, 1) := by decide +kernel
theorem d_Model_valid2_41 : decode prog_14_method_26_code 41 = .ok (.aload_n 0, 1) := by decide +kernel
theorem d_Model_valid2_42 : decode prog_14_method_26_code 42 = .ok (.getfield 16, 3) := by decide +kernel
theorem d_Model_valid2_45 : decode prog_14_method_26_code 45 = .ok (.getfield 110, 3) := by decide +kernel
theorem d_Model_valid2_48 : decode prog_14_method_26_code 48 = .ok (.if_icmp .ge 37, 3) := by decide +kernel
theorem d_Model_valid2_85 : decode prog_14_method_26_code 85 = .ok (.iconst 0, 1) := by decide +kernel
theorem d_Model_valid2_86 : decode prog_14_method_26_code 86 = .ok (.istore_n 1, 1) := by decide +kernel
theorem d_Model_valid2_87 : decode prog_14_method_26_code 87 = .ok (.iload_n 1, 1) := by decide +kernel
theorem d_Model_valid2_88 : decode prog_14_method_26_code 88 = .ok (.aload_n 0, 1) := by decide +kernel
theorem d_Model_valid2_89 : decode prog_14_method_26_code 89 = .ok (.getfield 16, 3) := by decide +kernel
theorem d_Model_valid2_92 : decode prog_14_method_26_code 92 = .ok (.getfield 122, 3) := by decide +kernel
theorem d_Model_valid2_95 : decode prog_14_method_26_code 95 = .ok (.if_icmp .ge 64, 3) := by decide +kernel
theorem d_Model_valid2_159 : decode prog_14_method_26_code 159 = .ok (.iconst 0, 1) := by decide +kernel
theorem d_Model_valid2_160 : decode prog_14_method_26_code 160 = .ok (.istore_n 1, 1) := by decide +kernel
theorem d_Model_valid2_161 : decode prog_14_method_26_code 161 = .ok (.iload_n 1, 1) := by decide +kernel
theorem d_Model_valid2_162 : decode prog_14_method_26_code 162 = .ok (.aload_n 0, 1) := by decide +kernel
theorem d_Model_valid2_163 : decode prog_14_method_26_code 163 = .ok (.getfield 16, 3) := by decide +kernel
theorem d_Model_valid2_166 : decode prog_14_method_26_code 166 = .ok (.getfield 125, 3) := by decide +kernel
theorem d_Model_valid2_169 : decode prog_14_method_26_code 169 = .ok (.if_icmp .ge 163, 3) := by decide +kernel
theorem d_Model_valid2_332 : decode prog_14_method_26_code 332 = .ok (.aload_n 0, 1) := by decide +kernel
theorem d_Model_valid2_333 : decode prog_14_method_26_code 333 = .ok (.getfield 16, 3) := by decide +kernel
theorem d_Model_valid2_336 : decode prog_14_method_26_code 336 = .ok (.getfield 137, 3) := by decide +kernel
theorem d_Model_valid2_339 : decode prog_14_method_26_code 339 = .ok (.ifCond .lt 81, 3) := by decide +kernel
theorem d_Model_valid2_420 : decode prog_14_method_26_code 420 = .ok (.iconst 0, 1) := by decide +kernel
theorem d_Model_valid2_421 : decode prog_14_method_26_code 421 = .ok (.istore_n 1, 1) := by decide +kernel
theorem d_Model_valid2_422 : decode prog_14_method_26_code 422 = .ok (.iload_n 1, 1) := by decide +kernel
theorem d_Model_valid2_423 : decode prog_14_method_26_code 423 = .ok (.aload_n 0, 1) := by decide +kernel
theorem d_Model_valid2_424 : decode prog_14_method_26_code 424 = .ok (.getfield 16, 3) := by decide +kernel
theorem d_Model_valid2_427 : decode prog_14_method_26_code 427 = .ok (.getfield 128, 3) := by decide +kernel
theorem d_Model_valid2_430 : decode prog_14_method_26_code 430 = .ok (.if_icmp .ge 137, 3) := by decide +kernel
theorem d_Model_valid2_567 : decode prog_14_method_26_code 567 = .ok (.iconst 0, 1) := by decide +kernel
theorem d_Model_valid2_568 : decode prog_14_method_26_code 568 = .ok (.istore_n 1, 1) := by decide +kernel
theorem d_Model_valid2_569 : decode prog_14_method_26_code 569 = .ok (.iload_n 1, 1) := by decide +kernel
theorem d_Model_valid2_570 : decode prog_14_method_26_code 570 = .ok (.aload_n 0, 1) := by decide +kernel
theorem d_Model_valid2_571 : decode prog_14_method_26_code 571 = .ok (.getfield 16, 3) := by decide +kernel
theorem d_Model_valid2_574 : decode prog_14_method_26_code 574 = .ok (.getfield 131, 3) := by decide +kernel
theorem d_Model_valid2_577 : decode prog_14_method_26_code 577 = .ok (.if_icmp .ge 67, 3) := by decide +kernel
theorem d_Model_valid2_644 : decode prog_14_method_26_code 644 = .ok (.iconst 0, 1) := by decide +kernel
theorem d_Model_valid2_645 : decode prog_14_method_26_code 645 = .ok (.istore_n 1, 1) := by decide +kernel
theorem d_Model_valid2_646 : decode prog_14_method_26_code 646 = .ok (.iload_n 1, 1) := by decide +kernel
theorem d_Model_valid2_647 : decode prog_14_method_26_code 647 = .ok (.aload_n 0, 1) := by decide +kernel
theorem d_Model_valid2_648 : decode prog_14_method_26_code 648 = .ok (.getfield 16, 3) := by decide +kernel
theorem d_Model_valid2_651 : decode prog_14_method_26_code 651 = .ok (.getfield 134, 3) := by decide +kernel
theorem d_Model_valid2_654 : decode prog_14_method_26_code 654 = .ok (.if_icmp .ge 14, 3) := by decide +kernel
theorem d_Model_valid2_668 : decode prog_14_method_26_code 668 = .ok (.return_, 1) := by decide +kernel
theorem d_Model_valid2_657 : decode prog_14_method_26_code 657 = .ok (.aload_n 0, 1) := by decide +kernel
theorem d_Model_valid2_658 : decode prog_14_method_26_code 658 = .ok (.iload_n 1, 1) := by decide +kernel
theorem d_Model_valid2_659 : decode prog_14_method_26_code 659 = .ok (.invokevirtual 363, 3) := by decide +kernel
theorem nm_Model_valid : x_nm y_Model_valid 1 = true := by decide +kernel
theorem d_Model_valid2_662 : decode prog_14_method_26_code 662 = .ok (.iinc 1 1, 3) := by decide +kernel
theorem d_Model_valid2_665 : decode prog_14_method_26_code 665 = .ok (.goto (-19), 3) := by decide +kernel
theorem d_Model_valid2_580 : decode prog_14_method_26_code 580 = .ok (.aload_n 0, 1) := by decide +kernel
theorem d_Model_valid2_581 : decode prog_14_method_26_code 581 = .ok (.aload_n 0, 1) := by decide +kernel
theorem d_Model_valid2_582 : decode prog_14_method_26_code 582 = .ok (.getfield 16, 3) := by decide +kernel
theorem d_Model_valid2_585 : decode prog_14_method_26_code 585 = .ok (.getfield 307, 3) := by decide +kernel
theorem d_Model_valid2_588 : decode prog_14_method_26_code 588 = .ok (.iload_n 1, 1) := by decide +kernel
theorem d_Model_valid2_589 : decode prog_14_method_26_code 589 = .ok (.iaload, 1) := by decide +kernel
theorem d_Model_valid2_590 : decode prog_14_method_26_code 590 = .ok (.ifCond .ne 44, 3) := by decide +kernel
theorem d_Model_valid2_634 : decode prog_14_method_26_code 634 = .ok (.iconst 0, 1) := by decide +kernel
theorem d_Model_valid2_635 : decode prog_14_method_26_code 635 = .ok (.invokevirtual 351, 3) := by decide +kernel
theorem d_Model_valid2_593 : decode prog_14_method_26_code 593 = .ok (.aload_n 0, 1) := by decide +kernel
theorem d_Model_valid2_594 : decode prog_14_method_26_code 594 = .ok (.getfield 16, 3) := by decide +kernel
theorem d_Model_valid2_597 : decode prog_14_method_26_code 597 = .ok (.getfield 119, 3) := by decide +kernel
theorem d_Model_valid2_600 : decode prog_14_method_26_code 600 = .ok (.iconst 1, 1) := by decide +kernel
theorem d_Model_valid2_601 : decode prog_14_method_26_code 601 = .ok (.if_icmp .ne 33, 3) := by decide +kernel
theorem d_Model_valid2_604 : decode prog_14_method_26_code 604 = .ok (.aload_n 0, 1) := by decide +kernel
theorem d_Model_valid2_605 : decode prog_14_method_26_code 605 = .ok (.aload_n 0, 1) := by decide +kernel
theorem d_Model_valid2_606 : decode prog_14_method_26_code 606 = .ok (.getfield 16, 3) := by decide +kernel
theorem d_Model_valid2_609 : decode prog_14_method_26_code 609 = .ok (.getfield 310, 3) := by decide +kernel
theorem d_Model_valid2_612 : decode prog_14_method_26_code 612 = .ok (.iload_n 1, 1) := by decide +kernel
theorem d_Model_valid2_613 : decode prog_14_method_26_code 613 = .ok (.iaload, 1) := by decide +kernel
theorem d_Model_valid2_614 : decode prog_14_method_26_code 614 = .ok (.aload_n 0, 1) := by decide +kernel
theorem d_Model_valid2_615 : decode prog_14_method_26_code 615 = .ok (.getfield 16, 3) := by decide +kernel
theorem d_Model_valid2_618 : decode prog_14_method_26_code 618 = .ok (.getfield 313, 3) := by decide +kernel
theorem d_Model_valid2_621 : decode prog_14_method_26_code 621 = .ok (.iload_n 1, 1) := by decide +kernel
theorem d_Model_valid2_622 : decode prog_14_method_26_code 622 = .ok (.laload, 1) := by decide +kernel
theorem d_Model_valid2_623 : decode prog_14_method_26_code 623 = .ok (.iconst 1, 1) := by decide +kernel
theorem d_Model_valid2_624 : decode prog_14_method_26_code 624 = .ok (.invokevirtual 355, 3) := by decide +kernel
theorem nm_Model_isInitial : x_nm y_Model_isInitial 3 = true := by decide +kernel
theorem d_Model_valid2_627 : decode prog_14_method_26_code 627 = .ok (.ifCond .eq 7, 3) := by decide +kernel
