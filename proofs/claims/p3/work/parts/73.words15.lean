def y_Model_must : MethodName := ⟨"WasmReaderModel", "must", "(Z)V"⟩
def y_Model_push : MethodName := ⟨"WasmReaderModel", "push", "(I)V"⟩
def y_Model_pop : MethodName := ⟨"WasmReaderModel", "pop", "(I)I"⟩
def y_Model_pops : MethodName := ⟨"WasmReaderModel", "pops", "(I)V"⟩
def y_Model_dead : MethodName := ⟨"WasmReaderModel", "dead", "()V"⟩
def y_Model_open : MethodName := ⟨"WasmReaderModel", "open", "(III)V"⟩
def y_Model_block : MethodName := ⟨"WasmReaderModel", "block", "(J)I"⟩
def y_Model_blockType : MethodName := ⟨"WasmReaderModel", "blockType", "()I"⟩
def y_Model_called : MethodName := ⟨"WasmReaderModel", "called", "(I)V"⟩
def y_Model_isLong : MethodName := ⟨"WasmReaderModel", "isLong", "(I)Z"⟩
def y_Model_access : MethodName := ⟨"WasmReaderModel", "access", "(I)V"⟩
def y_Model_numeric : MethodName := ⟨"WasmReaderModel", "numeric", "(I)V"⟩
def y_Model_table : MethodName := ⟨"WasmReaderModel", "table", "()V"⟩
theorem m_877 : Cond.fieldLink "WasmReaderModel" 366 "WasmReaderModel" "high" "I" ∈ xtb := x_in (List.mem_of_getElem? (i := 1343) (by decide +kernel)) (by decide +kernel)
theorem m_878 : Cond.fieldLink "WasmReaderModel" 369 "WasmReaderModel" "blocks" "I" ∈ xtb := x_in (List.mem_of_getElem? (i := 1344) (by decide +kernel)) (by decide +kernel)
theorem m_879 : Cond.methodLink "WasmReaderModel" 351 y_Model_must ∈ xtb := x_in (List.mem_of_getElem? (i := 1545) (by decide +kernel)) (by decide +kernel)
theorem m_880 : Cond.code y_Model_must prog_14_method_24_code 2 none ∈ xtb := x_in (List.mem_of_getElem? (i := 1548) (by decide +kernel)) (by decide +kernel)
theorem m_881 : Cond.instanceMethod y_Model_must ∈ xtb := x_in (List.mem_of_getElem? (i := 1547) (by decide +kernel)) (by decide +kernel)
theorem m_882 : Cond.selects "WasmReaderModel" y_Model_must y_Model_must ∈ xtb := x_in (List.mem_of_getElem? (i := 72) (by decide +kernel)) (by decide +kernel)
theorem m_883 : Cond.code y_Model_pop prog_14_method_29_code 2 (some .int) ∈ xtb := x_in (List.mem_of_getElem? (i := 1575) (by decide +kernel)) (by decide +kernel)
theorem m_884 : Cond.methodLink "WasmReaderModel" 372 y_Model_pop ∈ xtb := x_in (List.mem_of_getElem? (i := 1572) (by decide +kernel)) (by decide +kernel)
theorem m_885 : Cond.instanceMethod y_Model_pop ∈ xtb := x_in (List.mem_of_getElem? (i := 1574) (by decide +kernel)) (by decide +kernel)
theorem m_886 : Cond.selects "WasmReaderModel" y_Model_pop y_Model_pop ∈ xtb := x_in (List.mem_of_getElem? (i := 78) (by decide +kernel)) (by decide +kernel)
theorem m_887 : Cond.methodLink "WasmReaderModel" 387 y_Model_push ∈ xtb := x_in (List.mem_of_getElem? (i := 1580) (by decide +kernel)) (by decide +kernel)
theorem m_888 : Cond.code y_Model_push prog_14_method_28_code 2 none ∈ xtb := x_in (List.mem_of_getElem? (i := 1583) (by decide +kernel)) (by decide +kernel)
theorem m_889 : Cond.instanceMethod y_Model_push ∈ xtb := x_in (List.mem_of_getElem? (i := 1582) (by decide +kernel)) (by decide +kernel)
theorem m_890 : Cond.selects "WasmReaderModel" y_Model_push y_Model_push ∈ xtb := x_in (List.mem_of_getElem? (i := 80) (by decide +kernel)) (by decide +kernel)
theorem m_891 : Cond.constantLong "WasmReaderModel" 405 32 ∈ xtb := x_in (List.mem_of_getElem? (i := 1600) (by decide +kernel)) (by decide +kernel)
theorem m_892 : Cond.methodLink "WasmReaderModel" 407 y_Model_isLong ∈ xtb := x_in (List.mem_of_getElem? (i := 1601) (by decide +kernel)) (by decide +kernel)
theorem m_893 : Cond.code y_Model_isLong prog_14_method_38_code 1 (some .boolean) ∈ xtb := x_in (List.mem_of_getElem? (i := 1603) (by decide +kernel)) (by decide +kernel)
theorem m_894 : Cond.static y_Model_isLong ∈ xtb := x_in (List.mem_of_getElem? (i := 1602) (by decide +kernel)) (by decide +kernel)
theorem m_895 : Cond.code y_Model_block prog_14_method_33_code 3 (some .int) ∈ xtb := x_in (List.mem_of_getElem? (i := 1587) (by decide +kernel)) (by decide +kernel)
theorem m_896 : Cond.methodLink "WasmReaderModel" 390 y_Model_block ∈ xtb := x_in (List.mem_of_getElem? (i := 1584) (by decide +kernel)) (by decide +kernel)
theorem m_897 : Cond.instanceMethod y_Model_block ∈ xtb := x_in (List.mem_of_getElem? (i := 1586) (by decide +kernel)) (by decide +kernel)
theorem m_898 : Cond.selects "WasmReaderModel" y_Model_block y_Model_block ∈ xtb := x_in (List.mem_of_getElem? (i := 81) (by decide +kernel)) (by decide +kernel)
theorem m_899 : Cond.code y_Model_pops prog_14_method_30_code 2 none ∈ xtb := x_in (List.mem_of_getElem? (i := 1579) (by decide +kernel)) (by decide +kernel)
theorem m_900 : Cond.methodLink "WasmReaderModel" 384 y_Model_pops ∈ xtb := x_in (List.mem_of_getElem? (i := 1576) (by decide +kernel)) (by decide +kernel)
theorem m_901 : Cond.instanceMethod y_Model_pops ∈ xtb := x_in (List.mem_of_getElem? (i := 1578) (by decide +kernel)) (by decide +kernel)
theorem m_902 : Cond.selects "WasmReaderModel" y_Model_pops y_Model_pops ∈ xtb := x_in (List.mem_of_getElem? (i := 79) (by decide +kernel)) (by decide +kernel)
theorem m_903 : Cond.methodLink "WasmReaderModel" 378 y_Model_dead ∈ xtb := x_in (List.mem_of_getElem? (i := 1564) (by decide +kernel)) (by decide +kernel)
theorem m_904 : Cond.code y_Model_dead prog_14_method_31_code 1 none ∈ xtb := x_in (List.mem_of_getElem? (i := 1567) (by decide +kernel)) (by decide +kernel)
theorem m_905 : Cond.instanceMethod y_Model_dead ∈ xtb := x_in (List.mem_of_getElem? (i := 1566) (by decide +kernel)) (by decide +kernel)
theorem m_906 : Cond.selects "WasmReaderModel" y_Model_dead y_Model_dead ∈ xtb := x_in (List.mem_of_getElem? (i := 76) (by decide +kernel)) (by decide +kernel)
theorem d_Model_must_0 : decode prog_14_method_24_code 0 = .ok (.iload_n 1, 1) := by decide +kernel
theorem d_Model_must_1 : decode prog_14_method_24_code 1 = .ok (.ifCond .ne 12, 3) := by decide +kernel
theorem d_Model_must_13 : decode prog_14_method_24_code 13 = .ok (.return_, 1) := by decide +kernel
theorem d_Model_must_4 : decode prog_14_method_24_code 4 = .ok (.new 56, 3) := by decide +kernel
theorem d_Model_must_7 : decode prog_14_method_24_code 7 = .ok (.dup, 1) := by decide +kernel
theorem d_Model_must_8 : decode prog_14_method_24_code 8 = .ok (.iconst 2, 1) := by decide +kernel
theorem d_Model_must_9 : decode prog_14_method_24_code 9 = .ok (.invokespecial 58, 3) := by decide +kernel
theorem d_Model_must_12 : decode prog_14_method_24_code 12 = .ok (.athrow, 1) := by decide +kernel
theorem d_Model_push_0 : decode prog_14_method_28_code 0 = .ok (.iload_n 1, 1) := by decide +kernel
theorem d_Model_push_1 : decode prog_14_method_28_code 1 = .ok (.ifCond .le 20, 3) := by decide +kernel
theorem d_Model_push_21 : decode prog_14_method_28_code 21 = .ok (.return_, 1) := by decide +kernel
theorem d_Model_push_4 : decode prog_14_method_28_code 4 = .ok (.aload_n 0, 1) := by decide +kernel
theorem d_Model_push_5 : decode prog_14_method_28_code 5 = .ok (.getfield 27, 3) := by decide +kernel
theorem d_Model_push_8 : decode prog_14_method_28_code 8 = .ok (.aload_n 0, 1) := by decide +kernel
theorem d_Model_push_9 : decode prog_14_method_28_code 9 = .ok (.dup, 1) := by decide +kernel
theorem d_Model_push_10 : decode prog_14_method_28_code 10 = .ok (.getfield 366, 3) := by decide +kernel
theorem d_Model_push_13 : decode prog_14_method_28_code 13 = .ok (.dup_x1, 1) := by decide +kernel
theorem d_Model_push_14 : decode prog_14_method_28_code 14 = .ok (.iconst 1, 1) := by decide +kernel
theorem d_Model_push_15 : decode prog_14_method_28_code 15 = .ok (.iadd, 1) := by decide +kernel
theorem d_Model_push_16 : decode prog_14_method_28_code 16 = .ok (.putfield 366, 3) := by decide +kernel
theorem d_Model_push_19 : decode prog_14_method_28_code 19 = .ok (.iload_n 1, 1) := by decide +kernel
theorem d_Model_push_20 : decode prog_14_method_28_code 20 = .ok (.iastore, 1) := by decide +kernel
theorem d_Model_pop_0 : decode prog_14_method_29_code 0 = .ok (.aload_n 0, 1) := by decide +kernel
theorem d_Model_pop_1 : decode prog_14_method_29_code 1 = .ok (.getfield 366, 3) := by decide +kernel
theorem d_Model_pop_4 : decode prog_14_method_29_code 4 = .ok (.aload_n 0, 1) := by decide +kernel
theorem d_Model_pop_5 : decode prog_14_method_29_code 5 = .ok (.getfield 36, 3) := by decide +kernel
theorem d_Model_pop_8 : decode prog_14_method_29_code 8 = .ok (.aload_n 0, 1) := by decide +kernel
theorem d_Model_pop_9 : decode prog_14_method_29_code 9 = .ok (.getfield 369, 3) := by decide +kernel
theorem d_Model_pop_12 : decode prog_14_method_29_code 12 = .ok (.iconst 1, 1) := by decide +kernel
theorem d_Model_pop_13 : decode prog_14_method_29_code 13 = .ok (.isub, 1) := by decide +kernel
theorem d_Model_pop_14 : decode prog_14_method_29_code 14 = .ok (.iaload, 1) := by decide +kernel
theorem d_Model_pop_15 : decode prog_14_method_29_code 15 = .ok (.if_icmp .ne 20, 3) := by decide +kernel
theorem d_Model_pop_35 : decode prog_14_method_29_code 35 = .ok (.aload_n 0, 1) := by decide +kernel
theorem d_Model_pop_36 : decode prog_14_method_29_code 36 = .ok (.dup, 1) := by decide +kernel
theorem d_Model_pop_37 : decode prog_14_method_29_code 37 = .ok (.getfield 366, 3) := by decide +kernel
theorem d_Model_pop_40 : decode prog_14_method_29_code 40 = .ok (.iconst 1, 1) := by decide +kernel
theorem d_Model_pop_41 : decode prog_14_method_29_code 41 = .ok (.isub, 1) := by decide +kernel
theorem d_Model_pop_42 : decode prog_14_method_29_code 42 = .ok (.putfield 366, 3) := by decide +kernel
theorem d_Model_pop_45 : decode prog_14_method_29_code 45 = .ok (.aload_n 0, 1) := by decide +kernel
theorem d_Model_pop_46 : decode prog_14_method_29_code 46 = .ok (.aload_n 0, 1) := by decide +kernel
theorem d_Model_pop_47 : decode prog_14_method_29_code 47 = .ok (.getfield 27, 3) := by decide +kernel
theorem d_Model_pop_50 : decode prog_14_method_29_code 50 = .ok (.aload_n 0, 1) := by decide +kernel
theorem d_Model_pop_51 : decode prog_14_method_29_code 51 = .ok (.getfield 366, 3) := by decide +kernel
theorem d_Model_pop_54 : decode prog_14_method_29_code 54 = .ok (.iaload, 1) := by decide +kernel
theorem d_Model_pop_55 : decode prog_14_method_29_code 55 = .ok (.iload_n 1, 1) := by decide +kernel
theorem d_Model_pop_56 : decode prog_14_method_29_code 56 = .ok (.if_icmp .eq 21, 3) := by decide +kernel
theorem d_Model_pop_77 : decode prog_14_method_29_code 77 = .ok (.iconst 1, 1) := by decide +kernel
theorem d_Model_pop_78 : decode prog_14_method_29_code 78 = .ok (.goto 4, 3) := by decide +kernel
theorem d_Model_pop_82 : decode prog_14_method_29_code 82 = .ok (.invokevirtual 351, 3) := by decide +kernel
theorem nm_Model_must : x_nm y_Model_must 1 = true := by decide +kernel
theorem d_Model_pop_85 : decode prog_14_method_29_code 85 = .ok (.aload_n 0, 1) := by decide +kernel
theorem d_Model_pop_86 : decode prog_14_method_29_code 86 = .ok (.getfield 27, 3) := by decide +kernel
theorem d_Model_pop_89 : decode prog_14_method_29_code 89 = .ok (.aload_n 0, 1) := by decide +kernel
theorem d_Model_pop_90 : decode prog_14_method_29_code 90 = .ok (.getfield 366, 3) := by decide +kernel
theorem d_Model_pop_93 : decode prog_14_method_29_code 93 = .ok (.iaload, 1) := by decide +kernel
theorem d_Model_pop_94 : decode prog_14_method_29_code 94 = .ok (.iconst 3, 1) := by decide +kernel
theorem d_Model_pop_95 : decode prog_14_method_29_code 95 = .ok (.if_icmp .ne 7, 3) := by decide +kernel
theorem d_Model_pop_102 : decode prog_14_method_29_code 102 = .ok (.aload_n 0, 1) := by decide +kernel
theorem d_Model_pop_103 : decode prog_14_method_29_code 103 = .ok (.getfield 27, 3) := by decide +kernel
theorem d_Model_pop_106 : decode prog_14_method_29_code 106 = .ok (.aload_n 0, 1) := by decide +kernel
theorem d_Model_pop_107 : decode prog_14_method_29_code 107 = .ok (.getfield 366, 3) := by decide +kernel
theorem d_Model_pop_110 : decode prog_14_method_29_code 110 = .ok (.iaload, 1) := by decide +kernel
theorem d_Model_pop_111 : decode prog_14_method_29_code 111 = .ok (.ireturn, 1) := by decide +kernel
theorem d_Model_pop_98 : decode prog_14_method_29_code 98 = .ok (.iload_n 1, 1) := by decide +kernel
theorem d_Model_pop_99 : decode prog_14_method_29_code 99 = .ok (.goto 12, 3) := by decide +kernel
theorem d_Model_pop_59 : decode prog_14_method_29_code 59 = .ok (.iload_n 1, 1) := by decide +kernel
theorem d_Model_pop_60 : decode prog_14_method_29_code 60 = .ok (.iconst 3, 1) := by decide +kernel
theorem d_Model_pop_61 : decode prog_14_method_29_code 61 = .ok (.if_icmp .eq 16, 3) := by decide +kernel
theorem d_Model_pop_64 : decode prog_14_method_29_code 64 = .ok (.aload_n 0, 1) := by decide +kernel
theorem d_Model_pop_65 : decode prog_14_method_29_code 65 = .ok (.getfield 27, 3) := by decide +kernel
theorem d_Model_pop_68 : decode prog_14_method_29_code 68 = .ok (.aload_n 0, 1) := by decide +kernel
theorem d_Model_pop_69 : decode prog_14_method_29_code 69 = .ok (.getfield 366, 3) := by decide +kernel
theorem d_Model_pop_72 : decode prog_14_method_29_code 72 = .ok (.iaload, 1) := by decide +kernel
theorem d_Model_pop_73 : decode prog_14_method_29_code 73 = .ok (.iconst 3, 1) := by decide +kernel
theorem d_Model_pop_74 : decode prog_14_method_29_code 74 = .ok (.if_icmp .ne 7, 3) := by decide +kernel
theorem d_Model_pop_81 : decode prog_14_method_29_code 81 = .ok (.iconst 0, 1) := by decide +kernel
theorem d_Model_pop_18 : decode prog_14_method_29_code 18 = .ok (.aload_n 0, 1) := by decide +kernel
theorem d_Model_pop_19 : decode prog_14_method_29_code 19 = .ok (.aload_n 0, 1) := by decide +kernel
theorem d_Model_pop_20 : decode prog_14_method_29_code 20 = .ok (.getfield 42, 3) := by decide +kernel
theorem d_Model_pop_23 : decode prog_14_method_29_code 23 = .ok (.aload_n 0, 1) := by decide +kernel
theorem d_Model_pop_24 : decode prog_14_method_29_code 24 = .ok (.getfield 369, 3) := by decide +kernel
theorem d_Model_pop_27 : decode prog_14_method_29_code 27 = .ok (.iconst 1, 1) := by decide +kernel
theorem d_Model_pop_28 : decode prog_14_method_29_code 28 = .ok (.isub, 1) := by decide +kernel
theorem d_Model_pop_29 : decode prog_14_method_29_code 29 = .ok (.baload, 1) := by decide +kernel
theorem d_Model_pop_30 : decode prog_14_method_29_code 30 = .ok (.invokevirtual 351, 3) := by decide +kernel
theorem d_Model_pop_33 : decode prog_14_method_29_code 33 = .ok (.iload_n 1, 1) := by decide +kernel
theorem d_Model_pop_34 : decode prog_14_method_29_code 34 = .ok (.ireturn, 1) := by decide +kernel
theorem d_Model_pops_0 : decode prog_14_method_30_code 0 = .ok (.iload_n 1, 1) := by decide +kernel
theorem d_Model_pops_1 : decode prog_14_method_30_code 1 = .ok (.ifCond .le 9, 3) := by decide +kernel
theorem d_Model_pops_10 : decode prog_14_method_30_code 10 = .ok (.return_, 1) := by decide +kernel
theorem d_Model_pops_4 : decode prog_14_method_30_code 4 = .ok (.aload_n 0, 1) := by decide +kernel
theorem d_Model_pops_5 : decode prog_14_method_30_code 5 = .ok (.iload_n 1, 1) := by decide +kernel
theorem d_Model_pops_6 : decode prog_14_method_30_code 6 = .ok (.invokevirtual 372, 3) := by decide +kernel
theorem nm_Model_pop : x_nm y_Model_pop 1 = true := by decide +kernel
theorem d_Model_pops_9 : decode prog_14_method_30_code 9 = .ok (.pop, 1) := by decide +kernel
theorem d_Model_dead_0 : decode prog_14_method_31_code 0 = .ok (.aload_n 0, 1) := by decide +kernel
theorem d_Model_dead_1 : decode prog_14_method_31_code 1 = .ok (.aload_n 0, 1) := by decide +kernel
theorem d_Model_dead_2 : decode prog_14_method_31_code 2 = .ok (.getfield 36, 3) := by decide +kernel
theorem d_Model_dead_5 : decode prog_14_method_31_code 5 = .ok (.aload_n 0, 1) := by decide +kernel
theorem d_Model_dead_6 : decode prog_14_method_31_code 6 = .ok (.getfield 369, 3) := by decide +kernel
theorem d_Model_dead_9 : decode prog_14_method_31_code 9 = .ok (.iconst 1, 1) := by decide +kernel
theorem d_Model_dead_10 : decode prog_14_method_31_code 10 = .ok (.isub, 1) := by decide +kernel
theorem d_Model_dead_11 : decode prog_14_method_31_code 11 = .ok (.iaload, 1) := by decide +kernel
theorem d_Model_dead_12 : decode prog_14_method_31_code 12 = .ok (.putfield 366, 3) := by decide +kernel
theorem d_Model_dead_15 : decode prog_14_method_31_code 15 = .ok (.aload_n 0, 1) := by decide +kernel
theorem d_Model_dead_16 : decode prog_14_method_31_code 16 = .ok (.getfield 42, 3) := by decide +kernel
theorem d_Model_dead_19 : decode prog_14_method_31_code 19 = .ok (.aload_n 0, 1) := by decide +kernel
theorem d_Model_dead_20 : decode prog_14_method_31_code 20 = .ok (.getfield 369, 3) := by decide +kernel
theorem d_Model_dead_23 : decode prog_14_method_31_code 23 = .ok (.iconst 1, 1) := by decide +kernel
theorem d_Model_dead_24 : decode prog_14_method_31_code 24 = .ok (.isub, 1) := by decide +kernel
theorem d_Model_dead_25 : decode prog_14_method_31_code 25 = .ok (.iconst 1, 1) := by decide +kernel
theorem d_Model_dead_26 : decode prog_14_method_31_code 26 = .ok (.bastore, 1) := by decide +kernel
theorem d_Model_dead_27 : decode prog_14_method_31_code 27 = .ok (.return_, 1) := by decide +kernel
theorem d_Model_open_0 : decode prog_14_method_32_code 0 = .ok (.aload_n 0, 1) := by decide +kernel
theorem d_Model_open_1 : decode prog_14_method_32_code 1 = .ok (.getfield 39, 3) := by decide +kernel
theorem d_Model_open_4 : decode prog_14_method_32_code 4 = .ok (.aload_n 0, 1) := by decide +kernel
theorem d_Model_open_5 : decode prog_14_method_32_code 5 = .ok (.getfield 369, 3) := by decide +kernel
theorem d_Model_open_8 : decode prog_14_method_32_code 8 = .ok (.iload_n 1, 1) := by decide +kernel
theorem d_Model_open_9 : decode prog_14_method_32_code 9 = .ok (.iastore, 1) := by decide +kernel
theorem d_Model_open_10 : decode prog_14_method_32_code 10 = .ok (.aload_n 0, 1) := by decide +kernel
theorem d_Model_open_11 : decode prog_14_method_32_code 11 = .ok (.getfield 30, 3) := by decide +kernel
theorem d_Model_open_14 : decode prog_14_method_32_code 14 = .ok (.aload_n 0, 1) := by decide +kernel
theorem d_Model_open_15 : decode prog_14_method_32_code 15 = .ok (.getfield 369, 3) := by decide +kernel
theorem d_Model_open_18 : decode prog_14_method_32_code 18 = .ok (.iload_n 2, 1) := by decide +kernel
theorem d_Model_open_19 : decode prog_14_method_32_code 19 = .ok (.iastore, 1) := by decide +kernel
theorem d_Model_open_20 : decode prog_14_method_32_code 20 = .ok (.aload_n 0, 1) := by decide +kernel
theorem d_Model_open_21 : decode prog_14_method_32_code 21 = .ok (.getfield 33, 3) := by decide +kernel
theorem d_Model_open_24 : decode prog_14_method_32_code 24 = .ok (.aload_n 0, 1) := by decide +kernel
theorem d_Model_open_25 : decode prog_14_method_32_code 25 = .ok (.getfield 369, 3) := by decide +kernel
theorem d_Model_open_28 : decode prog_14_method_32_code 28 = .ok (.iload_n 3, 1) := by decide +kernel
theorem d_Model_open_29 : decode prog_14_method_32_code 29 = .ok (.iastore, 1) := by decide +kernel
theorem d_Model_open_30 : decode prog_14_method_32_code 30 = .ok (.aload_n 0, 1) := by decide +kernel
theorem d_Model_open_31 : decode prog_14_method_32_code 31 = .ok (.getfield 36, 3) := by decide +kernel
theorem d_Model_open_34 : decode prog_14_method_32_code 34 = .ok (.aload_n 0, 1) := by decide +kernel
theorem d_Model_open_35 : decode prog_14_method_32_code 35 = .ok (.getfield 369, 3) := by decide +kernel
theorem d_Model_open_38 : decode prog_14_method_32_code 38 = .ok (.aload_n 0, 1) := by decide +kernel
theorem d_Model_open_39 : decode prog_14_method_32_code 39 = .ok (.getfield 366, 3) := by decide +kernel
theorem d_Model_open_42 : decode prog_14_method_32_code 42 = .ok (.iastore, 1) := by decide +kernel
theorem d_Model_open_43 : decode prog_14_method_32_code 43 = .ok (.aload_n 0, 1) := by decide +kernel
theorem d_Model_open_44 : decode prog_14_method_32_code 44 = .ok (.getfield 42, 3) := by decide +kernel
theorem d_Model_open_47 : decode prog_14_method_32_code 47 = .ok (.aload_n 0, 1) := by decide +kernel
theorem d_Model_open_48 : decode prog_14_method_32_code 48 = .ok (.getfield 369, 3) := by decide +kernel
theorem d_Model_open_51 : decode prog_14_method_32_code 51 = .ok (.iconst 0, 1) := by decide +kernel
theorem d_Model_open_52 : decode prog_14_method_32_code 52 = .ok (.bastore, 1) := by decide +kernel
theorem d_Model_open_53 : decode prog_14_method_32_code 53 = .ok (.aload_n 0, 1) := by decide +kernel
theorem d_Model_open_54 : decode prog_14_method_32_code 54 = .ok (.dup, 1) := by decide +kernel
theorem d_Model_open_55 : decode prog_14_method_32_code 55 = .ok (.getfield 369, 3) := by decide +kernel
theorem d_Model_open_58 : decode prog_14_method_32_code 58 = .ok (.iconst 1, 1) := by decide +kernel
theorem d_Model_open_59 : decode prog_14_method_32_code 59 = .ok (.iadd, 1) := by decide +kernel
theorem d_Model_open_60 : decode prog_14_method_32_code 60 = .ok (.putfield 369, 3) := by decide +kernel
theorem d_Model_open_63 : decode prog_14_method_32_code 63 = .ok (.return_, 1) := by decide +kernel
theorem d_Model_block_0 : decode prog_14_method_33_code 0 = .ok (.aload_n 0, 1) := by decide +kernel
theorem d_Model_block_1 : decode prog_14_method_33_code 1 = .ok (.lload_n 1, 1) := by decide +kernel
theorem d_Model_block_2 : decode prog_14_method_33_code 2 = .ok (.aload_n 0, 1) := by decide +kernel
theorem d_Model_block_3 : decode prog_14_method_33_code 3 = .ok (.getfield 369, 3) := by decide +kernel
theorem d_Model_block_6 : decode prog_14_method_33_code 6 = .ok (.i2l, 1) := by decide +kernel
theorem d_Model_block_7 : decode prog_14_method_33_code 7 = .ok (.lcmp, 1) := by decide +kernel
theorem d_Model_block_8 : decode prog_14_method_33_code 8 = .ok (.ifCond .ge 7, 3) := by decide +kernel
theorem d_Model_block_15 : decode prog_14_method_33_code 15 = .ok (.iconst 0, 1) := by decide +kernel
theorem d_Model_block_16 : decode prog_14_method_33_code 16 = .ok (.invokevirtual 351, 3) := by decide +kernel
theorem d_Model_block_11 : decode prog_14_method_33_code 11 = .ok (.iconst 1, 1) := by decide +kernel
theorem d_Model_block_12 : decode prog_14_method_33_code 12 = .ok (.goto 4, 3) := by decide +kernel
theorem d_Model_block_19 : decode prog_14_method_33_code 19 = .ok (.aload_n 0, 1) := by decide +kernel
theorem d_Model_block_20 : decode prog_14_method_33_code 20 = .ok (.getfield 369, 3) := by decide +kernel
theorem d_Model_block_23 : decode prog_14_method_33_code 23 = .ok (.iconst 1, 1) := by decide +kernel
theorem d_Model_block_24 : decode prog_14_method_33_code 24 = .ok (.isub, 1) := by decide +kernel
theorem d_Model_block_25 : decode prog_14_method_33_code 25 = .ok (.lload_n 1, 1) := by decide +kernel
theorem d_Model_block_26 : decode prog_14_method_33_code 26 = .ok (.l2i, 1) := by decide +kernel
theorem d_Model_block_27 : decode prog_14_method_33_code 27 = .ok (.isub, 1) := by decide +kernel
theorem d_Model_block_28 : decode prog_14_method_33_code 28 = .ok (.ireturn, 1) := by decide +kernel
theorem d_Model_blockType_0 : decode prog_14_method_35_code 0 = .ok (.aload_n 0, 1) := by decide +kernel
theorem d_Model_blockType_1 : decode prog_14_method_35_code 1 = .ok (.invokevirtual 64, 3) := by decide +kernel
theorem d_Model_blockType_4 : decode prog_14_method_35_code 4 = .ok (.istore_n 1, 1) := by decide +kernel
theorem d_Model_blockType_5 : decode prog_14_method_35_code 5 = .ok (.iload_n 1, 1) := by decide +kernel
theorem d_Model_blockType_6 : decode prog_14_method_35_code 6 = .ok (.bipush 64, 2) := by decide +kernel
theorem d_Model_blockType_8 : decode prog_14_method_35_code 8 = .ok (.if_icmp .ne 7, 3) := by decide +kernel
theorem d_Model_blockType_15 : decode prog_14_method_35_code 15 = .ok (.iload_n 1, 1) := by decide +kernel
theorem d_Model_blockType_16 : decode prog_14_method_35_code 16 = .ok (.bipush 127, 2) := by decide +kernel
theorem d_Model_blockType_18 : decode prog_14_method_35_code 18 = .ok (.if_icmp .ne 7, 3) := by decide +kernel
theorem d_Model_blockType_25 : decode prog_14_method_35_code 25 = .ok (.iconst 2, 1) := by decide +kernel
theorem d_Model_blockType_26 : decode prog_14_method_35_code 26 = .ok (.ireturn, 1) := by decide +kernel
theorem d_Model_blockType_21 : decode prog_14_method_35_code 21 = .ok (.iconst 1, 1) := by decide +kernel
theorem d_Model_blockType_22 : decode prog_14_method_35_code 22 = .ok (.goto 4, 3) := by decide +kernel
theorem d_Model_blockType_11 : decode prog_14_method_35_code 11 = .ok (.iconst 0, 1) := by decide +kernel
theorem d_Model_blockType_12 : decode prog_14_method_35_code 12 = .ok (.goto 14, 3) := by decide +kernel
theorem d_Model_called_0 : decode prog_14_method_37_code 0 = .ok (.aload_n 0, 1) := by decide +kernel
theorem d_Model_called_1 : decode prog_14_method_37_code 1 = .ok (.getfield 16, 3) := by decide +kernel
theorem d_Model_called_4 : decode prog_14_method_37_code 4 = .ok (.getfield 228, 3) := by decide +kernel
theorem d_Model_called_7 : decode prog_14_method_37_code 7 = .ok (.iload_n 1, 1) := by decide +kernel
theorem d_Model_called_8 : decode prog_14_method_37_code 8 = .ok (.iaload, 1) := by decide +kernel
theorem d_Model_called_9 : decode prog_14_method_37_code 9 = .ok (.iconst 1, 1) := by decide +kernel
theorem d_Model_called_10 : decode prog_14_method_37_code 10 = .ok (.isub, 1) := by decide +kernel
theorem d_Model_called_11 : decode prog_14_method_37_code 11 = .ok (.istore_n 2, 1) := by decide +kernel
theorem d_Model_called_12 : decode prog_14_method_37_code 12 = .ok (.iload_n 2, 1) := by decide +kernel
theorem d_Model_called_13 : decode prog_14_method_37_code 13 = .ok (.ifCond .lt 28, 3) := by decide +kernel
theorem d_Model_called_41 : decode prog_14_method_37_code 41 = .ok (.aload_n 0, 1) := by decide +kernel
theorem d_Model_called_42 : decode prog_14_method_37_code 42 = .ok (.aload_n 0, 1) := by decide +kernel
theorem d_Model_called_43 : decode prog_14_method_37_code 43 = .ok (.getfield 16, 3) := by decide +kernel
theorem d_Model_called_46 : decode prog_14_method_37_code 46 = .ok (.getfield 231, 3) := by decide +kernel
theorem d_Model_called_49 : decode prog_14_method_37_code 49 = .ok (.iload_n 1, 1) := by decide +kernel
theorem d_Model_called_50 : decode prog_14_method_37_code 50 = .ok (.iaload, 1) := by decide +kernel
theorem d_Model_called_51 : decode prog_14_method_37_code 51 = .ok (.invokevirtual 387, 3) := by decide +kernel
theorem nm_Model_push : x_nm y_Model_push 1 = true := by decide +kernel
theorem d_Model_called_54 : decode prog_14_method_37_code 54 = .ok (.return_, 1) := by decide +kernel
theorem d_Model_called_16 : decode prog_14_method_37_code 16 = .ok (.aload_n 0, 1) := by decide +kernel
theorem d_Model_called_17 : decode prog_14_method_37_code 17 = .ok (.aload_n 0, 1) := by decide +kernel
theorem d_Model_called_18 : decode prog_14_method_37_code 18 = .ok (.getfield 16, 3) := by decide +kernel
theorem d_Model_called_21 : decode prog_14_method_37_code 21 = .ok (.getfield 225, 3) := by decide +kernel
theorem d_Model_called_24 : decode prog_14_method_37_code 24 = .ok (.bipush 6, 2) := by decide +kernel
theorem d_Model_called_26 : decode prog_14_method_37_code 26 = .ok (.iload_n 1, 1) := by decide +kernel
theorem d_Model_called_27 : decode prog_14_method_37_code 27 = .ok (.imul, 1) := by decide +kernel
theorem d_Model_called_28 : decode prog_14_method_37_code 28 = .ok (.iload_n 2, 1) := by decide +kernel
theorem d_Model_called_29 : decode prog_14_method_37_code 29 = .ok (.iadd, 1) := by decide +kernel
theorem d_Model_called_30 : decode prog_14_method_37_code 30 = .ok (.iaload, 1) := by decide +kernel
theorem d_Model_called_31 : decode prog_14_method_37_code 31 = .ok (.invokevirtual 372, 3) := by decide +kernel
theorem d_Model_called_34 : decode prog_14_method_37_code 34 = .ok (.pop, 1) := by decide +kernel
theorem d_Model_called_35 : decode prog_14_method_37_code 35 = .ok (.iinc 2 (-1), 3) := by decide +kernel
theorem d_Model_called_38 : decode prog_14_method_37_code 38 = .ok (.goto (-26), 3) := by decide +kernel
theorem d_Model_isLong_0 : decode prog_14_method_38_code 0 = .ok (.iload_n 0, 1) := by decide +kernel
theorem d_Model_isLong_1 : decode prog_14_method_38_code 1 = .ok (.bipush 41, 2) := by decide +kernel
theorem d_Model_isLong_3 : decode prog_14_method_38_code 3 = .ok (.if_icmp .eq 27, 3) := by decide +kernel
theorem d_Model_isLong_30 : decode prog_14_method_38_code 30 = .ok (.iconst 1, 1) := by decide +kernel
theorem d_Model_isLong_31 : decode prog_14_method_38_code 31 = .ok (.goto 4, 3) := by decide +kernel
theorem d_Model_isLong_35 : decode prog_14_method_38_code 35 = .ok (.ireturn, 1) := by decide +kernel
theorem d_Model_isLong_6 : decode prog_14_method_38_code 6 = .ok (.iload_n 0, 1) := by decide +kernel
theorem d_Model_isLong_7 : decode prog_14_method_38_code 7 = .ok (.bipush 48, 2) := by decide +kernel
theorem d_Model_isLong_9 : decode prog_14_method_38_code 9 = .ok (.if_icmp .lt 9, 3) := by decide +kernel
theorem d_Model_isLong_18 : decode prog_14_method_38_code 18 = .ok (.iload_n 0, 1) := by decide +kernel
theorem d_Model_isLong_19 : decode prog_14_method_38_code 19 = .ok (.bipush 55, 2) := by decide +kernel
theorem d_Model_isLong_21 : decode prog_14_method_38_code 21 = .ok (.if_icmp .eq 9, 3) := by decide +kernel
theorem d_Model_isLong_24 : decode prog_14_method_38_code 24 = .ok (.iload_n 0, 1) := by decide +kernel
theorem d_Model_isLong_25 : decode prog_14_method_38_code 25 = .ok (.bipush 60, 2) := by decide +kernel
theorem d_Model_isLong_27 : decode prog_14_method_38_code 27 = .ok (.if_icmp .lt 7, 3) := by decide +kernel
theorem d_Model_isLong_34 : decode prog_14_method_38_code 34 = .ok (.iconst 0, 1) := by decide +kernel
theorem d_Model_isLong_12 : decode prog_14_method_38_code 12 = .ok (.iload_n 0, 1) := by decide +kernel
theorem d_Model_isLong_13 : decode prog_14_method_38_code 13 = .ok (.bipush 53, 2) := by decide +kernel
theorem d_Model_isLong_15 : decode prog_14_method_38_code 15 = .ok (.if_icmp .le 15, 3) := by decide +kernel
theorem d_Model_access_0 : decode prog_14_method_39_code 0 = .ok (.aload_n 0, 1) := by decide +kernel
theorem d_Model_access_1 : decode prog_14_method_39_code 1 = .ok (.invokevirtual 68, 3) := by decide +kernel
theorem d_Model_access_4 : decode prog_14_method_39_code 4 = .ok (.lstore_n 2, 1) := by decide +kernel
theorem d_Model_access_5 : decode prog_14_method_39_code 5 = .ok (.aload_n 0, 1) := by decide +kernel
theorem d_Model_access_6 : decode prog_14_method_39_code 6 = .ok (.invokevirtual 68, 3) := by decide +kernel
theorem d_Model_access_9 : decode prog_14_method_39_code 9 = .ok (.pop2, 1) := by decide +kernel
theorem d_Model_access_10 : decode prog_14_method_39_code 10 = .ok (.aload_n 0, 1) := by decide +kernel
theorem d_Model_access_11 : decode prog_14_method_39_code 11 = .ok (.aload_n 0, 1) := by decide +kernel
theorem d_Model_access_12 : decode prog_14_method_39_code 12 = .ok (.getfield 16, 3) := by decide +kernel
theorem d_Model_access_15 : decode prog_14_method_39_code 15 = .ok (.getfield 119, 3) := by decide +kernel
theorem d_Model_access_18 : decode prog_14_method_39_code 18 = .ok (.iconst 1, 1) := by decide +kernel
theorem d_Model_access_19 : decode prog_14_method_39_code 19 = .ok (.if_icmp .ne 28, 3) := by decide +kernel
theorem d_Model_access_47 : decode prog_14_method_39_code 47 = .ok (.iconst 0, 1) := by decide +kernel
theorem d_Model_access_48 : decode prog_14_method_39_code 48 = .ok (.invokevirtual 351, 3) := by decide +kernel
theorem d_Model_access_22 : decode prog_14_method_39_code 22 = .ok (.lload_n 2, 1) := by decide +kernel
theorem d_Model_access_23 : decode prog_14_method_39_code 23 = .ok (.ldc2_w 405, 3) := by decide +kernel
theorem d_Model_access_26 : decode prog_14_method_39_code 26 = .ok (.lcmp, 1) := by decide +kernel
theorem d_Model_access_27 : decode prog_14_method_39_code 27 = .ok (.ifCond .ge 20, 3) := by decide +kernel
theorem d_Model_access_30 : decode prog_14_method_39_code 30 = .ok (.lconst 1, 1) := by decide +kernel
theorem d_Model_access_31 : decode prog_14_method_39_code 31 = .ok (.lload_n 2, 1) := by decide +kernel
theorem d_Model_access_32 : decode prog_14_method_39_code 32 = .ok (.l2i, 1) := by decide +kernel
theorem d_Model_access_33 : decode prog_14_method_39_code 33 = .ok (.lshl, 1) := by decide +kernel
theorem d_Model_access_34 : decode prog_14_method_39_code 34 = .ok (.iload_n 1, 1) := by decide +kernel
theorem d_Model_access_35 : decode prog_14_method_39_code 35 = .ok (.invokestatic 347, 3) := by decide +kernel
theorem d_Model_access_38 : decode prog_14_method_39_code 38 = .ok (.i2l, 1) := by decide +kernel
theorem d_Model_access_39 : decode prog_14_method_39_code 39 = .ok (.lcmp, 1) := by decide +kernel
theorem d_Model_access_40 : decode prog_14_method_39_code 40 = .ok (.ifCond .gt 7, 3) := by decide +kernel
theorem d_Model_access_43 : decode prog_14_method_39_code 43 = .ok (.iconst 1, 1) := by decide +kernel
theorem d_Model_access_44 : decode prog_14_method_39_code 44 = .ok (.goto 4, 3) := by decide +kernel
theorem d_Model_access_51 : decode prog_14_method_39_code 51 = .ok (.iload_n 1, 1) := by decide +kernel
theorem d_Model_access_52 : decode prog_14_method_39_code 52 = .ok (.invokestatic 407, 3) := by decide +kernel
theorem nm_Model_isLong : x_nm y_Model_isLong 1 = true := by decide +kernel
theorem d_Model_access_55 : decode prog_14_method_39_code 55 = .ok (.ifCond .eq 7, 3) := by decide +kernel
theorem d_Model_access_62 : decode prog_14_method_39_code 62 = .ok (.iconst 1, 1) := by decide +kernel
theorem d_Model_access_63 : decode prog_14_method_39_code 63 = .ok (.istore 4, 2) := by decide +kernel
theorem d_Model_access_65 : decode prog_14_method_39_code 65 = .ok (.iload_n 1, 1) := by decide +kernel
theorem d_Model_access_66 : decode prog_14_method_39_code 66 = .ok (.bipush 54, 2) := by decide +kernel
theorem d_Model_access_68 : decode prog_14_method_39_code 68 = .ok (.if_icmp .lt 19, 3) := by decide +kernel
theorem d_Model_access_87 : decode prog_14_method_39_code 87 = .ok (.aload_n 0, 1) := by decide +kernel
theorem d_Model_access_88 : decode prog_14_method_39_code 88 = .ok (.iconst 1, 1) := by decide +kernel
theorem d_Model_access_89 : decode prog_14_method_39_code 89 = .ok (.invokevirtual 372, 3) := by decide +kernel
theorem d_Model_access_92 : decode prog_14_method_39_code 92 = .ok (.pop, 1) := by decide +kernel
theorem d_Model_access_93 : decode prog_14_method_39_code 93 = .ok (.aload_n 0, 1) := by decide +kernel
theorem d_Model_access_94 : decode prog_14_method_39_code 94 = .ok (.iload 4, 2) := by decide +kernel
theorem d_Model_access_96 : decode prog_14_method_39_code 96 = .ok (.invokevirtual 387, 3) := by decide +kernel
theorem d_Model_access_99 : decode prog_14_method_39_code 99 = .ok (.return_, 1) := by decide +kernel
theorem d_Model_access_71 : decode prog_14_method_39_code 71 = .ok (.aload_n 0, 1) := by decide +kernel
theorem d_Model_access_72 : decode prog_14_method_39_code 72 = .ok (.iload 4, 2) := by decide +kernel
theorem d_Model_access_74 : decode prog_14_method_39_code 74 = .ok (.invokevirtual 372, 3) := by decide +kernel
theorem d_Model_access_77 : decode prog_14_method_39_code 77 = .ok (.pop, 1) := by decide +kernel
theorem d_Model_access_78 : decode prog_14_method_39_code 78 = .ok (.aload_n 0, 1) := by decide +kernel
theorem d_Model_access_79 : decode prog_14_method_39_code 79 = .ok (.iconst 1, 1) := by decide +kernel
theorem d_Model_access_80 : decode prog_14_method_39_code 80 = .ok (.invokevirtual 372, 3) := by decide +kernel
theorem d_Model_access_83 : decode prog_14_method_39_code 83 = .ok (.pop, 1) := by decide +kernel
theorem d_Model_access_84 : decode prog_14_method_39_code 84 = .ok (.goto 15, 3) := by decide +kernel
theorem d_Model_access_58 : decode prog_14_method_39_code 58 = .ok (.iconst 2, 1) := by decide +kernel
theorem d_Model_access_59 : decode prog_14_method_39_code 59 = .ok (.goto 4, 3) := by decide +kernel
theorem d_Model_numeric_0 : decode prog_14_method_40_code 0 = .ok (.iload_n 1, 1) := by decide +kernel
theorem d_Model_numeric_1 : decode prog_14_method_40_code 1 = .ok (.sipush 167, 3) := by decide +kernel
theorem d_Model_numeric_4 : decode prog_14_method_40_code 4 = .ok (.if_icmp .eq 17, 3) := by decide +kernel
theorem d_Model_numeric_21 : decode prog_14_method_40_code 21 = .ok (.aload_n 0, 1) := by decide +kernel
theorem d_Model_numeric_22 : decode prog_14_method_40_code 22 = .ok (.iload_n 1, 1) := by decide +kernel
theorem d_Model_numeric_23 : decode prog_14_method_40_code 23 = .ok (.sipush 167, 3) := by decide +kernel
theorem d_Model_numeric_26 : decode prog_14_method_40_code 26 = .ok (.if_icmp .ne 7, 3) := by decide +kernel
theorem d_Model_numeric_29 : decode prog_14_method_40_code 29 = .ok (.iconst 2, 1) := by decide +kernel
theorem d_Model_numeric_30 : decode prog_14_method_40_code 30 = .ok (.goto 4, 3) := by decide +kernel
theorem d_Model_numeric_34 : decode prog_14_method_40_code 34 = .ok (.invokevirtual 372, 3) := by decide +kernel
theorem d_Model_numeric_37 : decode prog_14_method_40_code 37 = .ok (.pop, 1) := by decide +kernel
theorem d_Model_numeric_38 : decode prog_14_method_40_code 38 = .ok (.aload_n 0, 1) := by decide +kernel
theorem d_Model_numeric_39 : decode prog_14_method_40_code 39 = .ok (.iload_n 1, 1) := by decide +kernel
theorem d_Model_numeric_40 : decode prog_14_method_40_code 40 = .ok (.sipush 167, 3) := by decide +kernel
theorem d_Model_numeric_43 : decode prog_14_method_40_code 43 = .ok (.if_icmp .ne 7, 3) := by decide +kernel
theorem d_Model_numeric_46 : decode prog_14_method_40_code 46 = .ok (.iconst 1, 1) := by decide +kernel
theorem d_Model_numeric_47 : decode prog_14_method_40_code 47 = .ok (.goto 4, 3) := by decide +kernel
theorem d_Model_numeric_51 : decode prog_14_method_40_code 51 = .ok (.invokevirtual 387, 3) := by decide +kernel
theorem d_Model_numeric_54 : decode prog_14_method_40_code 54 = .ok (.return_, 1) := by decide +kernel
theorem d_Model_numeric_7 : decode prog_14_method_40_code 7 = .ok (.iload_n 1, 1) := by decide +kernel
theorem d_Model_numeric_8 : decode prog_14_method_40_code 8 = .ok (.sipush 172, 3) := by decide +kernel
theorem d_Model_numeric_11 : decode prog_14_method_40_code 11 = .ok (.if_icmp .eq 10, 3) := by decide +kernel
theorem d_Model_numeric_33 : decode prog_14_method_40_code 33 = .ok (.iconst 1, 1) := by decide +kernel
theorem d_Model_numeric_50 : decode prog_14_method_40_code 50 = .ok (.iconst 2, 1) := by decide +kernel
theorem d_Model_numeric_14 : decode prog_14_method_40_code 14 = .ok (.iload_n 1, 1) := by decide +kernel
theorem d_Model_numeric_15 : decode prog_14_method_40_code 15 = .ok (.sipush 173, 3) := by decide +kernel
theorem d_Model_numeric_18 : decode prog_14_method_40_code 18 = .ok (.if_icmp .ne 37, 3) := by decide +kernel
theorem d_Model_numeric_55 : decode prog_14_method_40_code 55 = .ok (.iload_n 1, 1) := by decide +kernel
theorem d_Model_numeric_56 : decode prog_14_method_40_code 56 = .ok (.bipush 80, 2) := by decide +kernel
theorem d_Model_numeric_58 : decode prog_14_method_40_code 58 = .ok (.if_icmp .lt 9, 3) := by decide +kernel
theorem d_Model_numeric_67 : decode prog_14_method_40_code 67 = .ok (.iload_n 1, 1) := by decide +kernel
theorem d_Model_numeric_68 : decode prog_14_method_40_code 68 = .ok (.bipush 121, 2) := by decide +kernel
theorem d_Model_numeric_70 : decode prog_14_method_40_code 70 = .ok (.if_icmp .lt 7, 3) := by decide +kernel
theorem d_Model_numeric_77 : decode prog_14_method_40_code 77 = .ok (.iconst 0, 1) := by decide +kernel
theorem d_Model_numeric_78 : decode prog_14_method_40_code 78 = .ok (.istore_n 2, 1) := by decide +kernel
theorem d_Model_numeric_79 : decode prog_14_method_40_code 79 = .ok (.iload_n 1, 1) := by decide +kernel
theorem d_Model_numeric_80 : decode prog_14_method_40_code 80 = .ok (.bipush 90, 2) := by decide +kernel
theorem d_Model_numeric_82 : decode prog_14_method_40_code 82 = .ok (.if_icmp .gt 7, 3) := by decide +kernel
theorem d_Model_numeric_85 : decode prog_14_method_40_code 85 = .ok (.iconst 1, 1) := by decide +kernel
theorem d_Model_numeric_86 : decode prog_14_method_40_code 86 = .ok (.goto 4, 3) := by decide +kernel
theorem d_Model_numeric_90 : decode prog_14_method_40_code 90 = .ok (.istore_n 3, 1) := by decide +kernel
theorem d_Model_numeric_91 : decode prog_14_method_40_code 91 = .ok (.iload_n 1, 1) := by decide +kernel
theorem d_Model_numeric_92 : decode prog_14_method_40_code 92 = .ok (.bipush 69, 2) := by decide +kernel
theorem d_Model_numeric_94 : decode prog_14_method_40_code 94 = .ok (.if_icmp .eq 33, 3) := by decide +kernel
theorem d_Model_numeric_127 : decode prog_14_method_40_code 127 = .ok (.iconst 1, 1) := by decide +kernel
theorem d_Model_numeric_128 : decode prog_14_method_40_code 128 = .ok (.goto 4, 3) := by decide +kernel
theorem d_Model_numeric_132 : decode prog_14_method_40_code 132 = .ok (.istore 4, 2) := by decide +kernel
theorem d_Model_numeric_134 : decode prog_14_method_40_code 134 = .ok (.iload_n 2, 1) := by decide +kernel
theorem d_Model_numeric_135 : decode prog_14_method_40_code 135 = .ok (.ifCond .eq 7, 3) := by decide +kernel
theorem d_Model_numeric_142 : decode prog_14_method_40_code 142 = .ok (.iconst 1, 1) := by decide +kernel
theorem d_Model_numeric_143 : decode prog_14_method_40_code 143 = .ok (.istore 5, 2) := by decide +kernel
theorem d_Model_numeric_145 : decode prog_14_method_40_code 145 = .ok (.aload_n 0, 1) := by decide +kernel
theorem d_Model_numeric_146 : decode prog_14_method_40_code 146 = .ok (.iload 5, 2) := by decide +kernel
theorem d_Model_numeric_148 : decode prog_14_method_40_code 148 = .ok (.invokevirtual 372, 3) := by decide +kernel
theorem d_Model_numeric_151 : decode prog_14_method_40_code 151 = .ok (.pop, 1) := by decide +kernel
theorem d_Model_numeric_152 : decode prog_14_method_40_code 152 = .ok (.iload 4, 2) := by decide +kernel
theorem d_Model_numeric_154 : decode prog_14_method_40_code 154 = .ok (.ifCond .ne 10, 3) := by decide +kernel
theorem d_Model_numeric_164 : decode prog_14_method_40_code 164 = .ok (.aload_n 0, 1) := by decide +kernel
theorem d_Model_numeric_165 : decode prog_14_method_40_code 165 = .ok (.iload_n 3, 1) := by decide +kernel
theorem d_Model_numeric_166 : decode prog_14_method_40_code 166 = .ok (.ifCond .eq 7, 3) := by decide +kernel
theorem d_Model_numeric_169 : decode prog_14_method_40_code 169 = .ok (.iconst 1, 1) := by decide +kernel
theorem d_Model_numeric_170 : decode prog_14_method_40_code 170 = .ok (.goto 5, 3) := by decide +kernel
theorem d_Model_numeric_175 : decode prog_14_method_40_code 175 = .ok (.invokevirtual 387, 3) := by decide +kernel
theorem d_Model_numeric_178 : decode prog_14_method_40_code 178 = .ok (.return_, 1) := by decide +kernel
theorem d_Model_numeric_97 : decode prog_14_method_40_code 97 = .ok (.iload_n 1, 1) := by decide +kernel
theorem d_Model_numeric_98 : decode prog_14_method_40_code 98 = .ok (.bipush 80, 2) := by decide +kernel
theorem d_Model_numeric_100 : decode prog_14_method_40_code 100 = .ok (.if_icmp .eq 27, 3) := by decide +kernel
theorem d_Model_numeric_103 : decode prog_14_method_40_code 103 = .ok (.iload_n 1, 1) := by decide +kernel
theorem d_Model_numeric_104 : decode prog_14_method_40_code 104 = .ok (.bipush 103, 2) := by decide +kernel
theorem d_Model_numeric_106 : decode prog_14_method_40_code 106 = .ok (.if_icmp .lt 9, 3) := by decide +kernel
theorem d_Model_numeric_115 : decode prog_14_method_40_code 115 = .ok (.iload_n 1, 1) := by decide +kernel
theorem d_Model_numeric_116 : decode prog_14_method_40_code 116 = .ok (.bipush 121, 2) := by decide +kernel
theorem d_Model_numeric_118 : decode prog_14_method_40_code 118 = .ok (.if_icmp .lt 13, 3) := by decide +kernel
theorem d_Model_numeric_131 : decode prog_14_method_40_code 131 = .ok (.iconst 0, 1) := by decide +kernel
theorem d_Model_numeric_157 : decode prog_14_method_40_code 157 = .ok (.aload_n 0, 1) := by decide +kernel
theorem d_Model_numeric_158 : decode prog_14_method_40_code 158 = .ok (.iload 5, 2) := by decide +kernel
theorem d_Model_numeric_160 : decode prog_14_method_40_code 160 = .ok (.invokevirtual 372, 3) := by decide +kernel
theorem d_Model_numeric_163 : decode prog_14_method_40_code 163 = .ok (.pop, 1) := by decide +kernel
theorem d_Model_numeric_61 : decode prog_14_method_40_code 61 = .ok (.iload_n 1, 1) := by decide +kernel
theorem d_Model_numeric_62 : decode prog_14_method_40_code 62 = .ok (.bipush 90, 2) := by decide +kernel
theorem d_Model_numeric_64 : decode prog_14_method_40_code 64 = .ok (.if_icmp .le 9, 3) := by decide +kernel
theorem d_Model_numeric_73 : decode prog_14_method_40_code 73 = .ok (.iconst 1, 1) := by decide +kernel
theorem d_Model_numeric_74 : decode prog_14_method_40_code 74 = .ok (.goto 4, 3) := by decide +kernel
theorem d_Model_numeric_138 : decode prog_14_method_40_code 138 = .ok (.iconst 2, 1) := by decide +kernel
theorem d_Model_numeric_139 : decode prog_14_method_40_code 139 = .ok (.goto 4, 3) := by decide +kernel
theorem d_Model_numeric_89 : decode prog_14_method_40_code 89 = .ok (.iconst 0, 1) := by decide +kernel
theorem d_Model_numeric_173 : decode prog_14_method_40_code 173 = .ok (.iload 5, 2) := by decide +kernel
theorem d_Model_numeric_109 : decode prog_14_method_40_code 109 = .ok (.iload_n 1, 1) := by decide +kernel
theorem d_Model_numeric_110 : decode prog_14_method_40_code 110 = .ok (.bipush 105, 2) := by decide +kernel
theorem d_Model_numeric_112 : decode prog_14_method_40_code 112 = .ok (.if_icmp .le 15, 3) := by decide +kernel
theorem d_Model_numeric_121 : decode prog_14_method_40_code 121 = .ok (.iload_n 1, 1) := by decide +kernel
theorem d_Model_numeric_122 : decode prog_14_method_40_code 122 = .ok (.bipush 123, 2) := by decide +kernel
theorem d_Model_numeric_124 : decode prog_14_method_40_code 124 = .ok (.if_icmp .gt 7, 3) := by decide +kernel
theorem d_Model_table_0 : decode prog_14_method_36_code 0 = .ok (.aload_n 0, 1) := by decide +kernel
theorem d_Model_table_1 : decode prog_14_method_36_code 1 = .ok (.invokevirtual 68, 3) := by decide +kernel
theorem d_Model_table_4 : decode prog_14_method_36_code 4 = .ok (.lstore_n 1, 1) := by decide +kernel
theorem d_Model_table_5 : decode prog_14_method_36_code 5 = .ok (.aload_n 0, 1) := by decide +kernel
theorem d_Model_table_6 : decode prog_14_method_36_code 6 = .ok (.iconst 1, 1) := by decide +kernel
theorem d_Model_table_7 : decode prog_14_method_36_code 7 = .ok (.invokevirtual 372, 3) := by decide +kernel
theorem d_Model_table_10 : decode prog_14_method_36_code 10 = .ok (.pop, 1) := by decide +kernel
theorem d_Model_table_11 : decode prog_14_method_36_code 11 = .ok (.aload_n 0, 1) := by decide +kernel
theorem d_Model_table_12 : decode prog_14_method_36_code 12 = .ok (.getfield 50, 3) := by decide +kernel
theorem d_Model_table_15 : decode prog_14_method_36_code 15 = .ok (.istore_n 3, 1) := by decide +kernel
theorem d_Model_table_16 : decode prog_14_method_36_code 16 = .ok (.lconst 0, 1) := by decide +kernel
theorem d_Model_table_17 : decode prog_14_method_36_code 17 = .ok (.lstore 4, 2) := by decide +kernel
theorem d_Model_table_19 : decode prog_14_method_36_code 19 = .ok (.lload 4, 2) := by decide +kernel
theorem d_Model_table_21 : decode prog_14_method_36_code 21 = .ok (.lload_n 1, 1) := by decide +kernel
theorem d_Model_table_22 : decode prog_14_method_36_code 22 = .ok (.lcmp, 1) := by decide +kernel
theorem d_Model_table_23 : decode prog_14_method_36_code 23 = .ok (.ifCond .ge 17, 3) := by decide +kernel
theorem d_Model_table_40 : decode prog_14_method_36_code 40 = .ok (.aload_n 0, 1) := by decide +kernel
theorem d_Model_table_41 : decode prog_14_method_36_code 41 = .ok (.getfield 30, 3) := by decide +kernel
theorem d_Model_table_44 : decode prog_14_method_36_code 44 = .ok (.aload_n 0, 1) := by decide +kernel
theorem d_Model_table_45 : decode prog_14_method_36_code 45 = .ok (.aload_n 0, 1) := by decide +kernel
theorem d_Model_table_46 : decode prog_14_method_36_code 46 = .ok (.invokevirtual 68, 3) := by decide +kernel
theorem d_Model_table_49 : decode prog_14_method_36_code 49 = .ok (.invokevirtual 390, 3) := by decide +kernel
theorem nm_Model_block : x_nm y_Model_block 1 = true := by decide +kernel
theorem d_Model_table_52 : decode prog_14_method_36_code 52 = .ok (.iaload, 1) := by decide +kernel
theorem d_Model_table_53 : decode prog_14_method_36_code 53 = .ok (.istore 4, 2) := by decide +kernel
theorem d_Model_table_55 : decode prog_14_method_36_code 55 = .ok (.aload_n 0, 1) := by decide +kernel
theorem d_Model_table_56 : decode prog_14_method_36_code 56 = .ok (.getfield 50, 3) := by decide +kernel
theorem d_Model_table_59 : decode prog_14_method_36_code 59 = .ok (.istore 5, 2) := by decide +kernel
theorem d_Model_table_61 : decode prog_14_method_36_code 61 = .ok (.aload_n 0, 1) := by decide +kernel
theorem d_Model_table_62 : decode prog_14_method_36_code 62 = .ok (.iload_n 3, 1) := by decide +kernel
theorem d_Model_table_63 : decode prog_14_method_36_code 63 = .ok (.putfield 50, 3) := by decide +kernel
theorem d_Model_table_66 : decode prog_14_method_36_code 66 = .ok (.lconst 0, 1) := by decide +kernel
theorem d_Model_table_67 : decode prog_14_method_36_code 67 = .ok (.lstore 6, 2) := by decide +kernel
theorem d_Model_table_69 : decode prog_14_method_36_code 69 = .ok (.lload 6, 2) := by decide +kernel
theorem d_Model_table_71 : decode prog_14_method_36_code 71 = .ok (.lload_n 1, 1) := by decide +kernel
theorem d_Model_table_72 : decode prog_14_method_36_code 72 = .ok (.lcmp, 1) := by decide +kernel
theorem d_Model_table_73 : decode prog_14_method_36_code 73 = .ok (.ifCond .ge 39, 3) := by decide +kernel
theorem d_Model_table_112 : decode prog_14_method_36_code 112 = .ok (.aload_n 0, 1) := by decide +kernel
theorem d_Model_table_113 : decode prog_14_method_36_code 113 = .ok (.iload 5, 2) := by decide +kernel
theorem d_Model_table_115 : decode prog_14_method_36_code 115 = .ok (.putfield 50, 3) := by decide +kernel
theorem d_Model_table_118 : decode prog_14_method_36_code 118 = .ok (.aload_n 0, 1) := by decide +kernel
theorem d_Model_table_119 : decode prog_14_method_36_code 119 = .ok (.iload 4, 2) := by decide +kernel
theorem d_Model_table_121 : decode prog_14_method_36_code 121 = .ok (.invokevirtual 384, 3) := by decide +kernel
theorem nm_Model_pops : x_nm y_Model_pops 1 = true := by decide +kernel
theorem d_Model_table_124 : decode prog_14_method_36_code 124 = .ok (.aload_n 0, 1) := by decide +kernel
theorem d_Model_table_125 : decode prog_14_method_36_code 125 = .ok (.invokevirtual 378, 3) := by decide +kernel
theorem nm_Model_dead : x_nm y_Model_dead 0 = true := by decide +kernel
theorem d_Model_table_128 : decode prog_14_method_36_code 128 = .ok (.return_, 1) := by decide +kernel
theorem d_Model_table_76 : decode prog_14_method_36_code 76 = .ok (.aload_n 0, 1) := by decide +kernel
theorem d_Model_table_77 : decode prog_14_method_36_code 77 = .ok (.aload_n 0, 1) := by decide +kernel
theorem d_Model_table_78 : decode prog_14_method_36_code 78 = .ok (.getfield 30, 3) := by decide +kernel
theorem d_Model_table_81 : decode prog_14_method_36_code 81 = .ok (.aload_n 0, 1) := by decide +kernel
theorem d_Model_table_82 : decode prog_14_method_36_code 82 = .ok (.aload_n 0, 1) := by decide +kernel
theorem d_Model_table_83 : decode prog_14_method_36_code 83 = .ok (.invokevirtual 68, 3) := by decide +kernel
theorem d_Model_table_86 : decode prog_14_method_36_code 86 = .ok (.invokevirtual 390, 3) := by decide +kernel
theorem d_Model_table_89 : decode prog_14_method_36_code 89 = .ok (.iaload, 1) := by decide +kernel
theorem d_Model_table_90 : decode prog_14_method_36_code 90 = .ok (.iload 4, 2) := by decide +kernel
theorem d_Model_table_92 : decode prog_14_method_36_code 92 = .ok (.if_icmp .ne 7, 3) := by decide +kernel
theorem d_Model_table_99 : decode prog_14_method_36_code 99 = .ok (.iconst 0, 1) := by decide +kernel
theorem d_Model_table_100 : decode prog_14_method_36_code 100 = .ok (.invokevirtual 351, 3) := by decide +kernel
theorem d_Model_table_95 : decode prog_14_method_36_code 95 = .ok (.iconst 1, 1) := by decide +kernel
theorem d_Model_table_96 : decode prog_14_method_36_code 96 = .ok (.goto 4, 3) := by decide +kernel
theorem d_Model_table_103 : decode prog_14_method_36_code 103 = .ok (.lload 6, 2) := by decide +kernel
theorem d_Model_table_105 : decode prog_14_method_36_code 105 = .ok (.lconst 1, 1) := by decide +kernel
theorem d_Model_table_106 : decode prog_14_method_36_code 106 = .ok (.ladd, 1) := by decide +kernel
theorem d_Model_table_107 : decode prog_14_method_36_code 107 = .ok (.lstore 6, 2) := by decide +kernel
theorem d_Model_table_109 : decode prog_14_method_36_code 109 = .ok (.goto (-40), 3) := by decide +kernel
theorem d_Model_table_26 : decode prog_14_method_36_code 26 = .ok (.aload_n 0, 1) := by decide +kernel
theorem d_Model_table_27 : decode prog_14_method_36_code 27 = .ok (.invokevirtual 68, 3) := by decide +kernel
theorem d_Model_table_30 : decode prog_14_method_36_code 30 = .ok (.pop2, 1) := by decide +kernel
theorem d_Model_table_31 : decode prog_14_method_36_code 31 = .ok (.lload 4, 2) := by decide +kernel
theorem d_Model_table_33 : decode prog_14_method_36_code 33 = .ok (.lconst 1, 1) := by decide +kernel
theorem d_Model_table_34 : decode prog_14_method_36_code 34 = .ok (.ladd, 1) := by decide +kernel
theorem d_Model_table_35 : decode prog_14_method_36_code 35 = .ok (.lstore 4, 2) := by decide +kernel
theorem d_Model_table_37 : decode prog_14_method_36_code 37 = .ok (.goto (-18), 3) := by decide +kernel
