def y_Model_isInitial : MethodName := ⟨"WasmReaderModel", "isInitial", "(IJI)Z"⟩
def y_Model_isSame : MethodName := ⟨"WasmReaderModel", "isSame", "(LWasmReaderModel$Unit;IILWasmReaderModel$Unit;II)Z"⟩
def y_Model_isRoom : MethodName := ⟨"WasmReaderModel", "isRoom", "()Z"⟩
def y_Model_valid : MethodName := ⟨"WasmReaderModel", "valid", "(I)V"⟩
theorem m_907 : Cond.methodLink "WasmReaderModel" 375 y_Model_open ∈ xtb := x_in (List.mem_of_getElem? (i := 1560) (by decide +kernel)) (by decide +kernel)
theorem m_908 : Cond.code y_Model_open prog_14_method_32_code 4 none ∈ xtb := x_in (List.mem_of_getElem? (i := 1563) (by decide +kernel)) (by decide +kernel)
theorem m_909 : Cond.instanceMethod y_Model_open ∈ xtb := x_in (List.mem_of_getElem? (i := 1562) (by decide +kernel)) (by decide +kernel)
theorem m_910 : Cond.selects "WasmReaderModel" y_Model_open y_Model_open ∈ xtb := x_in (List.mem_of_getElem? (i := 75) (by decide +kernel)) (by decide +kernel)
theorem m_911 : Cond.code y_Model_blockType prog_14_method_35_code 2 (some .int) ∈ xtb := x_in (List.mem_of_getElem? (i := 1571) (by decide +kernel)) (by decide +kernel)
theorem m_912 : Cond.methodLink "WasmReaderModel" 381 y_Model_blockType ∈ xtb := x_in (List.mem_of_getElem? (i := 1568) (by decide +kernel)) (by decide +kernel)
theorem m_913 : Cond.instanceMethod y_Model_blockType ∈ xtb := x_in (List.mem_of_getElem? (i := 1570) (by decide +kernel)) (by decide +kernel)
theorem m_914 : Cond.selects "WasmReaderModel" y_Model_blockType y_Model_blockType ∈ xtb := x_in (List.mem_of_getElem? (i := 77) (by decide +kernel)) (by decide +kernel)
theorem m_915 : Cond.code y_Model_numeric prog_14_method_40_code 6 none ∈ xtb := x_in (List.mem_of_getElem? (i := 1607) (by decide +kernel)) (by decide +kernel)
theorem m_916 : Cond.methodLink "WasmReaderModel" 402 y_Model_numeric ∈ xtb := x_in (List.mem_of_getElem? (i := 1604) (by decide +kernel)) (by decide +kernel)
theorem m_917 : Cond.instanceMethod y_Model_numeric ∈ xtb := x_in (List.mem_of_getElem? (i := 1606) (by decide +kernel)) (by decide +kernel)
theorem m_918 : Cond.selects "WasmReaderModel" y_Model_numeric y_Model_numeric ∈ xtb := x_in (List.mem_of_getElem? (i := 85) (by decide +kernel)) (by decide +kernel)
theorem m_919 : Cond.code y_Model_access prog_14_method_39_code 5 none ∈ xtb := x_in (List.mem_of_getElem? (i := 1599) (by decide +kernel)) (by decide +kernel)
theorem m_920 : Cond.methodLink "WasmReaderModel" 399 y_Model_access ∈ xtb := x_in (List.mem_of_getElem? (i := 1596) (by decide +kernel)) (by decide +kernel)
theorem m_921 : Cond.instanceMethod y_Model_access ∈ xtb := x_in (List.mem_of_getElem? (i := 1598) (by decide +kernel)) (by decide +kernel)
theorem m_922 : Cond.selects "WasmReaderModel" y_Model_access y_Model_access ∈ xtb := x_in (List.mem_of_getElem? (i := 84) (by decide +kernel)) (by decide +kernel)
theorem m_923 : Cond.code y_Model_table prog_14_method_36_code 8 none ∈ xtb := x_in (List.mem_of_getElem? (i := 1591) (by decide +kernel)) (by decide +kernel)
theorem m_924 : Cond.methodLink "WasmReaderModel" 393 y_Model_table ∈ xtb := x_in (List.mem_of_getElem? (i := 1588) (by decide +kernel)) (by decide +kernel)
theorem m_925 : Cond.instanceMethod y_Model_table ∈ xtb := x_in (List.mem_of_getElem? (i := 1590) (by decide +kernel)) (by decide +kernel)
theorem m_926 : Cond.selects "WasmReaderModel" y_Model_table y_Model_table ∈ xtb := x_in (List.mem_of_getElem? (i := 82) (by decide +kernel)) (by decide +kernel)
theorem m_927 : Cond.code y_Model_called prog_14_method_37_code 3 none ∈ xtb := x_in (List.mem_of_getElem? (i := 1595) (by decide +kernel)) (by decide +kernel)
theorem m_928 : Cond.methodLink "WasmReaderModel" 396 y_Model_called ∈ xtb := x_in (List.mem_of_getElem? (i := 1592) (by decide +kernel)) (by decide +kernel)
theorem m_929 : Cond.instanceMethod y_Model_called ∈ xtb := x_in (List.mem_of_getElem? (i := 1594) (by decide +kernel)) (by decide +kernel)
theorem m_930 : Cond.selects "WasmReaderModel" y_Model_called y_Model_called ∈ xtb := x_in (List.mem_of_getElem? (i := 83) (by decide +kernel)) (by decide +kernel)
theorem d_Model_isInitial_0 : decode prog_14_method_25_code 0 = .ok (.iload_n 1, 1) := by decide +kernel
theorem d_Model_isInitial_1 : decode prog_14_method_25_code 1 = .ok (.bipush 35, 2) := by decide +kernel
theorem d_Model_isInitial_3 : decode prog_14_method_25_code 3 = .ok (.if_icmp .ne 63, 3) := by decide +kernel
theorem d_Model_isInitial_66 : decode prog_14_method_25_code 66 = .ok (.iload 4, 2) := by decide +kernel
theorem d_Model_isInitial_68 : decode prog_14_method_25_code 68 = .ok (.iload_n 1, 1) := by decide +kernel
theorem d_Model_isInitial_69 : decode prog_14_method_25_code 69 = .ok (.bipush 65, 2) := by decide +kernel
theorem d_Model_isInitial_71 : decode prog_14_method_25_code 71 = .ok (.if_icmp .ne 7, 3) := by decide +kernel
theorem d_Model_isInitial_78 : decode prog_14_method_25_code 78 = .ok (.iconst 2, 1) := by decide +kernel
theorem d_Model_isInitial_79 : decode prog_14_method_25_code 79 = .ok (.if_icmp .ne 7, 3) := by decide +kernel
theorem d_Model_isInitial_86 : decode prog_14_method_25_code 86 = .ok (.iconst 0, 1) := by decide +kernel
theorem d_Model_isInitial_87 : decode prog_14_method_25_code 87 = .ok (.ireturn, 1) := by decide +kernel
theorem d_Model_isInitial_82 : decode prog_14_method_25_code 82 = .ok (.iconst 1, 1) := by decide +kernel
theorem d_Model_isInitial_83 : decode prog_14_method_25_code 83 = .ok (.goto 4, 3) := by decide +kernel
theorem d_Model_isInitial_74 : decode prog_14_method_25_code 74 = .ok (.iconst 1, 1) := by decide +kernel
theorem d_Model_isInitial_75 : decode prog_14_method_25_code 75 = .ok (.goto 4, 3) := by decide +kernel
theorem d_Model_isInitial_6 : decode prog_14_method_25_code 6 = .ok (.lload_n 2, 1) := by decide +kernel
theorem d_Model_isInitial_7 : decode prog_14_method_25_code 7 = .ok (.aload_n 0, 1) := by decide +kernel
theorem d_Model_isInitial_8 : decode prog_14_method_25_code 8 = .ok (.getfield 16, 3) := by decide +kernel
theorem d_Model_isInitial_11 : decode prog_14_method_25_code 11 = .ok (.getfield 122, 3) := by decide +kernel
theorem d_Model_isInitial_14 : decode prog_14_method_25_code 14 = .ok (.i2l, 1) := by decide +kernel
theorem d_Model_isInitial_15 : decode prog_14_method_25_code 15 = .ok (.lcmp, 1) := by decide +kernel
theorem d_Model_isInitial_16 : decode prog_14_method_25_code 16 = .ok (.ifCond .ge 48, 3) := by decide +kernel
theorem d_Model_isInitial_64 : decode prog_14_method_25_code 64 = .ok (.iconst 0, 1) := by decide +kernel
theorem d_Model_isInitial_65 : decode prog_14_method_25_code 65 = .ok (.ireturn, 1) := by decide +kernel
theorem d_Model_isInitial_19 : decode prog_14_method_25_code 19 = .ok (.aload_n 0, 1) := by decide +kernel
theorem d_Model_isInitial_20 : decode prog_14_method_25_code 20 = .ok (.getfield 16, 3) := by decide +kernel
theorem d_Model_isInitial_23 : decode prog_14_method_25_code 23 = .ok (.getfield 246, 3) := by decide +kernel
theorem d_Model_isInitial_26 : decode prog_14_method_25_code 26 = .ok (.lload_n 2, 1) := by decide +kernel
theorem d_Model_isInitial_27 : decode prog_14_method_25_code 27 = .ok (.l2i, 1) := by decide +kernel
theorem d_Model_isInitial_28 : decode prog_14_method_25_code 28 = .ok (.iaload, 1) := by decide +kernel
theorem d_Model_isInitial_29 : decode prog_14_method_25_code 29 = .ok (.ifCond .lt 35, 3) := by decide +kernel
theorem d_Model_isInitial_32 : decode prog_14_method_25_code 32 = .ok (.aload_n 0, 1) := by decide +kernel
theorem d_Model_isInitial_33 : decode prog_14_method_25_code 33 = .ok (.getfield 16, 3) := by decide +kernel
theorem d_Model_isInitial_36 : decode prog_14_method_25_code 36 = .ok (.getfield 243, 3) := by decide +kernel
theorem d_Model_isInitial_39 : decode prog_14_method_25_code 39 = .ok (.lload_n 2, 1) := by decide +kernel
theorem d_Model_isInitial_40 : decode prog_14_method_25_code 40 = .ok (.l2i, 1) := by decide +kernel
theorem d_Model_isInitial_41 : decode prog_14_method_25_code 41 = .ok (.baload, 1) := by decide +kernel
theorem d_Model_isInitial_42 : decode prog_14_method_25_code 42 = .ok (.ifCond .ne 22, 3) := by decide +kernel
theorem d_Model_isInitial_45 : decode prog_14_method_25_code 45 = .ok (.aload_n 0, 1) := by decide +kernel
theorem d_Model_isInitial_46 : decode prog_14_method_25_code 46 = .ok (.getfield 16, 3) := by decide +kernel
theorem d_Model_isInitial_49 : decode prog_14_method_25_code 49 = .ok (.getfield 240, 3) := by decide +kernel
theorem d_Model_isInitial_52 : decode prog_14_method_25_code 52 = .ok (.lload_n 2, 1) := by decide +kernel
theorem d_Model_isInitial_53 : decode prog_14_method_25_code 53 = .ok (.l2i, 1) := by decide +kernel
theorem d_Model_isInitial_54 : decode prog_14_method_25_code 54 = .ok (.iaload, 1) := by decide +kernel
theorem d_Model_isInitial_55 : decode prog_14_method_25_code 55 = .ok (.iload 4, 2) := by decide +kernel
theorem d_Model_isInitial_57 : decode prog_14_method_25_code 57 = .ok (.if_icmp .ne 7, 3) := by decide +kernel
theorem d_Model_isInitial_60 : decode prog_14_method_25_code 60 = .ok (.iconst 1, 1) := by decide +kernel
theorem d_Model_isInitial_61 : decode prog_14_method_25_code 61 = .ok (.goto 4, 3) := by decide +kernel
theorem d_Model_isSame_0 : decode prog_14_method_27_code 0 = .ok (.iload_n 2, 1) := by decide +kernel
theorem d_Model_isSame_1 : decode prog_14_method_27_code 1 = .ok (.iload 5, 2) := by decide +kernel
theorem d_Model_isSame_3 : decode prog_14_method_27_code 3 = .ok (.if_icmp .eq 5, 3) := by decide +kernel
theorem d_Model_isSame_8 : decode prog_14_method_27_code 8 = .ok (.iconst 0, 1) := by decide +kernel
theorem d_Model_isSame_9 : decode prog_14_method_27_code 9 = .ok (.istore 6, 2) := by decide +kernel
theorem d_Model_isSame_11 : decode prog_14_method_27_code 11 = .ok (.iload 6, 2) := by decide +kernel
theorem d_Model_isSame_13 : decode prog_14_method_27_code 13 = .ok (.iload_n 2, 1) := by decide +kernel
theorem d_Model_isSame_14 : decode prog_14_method_27_code 14 = .ok (.if_icmp .ge 33, 3) := by decide +kernel
theorem d_Model_isSame_47 : decode prog_14_method_27_code 47 = .ok (.iconst 1, 1) := by decide +kernel
theorem d_Model_isSame_48 : decode prog_14_method_27_code 48 = .ok (.ireturn, 1) := by decide +kernel
theorem d_Model_isSame_17 : decode prog_14_method_27_code 17 = .ok (.aload_n 0, 1) := by decide +kernel
theorem d_Model_isSame_18 : decode prog_14_method_27_code 18 = .ok (.getfield 61, 3) := by decide +kernel
theorem d_Model_isSame_21 : decode prog_14_method_27_code 21 = .ok (.iload_n 1, 1) := by decide +kernel
theorem d_Model_isSame_22 : decode prog_14_method_27_code 22 = .ok (.iload 6, 2) := by decide +kernel
theorem d_Model_isSame_24 : decode prog_14_method_27_code 24 = .ok (.iadd, 1) := by decide +kernel
theorem d_Model_isSame_25 : decode prog_14_method_27_code 25 = .ok (.baload, 1) := by decide +kernel
theorem d_Model_isSame_26 : decode prog_14_method_27_code 26 = .ok (.aload_n 3, 1) := by decide +kernel
theorem d_Model_isSame_27 : decode prog_14_method_27_code 27 = .ok (.getfield 61, 3) := by decide +kernel
theorem d_Model_isSame_30 : decode prog_14_method_27_code 30 = .ok (.iload 4, 2) := by decide +kernel
theorem d_Model_isSame_32 : decode prog_14_method_27_code 32 = .ok (.iload 6, 2) := by decide +kernel
theorem d_Model_isSame_34 : decode prog_14_method_27_code 34 = .ok (.iadd, 1) := by decide +kernel
theorem d_Model_isSame_35 : decode prog_14_method_27_code 35 = .ok (.baload, 1) := by decide +kernel
theorem d_Model_isSame_36 : decode prog_14_method_27_code 36 = .ok (.if_icmp .eq 5, 3) := by decide +kernel
theorem d_Model_isSame_41 : decode prog_14_method_27_code 41 = .ok (.iinc 6 1, 3) := by decide +kernel
theorem d_Model_isSame_44 : decode prog_14_method_27_code 44 = .ok (.goto (-33), 3) := by decide +kernel
theorem d_Model_isSame_39 : decode prog_14_method_27_code 39 = .ok (.iconst 0, 1) := by decide +kernel
theorem d_Model_isSame_40 : decode prog_14_method_27_code 40 = .ok (.ireturn, 1) := by decide +kernel
theorem d_Model_isSame_6 : decode prog_14_method_27_code 6 = .ok (.iconst 0, 1) := by decide +kernel
theorem d_Model_isSame_7 : decode prog_14_method_27_code 7 = .ok (.ireturn, 1) := by decide +kernel
theorem d_Model_isRoom_0 : decode prog_14_method_44_code 0 = .ok (.iconst 0, 1) := by decide +kernel
theorem d_Model_isRoom_1 : decode prog_14_method_44_code 1 = .ok (.istore_n 1, 1) := by decide +kernel
theorem d_Model_isRoom_2 : decode prog_14_method_44_code 2 = .ok (.iload_n 1, 1) := by decide +kernel
theorem d_Model_isRoom_3 : decode prog_14_method_44_code 3 = .ok (.aload_n 0, 1) := by decide +kernel
theorem d_Model_isRoom_4 : decode prog_14_method_44_code 4 = .ok (.getfield 16, 3) := by decide +kernel
theorem d_Model_isRoom_7 : decode prog_14_method_44_code 7 = .ok (.getfield 134, 3) := by decide +kernel
theorem d_Model_isRoom_10 : decode prog_14_method_44_code 10 = .ok (.if_icmp .ge 72, 3) := by decide +kernel
theorem d_Model_isRoom_82 : decode prog_14_method_44_code 82 = .ok (.iconst 1, 1) := by decide +kernel
theorem d_Model_isRoom_83 : decode prog_14_method_44_code 83 = .ok (.ireturn, 1) := by decide +kernel
theorem d_Model_isRoom_13 : decode prog_14_method_44_code 13 = .ok (.aload_n 0, 1) := by decide +kernel
theorem d_Model_isRoom_14 : decode prog_14_method_44_code 14 = .ok (.getfield 16, 3) := by decide +kernel
theorem d_Model_isRoom_17 : decode prog_14_method_44_code 17 = .ok (.getfield 234, 3) := by decide +kernel
theorem d_Model_isRoom_20 : decode prog_14_method_44_code 20 = .ok (.aload_n 0, 1) := by decide +kernel
theorem d_Model_isRoom_21 : decode prog_14_method_44_code 21 = .ok (.getfield 16, 3) := by decide +kernel
theorem d_Model_isRoom_24 : decode prog_14_method_44_code 24 = .ok (.getfield 110, 3) := by decide +kernel
theorem d_Model_isRoom_27 : decode prog_14_method_44_code 27 = .ok (.aload_n 0, 1) := by decide +kernel
theorem d_Model_isRoom_28 : decode prog_14_method_44_code 28 = .ok (.getfield 16, 3) := by decide +kernel
theorem d_Model_isRoom_31 : decode prog_14_method_44_code 31 = .ok (.getfield 134, 3) := by decide +kernel
theorem d_Model_isRoom_34 : decode prog_14_method_44_code 34 = .ok (.isub, 1) := by decide +kernel
theorem d_Model_isRoom_35 : decode prog_14_method_44_code 35 = .ok (.iload_n 1, 1) := by decide +kernel
theorem d_Model_isRoom_36 : decode prog_14_method_44_code 36 = .ok (.iadd, 1) := by decide +kernel
theorem d_Model_isRoom_37 : decode prog_14_method_44_code 37 = .ok (.iaload, 1) := by decide +kernel
theorem d_Model_isRoom_38 : decode prog_14_method_44_code 38 = .ok (.istore_n 2, 1) := by decide +kernel
theorem d_Model_isRoom_39 : decode prog_14_method_44_code 39 = .ok (.iload_n 2, 1) := by decide +kernel
theorem d_Model_isRoom_40 : decode prog_14_method_44_code 40 = .ok (.aload_n 0, 1) := by decide +kernel
theorem d_Model_isRoom_41 : decode prog_14_method_44_code 41 = .ok (.getfield 16, 3) := by decide +kernel
theorem d_Model_isRoom_44 : decode prog_14_method_44_code 44 = .ok (.getfield 104, 3) := by decide +kernel
theorem d_Model_isRoom_47 : decode prog_14_method_44_code 47 = .ok (.if_icmp .ge 29, 3) := by decide +kernel
theorem d_Model_isRoom_76 : decode prog_14_method_44_code 76 = .ok (.iinc 1 1, 3) := by decide +kernel
theorem d_Model_isRoom_79 : decode prog_14_method_44_code 79 = .ok (.goto (-77), 3) := by decide +kernel
theorem d_Model_isRoom_50 : decode prog_14_method_44_code 50 = .ok (.aload_n 0, 1) := by decide +kernel
theorem d_Model_isRoom_51 : decode prog_14_method_44_code 51 = .ok (.getfield 16, 3) := by decide +kernel
theorem d_Model_isRoom_54 : decode prog_14_method_44_code 54 = .ok (.getfield 228, 3) := by decide +kernel
theorem d_Model_isRoom_57 : decode prog_14_method_44_code 57 = .ok (.iload_n 2, 1) := by decide +kernel
theorem d_Model_isRoom_58 : decode prog_14_method_44_code 58 = .ok (.iaload, 1) := by decide +kernel
theorem d_Model_isRoom_59 : decode prog_14_method_44_code 59 = .ok (.aload_n 0, 1) := by decide +kernel
theorem d_Model_isRoom_60 : decode prog_14_method_44_code 60 = .ok (.getfield 16, 3) := by decide +kernel
theorem d_Model_isRoom_63 : decode prog_14_method_44_code 63 = .ok (.getfield 332, 3) := by decide +kernel
theorem d_Model_isRoom_66 : decode prog_14_method_44_code 66 = .ok (.iload_n 1, 1) := by decide +kernel
theorem d_Model_isRoom_67 : decode prog_14_method_44_code 67 = .ok (.iaload, 1) := by decide +kernel
theorem d_Model_isRoom_68 : decode prog_14_method_44_code 68 = .ok (.iadd, 1) := by decide +kernel
theorem d_Model_isRoom_69 : decode prog_14_method_44_code 69 = .ok (.bipush 30, 2) := by decide +kernel
theorem d_Model_isRoom_71 : decode prog_14_method_44_code 71 = .ok (.if_icmp .le 5, 3) := by decide +kernel
theorem d_Model_isRoom_74 : decode prog_14_method_44_code 74 = .ok (.iconst 0, 1) := by decide +kernel
theorem d_Model_isRoom_75 : decode prog_14_method_44_code 75 = .ok (.ireturn, 1) := by decide +kernel
theorem d_Model_valid_0 : decode prog_14_method_34_code 0 = .ok (.aload_n 0, 1) := by decide +kernel
theorem d_Model_valid_1 : decode prog_14_method_34_code 1 = .ok (.getfield 16, 3) := by decide +kernel
theorem d_Model_valid_4 : decode prog_14_method_34_code 4 = .ok (.getfield 110, 3) := by decide +kernel
theorem d_Model_valid_7 : decode prog_14_method_34_code 7 = .ok (.aload_n 0, 1) := by decide +kernel
theorem d_Model_valid_8 : decode prog_14_method_34_code 8 = .ok (.getfield 16, 3) := by decide +kernel
theorem d_Model_valid_11 : decode prog_14_method_34_code 11 = .ok (.getfield 134, 3) := by decide +kernel
theorem d_Model_valid_14 : decode prog_14_method_34_code 14 = .ok (.isub, 1) := by decide +kernel
theorem d_Model_valid_15 : decode prog_14_method_34_code 15 = .ok (.iload_n 1, 1) := by decide +kernel
theorem d_Model_valid_16 : decode prog_14_method_34_code 16 = .ok (.iadd, 1) := by decide +kernel
theorem d_Model_valid_17 : decode prog_14_method_34_code 17 = .ok (.istore_n 2, 1) := by decide +kernel
theorem d_Model_valid_18 : decode prog_14_method_34_code 18 = .ok (.aload_n 0, 1) := by decide +kernel
theorem d_Model_valid_19 : decode prog_14_method_34_code 19 = .ok (.getfield 16, 3) := by decide +kernel
theorem d_Model_valid_22 : decode prog_14_method_34_code 22 = .ok (.getfield 234, 3) := by decide +kernel
theorem d_Model_valid_25 : decode prog_14_method_34_code 25 = .ok (.iload_n 2, 1) := by decide +kernel
theorem d_Model_valid_26 : decode prog_14_method_34_code 26 = .ok (.iaload, 1) := by decide +kernel
theorem d_Model_valid_27 : decode prog_14_method_34_code 27 = .ok (.istore_n 3, 1) := by decide +kernel
theorem d_Model_valid_28 : decode prog_14_method_34_code 28 = .ok (.aload_n 0, 1) := by decide +kernel
theorem d_Model_valid_29 : decode prog_14_method_34_code 29 = .ok (.getfield 16, 3) := by decide +kernel
theorem d_Model_valid_32 : decode prog_14_method_34_code 32 = .ok (.getfield 228, 3) := by decide +kernel
theorem d_Model_valid_35 : decode prog_14_method_34_code 35 = .ok (.iload_n 3, 1) := by decide +kernel
theorem d_Model_valid_36 : decode prog_14_method_34_code 36 = .ok (.iaload, 1) := by decide +kernel
theorem d_Model_valid_37 : decode prog_14_method_34_code 37 = .ok (.istore 4, 2) := by decide +kernel
theorem d_Model_valid_39 : decode prog_14_method_34_code 39 = .ok (.iload 4, 2) := by decide +kernel
theorem d_Model_valid_41 : decode prog_14_method_34_code 41 = .ok (.aload_n 0, 1) := by decide +kernel
theorem d_Model_valid_42 : decode prog_14_method_34_code 42 = .ok (.getfield 16, 3) := by decide +kernel
theorem d_Model_valid_45 : decode prog_14_method_34_code 45 = .ok (.getfield 332, 3) := by decide +kernel
theorem d_Model_valid_48 : decode prog_14_method_34_code 48 = .ok (.iload_n 1, 1) := by decide +kernel
theorem d_Model_valid_49 : decode prog_14_method_34_code 49 = .ok (.iaload, 1) := by decide +kernel
theorem d_Model_valid_50 : decode prog_14_method_34_code 50 = .ok (.iadd, 1) := by decide +kernel
theorem d_Model_valid_51 : decode prog_14_method_34_code 51 = .ok (.istore 5, 2) := by decide +kernel
theorem d_Model_valid_53 : decode prog_14_method_34_code 53 = .ok (.aload_n 0, 1) := by decide +kernel
theorem d_Model_valid_54 : decode prog_14_method_34_code 54 = .ok (.iconst 0, 1) := by decide +kernel
theorem d_Model_valid_55 : decode prog_14_method_34_code 55 = .ok (.putfield 366, 3) := by decide +kernel
theorem d_Model_valid_58 : decode prog_14_method_34_code 58 = .ok (.aload_n 0, 1) := by decide +kernel
theorem d_Model_valid_59 : decode prog_14_method_34_code 59 = .ok (.iconst 0, 1) := by decide +kernel
theorem d_Model_valid_60 : decode prog_14_method_34_code 60 = .ok (.putfield 369, 3) := by decide +kernel
theorem d_Model_valid_63 : decode prog_14_method_34_code 63 = .ok (.aload_n 0, 1) := by decide +kernel
theorem d_Model_valid_64 : decode prog_14_method_34_code 64 = .ok (.aload_n 0, 1) := by decide +kernel
theorem d_Model_valid_65 : decode prog_14_method_34_code 65 = .ok (.getfield 16, 3) := by decide +kernel
theorem d_Model_valid_68 : decode prog_14_method_34_code 68 = .ok (.getfield 329, 3) := by decide +kernel
theorem d_Model_valid_71 : decode prog_14_method_34_code 71 = .ok (.iload_n 1, 1) := by decide +kernel
theorem d_Model_valid_72 : decode prog_14_method_34_code 72 = .ok (.iaload, 1) := by decide +kernel
theorem d_Model_valid_73 : decode prog_14_method_34_code 73 = .ok (.putfield 50, 3) := by decide +kernel
theorem d_Model_valid_76 : decode prog_14_method_34_code 76 = .ok (.aload_n 0, 1) := by decide +kernel
theorem d_Model_valid_77 : decode prog_14_method_34_code 77 = .ok (.aload_n 0, 1) := by decide +kernel
theorem d_Model_valid_78 : decode prog_14_method_34_code 78 = .ok (.getfield 16, 3) := by decide +kernel
theorem d_Model_valid_81 : decode prog_14_method_34_code 81 = .ok (.getfield 338, 3) := by decide +kernel
theorem d_Model_valid_84 : decode prog_14_method_34_code 84 = .ok (.iload_n 1, 1) := by decide +kernel
theorem d_Model_valid_85 : decode prog_14_method_34_code 85 = .ok (.iaload, 1) := by decide +kernel
theorem d_Model_valid_86 : decode prog_14_method_34_code 86 = .ok (.putfield 53, 3) := by decide +kernel
theorem d_Model_valid_89 : decode prog_14_method_34_code 89 = .ok (.aload_n 0, 1) := by decide +kernel
theorem d_Model_valid_90 : decode prog_14_method_34_code 90 = .ok (.iconst 2, 1) := by decide +kernel
theorem d_Model_valid_91 : decode prog_14_method_34_code 91 = .ok (.aload_n 0, 1) := by decide +kernel
theorem d_Model_valid_92 : decode prog_14_method_34_code 92 = .ok (.getfield 16, 3) := by decide +kernel
theorem d_Model_valid_95 : decode prog_14_method_34_code 95 = .ok (.getfield 231, 3) := by decide +kernel
theorem d_Model_valid_98 : decode prog_14_method_34_code 98 = .ok (.iload_n 3, 1) := by decide +kernel
theorem d_Model_valid_99 : decode prog_14_method_34_code 99 = .ok (.iaload, 1) := by decide +kernel
theorem d_Model_valid_100 : decode prog_14_method_34_code 100 = .ok (.aload_n 0, 1) := by decide +kernel
theorem d_Model_valid_101 : decode prog_14_method_34_code 101 = .ok (.getfield 16, 3) := by decide +kernel
theorem d_Model_valid_104 : decode prog_14_method_34_code 104 = .ok (.getfield 231, 3) := by decide +kernel
theorem d_Model_valid_107 : decode prog_14_method_34_code 107 = .ok (.iload_n 3, 1) := by decide +kernel
theorem d_Model_valid_108 : decode prog_14_method_34_code 108 = .ok (.iaload, 1) := by decide +kernel
theorem d_Model_valid_109 : decode prog_14_method_34_code 109 = .ok (.invokevirtual 375, 3) := by decide +kernel
theorem nm_Model_open : x_nm y_Model_open 3 = true := by decide +kernel
theorem d_Model_valid_112 : decode prog_14_method_34_code 112 = .ok (.aload_n 0, 1) := by decide +kernel
theorem d_Model_valid_113 : decode prog_14_method_34_code 113 = .ok (.getfield 369, 3) := by decide +kernel
theorem d_Model_valid_116 : decode prog_14_method_34_code 116 = .ok (.ifCond .le 1040, 3) := by decide +kernel
theorem d_Model_valid_1156 : decode prog_14_method_34_code 1156 = .ok (.return_, 1) := by decide +kernel
theorem d_Model_valid_119 : decode prog_14_method_34_code 119 = .ok (.aload_n 0, 1) := by decide +kernel
theorem d_Model_valid_120 : decode prog_14_method_34_code 120 = .ok (.invokevirtual 64, 3) := by decide +kernel
theorem d_Model_valid_123 : decode prog_14_method_34_code 123 = .ok (.istore 6, 2) := by decide +kernel
theorem d_Model_valid_125 : decode prog_14_method_34_code 125 = .ok (.iload 6, 2) := by decide +kernel
theorem d_Model_valid_127 : decode prog_14_method_34_code 127 = .ok (.tableswitch 1004 0 66 #[281, 288, 291, 291, 291, 332, 1004, 1004, 1004, 1004, 1004, 400, 492, 516, 552, 559, 579, 626, 1004, 1004, 1004, 1004, 1004, 1004, 1004, 1004, 687, 696, 1004, 1004, 1004, 1004, 737, 737, 737, 840, 840, 1004, 1004, 1004, 1004, 1004, 1004, 1004, 1004, 1004, 1004, 1004, 1004, 1004, 1004, 1004, 1004, 1004, 1004, 1004, 1004, 1004, 1004, 1004, 1004, 1004, 1004, 928, 928, 974, 989], 281) := by decide +kernel
theorem d_Model_valid_408 : decode prog_14_method_34_code 408 = .ok (.aload_n 0, 1) := by decide +kernel
theorem d_Model_valid_409 : decode prog_14_method_34_code 409 = .ok (.invokevirtual 378, 3) := by decide +kernel
theorem d_Model_valid_412 : decode prog_14_method_34_code 412 = .ok (.goto 741, 3) := by decide +kernel
theorem d_Model_valid_1153 : decode prog_14_method_34_code 1153 = .ok (.goto (-1041), 3) := by decide +kernel
theorem d_Model_valid_415 : decode prog_14_method_34_code 415 = .ok (.goto 738, 3) := by decide +kernel
theorem d_Model_valid_418 : decode prog_14_method_34_code 418 = .ok (.aload_n 0, 1) := by decide +kernel
theorem d_Model_valid_419 : decode prog_14_method_34_code 419 = .ok (.invokevirtual 381, 3) := by decide +kernel
theorem nm_Model_blockType : x_nm y_Model_blockType 0 = true := by decide +kernel
theorem d_Model_valid_422 : decode prog_14_method_34_code 422 = .ok (.istore 7, 2) := by decide +kernel
theorem d_Model_valid_424 : decode prog_14_method_34_code 424 = .ok (.iload 6, 2) := by decide +kernel
theorem d_Model_valid_426 : decode prog_14_method_34_code 426 = .ok (.iconst 4, 1) := by decide +kernel
theorem d_Model_valid_427 : decode prog_14_method_34_code 427 = .ok (.if_icmp .ne 9, 3) := by decide +kernel
theorem d_Model_valid_436 : decode prog_14_method_34_code 436 = .ok (.aload_n 0, 1) := by decide +kernel
theorem d_Model_valid_437 : decode prog_14_method_34_code 437 = .ok (.iload 6, 2) := by decide +kernel
theorem d_Model_valid_439 : decode prog_14_method_34_code 439 = .ok (.iload 6, 2) := by decide +kernel
theorem d_Model_valid_441 : decode prog_14_method_34_code 441 = .ok (.iconst 3, 1) := by decide +kernel
theorem d_Model_valid_442 : decode prog_14_method_34_code 442 = .ok (.if_icmp .ne 7, 3) := by decide +kernel
theorem d_Model_valid_449 : decode prog_14_method_34_code 449 = .ok (.iload 7, 2) := by decide +kernel
theorem d_Model_valid_451 : decode prog_14_method_34_code 451 = .ok (.iload 7, 2) := by decide +kernel
theorem d_Model_valid_453 : decode prog_14_method_34_code 453 = .ok (.invokevirtual 375, 3) := by decide +kernel
theorem d_Model_valid_456 : decode prog_14_method_34_code 456 = .ok (.goto 697, 3) := by decide +kernel
theorem d_Model_valid_445 : decode prog_14_method_34_code 445 = .ok (.iconst 0, 1) := by decide +kernel
theorem d_Model_valid_446 : decode prog_14_method_34_code 446 = .ok (.goto 5, 3) := by decide +kernel
theorem d_Model_valid_430 : decode prog_14_method_34_code 430 = .ok (.aload_n 0, 1) := by decide +kernel
theorem d_Model_valid_431 : decode prog_14_method_34_code 431 = .ok (.iconst 1, 1) := by decide +kernel
theorem d_Model_valid_432 : decode prog_14_method_34_code 432 = .ok (.invokevirtual 372, 3) := by decide +kernel
theorem d_Model_valid_435 : decode prog_14_method_34_code 435 = .ok (.pop, 1) := by decide +kernel
theorem d_Model_valid_459 : decode prog_14_method_34_code 459 = .ok (.aload_n 0, 1) := by decide +kernel
theorem d_Model_valid_460 : decode prog_14_method_34_code 460 = .ok (.getfield 33, 3) := by decide +kernel
theorem d_Model_valid_463 : decode prog_14_method_34_code 463 = .ok (.aload_n 0, 1) := by decide +kernel
theorem d_Model_valid_464 : decode prog_14_method_34_code 464 = .ok (.getfield 369, 3) := by decide +kernel
theorem d_Model_valid_467 : decode prog_14_method_34_code 467 = .ok (.iconst 1, 1) := by decide +kernel
theorem d_Model_valid_468 : decode prog_14_method_34_code 468 = .ok (.isub, 1) := by decide +kernel
theorem d_Model_valid_469 : decode prog_14_method_34_code 469 = .ok (.iaload, 1) := by decide +kernel
theorem d_Model_valid_470 : decode prog_14_method_34_code 470 = .ok (.istore 7, 2) := by decide +kernel
theorem d_Model_valid_472 : decode prog_14_method_34_code 472 = .ok (.aload_n 0, 1) := by decide +kernel
theorem d_Model_valid_473 : decode prog_14_method_34_code 473 = .ok (.iload 7, 2) := by decide +kernel
theorem d_Model_valid_475 : decode prog_14_method_34_code 475 = .ok (.invokevirtual 384, 3) := by decide +kernel
theorem d_Model_valid_478 : decode prog_14_method_34_code 478 = .ok (.aload_n 0, 1) := by decide +kernel
theorem d_Model_valid_479 : decode prog_14_method_34_code 479 = .ok (.aload_n 0, 1) := by decide +kernel
theorem d_Model_valid_480 : decode prog_14_method_34_code 480 = .ok (.getfield 366, 3) := by decide +kernel
theorem d_Model_valid_483 : decode prog_14_method_34_code 483 = .ok (.aload_n 0, 1) := by decide +kernel
theorem d_Model_valid_484 : decode prog_14_method_34_code 484 = .ok (.getfield 36, 3) := by decide +kernel
theorem d_Model_valid_487 : decode prog_14_method_34_code 487 = .ok (.aload_n 0, 1) := by decide +kernel
theorem d_Model_valid_488 : decode prog_14_method_34_code 488 = .ok (.getfield 369, 3) := by decide +kernel
theorem d_Model_valid_491 : decode prog_14_method_34_code 491 = .ok (.iconst 1, 1) := by decide +kernel
theorem d_Model_valid_492 : decode prog_14_method_34_code 492 = .ok (.isub, 1) := by decide +kernel
theorem d_Model_valid_493 : decode prog_14_method_34_code 493 = .ok (.iaload, 1) := by decide +kernel
theorem d_Model_valid_494 : decode prog_14_method_34_code 494 = .ok (.if_icmp .ne 7, 3) := by decide +kernel
theorem d_Model_valid_501 : decode prog_14_method_34_code 501 = .ok (.iconst 0, 1) := by decide +kernel
theorem d_Model_valid_502 : decode prog_14_method_34_code 502 = .ok (.invokevirtual 351, 3) := by decide +kernel
theorem d_Model_valid_497 : decode prog_14_method_34_code 497 = .ok (.iconst 1, 1) := by decide +kernel
theorem d_Model_valid_498 : decode prog_14_method_34_code 498 = .ok (.goto 4, 3) := by decide +kernel
theorem d_Model_valid_505 : decode prog_14_method_34_code 505 = .ok (.aload_n 0, 1) := by decide +kernel
theorem d_Model_valid_506 : decode prog_14_method_34_code 506 = .ok (.dup, 1) := by decide +kernel
theorem d_Model_valid_507 : decode prog_14_method_34_code 507 = .ok (.getfield 369, 3) := by decide +kernel
theorem d_Model_valid_510 : decode prog_14_method_34_code 510 = .ok (.iconst 1, 1) := by decide +kernel
theorem d_Model_valid_511 : decode prog_14_method_34_code 511 = .ok (.isub, 1) := by decide +kernel
theorem d_Model_valid_512 : decode prog_14_method_34_code 512 = .ok (.putfield 369, 3) := by decide +kernel
theorem d_Model_valid_515 : decode prog_14_method_34_code 515 = .ok (.aload_n 0, 1) := by decide +kernel
theorem d_Model_valid_516 : decode prog_14_method_34_code 516 = .ok (.iconst 5, 1) := by decide +kernel
theorem d_Model_valid_517 : decode prog_14_method_34_code 517 = .ok (.iload 7, 2) := by decide +kernel
theorem d_Model_valid_519 : decode prog_14_method_34_code 519 = .ok (.iload 7, 2) := by decide +kernel
theorem d_Model_valid_521 : decode prog_14_method_34_code 521 = .ok (.invokevirtual 375, 3) := by decide +kernel
theorem d_Model_valid_524 : decode prog_14_method_34_code 524 = .ok (.goto 629, 3) := by decide +kernel
theorem d_Model_valid_1131 : decode prog_14_method_34_code 1131 = .ok (.iload 6, 2) := by decide +kernel
theorem d_Model_valid_1133 : decode prog_14_method_34_code 1133 = .ok (.bipush 65, 2) := by decide +kernel
theorem d_Model_valid_1135 : decode prog_14_method_34_code 1135 = .ok (.if_icmp .ge 12, 3) := by decide +kernel
theorem d_Model_valid_1147 : decode prog_14_method_34_code 1147 = .ok (.aload_n 0, 1) := by decide +kernel
theorem d_Model_valid_1148 : decode prog_14_method_34_code 1148 = .ok (.iload 6, 2) := by decide +kernel
theorem d_Model_valid_1150 : decode prog_14_method_34_code 1150 = .ok (.invokevirtual 402, 3) := by decide +kernel
theorem nm_Model_numeric : x_nm y_Model_numeric 1 = true := by decide +kernel
theorem d_Model_valid_1138 : decode prog_14_method_34_code 1138 = .ok (.aload_n 0, 1) := by decide +kernel
theorem d_Model_valid_1139 : decode prog_14_method_34_code 1139 = .ok (.iload 6, 2) := by decide +kernel
theorem d_Model_valid_1141 : decode prog_14_method_34_code 1141 = .ok (.invokevirtual 399, 3) := by decide +kernel
theorem nm_Model_access : x_nm y_Model_access 1 = true := by decide +kernel
theorem d_Model_valid_1144 : decode prog_14_method_34_code 1144 = .ok (.goto 9, 3) := by decide +kernel
theorem d_Model_valid_527 : decode prog_14_method_34_code 527 = .ok (.aload_n 0, 1) := by decide +kernel
theorem d_Model_valid_528 : decode prog_14_method_34_code 528 = .ok (.getfield 33, 3) := by decide +kernel
theorem d_Model_valid_531 : decode prog_14_method_34_code 531 = .ok (.aload_n 0, 1) := by decide +kernel
theorem d_Model_valid_532 : decode prog_14_method_34_code 532 = .ok (.getfield 369, 3) := by decide +kernel
theorem d_Model_valid_535 : decode prog_14_method_34_code 535 = .ok (.iconst 1, 1) := by decide +kernel
theorem d_Model_valid_536 : decode prog_14_method_34_code 536 = .ok (.isub, 1) := by decide +kernel
theorem d_Model_valid_537 : decode prog_14_method_34_code 537 = .ok (.iaload, 1) := by decide +kernel
theorem d_Model_valid_538 : decode prog_14_method_34_code 538 = .ok (.istore 7, 2) := by decide +kernel
theorem d_Model_valid_540 : decode prog_14_method_34_code 540 = .ok (.aload_n 0, 1) := by decide +kernel
theorem d_Model_valid_541 : decode prog_14_method_34_code 541 = .ok (.iload 7, 2) := by decide +kernel
theorem d_Model_valid_543 : decode prog_14_method_34_code 543 = .ok (.invokevirtual 384, 3) := by decide +kernel
theorem d_Model_valid_546 : decode prog_14_method_34_code 546 = .ok (.aload_n 0, 1) := by decide +kernel
theorem d_Model_valid_547 : decode prog_14_method_34_code 547 = .ok (.aload_n 0, 1) := by decide +kernel
theorem d_Model_valid_548 : decode prog_14_method_34_code 548 = .ok (.getfield 366, 3) := by decide +kernel
theorem d_Model_valid_551 : decode prog_14_method_34_code 551 = .ok (.aload_n 0, 1) := by decide +kernel
theorem d_Model_valid_552 : decode prog_14_method_34_code 552 = .ok (.getfield 36, 3) := by decide +kernel
theorem d_Model_valid_555 : decode prog_14_method_34_code 555 = .ok (.aload_n 0, 1) := by decide +kernel
theorem d_Model_valid_556 : decode prog_14_method_34_code 556 = .ok (.getfield 369, 3) := by decide +kernel
theorem d_Model_valid_559 : decode prog_14_method_34_code 559 = .ok (.iconst 1, 1) := by decide +kernel
theorem d_Model_valid_560 : decode prog_14_method_34_code 560 = .ok (.isub, 1) := by decide +kernel
theorem d_Model_valid_561 : decode prog_14_method_34_code 561 = .ok (.iaload, 1) := by decide +kernel
theorem d_Model_valid_562 : decode prog_14_method_34_code 562 = .ok (.if_icmp .ne 27, 3) := by decide +kernel
theorem d_Model_valid_589 : decode prog_14_method_34_code 589 = .ok (.iconst 0, 1) := by decide +kernel
theorem d_Model_valid_590 : decode prog_14_method_34_code 590 = .ok (.invokevirtual 351, 3) := by decide +kernel
theorem d_Model_valid_565 : decode prog_14_method_34_code 565 = .ok (.aload_n 0, 1) := by decide +kernel
theorem d_Model_valid_566 : decode prog_14_method_34_code 566 = .ok (.getfield 39, 3) := by decide +kernel
theorem d_Model_valid_569 : decode prog_14_method_34_code 569 = .ok (.aload_n 0, 1) := by decide +kernel
theorem d_Model_valid_570 : decode prog_14_method_34_code 570 = .ok (.getfield 369, 3) := by decide +kernel
theorem d_Model_valid_573 : decode prog_14_method_34_code 573 = .ok (.iconst 1, 1) := by decide +kernel
theorem d_Model_valid_574 : decode prog_14_method_34_code 574 = .ok (.isub, 1) := by decide +kernel
theorem d_Model_valid_575 : decode prog_14_method_34_code 575 = .ok (.iaload, 1) := by decide +kernel
theorem d_Model_valid_576 : decode prog_14_method_34_code 576 = .ok (.iconst 4, 1) := by decide +kernel
theorem d_Model_valid_577 : decode prog_14_method_34_code 577 = .ok (.if_icmp .ne 8, 3) := by decide +kernel
theorem d_Model_valid_585 : decode prog_14_method_34_code 585 = .ok (.iconst 1, 1) := by decide +kernel
theorem d_Model_valid_586 : decode prog_14_method_34_code 586 = .ok (.goto 4, 3) := by decide +kernel
theorem d_Model_valid_593 : decode prog_14_method_34_code 593 = .ok (.aload_n 0, 1) := by decide +kernel
theorem d_Model_valid_594 : decode prog_14_method_34_code 594 = .ok (.dup, 1) := by decide +kernel
theorem d_Model_valid_595 : decode prog_14_method_34_code 595 = .ok (.getfield 369, 3) := by decide +kernel
theorem d_Model_valid_598 : decode prog_14_method_34_code 598 = .ok (.iconst 1, 1) := by decide +kernel
theorem d_Model_valid_599 : decode prog_14_method_34_code 599 = .ok (.isub, 1) := by decide +kernel
theorem d_Model_valid_600 : decode prog_14_method_34_code 600 = .ok (.putfield 369, 3) := by decide +kernel
theorem d_Model_valid_603 : decode prog_14_method_34_code 603 = .ok (.aload_n 0, 1) := by decide +kernel
theorem d_Model_valid_604 : decode prog_14_method_34_code 604 = .ok (.getfield 369, 3) := by decide +kernel
theorem d_Model_valid_607 : decode prog_14_method_34_code 607 = .ok (.ifCond .le 546, 3) := by decide +kernel
theorem d_Model_valid_610 : decode prog_14_method_34_code 610 = .ok (.aload_n 0, 1) := by decide +kernel
theorem d_Model_valid_611 : decode prog_14_method_34_code 611 = .ok (.iload 7, 2) := by decide +kernel
theorem d_Model_valid_613 : decode prog_14_method_34_code 613 = .ok (.invokevirtual 387, 3) := by decide +kernel
theorem d_Model_valid_616 : decode prog_14_method_34_code 616 = .ok (.goto 537, 3) := by decide +kernel
theorem d_Model_valid_580 : decode prog_14_method_34_code 580 = .ok (.iload 7, 2) := by decide +kernel
theorem d_Model_valid_582 : decode prog_14_method_34_code 582 = .ok (.ifCond .ne 7, 3) := by decide +kernel
theorem d_Model_valid_619 : decode prog_14_method_34_code 619 = .ok (.aload_n 0, 1) := by decide +kernel
theorem d_Model_valid_620 : decode prog_14_method_34_code 620 = .ok (.aload_n 0, 1) := by decide +kernel
theorem d_Model_valid_621 : decode prog_14_method_34_code 621 = .ok (.getfield 30, 3) := by decide +kernel
theorem d_Model_valid_624 : decode prog_14_method_34_code 624 = .ok (.aload_n 0, 1) := by decide +kernel
theorem d_Model_valid_625 : decode prog_14_method_34_code 625 = .ok (.aload_n 0, 1) := by decide +kernel
theorem d_Model_valid_626 : decode prog_14_method_34_code 626 = .ok (.invokevirtual 68, 3) := by decide +kernel
theorem d_Model_valid_629 : decode prog_14_method_34_code 629 = .ok (.invokevirtual 390, 3) := by decide +kernel
theorem d_Model_valid_632 : decode prog_14_method_34_code 632 = .ok (.iaload, 1) := by decide +kernel
theorem d_Model_valid_633 : decode prog_14_method_34_code 633 = .ok (.invokevirtual 384, 3) := by decide +kernel
theorem d_Model_valid_636 : decode prog_14_method_34_code 636 = .ok (.aload_n 0, 1) := by decide +kernel
theorem d_Model_valid_637 : decode prog_14_method_34_code 637 = .ok (.invokevirtual 378, 3) := by decide +kernel
theorem d_Model_valid_640 : decode prog_14_method_34_code 640 = .ok (.goto 513, 3) := by decide +kernel
theorem d_Model_valid_643 : decode prog_14_method_34_code 643 = .ok (.aload_n 0, 1) := by decide +kernel
theorem d_Model_valid_644 : decode prog_14_method_34_code 644 = .ok (.getfield 30, 3) := by decide +kernel
theorem d_Model_valid_647 : decode prog_14_method_34_code 647 = .ok (.aload_n 0, 1) := by decide +kernel
theorem d_Model_valid_648 : decode prog_14_method_34_code 648 = .ok (.aload_n 0, 1) := by decide +kernel
theorem d_Model_valid_649 : decode prog_14_method_34_code 649 = .ok (.invokevirtual 68, 3) := by decide +kernel
theorem d_Model_valid_652 : decode prog_14_method_34_code 652 = .ok (.invokevirtual 390, 3) := by decide +kernel
theorem d_Model_valid_655 : decode prog_14_method_34_code 655 = .ok (.iaload, 1) := by decide +kernel
theorem d_Model_valid_656 : decode prog_14_method_34_code 656 = .ok (.istore 7, 2) := by decide +kernel
theorem d_Model_valid_658 : decode prog_14_method_34_code 658 = .ok (.aload_n 0, 1) := by decide +kernel
theorem d_Model_valid_659 : decode prog_14_method_34_code 659 = .ok (.iconst 1, 1) := by decide +kernel
theorem d_Model_valid_660 : decode prog_14_method_34_code 660 = .ok (.invokevirtual 372, 3) := by decide +kernel
theorem d_Model_valid_663 : decode prog_14_method_34_code 663 = .ok (.pop, 1) := by decide +kernel
theorem d_Model_valid_664 : decode prog_14_method_34_code 664 = .ok (.aload_n 0, 1) := by decide +kernel
theorem d_Model_valid_665 : decode prog_14_method_34_code 665 = .ok (.iload 7, 2) := by decide +kernel
theorem d_Model_valid_667 : decode prog_14_method_34_code 667 = .ok (.invokevirtual 384, 3) := by decide +kernel
theorem d_Model_valid_670 : decode prog_14_method_34_code 670 = .ok (.aload_n 0, 1) := by decide +kernel
theorem d_Model_valid_671 : decode prog_14_method_34_code 671 = .ok (.iload 7, 2) := by decide +kernel
theorem d_Model_valid_673 : decode prog_14_method_34_code 673 = .ok (.invokevirtual 387, 3) := by decide +kernel
theorem d_Model_valid_676 : decode prog_14_method_34_code 676 = .ok (.goto 477, 3) := by decide +kernel
theorem d_Model_valid_679 : decode prog_14_method_34_code 679 = .ok (.aload_n 0, 1) := by decide +kernel
theorem d_Model_valid_680 : decode prog_14_method_34_code 680 = .ok (.invokevirtual 393, 3) := by decide +kernel
theorem nm_Model_table : x_nm y_Model_table 0 = true := by decide +kernel
theorem d_Model_valid_683 : decode prog_14_method_34_code 683 = .ok (.goto 470, 3) := by decide +kernel
theorem d_Model_valid_686 : decode prog_14_method_34_code 686 = .ok (.aload_n 0, 1) := by decide +kernel
theorem d_Model_valid_687 : decode prog_14_method_34_code 687 = .ok (.aload_n 0, 1) := by decide +kernel
theorem d_Model_valid_688 : decode prog_14_method_34_code 688 = .ok (.getfield 16, 3) := by decide +kernel
theorem d_Model_valid_691 : decode prog_14_method_34_code 691 = .ok (.getfield 231, 3) := by decide +kernel
theorem d_Model_valid_694 : decode prog_14_method_34_code 694 = .ok (.iload_n 3, 1) := by decide +kernel
theorem d_Model_valid_695 : decode prog_14_method_34_code 695 = .ok (.iaload, 1) := by decide +kernel
theorem d_Model_valid_696 : decode prog_14_method_34_code 696 = .ok (.invokevirtual 384, 3) := by decide +kernel
theorem d_Model_valid_699 : decode prog_14_method_34_code 699 = .ok (.aload_n 0, 1) := by decide +kernel
theorem d_Model_valid_700 : decode prog_14_method_34_code 700 = .ok (.invokevirtual 378, 3) := by decide +kernel
theorem d_Model_valid_703 : decode prog_14_method_34_code 703 = .ok (.goto 450, 3) := by decide +kernel
theorem d_Model_valid_706 : decode prog_14_method_34_code 706 = .ok (.aload_n 0, 1) := by decide +kernel
theorem d_Model_valid_707 : decode prog_14_method_34_code 707 = .ok (.invokevirtual 68, 3) := by decide +kernel
theorem d_Model_valid_710 : decode prog_14_method_34_code 710 = .ok (.lstore 7, 2) := by decide +kernel
theorem d_Model_valid_712 : decode prog_14_method_34_code 712 = .ok (.aload_n 0, 1) := by decide +kernel
theorem d_Model_valid_713 : decode prog_14_method_34_code 713 = .ok (.lload 7, 2) := by decide +kernel
theorem d_Model_valid_715 : decode prog_14_method_34_code 715 = .ok (.aload_n 0, 1) := by decide +kernel
theorem d_Model_valid_716 : decode prog_14_method_34_code 716 = .ok (.getfield 16, 3) := by decide +kernel
theorem d_Model_valid_719 : decode prog_14_method_34_code 719 = .ok (.getfield 110, 3) := by decide +kernel
theorem d_Model_valid_722 : decode prog_14_method_34_code 722 = .ok (.i2l, 1) := by decide +kernel
theorem d_Model_valid_723 : decode prog_14_method_34_code 723 = .ok (.lcmp, 1) := by decide +kernel
theorem d_Model_valid_724 : decode prog_14_method_34_code 724 = .ok (.ifCond .ge 7, 3) := by decide +kernel
theorem d_Model_valid_731 : decode prog_14_method_34_code 731 = .ok (.iconst 0, 1) := by decide +kernel
theorem d_Model_valid_732 : decode prog_14_method_34_code 732 = .ok (.invokevirtual 351, 3) := by decide +kernel
theorem d_Model_valid_727 : decode prog_14_method_34_code 727 = .ok (.iconst 1, 1) := by decide +kernel
theorem d_Model_valid_728 : decode prog_14_method_34_code 728 = .ok (.goto 4, 3) := by decide +kernel
theorem d_Model_valid_735 : decode prog_14_method_34_code 735 = .ok (.aload_n 0, 1) := by decide +kernel
theorem d_Model_valid_736 : decode prog_14_method_34_code 736 = .ok (.aload_n 0, 1) := by decide +kernel
theorem d_Model_valid_737 : decode prog_14_method_34_code 737 = .ok (.getfield 16, 3) := by decide +kernel
theorem d_Model_valid_740 : decode prog_14_method_34_code 740 = .ok (.getfield 234, 3) := by decide +kernel
theorem d_Model_valid_743 : decode prog_14_method_34_code 743 = .ok (.lload 7, 2) := by decide +kernel
theorem d_Model_valid_745 : decode prog_14_method_34_code 745 = .ok (.l2i, 1) := by decide +kernel
theorem d_Model_valid_746 : decode prog_14_method_34_code 746 = .ok (.iaload, 1) := by decide +kernel
theorem d_Model_valid_747 : decode prog_14_method_34_code 747 = .ok (.invokevirtual 396, 3) := by decide +kernel
theorem nm_Model_called : x_nm y_Model_called 1 = true := by decide +kernel
theorem d_Model_valid_750 : decode prog_14_method_34_code 750 = .ok (.goto 403, 3) := by decide +kernel
theorem d_Model_valid_753 : decode prog_14_method_34_code 753 = .ok (.aload_n 0, 1) := by decide +kernel
theorem d_Model_valid_754 : decode prog_14_method_34_code 754 = .ok (.invokevirtual 68, 3) := by decide +kernel
theorem d_Model_valid_757 : decode prog_14_method_34_code 757 = .ok (.lstore 7, 2) := by decide +kernel
theorem d_Model_valid_759 : decode prog_14_method_34_code 759 = .ok (.aload_n 0, 1) := by decide +kernel
theorem d_Model_valid_760 : decode prog_14_method_34_code 760 = .ok (.invokevirtual 64, 3) := by decide +kernel
theorem d_Model_valid_763 : decode prog_14_method_34_code 763 = .ok (.pop, 1) := by decide +kernel
theorem d_Model_valid_764 : decode prog_14_method_34_code 764 = .ok (.aload_n 0, 1) := by decide +kernel
theorem d_Model_valid_765 : decode prog_14_method_34_code 765 = .ok (.lload 7, 2) := by decide +kernel
theorem d_Model_valid_767 : decode prog_14_method_34_code 767 = .ok (.aload_n 0, 1) := by decide +kernel
theorem d_Model_valid_768 : decode prog_14_method_34_code 768 = .ok (.getfield 16, 3) := by decide +kernel
theorem d_Model_valid_771 : decode prog_14_method_34_code 771 = .ok (.getfield 104, 3) := by decide +kernel
theorem d_Model_valid_774 : decode prog_14_method_34_code 774 = .ok (.i2l, 1) := by decide +kernel
theorem d_Model_valid_775 : decode prog_14_method_34_code 775 = .ok (.lcmp, 1) := by decide +kernel
theorem d_Model_valid_776 : decode prog_14_method_34_code 776 = .ok (.ifCond .ge 18, 3) := by decide +kernel
theorem d_Model_valid_794 : decode prog_14_method_34_code 794 = .ok (.iconst 0, 1) := by decide +kernel
theorem d_Model_valid_795 : decode prog_14_method_34_code 795 = .ok (.invokevirtual 351, 3) := by decide +kernel
theorem d_Model_valid_779 : decode prog_14_method_34_code 779 = .ok (.aload_n 0, 1) := by decide +kernel
theorem d_Model_valid_780 : decode prog_14_method_34_code 780 = .ok (.getfield 16, 3) := by decide +kernel
theorem d_Model_valid_783 : decode prog_14_method_34_code 783 = .ok (.getfield 116, 3) := by decide +kernel
theorem d_Model_valid_786 : decode prog_14_method_34_code 786 = .ok (.iconst 1, 1) := by decide +kernel
theorem d_Model_valid_787 : decode prog_14_method_34_code 787 = .ok (.if_icmp .ne 7, 3) := by decide +kernel
theorem d_Model_valid_790 : decode prog_14_method_34_code 790 = .ok (.iconst 1, 1) := by decide +kernel
theorem d_Model_valid_791 : decode prog_14_method_34_code 791 = .ok (.goto 4, 3) := by decide +kernel
theorem d_Model_valid_798 : decode prog_14_method_34_code 798 = .ok (.aload_n 0, 1) := by decide +kernel
theorem d_Model_valid_799 : decode prog_14_method_34_code 799 = .ok (.iconst 1, 1) := by decide +kernel
theorem d_Model_valid_800 : decode prog_14_method_34_code 800 = .ok (.invokevirtual 372, 3) := by decide +kernel
theorem d_Model_valid_803 : decode prog_14_method_34_code 803 = .ok (.pop, 1) := by decide +kernel
theorem d_Model_valid_804 : decode prog_14_method_34_code 804 = .ok (.aload_n 0, 1) := by decide +kernel
theorem d_Model_valid_805 : decode prog_14_method_34_code 805 = .ok (.lload 7, 2) := by decide +kernel
theorem d_Model_valid_807 : decode prog_14_method_34_code 807 = .ok (.l2i, 1) := by decide +kernel
theorem d_Model_valid_808 : decode prog_14_method_34_code 808 = .ok (.invokevirtual 396, 3) := by decide +kernel
theorem d_Model_valid_811 : decode prog_14_method_34_code 811 = .ok (.goto 342, 3) := by decide +kernel
theorem d_Model_valid_814 : decode prog_14_method_34_code 814 = .ok (.aload_n 0, 1) := by decide +kernel
theorem d_Model_valid_815 : decode prog_14_method_34_code 815 = .ok (.iconst 3, 1) := by decide +kernel
theorem d_Model_valid_816 : decode prog_14_method_34_code 816 = .ok (.invokevirtual 372, 3) := by decide +kernel
theorem d_Model_valid_819 : decode prog_14_method_34_code 819 = .ok (.pop, 1) := by decide +kernel
theorem d_Model_valid_820 : decode prog_14_method_34_code 820 = .ok (.goto 333, 3) := by decide +kernel
theorem d_Model_valid_823 : decode prog_14_method_34_code 823 = .ok (.aload_n 0, 1) := by decide +kernel
theorem d_Model_valid_824 : decode prog_14_method_34_code 824 = .ok (.iconst 1, 1) := by decide +kernel
theorem d_Model_valid_825 : decode prog_14_method_34_code 825 = .ok (.invokevirtual 372, 3) := by decide +kernel
theorem d_Model_valid_828 : decode prog_14_method_34_code 828 = .ok (.pop, 1) := by decide +kernel
theorem d_Model_valid_829 : decode prog_14_method_34_code 829 = .ok (.aload_n 0, 1) := by decide +kernel
theorem d_Model_valid_830 : decode prog_14_method_34_code 830 = .ok (.iconst 3, 1) := by decide +kernel
theorem d_Model_valid_831 : decode prog_14_method_34_code 831 = .ok (.invokevirtual 372, 3) := by decide +kernel
theorem d_Model_valid_834 : decode prog_14_method_34_code 834 = .ok (.istore 7, 2) := by decide +kernel
theorem d_Model_valid_836 : decode prog_14_method_34_code 836 = .ok (.aload_n 0, 1) := by decide +kernel
theorem d_Model_valid_837 : decode prog_14_method_34_code 837 = .ok (.iload 7, 2) := by decide +kernel
theorem d_Model_valid_839 : decode prog_14_method_34_code 839 = .ok (.invokevirtual 372, 3) := by decide +kernel
theorem d_Model_valid_842 : decode prog_14_method_34_code 842 = .ok (.istore 8, 2) := by decide +kernel
theorem d_Model_valid_844 : decode prog_14_method_34_code 844 = .ok (.aload_n 0, 1) := by decide +kernel
theorem d_Model_valid_845 : decode prog_14_method_34_code 845 = .ok (.iload 8, 2) := by decide +kernel
theorem d_Model_valid_847 : decode prog_14_method_34_code 847 = .ok (.iconst 3, 1) := by decide +kernel
theorem d_Model_valid_848 : decode prog_14_method_34_code 848 = .ok (.if_icmp .ne 8, 3) := by decide +kernel
theorem d_Model_valid_856 : decode prog_14_method_34_code 856 = .ok (.iload 8, 2) := by decide +kernel
theorem d_Model_valid_858 : decode prog_14_method_34_code 858 = .ok (.invokevirtual 387, 3) := by decide +kernel
theorem d_Model_valid_861 : decode prog_14_method_34_code 861 = .ok (.goto 292, 3) := by decide +kernel
theorem d_Model_valid_851 : decode prog_14_method_34_code 851 = .ok (.iload 7, 2) := by decide +kernel
theorem d_Model_valid_853 : decode prog_14_method_34_code 853 = .ok (.goto 5, 3) := by decide +kernel
theorem d_Model_valid_864 : decode prog_14_method_34_code 864 = .ok (.aload_n 0, 1) := by decide +kernel
theorem d_Model_valid_865 : decode prog_14_method_34_code 865 = .ok (.invokevirtual 68, 3) := by decide +kernel
theorem d_Model_valid_868 : decode prog_14_method_34_code 868 = .ok (.lstore 7, 2) := by decide +kernel
theorem d_Model_valid_870 : decode prog_14_method_34_code 870 = .ok (.aload_n 0, 1) := by decide +kernel
theorem d_Model_valid_871 : decode prog_14_method_34_code 871 = .ok (.lload 7, 2) := by decide +kernel
theorem d_Model_valid_873 : decode prog_14_method_34_code 873 = .ok (.iload 5, 2) := by decide +kernel
theorem d_Model_valid_875 : decode prog_14_method_34_code 875 = .ok (.i2l, 1) := by decide +kernel
theorem d_Model_valid_876 : decode prog_14_method_34_code 876 = .ok (.lcmp, 1) := by decide +kernel
theorem d_Model_valid_877 : decode prog_14_method_34_code 877 = .ok (.ifCond .ge 7, 3) := by decide +kernel
theorem d_Model_valid_884 : decode prog_14_method_34_code 884 = .ok (.iconst 0, 1) := by decide +kernel
theorem d_Model_valid_885 : decode prog_14_method_34_code 885 = .ok (.invokevirtual 351, 3) := by decide +kernel
theorem d_Model_valid_880 : decode prog_14_method_34_code 880 = .ok (.iconst 1, 1) := by decide +kernel
theorem d_Model_valid_881 : decode prog_14_method_34_code 881 = .ok (.goto 4, 3) := by decide +kernel
theorem d_Model_valid_888 : decode prog_14_method_34_code 888 = .ok (.lload 7, 2) := by decide +kernel
theorem d_Model_valid_890 : decode prog_14_method_34_code 890 = .ok (.iload 4, 2) := by decide +kernel
theorem d_Model_valid_892 : decode prog_14_method_34_code 892 = .ok (.i2l, 1) := by decide +kernel
theorem d_Model_valid_893 : decode prog_14_method_34_code 893 = .ok (.lcmp, 1) := by decide +kernel
theorem d_Model_valid_894 : decode prog_14_method_34_code 894 = .ok (.ifCond .ge 22, 3) := by decide +kernel
theorem d_Model_valid_916 : decode prog_14_method_34_code 916 = .ok (.aload_n 0, 1) := by decide +kernel
theorem d_Model_valid_917 : decode prog_14_method_34_code 917 = .ok (.getfield 16, 3) := by decide +kernel
theorem d_Model_valid_920 : decode prog_14_method_34_code 920 = .ok (.getfield 324, 3) := by decide +kernel
theorem d_Model_valid_923 : decode prog_14_method_34_code 923 = .ok (.bipush 30, 2) := by decide +kernel
theorem d_Model_valid_925 : decode prog_14_method_34_code 925 = .ok (.iload_n 1, 1) := by decide +kernel
theorem d_Model_valid_926 : decode prog_14_method_34_code 926 = .ok (.imul, 1) := by decide +kernel
theorem d_Model_valid_927 : decode prog_14_method_34_code 927 = .ok (.lload 7, 2) := by decide +kernel
theorem d_Model_valid_929 : decode prog_14_method_34_code 929 = .ok (.l2i, 1) := by decide +kernel
theorem d_Model_valid_930 : decode prog_14_method_34_code 930 = .ok (.iadd, 1) := by decide +kernel
theorem d_Model_valid_931 : decode prog_14_method_34_code 931 = .ok (.iload 4, 2) := by decide +kernel
theorem d_Model_valid_933 : decode prog_14_method_34_code 933 = .ok (.isub, 1) := by decide +kernel
theorem d_Model_valid_934 : decode prog_14_method_34_code 934 = .ok (.iaload, 1) := by decide +kernel
theorem d_Model_valid_935 : decode prog_14_method_34_code 935 = .ok (.istore 9, 2) := by decide +kernel
theorem d_Model_valid_937 : decode prog_14_method_34_code 937 = .ok (.iload 6, 2) := by decide +kernel
theorem d_Model_valid_939 : decode prog_14_method_34_code 939 = .ok (.bipush 32, 2) := by decide +kernel
theorem d_Model_valid_941 : decode prog_14_method_34_code 941 = .ok (.if_icmp .eq 10, 3) := by decide +kernel
theorem d_Model_valid_951 : decode prog_14_method_34_code 951 = .ok (.iload 6, 2) := by decide +kernel
theorem d_Model_valid_953 : decode prog_14_method_34_code 953 = .ok (.bipush 33, 2) := by decide +kernel
theorem d_Model_valid_955 : decode prog_14_method_34_code 955 = .ok (.if_icmp .eq 198, 3) := by decide +kernel
theorem d_Model_valid_958 : decode prog_14_method_34_code 958 = .ok (.aload_n 0, 1) := by decide +kernel
theorem d_Model_valid_959 : decode prog_14_method_34_code 959 = .ok (.iload 9, 2) := by decide +kernel
theorem d_Model_valid_961 : decode prog_14_method_34_code 961 = .ok (.invokevirtual 387, 3) := by decide +kernel
theorem d_Model_valid_964 : decode prog_14_method_34_code 964 = .ok (.goto 189, 3) := by decide +kernel
theorem d_Model_valid_944 : decode prog_14_method_34_code 944 = .ok (.aload_n 0, 1) := by decide +kernel
theorem d_Model_valid_945 : decode prog_14_method_34_code 945 = .ok (.iload 9, 2) := by decide +kernel
theorem d_Model_valid_947 : decode prog_14_method_34_code 947 = .ok (.invokevirtual 372, 3) := by decide +kernel
theorem d_Model_valid_950 : decode prog_14_method_34_code 950 = .ok (.pop, 1) := by decide +kernel
theorem d_Model_valid_897 : decode prog_14_method_34_code 897 = .ok (.aload_n 0, 1) := by decide +kernel
theorem d_Model_valid_898 : decode prog_14_method_34_code 898 = .ok (.getfield 16, 3) := by decide +kernel
theorem d_Model_valid_901 : decode prog_14_method_34_code 901 = .ok (.getfield 225, 3) := by decide +kernel
theorem d_Model_valid_904 : decode prog_14_method_34_code 904 = .ok (.bipush 6, 2) := by decide +kernel
theorem d_Model_valid_906 : decode prog_14_method_34_code 906 = .ok (.iload_n 3, 1) := by decide +kernel
theorem d_Model_valid_907 : decode prog_14_method_34_code 907 = .ok (.imul, 1) := by decide +kernel
theorem d_Model_valid_908 : decode prog_14_method_34_code 908 = .ok (.lload 7, 2) := by decide +kernel
theorem d_Model_valid_910 : decode prog_14_method_34_code 910 = .ok (.l2i, 1) := by decide +kernel
theorem d_Model_valid_911 : decode prog_14_method_34_code 911 = .ok (.iadd, 1) := by decide +kernel
theorem d_Model_valid_912 : decode prog_14_method_34_code 912 = .ok (.iaload, 1) := by decide +kernel
theorem d_Model_valid_913 : decode prog_14_method_34_code 913 = .ok (.goto 22, 3) := by decide +kernel
theorem d_Model_valid_967 : decode prog_14_method_34_code 967 = .ok (.aload_n 0, 1) := by decide +kernel
theorem d_Model_valid_968 : decode prog_14_method_34_code 968 = .ok (.invokevirtual 68, 3) := by decide +kernel
theorem d_Model_valid_971 : decode prog_14_method_34_code 971 = .ok (.lstore 7, 2) := by decide +kernel
theorem d_Model_valid_973 : decode prog_14_method_34_code 973 = .ok (.aload_n 0, 1) := by decide +kernel
theorem d_Model_valid_974 : decode prog_14_method_34_code 974 = .ok (.lload 7, 2) := by decide +kernel
theorem d_Model_valid_976 : decode prog_14_method_34_code 976 = .ok (.aload_n 0, 1) := by decide +kernel
theorem d_Model_valid_977 : decode prog_14_method_34_code 977 = .ok (.getfield 16, 3) := by decide +kernel
theorem d_Model_valid_980 : decode prog_14_method_34_code 980 = .ok (.getfield 122, 3) := by decide +kernel
theorem d_Model_valid_983 : decode prog_14_method_34_code 983 = .ok (.i2l, 1) := by decide +kernel
theorem d_Model_valid_984 : decode prog_14_method_34_code 984 = .ok (.lcmp, 1) := by decide +kernel
theorem d_Model_valid_985 : decode prog_14_method_34_code 985 = .ok (.ifCond .ge 7, 3) := by decide +kernel
theorem d_Model_valid_992 : decode prog_14_method_34_code 992 = .ok (.iconst 0, 1) := by decide +kernel
theorem d_Model_valid_993 : decode prog_14_method_34_code 993 = .ok (.invokevirtual 351, 3) := by decide +kernel
theorem d_Model_valid_988 : decode prog_14_method_34_code 988 = .ok (.iconst 1, 1) := by decide +kernel
theorem d_Model_valid_989 : decode prog_14_method_34_code 989 = .ok (.goto 4, 3) := by decide +kernel
theorem d_Model_valid_996 : decode prog_14_method_34_code 996 = .ok (.iload 6, 2) := by decide +kernel
theorem d_Model_valid_998 : decode prog_14_method_34_code 998 = .ok (.bipush 35, 2) := by decide +kernel
theorem d_Model_valid_1000 : decode prog_14_method_34_code 1000 = .ok (.if_icmp .ne 21, 3) := by decide +kernel
theorem d_Model_valid_1021 : decode prog_14_method_34_code 1021 = .ok (.aload_n 0, 1) := by decide +kernel
theorem d_Model_valid_1022 : decode prog_14_method_34_code 1022 = .ok (.aload_n 0, 1) := by decide +kernel
theorem d_Model_valid_1023 : decode prog_14_method_34_code 1023 = .ok (.getfield 16, 3) := by decide +kernel
theorem d_Model_valid_1026 : decode prog_14_method_34_code 1026 = .ok (.getfield 243, 3) := by decide +kernel
theorem d_Model_valid_1029 : decode prog_14_method_34_code 1029 = .ok (.lload 7, 2) := by decide +kernel
theorem d_Model_valid_1031 : decode prog_14_method_34_code 1031 = .ok (.l2i, 1) := by decide +kernel
theorem d_Model_valid_1032 : decode prog_14_method_34_code 1032 = .ok (.baload, 1) := by decide +kernel
theorem d_Model_valid_1033 : decode prog_14_method_34_code 1033 = .ok (.invokevirtual 351, 3) := by decide +kernel
theorem d_Model_valid_1036 : decode prog_14_method_34_code 1036 = .ok (.aload_n 0, 1) := by decide +kernel
theorem d_Model_valid_1037 : decode prog_14_method_34_code 1037 = .ok (.aload_n 0, 1) := by decide +kernel
theorem d_Model_valid_1038 : decode prog_14_method_34_code 1038 = .ok (.getfield 16, 3) := by decide +kernel
theorem d_Model_valid_1041 : decode prog_14_method_34_code 1041 = .ok (.getfield 240, 3) := by decide +kernel
theorem d_Model_valid_1044 : decode prog_14_method_34_code 1044 = .ok (.lload 7, 2) := by decide +kernel
theorem d_Model_valid_1046 : decode prog_14_method_34_code 1046 = .ok (.l2i, 1) := by decide +kernel
theorem d_Model_valid_1047 : decode prog_14_method_34_code 1047 = .ok (.iaload, 1) := by decide +kernel
theorem d_Model_valid_1048 : decode prog_14_method_34_code 1048 = .ok (.invokevirtual 372, 3) := by decide +kernel
theorem d_Model_valid_1051 : decode prog_14_method_34_code 1051 = .ok (.pop, 1) := by decide +kernel
theorem d_Model_valid_1052 : decode prog_14_method_34_code 1052 = .ok (.goto 101, 3) := by decide +kernel
theorem d_Model_valid_1003 : decode prog_14_method_34_code 1003 = .ok (.aload_n 0, 1) := by decide +kernel
theorem d_Model_valid_1004 : decode prog_14_method_34_code 1004 = .ok (.aload_n 0, 1) := by decide +kernel
theorem d_Model_valid_1005 : decode prog_14_method_34_code 1005 = .ok (.getfield 16, 3) := by decide +kernel
theorem d_Model_valid_1008 : decode prog_14_method_34_code 1008 = .ok (.getfield 240, 3) := by decide +kernel
theorem d_Model_valid_1011 : decode prog_14_method_34_code 1011 = .ok (.lload 7, 2) := by decide +kernel
theorem d_Model_valid_1013 : decode prog_14_method_34_code 1013 = .ok (.l2i, 1) := by decide +kernel
theorem d_Model_valid_1014 : decode prog_14_method_34_code 1014 = .ok (.iaload, 1) := by decide +kernel
theorem d_Model_valid_1015 : decode prog_14_method_34_code 1015 = .ok (.invokevirtual 387, 3) := by decide +kernel
theorem d_Model_valid_1018 : decode prog_14_method_34_code 1018 = .ok (.goto 135, 3) := by decide +kernel
theorem d_Model_valid_1055 : decode prog_14_method_34_code 1055 = .ok (.aload_n 0, 1) := by decide +kernel
theorem d_Model_valid_1056 : decode prog_14_method_34_code 1056 = .ok (.invokevirtual 64, 3) := by decide +kernel
theorem d_Model_valid_1059 : decode prog_14_method_34_code 1059 = .ok (.pop, 1) := by decide +kernel
theorem d_Model_valid_1060 : decode prog_14_method_34_code 1060 = .ok (.aload_n 0, 1) := by decide +kernel
theorem d_Model_valid_1061 : decode prog_14_method_34_code 1061 = .ok (.aload_n 0, 1) := by decide +kernel
theorem d_Model_valid_1062 : decode prog_14_method_34_code 1062 = .ok (.getfield 16, 3) := by decide +kernel
theorem d_Model_valid_1065 : decode prog_14_method_34_code 1065 = .ok (.getfield 119, 3) := by decide +kernel
theorem d_Model_valid_1068 : decode prog_14_method_34_code 1068 = .ok (.iconst 1, 1) := by decide +kernel
theorem d_Model_valid_1069 : decode prog_14_method_34_code 1069 = .ok (.if_icmp .ne 7, 3) := by decide +kernel
theorem d_Model_valid_1076 : decode prog_14_method_34_code 1076 = .ok (.iconst 0, 1) := by decide +kernel
theorem d_Model_valid_1077 : decode prog_14_method_34_code 1077 = .ok (.invokevirtual 351, 3) := by decide +kernel
theorem d_Model_valid_1072 : decode prog_14_method_34_code 1072 = .ok (.iconst 1, 1) := by decide +kernel
theorem d_Model_valid_1073 : decode prog_14_method_34_code 1073 = .ok (.goto 4, 3) := by decide +kernel
theorem d_Model_valid_1080 : decode prog_14_method_34_code 1080 = .ok (.iload 6, 2) := by decide +kernel
theorem d_Model_valid_1082 : decode prog_14_method_34_code 1082 = .ok (.bipush 64, 2) := by decide +kernel
theorem d_Model_valid_1084 : decode prog_14_method_34_code 1084 = .ok (.if_icmp .ne 9, 3) := by decide +kernel
theorem d_Model_valid_1093 : decode prog_14_method_34_code 1093 = .ok (.aload_n 0, 1) := by decide +kernel
theorem d_Model_valid_1094 : decode prog_14_method_34_code 1094 = .ok (.iconst 1, 1) := by decide +kernel
theorem d_Model_valid_1095 : decode prog_14_method_34_code 1095 = .ok (.invokevirtual 387, 3) := by decide +kernel
theorem d_Model_valid_1098 : decode prog_14_method_34_code 1098 = .ok (.goto 55, 3) := by decide +kernel
theorem d_Model_valid_1087 : decode prog_14_method_34_code 1087 = .ok (.aload_n 0, 1) := by decide +kernel
theorem d_Model_valid_1088 : decode prog_14_method_34_code 1088 = .ok (.iconst 1, 1) := by decide +kernel
theorem d_Model_valid_1089 : decode prog_14_method_34_code 1089 = .ok (.invokevirtual 372, 3) := by decide +kernel
theorem d_Model_valid_1092 : decode prog_14_method_34_code 1092 = .ok (.pop, 1) := by decide +kernel
theorem d_Model_valid_1101 : decode prog_14_method_34_code 1101 = .ok (.aload_n 0, 1) := by decide +kernel
theorem d_Model_valid_1102 : decode prog_14_method_34_code 1102 = .ok (.bipush 32, 2) := by decide +kernel
theorem d_Model_valid_1104 : decode prog_14_method_34_code 1104 = .ok (.invokevirtual 288, 3) := by decide +kernel
theorem d_Model_valid_1107 : decode prog_14_method_34_code 1107 = .ok (.pop2, 1) := by decide +kernel
theorem d_Model_valid_1108 : decode prog_14_method_34_code 1108 = .ok (.aload_n 0, 1) := by decide +kernel
theorem d_Model_valid_1109 : decode prog_14_method_34_code 1109 = .ok (.iconst 1, 1) := by decide +kernel
theorem d_Model_valid_1110 : decode prog_14_method_34_code 1110 = .ok (.invokevirtual 387, 3) := by decide +kernel
theorem d_Model_valid_1113 : decode prog_14_method_34_code 1113 = .ok (.goto 40, 3) := by decide +kernel
theorem d_Model_valid_1116 : decode prog_14_method_34_code 1116 = .ok (.aload_n 0, 1) := by decide +kernel
theorem d_Model_valid_1117 : decode prog_14_method_34_code 1117 = .ok (.bipush 64, 2) := by decide +kernel
theorem d_Model_valid_1119 : decode prog_14_method_34_code 1119 = .ok (.invokevirtual 288, 3) := by decide +kernel
theorem d_Model_valid_1122 : decode prog_14_method_34_code 1122 = .ok (.pop2, 1) := by decide +kernel
theorem d_Model_valid_1123 : decode prog_14_method_34_code 1123 = .ok (.aload_n 0, 1) := by decide +kernel
theorem d_Model_valid_1124 : decode prog_14_method_34_code 1124 = .ok (.iconst 2, 1) := by decide +kernel
theorem d_Model_valid_1125 : decode prog_14_method_34_code 1125 = .ok (.invokevirtual 387, 3) := by decide +kernel
theorem d_Model_valid_1128 : decode prog_14_method_34_code 1128 = .ok (.goto 25, 3) := by decide +kernel
