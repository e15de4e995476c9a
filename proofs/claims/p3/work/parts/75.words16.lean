def y_Model_isInitial : MethodName := ⟨"WasmReaderModel", "isInitial", "(IJI)Z"⟩
def y_Model_isSame : MethodName := ⟨"WasmReaderModel", "isSame", "(LWasmReaderModel$Unit;IILWasmReaderModel$Unit;II)Z"⟩
def y_Model_isRoom : MethodName := ⟨"WasmReaderModel", "isRoom", "()Z"⟩
def y_Model_valid : MethodName := ⟨"WasmReaderModel", "valid", "(I)V"⟩
theorem m_907 : Cond.methodLink "WasmReaderModel" 375 y_Model_open ∈ xtb := x_in (List.mem_of_getElem? (i := 1560) (by decide +kernel)) (by decide +kernel)
theorem m_908 : Cond.code y_Model_open prog_14_method_32_code 4 none ∈ xtb := x_in (List.mem_of_getElem? (i := 1563) (by decide +kernel)) (by decide +kernel)
theorem m_909 : Cond.instanceMethod y_Model_open ∈ xtb := x_in (List.mem_of_getElem? (i := 1562) (by decide +kernel)) (by decide +kernel)
theorem m_910 : Cond.selects "WasmReaderModel" y_Model_open y_Model_open ∈ xtb := x_in (List.mem_of_getElem? (i := 75) (by decide +kernel)) (by decide +kernel)
theorem m_911 : Cond.code y_Model_blockType prog_14_method_35_code 2 (some .int) ∈ xtb := x_in (List.mem_of_getElem? (i := 1571) (by decide +kernel)) (by decide +kernel)
theorem m_912 : Cond.methodLink "WasmReaderModel" 381 y_Model_blockType ∈ xtb := x_in (List.mem_of_getElem? (i := 1568) (by decide +kernel)) (by decide +kernel)
theorem m_913 : Cond.instanceMethod y_Model_blockType ∈ xtb := x_in (List.mem_of_getElem? (i := 1570) (by decide +kernel)) (by decide +kernel)
theorem m_914 : Cond.selects "WasmReaderModel" y_Model_blockType y_Model_blockType ∈ xtb := x_in (List.mem_of_getElem? (i := 77) (by decide +kernel)) (by decide +kernel)
theorem m_915 : Cond.code y_Model_numeric prog_14_method_40_code 6 none ∈ xtb := x_in (List.mem_of_getElem? (i := 1607) (by decide +kernel)) (by decide +kernel)
theorem m_916 : Cond.methodLink "WasmReaderModel" 402 y_Model_numeric ∈ xtb := x_in (List.mem_of_getElem? (i := 1604) (by decide +kernel)) (by decide +kernel)
theorem m_917 : Cond.instanceMethod y_Model_numeric ∈ xtb := x_in (List.mem_of_getElem? (i := 1606) (by decide +kernel)) (by decide +kernel)
theorem m_918 : Cond.selects "WasmReaderModel" y_Model_numeric y_Model_numeric ∈ xtb := x_in (List.mem_of_getElem? (i := 85) (by decide +kernel)) (by decide +kernel)
theorem m_919 : Cond.code y_Model_access prog_14_method_39_code 5 none ∈ xtb := x_in (List.mem_of_getElem? (i := 1599) (by decide +kernel)) (by decide +kernel)
theorem m_920 : Cond.methodLink "WasmReaderModel" 399 y_Model_access ∈ xtb := x_in (List.mem_of_getElem? (i := 1596) (by decide +kernel)) (by decide +kernel)
theorem m_921 : Cond.instanceMethod y_Model_access ∈ xtb := x_in (List.mem_of_getElem? (i := 1598) (by decide +kernel)) (by decide +kernel)
theorem m_922 : Cond.selects "WasmReaderModel" y_Model_access y_Model_access ∈ xtb := x_in (List.mem_of_getElem? (i := 84) (by decide +kernel)) (by decide +kernel)
theorem m_923 : Cond.code y_Model_table prog_14_method_36_code 8 none ∈ xtb := x_in (List.mem_of_getElem? (i := 1591) (by decide +kernel)) (by decide +kernel)
theorem m_924 : Cond.methodLink "WasmReaderModel" 393 y_Model_table ∈ xtb := x_in (List.mem_of_getElem? (i := 1588) (by decide +kernel)) (by decide +kernel)
theorem m_925 : Cond.instanceMethod y_Model_table ∈ xtb := x_in (List.mem_of_getElem? (i := 1590) (by decide +kernel)) (by decide +kernel)
theorem m_926 : Cond.selects "WasmReaderModel" y_Model_table y_Model_table ∈ xtb := x_in (List.mem_of_getElem? (i := 82) (by decide +kernel)) (by decide +kernel)
theorem m_927 : Cond.code y_Model_called prog_14_method_37_code 3 none ∈ xtb := x_in (List.mem_of_getElem? (i := 1595) (by decide +kernel)) (by decide +kernel)
theorem m_928 : Cond.methodLink "WasmReaderModel" 396 y_Model_called ∈ xtb := x_in (List.mem_of_getElem? (i := 1592) (by decide +kernel)) (by decide +kernel)
theorem m_929 : Cond.instanceMethod y_Model_called ∈ xtb := x_in (List.mem_of_getElem? (i := 1594) (by decide +kernel)) (by decide +kernel)
theorem m_930 : Cond.selects "WasmReaderModel" y_Model_called y_Model_called ∈ xtb := x_in (List.mem_of_getElem? (i := 83) (by decide +kernel)) (by decide +kernel)
theorem d_Model_isInitial_0 : decode prog_14_method_25_code 0 = .ok (.iload_n 1, 1) := by decide +kernel
theorem d_Model_isInitial_1 : decode prog_14_method_25_code 1 = .ok (.bipush 35, 2) := by decide +kernel
theorem d_Model_isInitial_3 : decode prog_14_method_25_code 3 = .ok (.if_icmp .ne 63, 3) := by decide +kernel
theorem d_Model_isInitial_66 : decode prog_14_method_25_code 66 = .ok (.iload 4, 2) := by decide +kernel
theorem d_Model_isInitial_68 : decode prog_14_method_25_code 68 = .ok (.iload_n 1, 1) := by decide +kernel
theorem d_Model_isInitial_69 : decode prog_14_method_25_code 69 = .ok (.bipush 65, 2) := by decide +kernel
theorem d_Model_isInitial_71 : decode prog_14_method_25_code 71 = .ok (.if_icmp .ne 7, 3) := by decide +kernel
theorem d_Model_isInitial_78 : decode prog_14_method_25_code 78 = .ok (.iconst 2, 1) := by decide +kernel
theorem d_Model_isInitial_79 : decode prog_14_method_25_code 79 = .ok (.if_icmp .ne 7, 3) := by decide +kernel
theorem d_Model_isInitial_86 : decode prog_14_method_25_code 86 = .ok (.iconst 0, 1) := by decide +kernel
theorem d_Model_isInitial_87 : decode prog_14_method_25_code 87 = .ok (.ireturn, 1) := by decide +kernel
theorem d_Model_isInitial_82 : decode prog_14_method_25_code 82 = .ok (.iconst 1, 1) := by decide +kernel
theorem d_Model_isInitial_83 : decode prog_14_method_25_code 83 = .ok (.goto 4, 3) := by decide +kernel
theorem d_Model_isInitial_74 : decode prog_14_method_25_code 74 = .ok (.iconst 1, 1) := by decide +kernel
theorem d_Model_isInitial_75 : decode prog_14_method_25_code 75 = .ok (.goto 4, 3) := by decide +kernel
theorem d_Model_isInitial_6 : decode prog_14_method_25_code 6 = .ok (.lload_n 2, 1) := by decide +kernel
theorem d_Model_isInitial_7 : decode prog_14_method_25_code 7 = .ok (.aload_n 0, 1) := by decide +kernel
theorem d_Model_isInitial_8 : decode prog_14_method_25_code 8 = .ok (.getfield 16, 3) := by decide +kernel
theorem d_Model_isInitial_11 : decode prog_14_method_25_code 11 = .ok (.getfield 122, 3) := by decide +kernel
theorem d_Model_isInitial_14 : decode prog_14_method_25_code 14 = .ok (.i2l, 1) := by decide +kernel
theorem d_Model_isInitial_15 : decode prog_14_method_25_code 15 = .ok (.lcmp, 1) := by decide +kernel
theorem d_Model_isInitial_16 : decode prog_14_method_25_code 16 = .ok (.ifCond .ge 48, 3) := by decide +kernel
theorem d_Model_isInitial_64 : decode prog_14_method_25_code 64 = .ok (.iconst 0, 1) := by decide +kernel
theorem d_Model_isInitial_65 : decode prog_14_method_25_code 65 = .ok (.ireturn, 1) := by decide +kernel
theorem d_Model_isInitial_19 : decode prog_14_method_25_code 19 = .ok (.aload_n 0, 1) := by decide +kernel
theorem d_Model_isInitial_20 : decode prog_14_method_25_code 20 = .ok (.getfield 16, 3) := by decide +kernel
theorem d_Model_isInitial_23 : decode prog_14_method_25_code 23 = .ok (.getfield 246, 3) := by decide +kernel
theorem d_Model_isInitial_26 : decode prog_14_method_25_code 26 = .ok (.lload_n 2, 1) := by decide +kernel
theorem d_Model_isInitial_27 : decode prog_14_method_25_code 27 = .ok (.l2i, 1) := by decide +kernel
theorem d_Model_isInitial_28 : decode prog_14_method_25_code 28 = .ok (.iaload, 1) := by decide +kernel
theorem d_Model_isInitial_29 : decode prog_14_method_25_code 29 = .ok (.ifCond .lt 35, 3) := by decide +kernel
theorem d_Model_isInitial_32 : decode prog_14_method_25_code 32 = .ok (.aload_n 0, 1) := by decide +kernel
theorem d_Model_isInitial_33 : decode prog_14_method_25_code 33 = .ok (.getfield 16, 3) := by decide +kernel
theorem d_Model_isInitial_36 : decode prog_14_method_25_code 36 = .ok (.getfield 243, 3) := by decide +kernel
theorem d_Model_isInitial_39 : decode prog_14_method_25_code 39 = .ok (.lload_n 2, 1) := by decide +kernel
theorem d_Model_isInitial_40 : decode prog_14_method_25_code 40 = .ok (.l2i, 1) := by decide +kernel
theorem d_Model_isInitial_41 : decode prog_14_method_25_code 41 = .ok (.baload, 1) := by decide +kernel
theorem d_Model_isInitial_42 : decode prog_14_method_25_code 42 = .ok (.ifCond .ne 22, 3) := by decide +kernel
theorem d_Model_isInitial_45 : decode prog_14_method_25_code 45 = .ok (.aload_n 0, 1) := by decide +kernel
theorem d_Model_isInitial_46 : decode prog_14_method_25_code 46 = .ok (.getfield 16, 3) := by decide +kernel
theorem d_Model_isInitial_49 : decode prog_14_method_25_code 49 = .ok (.getfield 240, 3) := by decide +kernel
theorem d_Model_isInitial_52 : decode prog_14_method_25_code 52 = .ok (.lload_n 2, 1) := by decide +kernel
theorem d_Model_isInitial_53 : decode prog_14_method_25_code 53 = .ok (.l2i, 1) := by decide +kernel
theorem d_Model_isInitial_54 : decode prog_14_method_25_code 54 = .ok (.iaload, 1) := by decide +kernel
theorem d_Model_isInitial_55 : decode prog_14_method_25_code 55 = .ok (.iload 4, 2) := by decide +kernel
theorem d_Model_isInitial_57 : decode prog_14_method_25_code 57 = .ok (.if_icmp .ne 7, 3) := by decide +kernel
theorem d_Model_isInitial_60 : decode prog_14_method_25_code 60 = .ok (.iconst 1, 1) := by decide +kernel
theorem d_Model_isInitial_61 : decode prog_14_method_25_code 61 = .ok (.goto 4, 3) := by decide +kernel
theorem d_Model_isSame_0 : decode prog_14_method_27_code 0 = .ok (.iload_n 2, 1) := by decide +kernel
theorem d_Model_isSame_1 : decode prog_14_method_27_code 1 = .ok (.iload 5, 2) := by decide +kernel
theorem d_Model_isSame_3 : decode prog_14_method_27_code 3 = .ok (.if_icmp .eq 5, 3) := by decide +kernel
theorem d_Model_isSame_8 : decode prog_14_method_27_code 8 = .ok (.iconst 0, 1) := by decide +kernel
theorem d_Model_isSame_9 : decode prog_14_method_27_code 9 = .ok (.istore 6, 2) := by decide +kernel
theorem d_Model_isSame_11 : decode prog_14_method_27_code 11 = .ok (.iload 6, 2) := by decide +kernel
theorem d_Model_isSame_13 : decode prog_14_method_27_code 13 = .ok (.iload_n 2, 1) := by decide +kernel
theorem d_Model_isSame_14 : decode prog_14_method_27_code 14 = .ok (.if_icmp .ge 33, 3) := by decide +kernel
theorem d_Model_isSame_47 : decode prog_14_method_27_code 47 = .ok (.iconst 1, 1) := by decide +kernel
theorem d_Model_isSame_48 : decode prog_14_method_27_code 48 = .ok (.ireturn, 1) := by decide +kernel
theorem d_Model_isSame_17 : decode prog_14_method_27_code 17 = .ok (.aload_n 0, 1) := by decide +kernel
theorem d_Model_isSame_18 : decode prog_14_method_27_code 18 = .ok (.getfield 61, 3) := by decide +kernel
theorem d_Model_isSame_21 : decode prog_14_method_27_code 21 = .ok (.iload_n 1, 1) := by decide +kernel
theorem d_Model_isSame_22 : decode prog_14_method_27_code 22 = .ok (.iload 6, 2) := by decide +kernel
theorem d_Model_isSame_24 : decode prog_14_method_27_code 24 = .ok (.iadd, 1) := by decide +kernel
theorem d_Model_isSame_25 : decode prog_14_method_27_code 25 = .ok (.baload, 1) := by decide +kernel
theorem d_Model_isSame_26 : decode prog_14_method_27_code 26 = .ok (.aload_n 3, 1) := by decide +kernel
theorem d_Model_isSame_27 : decode prog_14_method_27_code 27 = .ok (.getfield 61, 3) := by decide +kernel
theorem d_Model_isSame_30 : decode prog_14_method_27_code 30 = .ok (.iload 4, 2) := by decide +kernel
theorem d_Model_isSame_32 : decode prog_14_method_27_code 32 = .ok (.iload 6, 2) := by decide +kernel
theorem d_Model_isSame_34 : decode prog_14_method_27_code 34 = .ok (.iadd, 1) := by decide +kernel
theorem d_Model_isSame_35 : decode prog_14_method_27_code 35 = .ok (.baload, 1) := by decide +kernel
theorem d_Model_isSame_36 : decode prog_14_method_27_code 36 = .ok (.if_icmp .eq 5, 3) := by decide +kernel
theorem d_Model_isSame_41 : decode prog_14_method_27_code 41 = .ok (.iinc 6 1, 3) := by decide +kernel
theorem d_Model_isSame_44 : decode prog_14_method_27_code 44 = .ok (.goto (-33), 3) := by decide +kernel
theorem d_Model_isSame_39 : decode prog_14_method_27_code 39 = .ok (.iconst 0, 1) := by decide +kernel
theorem d_Model_isSame_40 : decode prog_14_method_27_code 40 = .ok (.ireturn, 1) := by decide +kernel
theorem d_Model_isSame_6 : decode prog_14_method_27_code 6 = .ok (.iconst 0, 1) := by decide +kernel
theorem d_Model_isSame_7 : decode prog_14_method_27_code 7 = .ok (.ireturn, 1) := by decide +kernel
theorem d_Model_isRoom_0 : decode prog_14_method_44_code 0 = .ok (.iconst 0, 1) := by decide +kernel
theorem d_Model_isRoom_1 : decode prog_14_method_44_code 1 = .ok (.istore_n 1, 1) := by decide +kernel
theorem d_Model_isRoom_2 : decode prog_14_method_44_code 2 = .ok (.iload_n 1, 1) := by decide +kernel
theorem d_Model_isRoom_3 : decode prog_14_method_44_code 3 = .ok (.aload_n 0, 1) := by decide +kernel
theorem d_Model_isRoom_4 : decode prog_14_method_44_code 4 = .ok (.getfield 16, 3) := by decide +kernel
theorem d_Model_isRoom_7 : decode prog_14_method_44_code 7 = .ok (.getfield 134, 3) := by decide +kernel
theorem d_Model_isRoom_10 : decode prog_14_method_44_code 10 = .ok (.if_icmp .ge 72, 3) := by decide +kernel
theorem d_Model_isRoom_82 : decode prog_14_method_44_code 82 = .ok (.iconst 1, 1) := by decide +kernel
theorem d_Model_isRoom_83 : decode prog_14_method_44_code 83 = .ok (.ireturn, 1) := by decide +kernel
theorem d_Model_isRoom_13 : decode prog_14_method_44_code 13 = .ok (.aload_n 0, 1) := by decide +kernel
theorem d_Model_isRoom_14 : decode prog_14_method_44_code 14 = .ok (.getfield 16, 3) := by decide +kernel
theorem d_Model_isRoom_17 : decode prog_14_method_44_code 17 = .ok (.getfield 234, 3) := by decide +kernel
theorem d_Model_isRoom_20 : decode prog_14_method_44_code 20 = .ok (.aload_n 0, 1) := by decide +kernel
theorem d_Model_isRoom_21 : decode prog_14_method_44_code 21 = .ok (.getfield 16, 3) := by decide +kernel
theorem d_Model_isRoom_24 : decode prog_14_method_44_code 24 = .ok (.getfield 110, 3) := by decide +kernel
theorem d_Model_isRoom_27 : decode prog_14_method_44_code 27 = .ok (.aload_n 0, 1) := by decide +kernel
theorem d_Model_isRoom_28 : decode prog_14_method_44_code 28 = .ok (.getfield 16, 3) := by decide +kernel
theorem d_Model_isRoom_31 : decode prog_14_method_44_code 31 = .ok (.getfield 134, 3) := by decide +kernel
theorem d_Model_isRoom_34 : decode prog_14_method_44_code 34 = .ok (.isub, 1) := by decide +kernel
theorem d_Model_isRoom_35 : decode prog_14_method_44_code 35 = .ok (.iload_n 1, 1) := by decide +kernel
theorem d_Model_isRoom_36 : decode prog_14_method_44_code 36 = .ok (.iadd, 1) := by decide +kernel
theorem d_Model_isRoom_37 : decode prog_14_method_44_code 37 = .ok (.iaload, 1) := by decide +kernel
theorem d_Model_isRoom_38 : decode prog_14_method_44_code 38 = .ok (.istore_n 2, 1) := by decide +kernel
theorem d_Model_isRoom_39 : decode prog_14_method_44_code 39 = .ok (.iload_n 2, 1) := by decide +kernel
theorem d_Model_isRoom_40 : decode prog_14_method_44_code 40 = .ok (.aload_n 0, 1) := by decide +kernel
theorem d_Model_isRoom_41 : decode prog_14_method_44_code 41 = .ok (.getfield 16, 3) := by decide +kernel
theorem d_Model_isRoom_44 : decode prog_14_method_44_code 44 = .ok (.getfield 104, 3) := by decide +kernel
theorem d_Model_isRoom_47 : decode prog_14_method_44_code 47 = .ok (.if_icmp .ge 29, 3) := by decide +kernel
theorem d_Model_isRoom_76 : decode prog_14_method_44_code 76 = .ok (.iinc 1 1, 3) := by decide +kernel
theorem d_Model_isRoom_79 : decode prog_14_method_44_code 79 = .ok (.goto (-77), 3) := by decide +kernel
theorem d_Model_isRoom_50 : decode prog_14_method_44_code 50 = .ok (.aload_n 0, 1) := by decide +kernel
theorem d_Model_isRoom_51 : decode prog_14_method_44_code 51 = .ok (.getfield 16, 3) := by decide +kernel
theorem d_Model_isRoom_54 : decode prog_14_method_44_code 54 = .ok (.getfield 228, 3) := by decide +kernel
theorem d_Model_isRoom_57 : decode prog_14_method_44_code 57 = .ok (.iload_n 2, 1) := by decide +kernel
theorem d_Model_isRoom_58 : decode prog_14_method_44_code 58 = .ok (.iaload, 1) := by decide +kernel
theorem d_Model_isRoom_59 : decode prog_14_method_44_code 59 = .ok (.aload_n 0, 1) := by decide +kernel
theorem d_Model_isRoom_60 : decode prog_14_method_44_code 60 = .ok (.getfield 16, 3) := by decide +kernel
theorem d_Model_isRoom_63 : decode prog_14_method_44_code 63 = .ok (.getfield 332, 3) := by decide +kernel
theorem d_Model_isRoom_66 : decode prog_14_method_44_code 66 = .ok (.iload_n 1, 1) := by decide +kernel
theorem d_Model_isRoom_67 : decode prog_14_method_44_code 67 = .ok (.iaload, 1) := by decide +kernel
theorem d_Model_isRoom_68 : decode prog_14_method_44_code 68 = .ok (.iadd, 1) := by decide +kernel
theorem d_Model_isRoom_69 : decode prog_14_method_44_code 69 = .ok (.bipush 30, 2) := by decide +kernel
theorem d_Model_isRoom_71 : decode prog_14_method_44_code 71 = .ok (.if_icmp .le 5, 3) := by decide +kernel
theorem d_Model_isRoom_74 : decode prog_14_method_44_code 74 = .ok (.iconst 0, 1) := by decide +kernel
theorem d_Model_isRoom_75 : decode prog_14_method_44_code 75 = .ok (.ireturn, 1) := by decide +kernel
theorem d_Model_valid_0 : decode prog_14_method_34_code 0 = .ok (.aload_n 0, 1) := by decide +kernel
theorem d_Model_valid_1 : decode prog_14_method_34_code 1 = .ok (.getfield 16, 3) := by decide +kernel
theorem d_Model_valid_4 : decode prog_14_method_34_code 4 = .ok (.getfield 110, 3) := by decide +kernel
theorem d_Model_valid_7 : decode prog_14_method_34_code 7 = .ok (.aload_n 0, 1) := by decide +kernel
theorem d_Model_valid_8 : decode prog_14_method_34_code 8 = .ok (.getfield 16, 3) := by decide +kernel
theorem d_Model_valid_11 : decode prog_14_method_34_code 11 = .ok (.getfield 134, 3) := by decide +kernel
theorem d_Model_valid_14 : decode prog_14_method_34_code 14 = .ok (.isub, 1) := by decide +kernel
theorem d_Model_valid_15 : decode prog_14_method_34_code 15 = .ok (.iload_n 1, 1) := by decide +kernel
theorem d_Model_valid_16 : decode prog_14_method_34_code 16 = .ok (.iadd, 1) := by decide +kernel
theorem d_Model_valid_17 : decode prog_14_method_34_code 17 = .ok (.istore_n 2, 1) := by decide +kernel
theorem d_Model_valid_18 : decode prog_14_method_34_code 18 = .ok (.aload_n 0, 1) := by decide +kernel
theorem d_Model_valid_19 : decode prog_14_method_34_code 19 = .ok (.getfield 16, 3) := by decide +kernel
theorem d_Model_valid_22 : decode prog_14_method_34_code 22 = .ok (.getfield 234, 3) := by decide +kernel
theorem d_Model_valid_25 : decode prog_14_method_34_code 25 = .ok (.iload_n 2, 1) := by decide +kernel
theorem d_Model_valid_26 : decode prog_14_method_34_code 26 = .ok (.iaload, 1) := by decide +kernel
theorem d_Model_valid_27 : decode prog_14_method_34_code 27 = .ok (.istore_n 3, 1) := by decide +kernel
theorem d_Model_valid_28 : decode prog_14_method_34_code 28 = .ok (.aload_n 0, 1) := by decide +kernel
theorem d_Model_valid_29 : decode prog_14_method_34_code 29 = .ok (.getfield 16, 3) := by decide +kernel
theorem d_Model_valid_32 : decode prog_14_method_34_code 32 = .ok (.getfield 228, 3) := by decide +kernel
theorem d_Model_valid_35 : decode prog_14_method_34_code 35 = .ok (.iload_n 3, 1) := by decide +kernel
theorem d_Model_valid_36 : decode prog_14_method_34_code 36 = .ok (.iaload, 1) := by decide +kernel
theorem d_Model_valid_37 : decode prog_14_method_34_code 37 = .ok (.istore 4, 2) := by decide +kernel
theorem d_Model_valid_39 : decode prog_14_method_34_code 39 = .ok (.iload 4, 2) := by decide +kernel
theorem d_Model_valid_41 : decode prog_14_method_34_code 41 = .ok (.aload_n 0, 1) := by decide +kernel
theorem d_Model_valid_42 : decode prog_14_method_34_code 42 = .ok (.getfield 16, 3) := by decide +kernel
theorem d_Model_valid_45 : decode prog_14_method_34_code 45 = .ok (.getfield 332, 3) := by decide +kernel
theorem d_Model_valid_48 : decode prog_14_method_34_code 48 = .ok (.iload_n 1, 1) := by decide +kernel
theorem d_Model_valid_49 : decode prog_14_method_34_code 49 = .ok (.iaload, 1) := by decide +kernel
theorem d_Model_valid_50 : decode prog_14_method_34_code 50 = .ok (.iadd, 1) := by decide +kernel
theorem d_Model_valid_51 : decode prog_14_method_34_code 51 = .ok (.istore 5, 2) := by decide +kernel
theorem d_Model_valid_53 : decode prog_14_method_34_code 53 = .ok (.aload_n 0, 1) := by decide +kernel
theorem d_Model_valid_54 : decode prog_14_method_34_code 54 = .ok (.iconst 0, 1) := by decide +kernel
theorem d_Model_valid_55 : decode prog_14_method_34_code 55 = .ok (.putfield 366, 3) := by decide +kernel
theorem d_Model_valid_58 : decode prog_14_method_34_code 58 = .ok (.aload_n 0, 1) := by decide +kernel
theorem d_Model_valid_59 : decode prog_14_method_34_code 59 = .ok (.iconst 0, 1) := by decide +kernel
theorem d_Model_valid_60 : decode prog_14_method_34_code 60 = .ok (.putfield 369, 3) := by decide +kernel
theorem d_Model_valid_63 : decode prog_14_method_34_code 63 = .ok (.aload_n 0, 1) := by decide +kernel
theorem d_Model_valid_64 : decode prog_14_method_34_code 64 = .ok (.aload_n 0, 1) := by decide +kernel
theorem d_Model_valid_65 : decode prog_14_method_34_code 65 = .ok (.getfield 16, 3) := by decide +kernel
theorem d_Model_valid_68 : decode prog_14_method_34_code 68 = .ok (.getfield 329, 3) := by decide +kernel
theorem d_Model_valid_71 : decode prog_14_method_34_code 71 = .ok (.iload_n 1, 1) := by decide +kernel
theorem d_Model_valid_72 : decode prog_14_method_34_code 72 = .ok (.iaload, 1) := by decide +kernel
theorem d_Model_valid_73 : decode prog_14_method_34_code 73 = .ok (.putfield 50, 3) := by decide +kernel
theorem d_Model_valid_76 : decode prog_14_method_34_code 76 = .ok (.aload_n 0, 1) := by decide +kernel
theorem d_Model_valid_77 : decode prog_14_method_34_code 77 = .ok (.aload_n 0, 1) := by decide +kernel
theorem d_Model_valid_78 : decode prog_14_method_34_code 78 = .ok (.getfield 16, 3) := by decide +kernel
theorem d_Model_valid_81 : decode prog_14_method_34_code 81 = .ok (.getfield 338, 3) := by decide +kernel
theorem d_Model_valid_84 : decode prog_14_method_34_code 84 = .ok (.iload_n 1, 1) := by decide +kernel
theorem d_Model_valid_85 : decode prog_14_method_34_code 85 = .ok (.iaload, 1) := by decide +kernel
theorem d_Model_valid_86 : decode prog_14_method_34_code 86 = .ok (.putfield 53, 3) := by decide +kernel
theorem d_Model_valid_89 : decode prog_14_method_34_code 89 = .ok (.aload_n 0, 1) := by decide +kernel
theorem d_Model_valid_90 : decode prog_14_method_34_code 90 = .ok (.iconst 2, 1) := by decide +kernel
theorem d_Model_valid_91 : decode prog_14_method_34_code 91 = .ok (.aload_n 0, 1) := by decide +kernel
theorem d_Model_valid_92 : decode prog_14_method_34_code 92 = .ok (.getfield 16, 3) := by decide +kernel
theorem d_Model_valid_95 : decode prog_14_method_34_code 95 = .ok (.getfield 231, 3) := by decide +kernel
theorem d_Model_valid_98 : decode prog_14_method_34_code 98 = .ok (.iload_n 3, 1) := by decide +kernel
theorem d_Model_valid_99 : decode prog_14_method_34_code 99 = .ok (.iaload, 1) := by decide +kernel
theorem d_Model_valid_100 : decode prog_14_method_34_code 100 = .ok (.aload_n 0, 1) := by decide +kernel
theorem d_Model_valid_101 : decode prog_14_method_34_code 101 = .ok (.getfield 16, 3) := by decide +kernel
theorem d_Model_valid_104 : decode prog_14_method_34_code 104 = .ok (.getfield 231, 3) := by decide +kernel
theorem d_Model_valid_107 : decode prog_14_method_34_code 107 = .ok (.iload_n 3, 1) := by decide +kernel
theorem d_Model_valid_108 : decode prog_14_method_34_code 108 = .ok (.iaload, 1) := by decide +kernel
theorem d_Model_valid_109 : decode prog_14_method_34_code 109 = .ok (.invokevirtual 375, 3) := by decide +kernel
theorem nm_Model_open : x_nm y_Model_open 3 = true := by decide +kernel
theorem d_Model_valid_112 : decode prog_14_method_34_code 112 = .ok (.aload_n 0, 1) := by decide +kernel
theorem d_Model_valid_113 : decode prog_14_method_34_code 113 = .ok (.getfield 369, 3) := by decide +kernel
theorem d_Model_valid_116 : decode prog_14_method_34_code 116 = .ok (.ifCond .le 1040, 3) := by decide +kernel
theorem d_Model_valid_1156 : decode prog_14_method_34_code 1156 = .ok (.return_, 1) := by decide +kernel
theorem d_Model_valid_119 : decode prog_14_method_34_code 119 = .ok (.aload_n 0, 1) := by decide +kernel
theorem d_Model_valid_120 : decode prog_14_method_34_code 120 = .ok (.invokevirtual 64, 3) := by decide +kernel
theorem d_Model_valid_123 : decode prog_14_method_34_code 123 = .ok (.istore 6, 2) := by decide +kernel
theorem d_Model_valid_125 : decode prog_14_method_34_code 125 = .ok (.iload 6, 2) := by decide +kernel
theorem d_Model_valid_127 : decode prog_14_method_34_code 127 = .ok (.tableswitch 1004 0 66 #[281, 288, 291, 291, 291, 332, 1004, 1004, 1004, 1004, 1004, 400, 492, 516, 552, 559, 579, 626, 1004, 1004, 1004, 1004, 1004, 1004, 1004, 1004, 687, 696, 1004, 1004, 1004, 1004, 737, 737, 737, 840, 840, 1004, 1004, 1004, 1004, 1004, 1004, 1004, 1004, 1004, 1004, 1004, 1004, 1004, 1004, 1004, 1004, 1004, 1004, 1004, 1004, 1004, 1004, 1004, 1004, 1004, 1004, 928, 928, 974, 989], 281) := by decide +kernel
theorem d_Model_valid_408 : decode prog_14_method_34_code 408 = .ok (.aload_n 0, 1) := by decide +kernel
theorem d_Model_valid_409 : decode prog_14_method_34_code 409 = .ok (.invokevirtual 378, 3) := by decide +kernel
theorem d_Model_valid_412 : decode prog_14_method_34_code 412 = .ok (.goto 741, 3) := by decide +kernel
theorem d_Model_valid_1153 : decode prog_14_method_34_code 1153 = .ok (.goto (-1041), 3) := by decide +kernel
theorem d_Model_valid_415 : decode prog_14_method_34_code 415 = .ok (.goto 738, 3) := by decide +kernel
theorem d_Model_valid_418 : decode prog_14_method_34_code 418 = .ok (.aload_n 0, 1) := by decide +kernel
theorem d_Model_valid_419 : decode prog_14_method_34_code 419 = .ok (.invokevirtual 381, 3) := by decide +kernel
theorem nm_Model_blockType : x_nm y_Model_blockType 0 = true := by decide +kernel
theorem d_Model_valid_422 : decode prog_14_method_34_code 422 = .ok (.istore 7, 2) := by decide +kernel
theorem d_Model_valid_424 : decode prog_14_method_34_code 424 = .ok (.iload 6, 2) := by decide +kernel
