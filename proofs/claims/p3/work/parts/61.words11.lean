def y_Model_one : MethodName := ⟨"WasmReaderModel", "one", "()I"⟩
def y_Model_whole : MethodName := ⟨"WasmReaderModel", "whole", "()J"⟩
def y_Model_signed : MethodName := ⟨"WasmReaderModel", "signed", "(I)J"⟩
def y_Model_type : MethodName := ⟨"WasmReaderModel", "type", "()I"⟩
def y_Model_flag : MethodName := ⟨"WasmReaderModel", "flag", "()I"⟩
def y_Model_name : MethodName := ⟨"WasmReaderModel", "name", "(Z)I"⟩
def y_Model_cut : MethodName := ⟨"WasmReaderModel", "cut", "(J)I"⟩
def y_Model_limits : MethodName := ⟨"WasmReaderModel", "limits", "(J)V"⟩
def y_Model_initial : MethodName := ⟨"WasmReaderModel", "initial", "()V"⟩
theorem m_715 : Cond.fieldLink "WasmReaderModel" 50 "WasmReaderModel" "at" "I" ∈ xtb := x_in (List.mem_of_getElem? (i := 1326) (by decide +kernel)) (by decide +kernel)
theorem m_716 : Cond.fieldLink "WasmReaderModel" 53 "WasmReaderModel" "end" "I" ∈ xtb := x_in (List.mem_of_getElem? (i := 1327) (by decide +kernel)) (by decide +kernel)
theorem m_717 : Cond.fieldLink "WasmReaderModel" 61 "WasmReaderModel$Unit" "b" "[B" ∈ xtb := x_in (List.mem_of_getElem? (i := 1112) (by decide +kernel)) (by decide +kernel)
theorem m_718 : Cond.classLink "WasmReaderModel" 56 "WasmReaderModel$Stop" ∈ xtb := x_in (List.mem_of_getElem? (i := 1414) (by decide +kernel)) (by decide +kernel)
theorem m_719 : Cond.instantiable "WasmReaderModel$Stop" 7 ∈ xtb := x_in (List.mem_of_getElem? (i := 1426) (by decide +kernel)) (by decide +kernel)
theorem m_720 : Cond.initialized "WasmReaderModel$Stop" ∈ xtb := x_in (List.mem_of_getElem? (i := 109) (by decide +kernel)) (by decide +kernel)
theorem m_721 : Cond.methodLink "WasmReaderModel" 58 y_Stop_init ∈ xtb := x_in (List.mem_of_getElem? (i := 1434) (by decide +kernel)) (by decide +kernel)
theorem m_722 : Cond.code y_Stop_init prog_15_method_1_code 2 none ∈ xtb := x_in (List.mem_of_getElem? (i := 1436) (by decide +kernel)) (by decide +kernel)
theorem m_723 : Cond.instanceMethod y_Stop_init ∈ xtb := x_in (List.mem_of_getElem? (i := 1435) (by decide +kernel)) (by decide +kernel)
theorem m_724 : Cond.code y_Model_one prog_14_method_3_code 1 (some .int) ∈ xtb := x_in (List.mem_of_getElem? (i := 1425) (by decide +kernel)) (by decide +kernel)
theorem m_725 : Cond.initialized "WasmReaderModel" ∈ xtb := x_in (List.mem_of_getElem? (i := 98) (by decide +kernel)) (by decide +kernel)
theorem m_726 : Cond.methodLink "WasmReaderModel" 64 y_Model_one ∈ xtb := x_in (List.mem_of_getElem? (i := 1422) (by decide +kernel)) (by decide +kernel)
theorem m_727 : Cond.instanceMethod y_Model_one ∈ xtb := x_in (List.mem_of_getElem? (i := 1424) (by decide +kernel)) (by decide +kernel)
theorem m_728 : Cond.selects "WasmReaderModel" y_Model_one y_Model_one ∈ xtb := x_in (List.mem_of_getElem? (i := 52) (by decide +kernel)) (by decide +kernel)
theorem m_729 : Cond.code y_Model_whole prog_14_method_4_code 5 (some .long) ∈ xtb := x_in (List.mem_of_getElem? (i := 1455) (by decide +kernel)) (by decide +kernel)
theorem m_730 : Cond.methodLink "WasmReaderModel" 68 y_Model_whole ∈ xtb := x_in (List.mem_of_getElem? (i := 1452) (by decide +kernel)) (by decide +kernel)
theorem m_731 : Cond.instanceMethod y_Model_whole ∈ xtb := x_in (List.mem_of_getElem? (i := 1454) (by decide +kernel)) (by decide +kernel)
theorem m_732 : Cond.selects "WasmReaderModel" y_Model_whole y_Model_whole ∈ xtb := x_in (List.mem_of_getElem? (i := 53) (by decide +kernel)) (by decide +kernel)
theorem m_733 : Cond.fieldLink "WasmReaderModel" 72 "WasmReaderModel" "nameAt" "I" ∈ xtb := x_in (List.mem_of_getElem? (i := 1330) (by decide +kernel)) (by decide +kernel)
theorem m_734 : Cond.constantLong "WasmReaderModel" 75 20 ∈ xtb := x_in (List.mem_of_getElem? (i := 1460) (by decide +kernel)) (by decide +kernel)
theorem m_735 : Cond.fieldLink "WasmReaderModel" 77 "WasmReaderModel" "isOver" "Z" ∈ xtb := x_in (List.mem_of_getElem? (i := 1328) (by decide +kernel)) (by decide +kernel)
theorem m_736 : Cond.constantLong "WasmReaderModel" 83 2147483647 ∈ xtb := x_in (List.mem_of_getElem? (i := 1464) (by decide +kernel)) (by decide +kernel)
theorem m_737 : Cond.constant "WasmReaderModel" 85 2147483647 ∈ xtb := x_in (List.mem_of_getElem? (i := 1465) (by decide +kernel)) (by decide +kernel)
theorem m_738 : Cond.code y_Model_flag prog_14_method_7_code 2 (some .int) ∈ xtb := x_in (List.mem_of_getElem? (i := 1490) (by decide +kernel)) (by decide +kernel)
theorem m_739 : Cond.methodLink "WasmReaderModel" 86 y_Model_flag ∈ xtb := x_in (List.mem_of_getElem? (i := 1487) (by decide +kernel)) (by decide +kernel)
theorem m_740 : Cond.instanceMethod y_Model_flag ∈ xtb := x_in (List.mem_of_getElem? (i := 1489) (by decide +kernel)) (by decide +kernel)
theorem m_741 : Cond.selects "WasmReaderModel" y_Model_flag y_Model_flag ∈ xtb := x_in (List.mem_of_getElem? (i := 60) (by decide +kernel)) (by decide +kernel)
theorem m_742 : Cond.fieldLink "WasmReaderModel" 89 "WasmReaderModel" "limitFirst" "J" ∈ xtb := x_in (List.mem_of_getElem? (i := 1331) (by decide +kernel)) (by decide +kernel)
theorem m_743 : Cond.constantLong "WasmReaderModel" 93 (-1) ∈ xtb := x_in (List.mem_of_getElem? (i := 1500) (by decide +kernel)) (by decide +kernel)
theorem m_744 : Cond.fieldLink "WasmReaderModel" 95 "WasmReaderModel" "limitSecond" "J" ∈ xtb := x_in (List.mem_of_getElem? (i := 1332) (by decide +kernel)) (by decide +kernel)
theorem m_745 : Cond.fieldLink "WasmReaderModel" 188 "WasmReaderModel" "initialOp" "I" ∈ xtb := x_in (List.mem_of_getElem? (i := 1333) (by decide +kernel)) (by decide +kernel)
theorem m_746 : Cond.fieldLink "WasmReaderModel" 195 "WasmReaderModel" "initialValue" "J" ∈ xtb := x_in (List.mem_of_getElem? (i := 1334) (by decide +kernel)) (by decide +kernel)
theorem m_747 : Cond.code y_Model_signed prog_14_method_5_code 10 (some .long) ∈ xtb := x_in (List.mem_of_getElem? (i := 1515) (by decide +kernel)) (by decide +kernel)
theorem m_748 : Cond.methodLink "WasmReaderModel" 288 y_Model_signed ∈ xtb := x_in (List.mem_of_getElem? (i := 1512) (by decide +kernel)) (by decide +kernel)
theorem m_749 : Cond.instanceMethod y_Model_signed ∈ xtb := x_in (List.mem_of_getElem? (i := 1514) (by decide +kernel)) (by decide +kernel)
theorem m_750 : Cond.selects "WasmReaderModel" y_Model_signed y_Model_signed ∈ xtb := x_in (List.mem_of_getElem? (i := 65) (by decide +kernel)) (by decide +kernel)
theorem d_Model_one_0 : decode prog_14_method_3_code 0 = .ok (.aload_n 0, 1) := by decide +kernel
theorem d_Model_one_1 : decode prog_14_method_3_code 1 = .ok (.getfield 50, 3) := by decide +kernel
theorem d_Model_one_4 : decode prog_14_method_3_code 4 = .ok (.aload_n 0, 1) := by decide +kernel
theorem d_Model_one_5 : decode prog_14_method_3_code 5 = .ok (.getfield 53, 3) := by decide +kernel
theorem d_Model_one_8 : decode prog_14_method_3_code 8 = .ok (.if_icmp .lt 12, 3) := by decide +kernel
theorem d_Model_one_20 : decode prog_14_method_3_code 20 = .ok (.aload_n 0, 1) := by decide +kernel
theorem d_Model_one_21 : decode prog_14_method_3_code 21 = .ok (.dup, 1) := by decide +kernel
theorem d_Model_one_22 : decode prog_14_method_3_code 22 = .ok (.getfield 50, 3) := by decide +kernel
theorem d_Model_one_25 : decode prog_14_method_3_code 25 = .ok (.iconst 1, 1) := by decide +kernel
theorem d_Model_one_26 : decode prog_14_method_3_code 26 = .ok (.iadd, 1) := by decide +kernel
theorem d_Model_one_27 : decode prog_14_method_3_code 27 = .ok (.putfield 50, 3) := by decide +kernel
theorem d_Model_one_30 : decode prog_14_method_3_code 30 = .ok (.aload_n 0, 1) := by decide +kernel
theorem d_Model_one_31 : decode prog_14_method_3_code 31 = .ok (.getfield 16, 3) := by decide +kernel
theorem d_Model_one_34 : decode prog_14_method_3_code 34 = .ok (.getfield 61, 3) := by decide +kernel
theorem d_Model_one_37 : decode prog_14_method_3_code 37 = .ok (.aload_n 0, 1) := by decide +kernel
theorem d_Model_one_38 : decode prog_14_method_3_code 38 = .ok (.getfield 50, 3) := by decide +kernel
theorem d_Model_one_41 : decode prog_14_method_3_code 41 = .ok (.iconst 1, 1) := by decide +kernel
theorem d_Model_one_42 : decode prog_14_method_3_code 42 = .ok (.isub, 1) := by decide +kernel
theorem d_Model_one_43 : decode prog_14_method_3_code 43 = .ok (.baload, 1) := by decide +kernel
theorem d_Model_one_44 : decode prog_14_method_3_code 44 = .ok (.sipush 255, 3) := by decide +kernel
theorem d_Model_one_47 : decode prog_14_method_3_code 47 = .ok (.iand, 1) := by decide +kernel
theorem d_Model_one_48 : decode prog_14_method_3_code 48 = .ok (.ireturn, 1) := by decide +kernel
theorem d_Model_one_11 : decode prog_14_method_3_code 11 = .ok (.new 56, 3) := by decide +kernel
theorem d_Model_one_14 : decode prog_14_method_3_code 14 = .ok (.dup, 1) := by decide +kernel
theorem d_Model_one_15 : decode prog_14_method_3_code 15 = .ok (.iconst 1, 1) := by decide +kernel
theorem d_Model_one_16 : decode prog_14_method_3_code 16 = .ok (.invokespecial 58, 3) := by decide +kernel
theorem nm_Stop_init : x_nm y_Stop_init 1 = true := by decide +kernel
theorem d_Model_one_19 : decode prog_14_method_3_code 19 = .ok (.athrow, 1) := by decide +kernel
theorem d_Model_whole_0 : decode prog_14_method_4_code 0 = .ok (.lconst 0, 1) := by decide +kernel
theorem d_Model_whole_1 : decode prog_14_method_4_code 1 = .ok (.lstore_n 1, 1) := by decide +kernel
theorem d_Model_whole_2 : decode prog_14_method_4_code 2 = .ok (.iconst 0, 1) := by decide +kernel
theorem d_Model_whole_3 : decode prog_14_method_4_code 3 = .ok (.istore_n 3, 1) := by decide +kernel
theorem d_Model_whole_4 : decode prog_14_method_4_code 4 = .ok (.iload_n 3, 1) := by decide +kernel
theorem d_Model_whole_5 : decode prog_14_method_4_code 5 = .ok (.iconst 5, 1) := by decide +kernel
theorem d_Model_whole_6 : decode prog_14_method_4_code 6 = .ok (.if_icmp .ge 60, 3) := by decide +kernel
theorem d_Model_whole_9 : decode prog_14_method_4_code 9 = .ok (.aload_n 0, 1) := by decide +kernel
theorem d_Model_whole_10 : decode prog_14_method_4_code 10 = .ok (.invokevirtual 64, 3) := by decide +kernel
theorem nm_Model_one : x_nm y_Model_one 0 = true := by decide +kernel
theorem d_Model_whole_13 : decode prog_14_method_4_code 13 = .ok (.istore 4, 2) := by decide +kernel
theorem d_Model_whole_15 : decode prog_14_method_4_code 15 = .ok (.iload_n 3, 1) := by decide +kernel
theorem d_Model_whole_16 : decode prog_14_method_4_code 16 = .ok (.iconst 4, 1) := by decide +kernel
theorem d_Model_whole_17 : decode prog_14_method_4_code 17 = .ok (.if_icmp .ne 19, 3) := by decide +kernel
theorem d_Model_whole_36 : decode prog_14_method_4_code 36 = .ok (.lload_n 1, 1) := by decide +kernel
theorem d_Model_whole_37 : decode prog_14_method_4_code 37 = .ok (.iload 4, 2) := by decide +kernel
theorem d_Model_whole_39 : decode prog_14_method_4_code 39 = .ok (.bipush 127, 2) := by decide +kernel
theorem d_Model_whole_41 : decode prog_14_method_4_code 41 = .ok (.iand, 1) := by decide +kernel
theorem d_Model_whole_42 : decode prog_14_method_4_code 42 = .ok (.i2l, 1) := by decide +kernel
theorem d_Model_whole_43 : decode prog_14_method_4_code 43 = .ok (.bipush 7, 2) := by decide +kernel
theorem d_Model_whole_45 : decode prog_14_method_4_code 45 = .ok (.iload_n 3, 1) := by decide +kernel
theorem d_Model_whole_46 : decode prog_14_method_4_code 46 = .ok (.imul, 1) := by decide +kernel
theorem d_Model_whole_47 : decode prog_14_method_4_code 47 = .ok (.lshl, 1) := by decide +kernel
theorem d_Model_whole_48 : decode prog_14_method_4_code 48 = .ok (.lor, 1) := by decide +kernel
theorem d_Model_whole_49 : decode prog_14_method_4_code 49 = .ok (.lstore_n 1, 1) := by decide +kernel
theorem d_Model_whole_50 : decode prog_14_method_4_code 50 = .ok (.iload 4, 2) := by decide +kernel
theorem d_Model_whole_52 : decode prog_14_method_4_code 52 = .ok (.sipush 128, 3) := by decide +kernel
theorem d_Model_whole_55 : decode prog_14_method_4_code 55 = .ok (.if_icmp .ge 5, 3) := by decide +kernel
theorem d_Model_whole_60 : decode prog_14_method_4_code 60 = .ok (.iinc 3 1, 3) := by decide +kernel
theorem d_Model_whole_63 : decode prog_14_method_4_code 63 = .ok (.goto (-59), 3) := by decide +kernel
theorem d_Model_whole_20 : decode prog_14_method_4_code 20 = .ok (.iload 4, 2) := by decide +kernel
theorem d_Model_whole_22 : decode prog_14_method_4_code 22 = .ok (.bipush 15, 2) := by decide +kernel
theorem d_Model_whole_24 : decode prog_14_method_4_code 24 = .ok (.if_icmp .le 12, 3) := by decide +kernel
theorem d_Model_whole_66 : decode prog_14_method_4_code 66 = .ok (.new 56, 3) := by decide +kernel
theorem d_Model_whole_69 : decode prog_14_method_4_code 69 = .ok (.dup, 1) := by decide +kernel
theorem d_Model_whole_70 : decode prog_14_method_4_code 70 = .ok (.iconst 1, 1) := by decide +kernel
theorem d_Model_whole_71 : decode prog_14_method_4_code 71 = .ok (.invokespecial 58, 3) := by decide +kernel
theorem d_Model_whole_74 : decode prog_14_method_4_code 74 = .ok (.athrow, 1) := by decide +kernel
theorem d_Model_whole_58 : decode prog_14_method_4_code 58 = .ok (.lload_n 1, 1) := by decide +kernel
theorem d_Model_whole_59 : decode prog_14_method_4_code 59 = .ok (.lreturn, 1) := by decide +kernel
theorem d_Model_whole_27 : decode prog_14_method_4_code 27 = .ok (.new 56, 3) := by decide +kernel
theorem d_Model_whole_30 : decode prog_14_method_4_code 30 = .ok (.dup, 1) := by decide +kernel
theorem d_Model_whole_31 : decode prog_14_method_4_code 31 = .ok (.iconst 1, 1) := by decide +kernel
theorem d_Model_whole_32 : decode prog_14_method_4_code 32 = .ok (.invokespecial 58, 3) := by decide +kernel
theorem d_Model_whole_35 : decode prog_14_method_4_code 35 = .ok (.athrow, 1) := by decide +kernel
theorem d_Model_signed_0 : decode prog_14_method_5_code 0 = .ok (.iload_n 1, 1) := by decide +kernel
theorem d_Model_signed_1 : decode prog_14_method_5_code 1 = .ok (.bipush 6, 2) := by decide +kernel
theorem d_Model_signed_3 : decode prog_14_method_5_code 3 = .ok (.iadd, 1) := by decide +kernel
theorem d_Model_signed_4 : decode prog_14_method_5_code 4 = .ok (.bipush 7, 2) := by decide +kernel
theorem d_Model_signed_6 : decode prog_14_method_5_code 6 = .ok (.idiv, 1) := by decide +kernel
theorem d_Model_signed_7 : decode prog_14_method_5_code 7 = .ok (.istore_n 2, 1) := by decide +kernel
theorem d_Model_signed_8 : decode prog_14_method_5_code 8 = .ok (.lconst 0, 1) := by decide +kernel
theorem d_Model_signed_9 : decode prog_14_method_5_code 9 = .ok (.lstore_n 3, 1) := by decide +kernel
theorem d_Model_signed_10 : decode prog_14_method_5_code 10 = .ok (.iconst 0, 1) := by decide +kernel
theorem d_Model_signed_11 : decode prog_14_method_5_code 11 = .ok (.istore 5, 2) := by decide +kernel
theorem d_Model_signed_13 : decode prog_14_method_5_code 13 = .ok (.iload 5, 2) := by decide +kernel
theorem d_Model_signed_15 : decode prog_14_method_5_code 15 = .ok (.iload_n 2, 1) := by decide +kernel
theorem d_Model_signed_16 : decode prog_14_method_5_code 16 = .ok (.if_icmp .ge 153, 3) := by decide +kernel
theorem d_Model_signed_19 : decode prog_14_method_5_code 19 = .ok (.aload_n 0, 1) := by decide +kernel
theorem d_Model_signed_20 : decode prog_14_method_5_code 20 = .ok (.invokevirtual 64, 3) := by decide +kernel
theorem d_Model_signed_23 : decode prog_14_method_5_code 23 = .ok (.istore 6, 2) := by decide +kernel
theorem d_Model_signed_25 : decode prog_14_method_5_code 25 = .ok (.iload 5, 2) := by decide +kernel
theorem d_Model_signed_27 : decode prog_14_method_5_code 27 = .ok (.iload_n 2, 1) := by decide +kernel
theorem d_Model_signed_28 : decode prog_14_method_5_code 28 = .ok (.iconst 1, 1) := by decide +kernel
theorem d_Model_signed_29 : decode prog_14_method_5_code 29 = .ok (.isub, 1) := by decide +kernel
theorem d_Model_signed_30 : decode prog_14_method_5_code 30 = .ok (.if_icmp .ne 75, 3) := by decide +kernel
theorem d_Model_signed_105 : decode prog_14_method_5_code 105 = .ok (.lload_n 3, 1) := by decide +kernel
theorem d_Model_signed_106 : decode prog_14_method_5_code 106 = .ok (.iload 6, 2) := by decide +kernel
theorem d_Model_signed_108 : decode prog_14_method_5_code 108 = .ok (.bipush 127, 2) := by decide +kernel
theorem d_Model_signed_110 : decode prog_14_method_5_code 110 = .ok (.iand, 1) := by decide +kernel
theorem d_Model_signed_111 : decode prog_14_method_5_code 111 = .ok (.i2l, 1) := by decide +kernel
theorem d_Model_signed_112 : decode prog_14_method_5_code 112 = .ok (.bipush 7, 2) := by decide +kernel
theorem d_Model_signed_114 : decode prog_14_method_5_code 114 = .ok (.iload 5, 2) := by decide +kernel
theorem d_Model_signed_116 : decode prog_14_method_5_code 116 = .ok (.imul, 1) := by decide +kernel
theorem d_Model_signed_117 : decode prog_14_method_5_code 117 = .ok (.lshl, 1) := by decide +kernel
theorem d_Model_signed_118 : decode prog_14_method_5_code 118 = .ok (.lor, 1) := by decide +kernel
theorem d_Model_signed_119 : decode prog_14_method_5_code 119 = .ok (.lstore_n 3, 1) := by decide +kernel
theorem d_Model_signed_120 : decode prog_14_method_5_code 120 = .ok (.iload 6, 2) := by decide +kernel
theorem d_Model_signed_122 : decode prog_14_method_5_code 122 = .ok (.sipush 128, 3) := by decide +kernel
theorem d_Model_signed_125 : decode prog_14_method_5_code 125 = .ok (.if_icmp .ge 38, 3) := by decide +kernel
theorem d_Model_signed_163 : decode prog_14_method_5_code 163 = .ok (.iinc 5 1, 3) := by decide +kernel
theorem d_Model_signed_166 : decode prog_14_method_5_code 166 = .ok (.goto (-153), 3) := by decide +kernel
theorem d_Model_signed_33 : decode prog_14_method_5_code 33 = .ok (.iload_n 1, 1) := by decide +kernel
theorem d_Model_signed_34 : decode prog_14_method_5_code 34 = .ok (.bipush 7, 2) := by decide +kernel
theorem d_Model_signed_36 : decode prog_14_method_5_code 36 = .ok (.iload 5, 2) := by decide +kernel
theorem d_Model_signed_38 : decode prog_14_method_5_code 38 = .ok (.imul, 1) := by decide +kernel
theorem d_Model_signed_39 : decode prog_14_method_5_code 39 = .ok (.isub, 1) := by decide +kernel
theorem d_Model_signed_40 : decode prog_14_method_5_code 40 = .ok (.istore 7, 2) := by decide +kernel
theorem d_Model_signed_42 : decode prog_14_method_5_code 42 = .ok (.iload 6, 2) := by decide +kernel
theorem d_Model_signed_44 : decode prog_14_method_5_code 44 = .ok (.iconst 1, 1) := by decide +kernel
theorem d_Model_signed_45 : decode prog_14_method_5_code 45 = .ok (.iload 7, 2) := by decide +kernel
theorem d_Model_signed_47 : decode prog_14_method_5_code 47 = .ok (.ishl, 1) := by decide +kernel
theorem d_Model_signed_48 : decode prog_14_method_5_code 48 = .ok (.iconst 1, 1) := by decide +kernel
theorem d_Model_signed_49 : decode prog_14_method_5_code 49 = .ok (.isub, 1) := by decide +kernel
theorem d_Model_signed_50 : decode prog_14_method_5_code 50 = .ok (.iand, 1) := by decide +kernel
theorem d_Model_signed_51 : decode prog_14_method_5_code 51 = .ok (.istore 8, 2) := by decide +kernel
theorem d_Model_signed_53 : decode prog_14_method_5_code 53 = .ok (.iload 8, 2) := by decide +kernel
theorem d_Model_signed_55 : decode prog_14_method_5_code 55 = .ok (.iload 7, 2) := by decide +kernel
theorem d_Model_signed_57 : decode prog_14_method_5_code 57 = .ok (.iconst 1, 1) := by decide +kernel
theorem d_Model_signed_58 : decode prog_14_method_5_code 58 = .ok (.isub, 1) := by decide +kernel
theorem d_Model_signed_59 : decode prog_14_method_5_code 59 = .ok (.ishr, 1) := by decide +kernel
theorem d_Model_signed_60 : decode prog_14_method_5_code 60 = .ok (.istore 9, 2) := by decide +kernel
theorem d_Model_signed_62 : decode prog_14_method_5_code 62 = .ok (.iload 6, 2) := by decide +kernel
theorem d_Model_signed_64 : decode prog_14_method_5_code 64 = .ok (.bipush 127, 2) := by decide +kernel
theorem d_Model_signed_66 : decode prog_14_method_5_code 66 = .ok (.if_icmp .gt 30, 3) := by decide +kernel
theorem d_Model_signed_96 : decode prog_14_method_5_code 96 = .ok (.new 56, 3) := by decide +kernel
theorem d_Model_signed_99 : decode prog_14_method_5_code 99 = .ok (.dup, 1) := by decide +kernel
theorem d_Model_signed_100 : decode prog_14_method_5_code 100 = .ok (.iconst 1, 1) := by decide +kernel
theorem d_Model_signed_101 : decode prog_14_method_5_code 101 = .ok (.invokespecial 58, 3) := by decide +kernel
theorem d_Model_signed_104 : decode prog_14_method_5_code 104 = .ok (.athrow, 1) := by decide +kernel
theorem d_Model_signed_69 : decode prog_14_method_5_code 69 = .ok (.iload 6, 2) := by decide +kernel
theorem d_Model_signed_71 : decode prog_14_method_5_code 71 = .ok (.iload 7, 2) := by decide +kernel
theorem d_Model_signed_73 : decode prog_14_method_5_code 73 = .ok (.ishr, 1) := by decide +kernel
theorem d_Model_signed_74 : decode prog_14_method_5_code 74 = .ok (.iload 9, 2) := by decide +kernel
theorem d_Model_signed_76 : decode prog_14_method_5_code 76 = .ok (.iconst 1, 1) := by decide +kernel
theorem d_Model_signed_77 : decode prog_14_method_5_code 77 = .ok (.if_icmp .ne 15, 3) := by decide +kernel
theorem d_Model_signed_92 : decode prog_14_method_5_code 92 = .ok (.iconst 0, 1) := by decide +kernel
theorem d_Model_signed_93 : decode prog_14_method_5_code 93 = .ok (.if_icmp .eq 12, 3) := by decide +kernel
theorem d_Model_signed_169 : decode prog_14_method_5_code 169 = .ok (.new 56, 3) := by decide +kernel
theorem d_Model_signed_172 : decode prog_14_method_5_code 172 = .ok (.dup, 1) := by decide +kernel
theorem d_Model_signed_173 : decode prog_14_method_5_code 173 = .ok (.iconst 1, 1) := by decide +kernel
theorem d_Model_signed_174 : decode prog_14_method_5_code 174 = .ok (.invokespecial 58, 3) := by decide +kernel
theorem d_Model_signed_177 : decode prog_14_method_5_code 177 = .ok (.athrow, 1) := by decide +kernel
theorem d_Model_signed_128 : decode prog_14_method_5_code 128 = .ok (.bipush 7, 2) := by decide +kernel
theorem d_Model_signed_130 : decode prog_14_method_5_code 130 = .ok (.iload 5, 2) := by decide +kernel
theorem d_Model_signed_132 : decode prog_14_method_5_code 132 = .ok (.imul, 1) := by decide +kernel
theorem d_Model_signed_133 : decode prog_14_method_5_code 133 = .ok (.bipush 7, 2) := by decide +kernel
theorem d_Model_signed_135 : decode prog_14_method_5_code 135 = .ok (.iadd, 1) := by decide +kernel
theorem d_Model_signed_136 : decode prog_14_method_5_code 136 = .ok (.istore 7, 2) := by decide +kernel
theorem d_Model_signed_138 : decode prog_14_method_5_code 138 = .ok (.iload 7, 2) := by decide +kernel
theorem d_Model_signed_140 : decode prog_14_method_5_code 140 = .ok (.bipush 64, 2) := by decide +kernel
theorem d_Model_signed_142 : decode prog_14_method_5_code 142 = .ok (.if_icmp .ge 19, 3) := by decide +kernel
theorem d_Model_signed_145 : decode prog_14_method_5_code 145 = .ok (.lload_n 3, 1) := by decide +kernel
theorem d_Model_signed_146 : decode prog_14_method_5_code 146 = .ok (.bipush 64, 2) := by decide +kernel
theorem d_Model_signed_148 : decode prog_14_method_5_code 148 = .ok (.iload 7, 2) := by decide +kernel
theorem d_Model_signed_150 : decode prog_14_method_5_code 150 = .ok (.isub, 1) := by decide +kernel
theorem d_Model_signed_151 : decode prog_14_method_5_code 151 = .ok (.lshl, 1) := by decide +kernel
theorem d_Model_signed_152 : decode prog_14_method_5_code 152 = .ok (.bipush 64, 2) := by decide +kernel
theorem d_Model_signed_154 : decode prog_14_method_5_code 154 = .ok (.iload 7, 2) := by decide +kernel
theorem d_Model_signed_156 : decode prog_14_method_5_code 156 = .ok (.isub, 1) := by decide +kernel
theorem d_Model_signed_157 : decode prog_14_method_5_code 157 = .ok (.lshr, 1) := by decide +kernel
theorem d_Model_signed_158 : decode prog_14_method_5_code 158 = .ok (.goto 4, 3) := by decide +kernel
theorem d_Model_signed_162 : decode prog_14_method_5_code 162 = .ok (.lreturn, 1) := by decide +kernel
theorem d_Model_signed_80 : decode prog_14_method_5_code 80 = .ok (.iconst 1, 1) := by decide +kernel
theorem d_Model_signed_81 : decode prog_14_method_5_code 81 = .ok (.bipush 7, 2) := by decide +kernel
theorem d_Model_signed_83 : decode prog_14_method_5_code 83 = .ok (.iload 7, 2) := by decide +kernel
theorem d_Model_signed_85 : decode prog_14_method_5_code 85 = .ok (.isub, 1) := by decide +kernel
theorem d_Model_signed_86 : decode prog_14_method_5_code 86 = .ok (.ishl, 1) := by decide +kernel
theorem d_Model_signed_87 : decode prog_14_method_5_code 87 = .ok (.iconst 1, 1) := by decide +kernel
theorem d_Model_signed_88 : decode prog_14_method_5_code 88 = .ok (.isub, 1) := by decide +kernel
theorem d_Model_signed_89 : decode prog_14_method_5_code 89 = .ok (.goto 4, 3) := by decide +kernel
theorem d_Model_signed_161 : decode prog_14_method_5_code 161 = .ok (.lload_n 3, 1) := by decide +kernel
theorem d_Model_type_0 : decode prog_14_method_6_code 0 = .ok (.aload_n 0, 1) := by decide +kernel
theorem d_Model_type_1 : decode prog_14_method_6_code 1 = .ok (.invokevirtual 64, 3) := by decide +kernel
theorem d_Model_type_4 : decode prog_14_method_6_code 4 = .ok (.istore_n 1, 1) := by decide +kernel
theorem d_Model_type_5 : decode prog_14_method_6_code 5 = .ok (.iload_n 1, 1) := by decide +kernel
theorem d_Model_type_6 : decode prog_14_method_6_code 6 = .ok (.bipush 127, 2) := by decide +kernel
theorem d_Model_type_8 : decode prog_14_method_6_code 8 = .ok (.if_icmp .eq 18, 3) := by decide +kernel
theorem d_Model_type_26 : decode prog_14_method_6_code 26 = .ok (.iload_n 1, 1) := by decide +kernel
theorem d_Model_type_27 : decode prog_14_method_6_code 27 = .ok (.bipush 127, 2) := by decide +kernel
theorem d_Model_type_29 : decode prog_14_method_6_code 29 = .ok (.if_icmp .ne 7, 3) := by decide +kernel
theorem d_Model_type_36 : decode prog_14_method_6_code 36 = .ok (.iconst 2, 1) := by decide +kernel
theorem d_Model_type_37 : decode prog_14_method_6_code 37 = .ok (.ireturn, 1) := by decide +kernel
theorem d_Model_type_32 : decode prog_14_method_6_code 32 = .ok (.iconst 1, 1) := by decide +kernel
theorem d_Model_type_33 : decode prog_14_method_6_code 33 = .ok (.goto 4, 3) := by decide +kernel
theorem d_Model_type_11 : decode prog_14_method_6_code 11 = .ok (.iload_n 1, 1) := by decide +kernel
theorem d_Model_type_12 : decode prog_14_method_6_code 12 = .ok (.bipush 126, 2) := by decide +kernel
theorem d_Model_type_14 : decode prog_14_method_6_code 14 = .ok (.if_icmp .eq 12, 3) := by decide +kernel
theorem d_Model_type_17 : decode prog_14_method_6_code 17 = .ok (.new 56, 3) := by decide +kernel
theorem d_Model_type_20 : decode prog_14_method_6_code 20 = .ok (.dup, 1) := by decide +kernel
theorem d_Model_type_21 : decode prog_14_method_6_code 21 = .ok (.iconst 1, 1) := by decide +kernel
theorem d_Model_type_22 : decode prog_14_method_6_code 22 = .ok (.invokespecial 58, 3) := by decide +kernel
theorem d_Model_type_25 : decode prog_14_method_6_code 25 = .ok (.athrow, 1) := by decide +kernel
theorem d_Model_flag_0 : decode prog_14_method_7_code 0 = .ok (.aload_n 0, 1) := by decide +kernel
theorem d_Model_flag_1 : decode prog_14_method_7_code 1 = .ok (.invokevirtual 64, 3) := by decide +kernel
theorem d_Model_flag_4 : decode prog_14_method_7_code 4 = .ok (.istore_n 1, 1) := by decide +kernel
theorem d_Model_flag_5 : decode prog_14_method_7_code 5 = .ok (.iload_n 1, 1) := by decide +kernel
theorem d_Model_flag_6 : decode prog_14_method_7_code 6 = .ok (.iconst 1, 1) := by decide +kernel
theorem d_Model_flag_7 : decode prog_14_method_7_code 7 = .ok (.if_icmp .le 12, 3) := by decide +kernel
theorem d_Model_flag_19 : decode prog_14_method_7_code 19 = .ok (.iload_n 1, 1) := by decide +kernel
theorem d_Model_flag_20 : decode prog_14_method_7_code 20 = .ok (.ireturn, 1) := by decide +kernel
theorem d_Model_flag_10 : decode prog_14_method_7_code 10 = .ok (.new 56, 3) := by decide +kernel
theorem d_Model_flag_13 : decode prog_14_method_7_code 13 = .ok (.dup, 1) := by decide +kernel
theorem d_Model_flag_14 : decode prog_14_method_7_code 14 = .ok (.iconst 1, 1) := by decide +kernel
theorem d_Model_flag_15 : decode prog_14_method_7_code 15 = .ok (.invokespecial 58, 3) := by decide +kernel
theorem d_Model_flag_18 : decode prog_14_method_7_code 18 = .ok (.athrow, 1) := by decide +kernel
theorem d_Model_name_0 : decode prog_14_method_8_code 0 = .ok (.aload_n 0, 1) := by decide +kernel
theorem d_Model_name_1 : decode prog_14_method_8_code 1 = .ok (.invokevirtual 68, 3) := by decide +kernel
theorem nm_Model_whole : x_nm y_Model_whole 0 = true := by decide +kernel
theorem d_Model_name_4 : decode prog_14_method_8_code 4 = .ok (.lstore_n 2, 1) := by decide +kernel
theorem d_Model_name_5 : decode prog_14_method_8_code 5 = .ok (.lload_n 2, 1) := by decide +kernel
theorem d_Model_name_6 : decode prog_14_method_8_code 6 = .ok (.aload_n 0, 1) := by decide +kernel
theorem d_Model_name_7 : decode prog_14_method_8_code 7 = .ok (.getfield 53, 3) := by decide +kernel
theorem d_Model_name_10 : decode prog_14_method_8_code 10 = .ok (.aload_n 0, 1) := by decide +kernel
theorem d_Model_name_11 : decode prog_14_method_8_code 11 = .ok (.getfield 50, 3) := by decide +kernel
theorem d_Model_name_14 : decode prog_14_method_8_code 14 = .ok (.isub, 1) := by decide +kernel
theorem d_Model_name_15 : decode prog_14_method_8_code 15 = .ok (.i2l, 1) := by decide +kernel
theorem d_Model_name_16 : decode prog_14_method_8_code 16 = .ok (.lcmp, 1) := by decide +kernel
theorem d_Model_name_17 : decode prog_14_method_8_code 17 = .ok (.ifCond .le 12, 3) := by decide +kernel
theorem d_Model_name_29 : decode prog_14_method_8_code 29 = .ok (.aload_n 0, 1) := by decide +kernel
theorem d_Model_name_30 : decode prog_14_method_8_code 30 = .ok (.aload_n 0, 1) := by decide +kernel
theorem d_Model_name_31 : decode prog_14_method_8_code 31 = .ok (.getfield 50, 3) := by decide +kernel
theorem d_Model_name_34 : decode prog_14_method_8_code 34 = .ok (.putfield 72, 3) := by decide +kernel
theorem d_Model_name_37 : decode prog_14_method_8_code 37 = .ok (.aload_n 0, 1) := by decide +kernel
theorem d_Model_name_38 : decode prog_14_method_8_code 38 = .ok (.dup, 1) := by decide +kernel
theorem d_Model_name_39 : decode prog_14_method_8_code 39 = .ok (.getfield 50, 3) := by decide +kernel
theorem d_Model_name_42 : decode prog_14_method_8_code 42 = .ok (.lload_n 2, 1) := by decide +kernel
theorem d_Model_name_43 : decode prog_14_method_8_code 43 = .ok (.l2i, 1) := by decide +kernel
theorem d_Model_name_44 : decode prog_14_method_8_code 44 = .ok (.iadd, 1) := by decide +kernel
theorem d_Model_name_45 : decode prog_14_method_8_code 45 = .ok (.putfield 50, 3) := by decide +kernel
theorem d_Model_name_48 : decode prog_14_method_8_code 48 = .ok (.iload_n 1, 1) := by decide +kernel
theorem d_Model_name_49 : decode prog_14_method_8_code 49 = .ok (.ifCond .eq 16, 3) := by decide +kernel
theorem d_Model_name_65 : decode prog_14_method_8_code 65 = .ok (.lload_n 2, 1) := by decide +kernel
theorem d_Model_name_66 : decode prog_14_method_8_code 66 = .ok (.l2i, 1) := by decide +kernel
theorem d_Model_name_67 : decode prog_14_method_8_code 67 = .ok (.ireturn, 1) := by decide +kernel
theorem d_Model_name_52 : decode prog_14_method_8_code 52 = .ok (.lload_n 2, 1) := by decide +kernel
theorem d_Model_name_53 : decode prog_14_method_8_code 53 = .ok (.ldc2_w 75, 3) := by decide +kernel
theorem d_Model_name_56 : decode prog_14_method_8_code 56 = .ok (.lcmp, 1) := by decide +kernel
theorem d_Model_name_57 : decode prog_14_method_8_code 57 = .ok (.ifCond .le 8, 3) := by decide +kernel
theorem d_Model_name_60 : decode prog_14_method_8_code 60 = .ok (.aload_n 0, 1) := by decide +kernel
theorem d_Model_name_61 : decode prog_14_method_8_code 61 = .ok (.iconst 1, 1) := by decide +kernel
theorem d_Model_name_62 : decode prog_14_method_8_code 62 = .ok (.putfield 77, 3) := by decide +kernel
theorem d_Model_name_20 : decode prog_14_method_8_code 20 = .ok (.new 56, 3) := by decide +kernel
theorem d_Model_name_23 : decode prog_14_method_8_code 23 = .ok (.dup, 1) := by decide +kernel
theorem d_Model_name_24 : decode prog_14_method_8_code 24 = .ok (.iconst 1, 1) := by decide +kernel
theorem d_Model_name_25 : decode prog_14_method_8_code 25 = .ok (.invokespecial 58, 3) := by decide +kernel
theorem d_Model_name_28 : decode prog_14_method_8_code 28 = .ok (.athrow, 1) := by decide +kernel
theorem d_Model_cut_0 : decode prog_14_method_9_code 0 = .ok (.lload_n 0, 1) := by decide +kernel
theorem d_Model_cut_1 : decode prog_14_method_9_code 1 = .ok (.ldc2_w 83, 3) := by decide +kernel
theorem d_Model_cut_4 : decode prog_14_method_9_code 4 = .ok (.lcmp, 1) := by decide +kernel
theorem d_Model_cut_5 : decode prog_14_method_9_code 5 = .ok (.ifCond .le 8, 3) := by decide +kernel
theorem d_Model_cut_13 : decode prog_14_method_9_code 13 = .ok (.lload_n 0, 1) := by decide +kernel
theorem d_Model_cut_14 : decode prog_14_method_9_code 14 = .ok (.l2i, 1) := by decide +kernel
theorem d_Model_cut_15 : decode prog_14_method_9_code 15 = .ok (.ireturn, 1) := by decide +kernel
theorem d_Model_cut_8 : decode prog_14_method_9_code 8 = .ok (.ldc 85, 2) := by decide +kernel
theorem d_Model_cut_10 : decode prog_14_method_9_code 10 = .ok (.goto 5, 3) := by decide +kernel
theorem d_Model_limits_0 : decode prog_14_method_10_code 0 = .ok (.aload_n 0, 1) := by decide +kernel
theorem d_Model_limits_1 : decode prog_14_method_10_code 1 = .ok (.invokevirtual 86, 3) := by decide +kernel
theorem nm_Model_flag : x_nm y_Model_flag 0 = true := by decide +kernel
theorem d_Model_limits_4 : decode prog_14_method_10_code 4 = .ok (.istore_n 3, 1) := by decide +kernel
theorem d_Model_limits_5 : decode prog_14_method_10_code 5 = .ok (.aload_n 0, 1) := by decide +kernel
theorem d_Model_limits_6 : decode prog_14_method_10_code 6 = .ok (.aload_n 0, 1) := by decide +kernel
theorem d_Model_limits_7 : decode prog_14_method_10_code 7 = .ok (.invokevirtual 68, 3) := by decide +kernel
theorem d_Model_limits_10 : decode prog_14_method_10_code 10 = .ok (.putfield 89, 3) := by decide +kernel
theorem d_Model_limits_13 : decode prog_14_method_10_code 13 = .ok (.aload_n 0, 1) := by decide +kernel
theorem d_Model_limits_14 : decode prog_14_method_10_code 14 = .ok (.iload_n 3, 1) := by decide +kernel
theorem d_Model_limits_15 : decode prog_14_method_10_code 15 = .ok (.iconst 1, 1) := by decide +kernel
theorem d_Model_limits_16 : decode prog_14_method_10_code 16 = .ok (.if_icmp .ne 10, 3) := by decide +kernel
theorem d_Model_limits_26 : decode prog_14_method_10_code 26 = .ok (.ldc2_w 93, 3) := by decide +kernel
theorem d_Model_limits_29 : decode prog_14_method_10_code 29 = .ok (.putfield 95, 3) := by decide +kernel
theorem d_Model_limits_32 : decode prog_14_method_10_code 32 = .ok (.aload_n 0, 1) := by decide +kernel
theorem d_Model_limits_33 : decode prog_14_method_10_code 33 = .ok (.getfield 89, 3) := by decide +kernel
theorem d_Model_limits_36 : decode prog_14_method_10_code 36 = .ok (.lload_n 1, 1) := by decide +kernel
theorem d_Model_limits_37 : decode prog_14_method_10_code 37 = .ok (.lcmp, 1) := by decide +kernel
theorem d_Model_limits_38 : decode prog_14_method_10_code 38 = .ok (.ifCond .le 8, 3) := by decide +kernel
theorem d_Model_limits_46 : decode prog_14_method_10_code 46 = .ok (.return_, 1) := by decide +kernel
theorem d_Model_limits_41 : decode prog_14_method_10_code 41 = .ok (.aload_n 0, 1) := by decide +kernel
theorem d_Model_limits_42 : decode prog_14_method_10_code 42 = .ok (.iconst 1, 1) := by decide +kernel
theorem d_Model_limits_43 : decode prog_14_method_10_code 43 = .ok (.putfield 77, 3) := by decide +kernel
theorem d_Model_limits_19 : decode prog_14_method_10_code 19 = .ok (.aload_n 0, 1) := by decide +kernel
theorem d_Model_limits_20 : decode prog_14_method_10_code 20 = .ok (.invokevirtual 68, 3) := by decide +kernel
theorem d_Model_limits_23 : decode prog_14_method_10_code 23 = .ok (.goto 6, 3) := by decide +kernel
theorem d_Model_initial_0 : decode prog_14_method_18_code 0 = .ok (.aload_n 0, 1) := by decide +kernel
theorem d_Model_initial_1 : decode prog_14_method_18_code 1 = .ok (.aload_n 0, 1) := by decide +kernel
theorem d_Model_initial_2 : decode prog_14_method_18_code 2 = .ok (.invokevirtual 64, 3) := by decide +kernel
theorem d_Model_initial_5 : decode prog_14_method_18_code 5 = .ok (.putfield 188, 3) := by decide +kernel
theorem d_Model_initial_8 : decode prog_14_method_18_code 8 = .ok (.aload_n 0, 1) := by decide +kernel
theorem d_Model_initial_9 : decode prog_14_method_18_code 9 = .ok (.getfield 188, 3) := by decide +kernel
theorem d_Model_initial_12 : decode prog_14_method_18_code 12 = .ok (.bipush 65, 2) := by decide +kernel
theorem d_Model_initial_14 : decode prog_14_method_18_code 14 = .ok (.if_icmp .ne 16, 3) := by decide +kernel
theorem d_Model_initial_30 : decode prog_14_method_18_code 30 = .ok (.aload_n 0, 1) := by decide +kernel
theorem d_Model_initial_31 : decode prog_14_method_18_code 31 = .ok (.getfield 188, 3) := by decide +kernel
theorem d_Model_initial_34 : decode prog_14_method_18_code 34 = .ok (.bipush 66, 2) := by decide +kernel
theorem d_Model_initial_36 : decode prog_14_method_18_code 36 = .ok (.if_icmp .ne 16, 3) := by decide +kernel
theorem d_Model_initial_52 : decode prog_14_method_18_code 52 = .ok (.aload_n 0, 1) := by decide +kernel
theorem d_Model_initial_53 : decode prog_14_method_18_code 53 = .ok (.getfield 188, 3) := by decide +kernel
theorem d_Model_initial_56 : decode prog_14_method_18_code 56 = .ok (.bipush 35, 2) := by decide +kernel
theorem d_Model_initial_58 : decode prog_14_method_18_code 58 = .ok (.if_icmp .ne 14, 3) := by decide +kernel
theorem d_Model_initial_72 : decode prog_14_method_18_code 72 = .ok (.new 56, 3) := by decide +kernel
theorem d_Model_initial_75 : decode prog_14_method_18_code 75 = .ok (.dup, 1) := by decide +kernel
theorem d_Model_initial_76 : decode prog_14_method_18_code 76 = .ok (.iconst 1, 1) := by decide +kernel
theorem d_Model_initial_77 : decode prog_14_method_18_code 77 = .ok (.invokespecial 58, 3) := by decide +kernel
theorem d_Model_initial_80 : decode prog_14_method_18_code 80 = .ok (.athrow, 1) := by decide +kernel
theorem d_Model_initial_61 : decode prog_14_method_18_code 61 = .ok (.aload_n 0, 1) := by decide +kernel
theorem d_Model_initial_62 : decode prog_14_method_18_code 62 = .ok (.aload_n 0, 1) := by decide +kernel
theorem d_Model_initial_63 : decode prog_14_method_18_code 63 = .ok (.invokevirtual 68, 3) := by decide +kernel
theorem d_Model_initial_66 : decode prog_14_method_18_code 66 = .ok (.putfield 195, 3) := by decide +kernel
theorem d_Model_initial_69 : decode prog_14_method_18_code 69 = .ok (.goto 12, 3) := by decide +kernel
theorem d_Model_initial_81 : decode prog_14_method_18_code 81 = .ok (.aload_n 0, 1) := by decide +kernel
theorem d_Model_initial_82 : decode prog_14_method_18_code 82 = .ok (.invokevirtual 64, 3) := by decide +kernel
theorem d_Model_initial_85 : decode prog_14_method_18_code 85 = .ok (.bipush 11, 2) := by decide +kernel
theorem d_Model_initial_87 : decode prog_14_method_18_code 87 = .ok (.if_icmp .eq 12, 3) := by decide +kernel
theorem d_Model_initial_99 : decode prog_14_method_18_code 99 = .ok (.return_, 1) := by decide +kernel
theorem d_Model_initial_90 : decode prog_14_method_18_code 90 = .ok (.new 56, 3) := by decide +kernel
theorem d_Model_initial_93 : decode prog_14_method_18_code 93 = .ok (.dup, 1) := by decide +kernel
theorem d_Model_initial_94 : decode prog_14_method_18_code 94 = .ok (.iconst 1, 1) := by decide +kernel
theorem d_Model_initial_95 : decode prog_14_method_18_code 95 = .ok (.invokespecial 58, 3) := by decide +kernel
theorem d_Model_initial_98 : decode prog_14_method_18_code 98 = .ok (.athrow, 1) := by decide +kernel
theorem d_Model_initial_39 : decode prog_14_method_18_code 39 = .ok (.aload_n 0, 1) := by decide +kernel
theorem d_Model_initial_40 : decode prog_14_method_18_code 40 = .ok (.aload_n 0, 1) := by decide +kernel
theorem d_Model_initial_41 : decode prog_14_method_18_code 41 = .ok (.bipush 64, 2) := by decide +kernel
theorem d_Model_initial_43 : decode prog_14_method_18_code 43 = .ok (.invokevirtual 288, 3) := by decide +kernel
theorem nm_Model_signed : x_nm y_Model_signed 1 = true := by decide +kernel
theorem d_Model_initial_46 : decode prog_14_method_18_code 46 = .ok (.putfield 195, 3) := by decide +kernel
theorem d_Model_initial_49 : decode prog_14_method_18_code 49 = .ok (.goto 32, 3) := by decide +kernel
theorem d_Model_initial_17 : decode prog_14_method_18_code 17 = .ok (.aload_n 0, 1) := by decide +kernel
theorem d_Model_initial_18 : decode prog_14_method_18_code 18 = .ok (.aload_n 0, 1) := by decide +kernel
theorem d_Model_initial_19 : decode prog_14_method_18_code 19 = .ok (.bipush 32, 2) := by decide +kernel
theorem d_Model_initial_21 : decode prog_14_method_18_code 21 = .ok (.invokevirtual 288, 3) := by decide +kernel
theorem d_Model_initial_24 : decode prog_14_method_18_code 24 = .ok (.putfield 195, 3) := by decide +kernel
theorem d_Model_initial_27 : decode prog_14_method_18_code 27 = .ok (.goto 54, 3) := by decide +kernel
