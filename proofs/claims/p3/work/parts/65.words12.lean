def y_Model_functionItem : MethodName := ⟨"WasmReaderModel", "functionItem", "(II)V"⟩
def y_Model_global : MethodName := ⟨"WasmReaderModel", "global", "(III)V"⟩
def y_Model_limited : MethodName := ⟨"WasmReaderModel", "limited", "(ZI)V"⟩
def y_Model_typeItem : MethodName := ⟨"WasmReaderModel", "typeItem", "()V"⟩
def y_Model_importItem : MethodName := ⟨"WasmReaderModel", "importItem", "()V"⟩
def y_Model_element : MethodName := ⟨"WasmReaderModel", "element", "()V"⟩
def y_Model_data : MethodName := ⟨"WasmReaderModel", "data", "()V"⟩
theorem m_751 : Cond.fieldLink "WasmReaderModel" 110 "WasmReaderModel$Unit" "functions" "I" ∈ xtb := x_in (List.mem_of_getElem? (i := 1116) (by decide +kernel)) (by decide +kernel)
theorem m_752 : Cond.fieldLink "WasmReaderModel" 234 "WasmReaderModel$Unit" "fType" "[I" ∈ xtb := x_in (List.mem_of_getElem? (i := 1147) (by decide +kernel)) (by decide +kernel)
theorem m_753 : Cond.fieldLink "WasmReaderModel" 237 "WasmReaderModel$Unit" "fImport" "[I" ∈ xtb := x_in (List.mem_of_getElem? (i := 1149) (by decide +kernel)) (by decide +kernel)
theorem m_754 : Cond.fieldLink "WasmReaderModel" 122 "WasmReaderModel$Unit" "globals" "I" ∈ xtb := x_in (List.mem_of_getElem? (i := 1120) (by decide +kernel)) (by decide +kernel)
theorem m_755 : Cond.fieldLink "WasmReaderModel" 240 "WasmReaderModel$Unit" "gType" "[I" ∈ xtb := x_in (List.mem_of_getElem? (i := 1151) (by decide +kernel)) (by decide +kernel)
theorem m_756 : Cond.fieldLink "WasmReaderModel" 243 "WasmReaderModel$Unit" "gMutable" "[Z" ∈ xtb := x_in (List.mem_of_getElem? (i := 1157) (by decide +kernel)) (by decide +kernel)
theorem m_757 : Cond.fieldLink "WasmReaderModel" 246 "WasmReaderModel$Unit" "gImport" "[I" ∈ xtb := x_in (List.mem_of_getElem? (i := 1153) (by decide +kernel)) (by decide +kernel)
theorem m_758 : Cond.methodLink "WasmReaderModel" 150 y_Model_cut ∈ xtb := x_in (List.mem_of_getElem? (i := 1461) (by decide +kernel)) (by decide +kernel)
theorem m_759 : Cond.code y_Model_cut prog_14_method_9_code 2 (some .int) ∈ xtb := x_in (List.mem_of_getElem? (i := 1463) (by decide +kernel)) (by decide +kernel)
theorem m_760 : Cond.static y_Model_cut ∈ xtb := x_in (List.mem_of_getElem? (i := 1462) (by decide +kernel)) (by decide +kernel)
theorem m_761 : Cond.fieldLink "WasmReaderModel" 116 "WasmReaderModel$Unit" "tables" "I" ∈ xtb := x_in (List.mem_of_getElem? (i := 1118) (by decide +kernel)) (by decide +kernel)
theorem m_762 : Cond.fieldLink "WasmReaderModel" 140 "WasmReaderModel$Unit" "tImport" "I" ∈ xtb := x_in (List.mem_of_getElem? (i := 1160) (by decide +kernel)) (by decide +kernel)
theorem m_763 : Cond.fieldLink "WasmReaderModel" 249 "WasmReaderModel$Unit" "tFirst" "I" ∈ xtb := x_in (List.mem_of_getElem? (i := 1161) (by decide +kernel)) (by decide +kernel)
theorem m_764 : Cond.fieldLink "WasmReaderModel" 252 "WasmReaderModel$Unit" "tSecond" "J" ∈ xtb := x_in (List.mem_of_getElem? (i := 1164) (by decide +kernel)) (by decide +kernel)
theorem m_765 : Cond.fieldLink "WasmReaderModel" 101 "WasmReaderModel" "isWrong" "Z" ∈ xtb := x_in (List.mem_of_getElem? (i := 1329) (by decide +kernel)) (by decide +kernel)
theorem m_766 : Cond.constantLong "WasmReaderModel" 255 65536 ∈ xtb := x_in (List.mem_of_getElem? (i := 1505) (by decide +kernel)) (by decide +kernel)
theorem m_767 : Cond.fieldLink "WasmReaderModel" 119 "WasmReaderModel$Unit" "memories" "I" ∈ xtb := x_in (List.mem_of_getElem? (i := 1119) (by decide +kernel)) (by decide +kernel)
theorem m_768 : Cond.fieldLink "WasmReaderModel" 143 "WasmReaderModel$Unit" "mImport" "I" ∈ xtb := x_in (List.mem_of_getElem? (i := 1162) (by decide +kernel)) (by decide +kernel)
theorem m_769 : Cond.fieldLink "WasmReaderModel" 257 "WasmReaderModel$Unit" "mFirst" "I" ∈ xtb := x_in (List.mem_of_getElem? (i := 1163) (by decide +kernel)) (by decide +kernel)
theorem m_770 : Cond.fieldLink "WasmReaderModel" 260 "WasmReaderModel$Unit" "mSecond" "J" ∈ xtb := x_in (List.mem_of_getElem? (i := 1165) (by decide +kernel)) (by decide +kernel)
theorem m_771 : Cond.constantLong "WasmReaderModel" 223 6 ∈ xtb := x_in (List.mem_of_getElem? (i := 1474) (by decide +kernel)) (by decide +kernel)
theorem m_772 : Cond.fieldLink "WasmReaderModel" 104 "WasmReaderModel$Unit" "types" "I" ∈ xtb := x_in (List.mem_of_getElem? (i := 1114) (by decide +kernel)) (by decide +kernel)
theorem m_773 : Cond.code y_Model_type prog_14_method_6_code 2 (some .int) ∈ xtb := x_in (List.mem_of_getElem? (i := 1478) (by decide +kernel)) (by decide +kernel)
theorem m_774 : Cond.methodLink "WasmReaderModel" 179 y_Model_type ∈ xtb := x_in (List.mem_of_getElem? (i := 1475) (by decide +kernel)) (by decide +kernel)
theorem m_775 : Cond.instanceMethod y_Model_type ∈ xtb := x_in (List.mem_of_getElem? (i := 1477) (by decide +kernel)) (by decide +kernel)
theorem m_776 : Cond.selects "WasmReaderModel" y_Model_type y_Model_type ∈ xtb := x_in (List.mem_of_getElem? (i := 57) (by decide +kernel)) (by decide +kernel)
theorem m_777 : Cond.fieldLink "WasmReaderModel" 228 "WasmReaderModel$Unit" "params" "[I" ∈ xtb := x_in (List.mem_of_getElem? (i := 1127) (by decide +kernel)) (by decide +kernel)
theorem m_778 : Cond.fieldLink "WasmReaderModel" 231 "WasmReaderModel$Unit" "result" "[I" ∈ xtb := x_in (List.mem_of_getElem? (i := 1131) (by decide +kernel)) (by decide +kernel)
theorem m_779 : Cond.fieldLink "WasmReaderModel" 225 "WasmReaderModel$Unit" "param" "[I" ∈ xtb := x_in (List.mem_of_getElem? (i := 1129) (by decide +kernel)) (by decide +kernel)
theorem m_780 : Cond.fieldLink "WasmReaderModel" 107 "WasmReaderModel$Unit" "imports" "I" ∈ xtb := x_in (List.mem_of_getElem? (i := 1115) (by decide +kernel)) (by decide +kernel)
theorem m_781 : Cond.code y_Model_name prog_14_method_8_code 4 (some .int) ∈ xtb := x_in (List.mem_of_getElem? (i := 1459) (by decide +kernel)) (by decide +kernel)
theorem m_782 : Cond.methodLink "WasmReaderModel" 146 y_Model_name ∈ xtb := x_in (List.mem_of_getElem? (i := 1456) (by decide +kernel)) (by decide +kernel)
theorem m_783 : Cond.instanceMethod y_Model_name ∈ xtb := x_in (List.mem_of_getElem? (i := 1458) (by decide +kernel)) (by decide +kernel)
theorem m_784 : Cond.selects "WasmReaderModel" y_Model_name y_Model_name ∈ xtb := x_in (List.mem_of_getElem? (i := 54) (by decide +kernel)) (by decide +kernel)
theorem m_785 : Cond.constantLong "WasmReaderModel" 280 9223372036854775807 ∈ xtb := x_in (List.mem_of_getElem? (i := 1495) (by decide +kernel)) (by decide +kernel)
theorem m_786 : Cond.code y_Model_limits prog_14_method_10_code 4 none ∈ xtb := x_in (List.mem_of_getElem? (i := 1499) (by decide +kernel)) (by decide +kernel)
theorem m_787 : Cond.methodLink "WasmReaderModel" 171 y_Model_limits ∈ xtb := x_in (List.mem_of_getElem? (i := 1496) (by decide +kernel)) (by decide +kernel)
theorem m_788 : Cond.instanceMethod y_Model_limits ∈ xtb := x_in (List.mem_of_getElem? (i := 1498) (by decide +kernel)) (by decide +kernel)
theorem m_789 : Cond.selects "WasmReaderModel" y_Model_limits y_Model_limits ∈ xtb := x_in (List.mem_of_getElem? (i := 62) (by decide +kernel)) (by decide +kernel)
theorem m_790 : Cond.methodLink "WasmReaderModel" 175 y_Model_limited ∈ xtb := x_in (List.mem_of_getElem? (i := 1501) (by decide +kernel)) (by decide +kernel)
theorem m_791 : Cond.code y_Model_limited prog_14_method_16_code 6 none ∈ xtb := x_in (List.mem_of_getElem? (i := 1504) (by decide +kernel)) (by decide +kernel)
theorem m_792 : Cond.instanceMethod y_Model_limited ∈ xtb := x_in (List.mem_of_getElem? (i := 1503) (by decide +kernel)) (by decide +kernel)
theorem m_793 : Cond.selects "WasmReaderModel" y_Model_limited y_Model_limited ∈ xtb := x_in (List.mem_of_getElem? (i := 63) (by decide +kernel)) (by decide +kernel)
theorem m_794 : Cond.methodLink "WasmReaderModel" 198 y_Model_global ∈ xtb := x_in (List.mem_of_getElem? (i := 1491) (by decide +kernel)) (by decide +kernel)
theorem m_795 : Cond.code y_Model_global prog_14_method_15_code 4 none ∈ xtb := x_in (List.mem_of_getElem? (i := 1494) (by decide +kernel)) (by decide +kernel)
theorem m_796 : Cond.instanceMethod y_Model_global ∈ xtb := x_in (List.mem_of_getElem? (i := 1493) (by decide +kernel)) (by decide +kernel)
theorem m_797 : Cond.selects "WasmReaderModel" y_Model_global y_Model_global ∈ xtb := x_in (List.mem_of_getElem? (i := 61) (by decide +kernel)) (by decide +kernel)
theorem m_798 : Cond.methodLink "WasmReaderModel" 163 y_Model_functionItem ∈ xtb := x_in (List.mem_of_getElem? (i := 1483) (by decide +kernel)) (by decide +kernel)
theorem m_799 : Cond.code y_Model_functionItem prog_14_method_14_code 3 none ∈ xtb := x_in (List.mem_of_getElem? (i := 1486) (by decide +kernel)) (by decide +kernel)
theorem m_800 : Cond.instanceMethod y_Model_functionItem ∈ xtb := x_in (List.mem_of_getElem? (i := 1485) (by decide +kernel)) (by decide +kernel)
theorem m_801 : Cond.selects "WasmReaderModel" y_Model_functionItem y_Model_functionItem ∈ xtb := x_in (List.mem_of_getElem? (i := 59) (by decide +kernel)) (by decide +kernel)
theorem m_802 : Cond.fieldLink "WasmReaderModel" 263 "WasmReaderModel$Unit" "iModule" "[I" ∈ xtb := x_in (List.mem_of_getElem? (i := 1133) (by decide +kernel)) (by decide +kernel)
theorem m_803 : Cond.fieldLink "WasmReaderModel" 266 "WasmReaderModel$Unit" "iModuleLong" "[I" ∈ xtb := x_in (List.mem_of_getElem? (i := 1135) (by decide +kernel)) (by decide +kernel)
theorem m_804 : Cond.fieldLink "WasmReaderModel" 269 "WasmReaderModel$Unit" "iName" "[I" ∈ xtb := x_in (List.mem_of_getElem? (i := 1137) (by decide +kernel)) (by decide +kernel)
theorem m_805 : Cond.fieldLink "WasmReaderModel" 272 "WasmReaderModel$Unit" "iNameLong" "[I" ∈ xtb := x_in (List.mem_of_getElem? (i := 1139) (by decide +kernel)) (by decide +kernel)
theorem m_806 : Cond.fieldLink "WasmReaderModel" 275 "WasmReaderModel$Unit" "iSort" "[I" ∈ xtb := x_in (List.mem_of_getElem? (i := 1141) (by decide +kernel)) (by decide +kernel)
theorem m_807 : Cond.fieldLink "WasmReaderModel" 282 "WasmReaderModel$Unit" "iFirst" "[I" ∈ xtb := x_in (List.mem_of_getElem? (i := 1143) (by decide +kernel)) (by decide +kernel)
theorem m_808 : Cond.fieldLink "WasmReaderModel" 285 "WasmReaderModel$Unit" "iSecond" "[J" ∈ xtb := x_in (List.mem_of_getElem? (i := 1145) (by decide +kernel)) (by decide +kernel)
theorem m_809 : Cond.fieldLink "WasmReaderModel" 128 "WasmReaderModel$Unit" "elements" "I" ∈ xtb := x_in (List.mem_of_getElem? (i := 1122) (by decide +kernel)) (by decide +kernel)
theorem m_810 : Cond.code y_Model_initial prog_14_method_18_code 1 none ∈ xtb := x_in (List.mem_of_getElem? (i := 1511) (by decide +kernel)) (by decide +kernel)
theorem m_811 : Cond.methodLink "WasmReaderModel" 182 y_Model_initial ∈ xtb := x_in (List.mem_of_getElem? (i := 1508) (by decide +kernel)) (by decide +kernel)
theorem m_812 : Cond.instanceMethod y_Model_initial ∈ xtb := x_in (List.mem_of_getElem? (i := 1510) (by decide +kernel)) (by decide +kernel)
theorem m_813 : Cond.selects "WasmReaderModel" y_Model_initial y_Model_initial ∈ xtb := x_in (List.mem_of_getElem? (i := 64) (by decide +kernel)) (by decide +kernel)
theorem m_814 : Cond.fieldLink "WasmReaderModel" 292 "WasmReaderModel$Unit" "sIndex" "[I" ∈ xtb := x_in (List.mem_of_getElem? (i := 1181) (by decide +kernel)) (by decide +kernel)
theorem m_815 : Cond.fieldLink "WasmReaderModel" 295 "WasmReaderModel$Unit" "sOp" "[I" ∈ xtb := x_in (List.mem_of_getElem? (i := 1175) (by decide +kernel)) (by decide +kernel)
theorem m_816 : Cond.fieldLink "WasmReaderModel" 298 "WasmReaderModel$Unit" "sValue" "[J" ∈ xtb := x_in (List.mem_of_getElem? (i := 1191) (by decide +kernel)) (by decide +kernel)
theorem m_817 : Cond.fieldLink "WasmReaderModel" 301 "WasmReaderModel$Unit" "sMany" "[I" ∈ xtb := x_in (List.mem_of_getElem? (i := 1177) (by decide +kernel)) (by decide +kernel)
theorem m_818 : Cond.fieldLink "WasmReaderModel" 304 "WasmReaderModel$Unit" "sAt" "[I" ∈ xtb := x_in (List.mem_of_getElem? (i := 1179) (by decide +kernel)) (by decide +kernel)
theorem m_819 : Cond.fieldLink "WasmReaderModel" 131 "WasmReaderModel$Unit" "datas" "I" ∈ xtb := x_in (List.mem_of_getElem? (i := 1123) (by decide +kernel)) (by decide +kernel)
theorem m_820 : Cond.fieldLink "WasmReaderModel" 307 "WasmReaderModel$Unit" "dIndex" "[I" ∈ xtb := x_in (List.mem_of_getElem? (i := 1189) (by decide +kernel)) (by decide +kernel)
theorem m_821 : Cond.fieldLink "WasmReaderModel" 310 "WasmReaderModel$Unit" "dOp" "[I" ∈ xtb := x_in (List.mem_of_getElem? (i := 1183) (by decide +kernel)) (by decide +kernel)
theorem m_822 : Cond.fieldLink "WasmReaderModel" 313 "WasmReaderModel$Unit" "dValue" "[J" ∈ xtb := x_in (List.mem_of_getElem? (i := 1193) (by decide +kernel)) (by decide +kernel)
theorem m_823 : Cond.fieldLink "WasmReaderModel" 316 "WasmReaderModel$Unit" "dMany" "[I" ∈ xtb := x_in (List.mem_of_getElem? (i := 1185) (by decide +kernel)) (by decide +kernel)
theorem m_824 : Cond.fieldLink "WasmReaderModel" 319 "WasmReaderModel$Unit" "dAt" "[I" ∈ xtb := x_in (List.mem_of_getElem? (i := 1187) (by decide +kernel)) (by decide +kernel)
theorem d_Model_functionItem_0 : decode prog_14_method_14_code 0 = .ok (.aload_n 0, 1) := by decide +kernel
theorem d_Model_functionItem_1 : decode prog_14_method_14_code 1 = .ok (.getfield 16, 3) := by decide +kernel
theorem d_Model_functionItem_4 : decode prog_14_method_14_code 4 = .ok (.getfield 110, 3) := by decide +kernel
theorem d_Model_functionItem_7 : decode prog_14_method_14_code 7 = .ok (.bipush 60, 2) := by decide +kernel
theorem d_Model_functionItem_9 : decode prog_14_method_14_code 9 = .ok (.if_icmp .ge 35, 3) := by decide +kernel
theorem d_Model_functionItem_44 : decode prog_14_method_14_code 44 = .ok (.aload_n 0, 1) := by decide +kernel
theorem d_Model_functionItem_45 : decode prog_14_method_14_code 45 = .ok (.getfield 16, 3) := by decide +kernel
theorem d_Model_functionItem_48 : decode prog_14_method_14_code 48 = .ok (.dup, 1) := by decide +kernel
theorem d_Model_functionItem_49 : decode prog_14_method_14_code 49 = .ok (.getfield 110, 3) := by decide +kernel
theorem d_Model_functionItem_52 : decode prog_14_method_14_code 52 = .ok (.iconst 1, 1) := by decide +kernel
theorem d_Model_functionItem_53 : decode prog_14_method_14_code 53 = .ok (.iadd, 1) := by decide +kernel
theorem d_Model_functionItem_54 : decode prog_14_method_14_code 54 = .ok (.putfield 110, 3) := by decide +kernel
theorem d_Model_functionItem_57 : decode prog_14_method_14_code 57 = .ok (.aload_n 0, 1) := by decide +kernel
theorem d_Model_functionItem_58 : decode prog_14_method_14_code 58 = .ok (.dup, 1) := by decide +kernel
theorem d_Model_functionItem_59 : decode prog_14_method_14_code 59 = .ok (.getfield 77, 3) := by decide +kernel
theorem d_Model_functionItem_62 : decode prog_14_method_14_code 62 = .ok (.aload_n 0, 1) := by decide +kernel
theorem d_Model_functionItem_63 : decode prog_14_method_14_code 63 = .ok (.getfield 16, 3) := by decide +kernel
theorem d_Model_functionItem_66 : decode prog_14_method_14_code 66 = .ok (.getfield 110, 3) := by decide +kernel
theorem d_Model_functionItem_69 : decode prog_14_method_14_code 69 = .ok (.bipush 60, 2) := by decide +kernel
theorem d_Model_functionItem_71 : decode prog_14_method_14_code 71 = .ok (.if_icmp .le 7, 3) := by decide +kernel
theorem d_Model_functionItem_78 : decode prog_14_method_14_code 78 = .ok (.iconst 0, 1) := by decide +kernel
theorem d_Model_functionItem_79 : decode prog_14_method_14_code 79 = .ok (.ior, 1) := by decide +kernel
theorem d_Model_functionItem_80 : decode prog_14_method_14_code 80 = .ok (.putfield 77, 3) := by decide +kernel
theorem d_Model_functionItem_83 : decode prog_14_method_14_code 83 = .ok (.return_, 1) := by decide +kernel
theorem d_Model_functionItem_74 : decode prog_14_method_14_code 74 = .ok (.iconst 1, 1) := by decide +kernel
theorem d_Model_functionItem_75 : decode prog_14_method_14_code 75 = .ok (.goto 4, 3) := by decide +kernel
theorem d_Model_functionItem_12 : decode prog_14_method_14_code 12 = .ok (.aload_n 0, 1) := by decide +kernel
theorem d_Model_functionItem_13 : decode prog_14_method_14_code 13 = .ok (.getfield 16, 3) := by decide +kernel
theorem d_Model_functionItem_16 : decode prog_14_method_14_code 16 = .ok (.getfield 234, 3) := by decide +kernel
theorem d_Model_functionItem_19 : decode prog_14_method_14_code 19 = .ok (.aload_n 0, 1) := by decide +kernel
theorem d_Model_functionItem_20 : decode prog_14_method_14_code 20 = .ok (.getfield 16, 3) := by decide +kernel
theorem d_Model_functionItem_23 : decode prog_14_method_14_code 23 = .ok (.getfield 110, 3) := by decide +kernel
theorem d_Model_functionItem_26 : decode prog_14_method_14_code 26 = .ok (.iload_n 1, 1) := by decide +kernel
theorem d_Model_functionItem_27 : decode prog_14_method_14_code 27 = .ok (.iastore, 1) := by decide +kernel
theorem d_Model_functionItem_28 : decode prog_14_method_14_code 28 = .ok (.aload_n 0, 1) := by decide +kernel
theorem d_Model_functionItem_29 : decode prog_14_method_14_code 29 = .ok (.getfield 16, 3) := by decide +kernel
theorem d_Model_functionItem_32 : decode prog_14_method_14_code 32 = .ok (.getfield 237, 3) := by decide +kernel
theorem d_Model_functionItem_35 : decode prog_14_method_14_code 35 = .ok (.aload_n 0, 1) := by decide +kernel
theorem d_Model_functionItem_36 : decode prog_14_method_14_code 36 = .ok (.getfield 16, 3) := by decide +kernel
theorem d_Model_functionItem_39 : decode prog_14_method_14_code 39 = .ok (.getfield 110, 3) := by decide +kernel
theorem d_Model_functionItem_42 : decode prog_14_method_14_code 42 = .ok (.iload_n 2, 1) := by decide +kernel
theorem d_Model_functionItem_43 : decode prog_14_method_14_code 43 = .ok (.iastore, 1) := by decide +kernel
theorem d_Model_global_0 : decode prog_14_method_15_code 0 = .ok (.aload_n 0, 1) := by decide +kernel
theorem d_Model_global_1 : decode prog_14_method_15_code 1 = .ok (.getfield 16, 3) := by decide +kernel
theorem d_Model_global_4 : decode prog_14_method_15_code 4 = .ok (.getfield 122, 3) := by decide +kernel
theorem d_Model_global_7 : decode prog_14_method_15_code 7 = .ok (.bipush 30, 2) := by decide +kernel
theorem d_Model_global_9 : decode prog_14_method_15_code 9 = .ok (.if_icmp .ge 60, 3) := by decide +kernel
theorem d_Model_global_69 : decode prog_14_method_15_code 69 = .ok (.aload_n 0, 1) := by decide +kernel
theorem d_Model_global_70 : decode prog_14_method_15_code 70 = .ok (.getfield 16, 3) := by decide +kernel
theorem d_Model_global_73 : decode prog_14_method_15_code 73 = .ok (.dup, 1) := by decide +kernel
theorem d_Model_global_74 : decode prog_14_method_15_code 74 = .ok (.getfield 122, 3) := by decide +kernel
theorem d_Model_global_77 : decode prog_14_method_15_code 77 = .ok (.iconst 1, 1) := by decide +kernel
theorem d_Model_global_78 : decode prog_14_method_15_code 78 = .ok (.iadd, 1) := by decide +kernel
theorem d_Model_global_79 : decode prog_14_method_15_code 79 = .ok (.putfield 122, 3) := by decide +kernel
theorem d_Model_global_82 : decode prog_14_method_15_code 82 = .ok (.aload_n 0, 1) := by decide +kernel
theorem d_Model_global_83 : decode prog_14_method_15_code 83 = .ok (.dup, 1) := by decide +kernel
theorem d_Model_global_84 : decode prog_14_method_15_code 84 = .ok (.getfield 77, 3) := by decide +kernel
theorem d_Model_global_87 : decode prog_14_method_15_code 87 = .ok (.aload_n 0, 1) := by decide +kernel
theorem d_Model_global_88 : decode prog_14_method_15_code 88 = .ok (.getfield 16, 3) := by decide +kernel
theorem d_Model_global_91 : decode prog_14_method_15_code 91 = .ok (.getfield 122, 3) := by decide +kernel
theorem d_Model_global_94 : decode prog_14_method_15_code 94 = .ok (.bipush 30, 2) := by decide +kernel
theorem d_Model_global_96 : decode prog_14_method_15_code 96 = .ok (.if_icmp .le 7, 3) := by decide +kernel
theorem d_Model_global_103 : decode prog_14_method_15_code 103 = .ok (.iconst 0, 1) := by decide +kernel
theorem d_Model_global_104 : decode prog_14_method_15_code 104 = .ok (.ior, 1) := by decide +kernel
theorem d_Model_global_105 : decode prog_14_method_15_code 105 = .ok (.putfield 77, 3) := by decide +kernel
theorem d_Model_global_108 : decode prog_14_method_15_code 108 = .ok (.return_, 1) := by decide +kernel
theorem d_Model_global_99 : decode prog_14_method_15_code 99 = .ok (.iconst 1, 1) := by decide +kernel
theorem d_Model_global_100 : decode prog_14_method_15_code 100 = .ok (.goto 4, 3) := by decide +kernel
theorem d_Model_global_12 : decode prog_14_method_15_code 12 = .ok (.aload_n 0, 1) := by decide +kernel
theorem d_Model_global_13 : decode prog_14_method_15_code 13 = .ok (.getfield 16, 3) := by decide +kernel
theorem d_Model_global_16 : decode prog_14_method_15_code 16 = .ok (.getfield 240, 3) := by decide +kernel
theorem d_Model_global_19 : decode prog_14_method_15_code 19 = .ok (.aload_n 0, 1) := by decide +kernel
theorem d_Model_global_20 : decode prog_14_method_15_code 20 = .ok (.getfield 16, 3) := by decide +kernel
theorem d_Model_global_23 : decode prog_14_method_15_code 23 = .ok (.getfield 122, 3) := by decide +kernel
theorem d_Model_global_26 : decode prog_14_method_15_code 26 = .ok (.iload_n 1, 1) := by decide +kernel
theorem d_Model_global_27 : decode prog_14_method_15_code 27 = .ok (.iastore, 1) := by decide +kernel
theorem d_Model_global_28 : decode prog_14_method_15_code 28 = .ok (.aload_n 0, 1) := by decide +kernel
theorem d_Model_global_29 : decode prog_14_method_15_code 29 = .ok (.getfield 16, 3) := by decide +kernel
theorem d_Model_global_32 : decode prog_14_method_15_code 32 = .ok (.getfield 243, 3) := by decide +kernel
theorem d_Model_global_35 : decode prog_14_method_15_code 35 = .ok (.aload_n 0, 1) := by decide +kernel
theorem d_Model_global_36 : decode prog_14_method_15_code 36 = .ok (.getfield 16, 3) := by decide +kernel
theorem d_Model_global_39 : decode prog_14_method_15_code 39 = .ok (.getfield 122, 3) := by decide +kernel
theorem d_Model_global_42 : decode prog_14_method_15_code 42 = .ok (.iload_n 2, 1) := by decide +kernel
theorem d_Model_global_43 : decode prog_14_method_15_code 43 = .ok (.iconst 1, 1) := by decide +kernel
theorem d_Model_global_44 : decode prog_14_method_15_code 44 = .ok (.if_icmp .ne 7, 3) := by decide +kernel
theorem d_Model_global_51 : decode prog_14_method_15_code 51 = .ok (.iconst 0, 1) := by decide +kernel
theorem d_Model_global_52 : decode prog_14_method_15_code 52 = .ok (.bastore, 1) := by decide +kernel
theorem d_Model_global_53 : decode prog_14_method_15_code 53 = .ok (.aload_n 0, 1) := by decide +kernel
theorem d_Model_global_54 : decode prog_14_method_15_code 54 = .ok (.getfield 16, 3) := by decide +kernel
theorem d_Model_global_57 : decode prog_14_method_15_code 57 = .ok (.getfield 246, 3) := by decide +kernel
theorem d_Model_global_60 : decode prog_14_method_15_code 60 = .ok (.aload_n 0, 1) := by decide +kernel
theorem d_Model_global_61 : decode prog_14_method_15_code 61 = .ok (.getfield 16, 3) := by decide +kernel
theorem d_Model_global_64 : decode prog_14_method_15_code 64 = .ok (.getfield 122, 3) := by decide +kernel
theorem d_Model_global_67 : decode prog_14_method_15_code 67 = .ok (.iload_n 3, 1) := by decide +kernel
theorem d_Model_global_68 : decode prog_14_method_15_code 68 = .ok (.iastore, 1) := by decide +kernel
theorem d_Model_global_47 : decode prog_14_method_15_code 47 = .ok (.iconst 1, 1) := by decide +kernel
theorem d_Model_global_48 : decode prog_14_method_15_code 48 = .ok (.goto 4, 3) := by decide +kernel
theorem d_Model_limited_0 : decode prog_14_method_16_code 0 = .ok (.aload_n 0, 1) := by decide +kernel
theorem d_Model_limited_1 : decode prog_14_method_16_code 1 = .ok (.getfield 89, 3) := by decide +kernel
theorem d_Model_limited_4 : decode prog_14_method_16_code 4 = .ok (.invokestatic 150, 3) := by decide +kernel
theorem nm_Model_cut : x_nm y_Model_cut 1 = true := by decide +kernel
theorem d_Model_limited_7 : decode prog_14_method_16_code 7 = .ok (.istore_n 3, 1) := by decide +kernel
theorem d_Model_limited_8 : decode prog_14_method_16_code 8 = .ok (.aload_n 0, 1) := by decide +kernel
theorem d_Model_limited_9 : decode prog_14_method_16_code 9 = .ok (.getfield 95, 3) := by decide +kernel
theorem d_Model_limited_12 : decode prog_14_method_16_code 12 = .ok (.lstore 4, 2) := by decide +kernel
theorem d_Model_limited_14 : decode prog_14_method_16_code 14 = .ok (.aload_n 0, 1) := by decide +kernel
theorem d_Model_limited_15 : decode prog_14_method_16_code 15 = .ok (.getfield 95, 3) := by decide +kernel
theorem d_Model_limited_18 : decode prog_14_method_16_code 18 = .ok (.lconst 0, 1) := by decide +kernel
theorem d_Model_limited_19 : decode prog_14_method_16_code 19 = .ok (.lcmp, 1) := by decide +kernel
theorem d_Model_limited_20 : decode prog_14_method_16_code 20 = .ok (.ifCond .lt 20, 3) := by decide +kernel
theorem d_Model_limited_40 : decode prog_14_method_16_code 40 = .ok (.iload_n 1, 1) := by decide +kernel
theorem d_Model_limited_41 : decode prog_14_method_16_code 41 = .ok (.ifCond .eq 44, 3) := by decide +kernel
theorem d_Model_limited_44 : decode prog_14_method_16_code 44 = .ok (.aload_n 0, 1) := by decide +kernel
theorem d_Model_limited_45 : decode prog_14_method_16_code 45 = .ok (.getfield 16, 3) := by decide +kernel
theorem d_Model_limited_48 : decode prog_14_method_16_code 48 = .ok (.dup, 1) := by decide +kernel
theorem d_Model_limited_49 : decode prog_14_method_16_code 49 = .ok (.getfield 116, 3) := by decide +kernel
theorem d_Model_limited_52 : decode prog_14_method_16_code 52 = .ok (.iconst 1, 1) := by decide +kernel
theorem d_Model_limited_53 : decode prog_14_method_16_code 53 = .ok (.iadd, 1) := by decide +kernel
theorem d_Model_limited_54 : decode prog_14_method_16_code 54 = .ok (.putfield 116, 3) := by decide +kernel
theorem d_Model_limited_57 : decode prog_14_method_16_code 57 = .ok (.aload_n 0, 1) := by decide +kernel
theorem d_Model_limited_58 : decode prog_14_method_16_code 58 = .ok (.getfield 16, 3) := by decide +kernel
theorem d_Model_limited_61 : decode prog_14_method_16_code 61 = .ok (.iload_n 2, 1) := by decide +kernel
theorem d_Model_limited_62 : decode prog_14_method_16_code 62 = .ok (.putfield 140, 3) := by decide +kernel
theorem d_Model_limited_65 : decode prog_14_method_16_code 65 = .ok (.aload_n 0, 1) := by decide +kernel
theorem d_Model_limited_66 : decode prog_14_method_16_code 66 = .ok (.getfield 16, 3) := by decide +kernel
theorem d_Model_limited_69 : decode prog_14_method_16_code 69 = .ok (.iload_n 3, 1) := by decide +kernel
theorem d_Model_limited_70 : decode prog_14_method_16_code 70 = .ok (.putfield 249, 3) := by decide +kernel
theorem d_Model_limited_73 : decode prog_14_method_16_code 73 = .ok (.aload_n 0, 1) := by decide +kernel
theorem d_Model_limited_74 : decode prog_14_method_16_code 74 = .ok (.getfield 16, 3) := by decide +kernel
theorem d_Model_limited_77 : decode prog_14_method_16_code 77 = .ok (.lload 4, 2) := by decide +kernel
theorem d_Model_limited_79 : decode prog_14_method_16_code 79 = .ok (.putfield 252, 3) := by decide +kernel
theorem d_Model_limited_82 : decode prog_14_method_16_code 82 = .ok (.goto 68, 3) := by decide +kernel
theorem d_Model_limited_150 : decode prog_14_method_16_code 150 = .ok (.return_, 1) := by decide +kernel
theorem d_Model_limited_23 : decode prog_14_method_16_code 23 = .ok (.aload_n 0, 1) := by decide +kernel
theorem d_Model_limited_24 : decode prog_14_method_16_code 24 = .ok (.getfield 95, 3) := by decide +kernel
theorem d_Model_limited_27 : decode prog_14_method_16_code 27 = .ok (.aload_n 0, 1) := by decide +kernel
theorem d_Model_limited_28 : decode prog_14_method_16_code 28 = .ok (.getfield 89, 3) := by decide +kernel
theorem d_Model_limited_31 : decode prog_14_method_16_code 31 = .ok (.lcmp, 1) := by decide +kernel
theorem d_Model_limited_32 : decode prog_14_method_16_code 32 = .ok (.ifCond .ge 8, 3) := by decide +kernel
theorem d_Model_limited_35 : decode prog_14_method_16_code 35 = .ok (.aload_n 0, 1) := by decide +kernel
theorem d_Model_limited_36 : decode prog_14_method_16_code 36 = .ok (.iconst 1, 1) := by decide +kernel
theorem d_Model_limited_37 : decode prog_14_method_16_code 37 = .ok (.putfield 101, 3) := by decide +kernel
theorem d_Model_limited_85 : decode prog_14_method_16_code 85 = .ok (.aload_n 0, 1) := by decide +kernel
theorem d_Model_limited_86 : decode prog_14_method_16_code 86 = .ok (.getfield 89, 3) := by decide +kernel
theorem d_Model_limited_89 : decode prog_14_method_16_code 89 = .ok (.ldc2_w 255, 3) := by decide +kernel
theorem d_Model_limited_92 : decode prog_14_method_16_code 92 = .ok (.lcmp, 1) := by decide +kernel
theorem d_Model_limited_93 : decode prog_14_method_16_code 93 = .ok (.ifCond .gt 14, 3) := by decide +kernel
theorem d_Model_limited_107 : decode prog_14_method_16_code 107 = .ok (.aload_n 0, 1) := by decide +kernel
theorem d_Model_limited_108 : decode prog_14_method_16_code 108 = .ok (.iconst 1, 1) := by decide +kernel
theorem d_Model_limited_109 : decode prog_14_method_16_code 109 = .ok (.putfield 101, 3) := by decide +kernel
theorem d_Model_limited_112 : decode prog_14_method_16_code 112 = .ok (.aload_n 0, 1) := by decide +kernel
theorem d_Model_limited_113 : decode prog_14_method_16_code 113 = .ok (.getfield 16, 3) := by decide +kernel
theorem d_Model_limited_116 : decode prog_14_method_16_code 116 = .ok (.dup, 1) := by decide +kernel
theorem d_Model_limited_117 : decode prog_14_method_16_code 117 = .ok (.getfield 119, 3) := by decide +kernel
theorem d_Model_limited_120 : decode prog_14_method_16_code 120 = .ok (.iconst 1, 1) := by decide +kernel
theorem d_Model_limited_121 : decode prog_14_method_16_code 121 = .ok (.iadd, 1) := by decide +kernel
theorem d_Model_limited_122 : decode prog_14_method_16_code 122 = .ok (.putfield 119, 3) := by decide +kernel
theorem d_Model_limited_125 : decode prog_14_method_16_code 125 = .ok (.aload_n 0, 1) := by decide +kernel
theorem d_Model_limited_126 : decode prog_14_method_16_code 126 = .ok (.getfield 16, 3) := by decide +kernel
theorem d_Model_limited_129 : decode prog_14_method_16_code 129 = .ok (.iload_n 2, 1) := by decide +kernel
theorem d_Model_limited_130 : decode prog_14_method_16_code 130 = .ok (.putfield 143, 3) := by decide +kernel
theorem d_Model_limited_133 : decode prog_14_method_16_code 133 = .ok (.aload_n 0, 1) := by decide +kernel
theorem d_Model_limited_134 : decode prog_14_method_16_code 134 = .ok (.getfield 16, 3) := by decide +kernel
theorem d_Model_limited_137 : decode prog_14_method_16_code 137 = .ok (.iload_n 3, 1) := by decide +kernel
theorem d_Model_limited_138 : decode prog_14_method_16_code 138 = .ok (.putfield 257, 3) := by decide +kernel
theorem d_Model_limited_141 : decode prog_14_method_16_code 141 = .ok (.aload_n 0, 1) := by decide +kernel
theorem d_Model_limited_142 : decode prog_14_method_16_code 142 = .ok (.getfield 16, 3) := by decide +kernel
theorem d_Model_limited_145 : decode prog_14_method_16_code 145 = .ok (.lload 4, 2) := by decide +kernel
theorem d_Model_limited_147 : decode prog_14_method_16_code 147 = .ok (.putfield 260, 3) := by decide +kernel
theorem d_Model_limited_96 : decode prog_14_method_16_code 96 = .ok (.aload_n 0, 1) := by decide +kernel
theorem d_Model_limited_97 : decode prog_14_method_16_code 97 = .ok (.getfield 95, 3) := by decide +kernel
theorem d_Model_limited_100 : decode prog_14_method_16_code 100 = .ok (.ldc2_w 255, 3) := by decide +kernel
theorem d_Model_limited_103 : decode prog_14_method_16_code 103 = .ok (.lcmp, 1) := by decide +kernel
theorem d_Model_limited_104 : decode prog_14_method_16_code 104 = .ok (.ifCond .le 8, 3) := by decide +kernel
theorem d_Model_typeItem_0 : decode prog_14_method_13_code 0 = .ok (.aload_n 0, 1) := by decide +kernel
theorem d_Model_typeItem_1 : decode prog_14_method_13_code 1 = .ok (.invokevirtual 64, 3) := by decide +kernel
theorem d_Model_typeItem_4 : decode prog_14_method_13_code 4 = .ok (.bipush 96, 2) := by decide +kernel
theorem d_Model_typeItem_6 : decode prog_14_method_13_code 6 = .ok (.if_icmp .eq 12, 3) := by decide +kernel
theorem d_Model_typeItem_18 : decode prog_14_method_13_code 18 = .ok (.aload_n 0, 1) := by decide +kernel
theorem d_Model_typeItem_19 : decode prog_14_method_13_code 19 = .ok (.invokevirtual 68, 3) := by decide +kernel
theorem d_Model_typeItem_22 : decode prog_14_method_13_code 22 = .ok (.lstore_n 1, 1) := by decide +kernel
theorem d_Model_typeItem_23 : decode prog_14_method_13_code 23 = .ok (.lload_n 1, 1) := by decide +kernel
theorem d_Model_typeItem_24 : decode prog_14_method_13_code 24 = .ok (.ldc2_w 223, 3) := by decide +kernel
theorem d_Model_typeItem_27 : decode prog_14_method_13_code 27 = .ok (.lcmp, 1) := by decide +kernel
theorem d_Model_typeItem_28 : decode prog_14_method_13_code 28 = .ok (.ifCond .le 12, 3) := by decide +kernel
theorem d_Model_typeItem_40 : decode prog_14_method_13_code 40 = .ok (.aload_n 0, 1) := by decide +kernel
theorem d_Model_typeItem_41 : decode prog_14_method_13_code 41 = .ok (.getfield 16, 3) := by decide +kernel
theorem d_Model_typeItem_44 : decode prog_14_method_13_code 44 = .ok (.getfield 104, 3) := by decide +kernel
theorem d_Model_typeItem_47 : decode prog_14_method_13_code 47 = .ok (.istore_n 3, 1) := by decide +kernel
theorem d_Model_typeItem_48 : decode prog_14_method_13_code 48 = .ok (.iload_n 3, 1) := by decide +kernel
theorem d_Model_typeItem_49 : decode prog_14_method_13_code 49 = .ok (.bipush 40, 2) := by decide +kernel
theorem d_Model_typeItem_51 : decode prog_14_method_13_code 51 = .ok (.if_icmp .ge 7, 3) := by decide +kernel
theorem d_Model_typeItem_58 : decode prog_14_method_13_code 58 = .ok (.iconst 0, 1) := by decide +kernel
theorem d_Model_typeItem_59 : decode prog_14_method_13_code 59 = .ok (.istore 4, 2) := by decide +kernel
theorem d_Model_typeItem_61 : decode prog_14_method_13_code 61 = .ok (.iload_n 3, 1) := by decide +kernel
theorem d_Model_typeItem_62 : decode prog_14_method_13_code 62 = .ok (.bipush 40, 2) := by decide +kernel
theorem d_Model_typeItem_64 : decode prog_14_method_13_code 64 = .ok (.if_icmp .ge 7, 3) := by decide +kernel
theorem d_Model_typeItem_71 : decode prog_14_method_13_code 71 = .ok (.iconst 0, 1) := by decide +kernel
theorem d_Model_typeItem_72 : decode prog_14_method_13_code 72 = .ok (.istore 5, 2) := by decide +kernel
theorem d_Model_typeItem_74 : decode prog_14_method_13_code 74 = .ok (.iconst 0, 1) := by decide +kernel
theorem d_Model_typeItem_75 : decode prog_14_method_13_code 75 = .ok (.istore 6, 2) := by decide +kernel
theorem d_Model_typeItem_77 : decode prog_14_method_13_code 77 = .ok (.iload 6, 2) := by decide +kernel
theorem d_Model_typeItem_79 : decode prog_14_method_13_code 79 = .ok (.i2l, 1) := by decide +kernel
theorem d_Model_typeItem_80 : decode prog_14_method_13_code 80 = .ok (.lload_n 1, 1) := by decide +kernel
theorem d_Model_typeItem_81 : decode prog_14_method_13_code 81 = .ok (.lcmp, 1) := by decide +kernel
theorem d_Model_typeItem_82 : decode prog_14_method_13_code 82 = .ok (.ifCond .ge 38, 3) := by decide +kernel
theorem d_Model_typeItem_120 : decode prog_14_method_13_code 120 = .ok (.aload_n 0, 1) := by decide +kernel
theorem d_Model_typeItem_121 : decode prog_14_method_13_code 121 = .ok (.invokevirtual 68, 3) := by decide +kernel
theorem d_Model_typeItem_124 : decode prog_14_method_13_code 124 = .ok (.lstore 6, 2) := by decide +kernel
theorem d_Model_typeItem_126 : decode prog_14_method_13_code 126 = .ok (.lload 6, 2) := by decide +kernel
theorem d_Model_typeItem_128 : decode prog_14_method_13_code 128 = .ok (.lconst 1, 1) := by decide +kernel
theorem d_Model_typeItem_129 : decode prog_14_method_13_code 129 = .ok (.lcmp, 1) := by decide +kernel
theorem d_Model_typeItem_130 : decode prog_14_method_13_code 130 = .ok (.ifCond .le 12, 3) := by decide +kernel
theorem d_Model_typeItem_142 : decode prog_14_method_13_code 142 = .ok (.lload 6, 2) := by decide +kernel
theorem d_Model_typeItem_144 : decode prog_14_method_13_code 144 = .ok (.lconst 1, 1) := by decide +kernel
theorem d_Model_typeItem_145 : decode prog_14_method_13_code 145 = .ok (.lcmp, 1) := by decide +kernel
theorem d_Model_typeItem_146 : decode prog_14_method_13_code 146 = .ok (.ifCond .ne 10, 3) := by decide +kernel
theorem d_Model_typeItem_156 : decode prog_14_method_13_code 156 = .ok (.iconst 0, 1) := by decide +kernel
theorem d_Model_typeItem_157 : decode prog_14_method_13_code 157 = .ok (.istore 8, 2) := by decide +kernel
theorem d_Model_typeItem_159 : decode prog_14_method_13_code 159 = .ok (.iload 5, 2) := by decide +kernel
theorem d_Model_typeItem_161 : decode prog_14_method_13_code 161 = .ok (.ifCond .eq 25, 3) := by decide +kernel
theorem d_Model_typeItem_186 : decode prog_14_method_13_code 186 = .ok (.aload_n 0, 1) := by decide +kernel
theorem d_Model_typeItem_187 : decode prog_14_method_13_code 187 = .ok (.getfield 16, 3) := by decide +kernel
theorem d_Model_typeItem_190 : decode prog_14_method_13_code 190 = .ok (.dup, 1) := by decide +kernel
theorem d_Model_typeItem_191 : decode prog_14_method_13_code 191 = .ok (.getfield 104, 3) := by decide +kernel
theorem d_Model_typeItem_194 : decode prog_14_method_13_code 194 = .ok (.iconst 1, 1) := by decide +kernel
theorem d_Model_typeItem_195 : decode prog_14_method_13_code 195 = .ok (.iadd, 1) := by decide +kernel
theorem d_Model_typeItem_196 : decode prog_14_method_13_code 196 = .ok (.putfield 104, 3) := by decide +kernel
theorem d_Model_typeItem_199 : decode prog_14_method_13_code 199 = .ok (.aload_n 0, 1) := by decide +kernel
theorem d_Model_typeItem_200 : decode prog_14_method_13_code 200 = .ok (.dup, 1) := by decide +kernel
theorem d_Model_typeItem_201 : decode prog_14_method_13_code 201 = .ok (.getfield 77, 3) := by decide +kernel
theorem d_Model_typeItem_204 : decode prog_14_method_13_code 204 = .ok (.aload_n 0, 1) := by decide +kernel
theorem d_Model_typeItem_205 : decode prog_14_method_13_code 205 = .ok (.getfield 16, 3) := by decide +kernel
theorem d_Model_typeItem_208 : decode prog_14_method_13_code 208 = .ok (.getfield 104, 3) := by decide +kernel
theorem d_Model_typeItem_211 : decode prog_14_method_13_code 211 = .ok (.bipush 40, 2) := by decide +kernel
theorem d_Model_typeItem_213 : decode prog_14_method_13_code 213 = .ok (.if_icmp .le 7, 3) := by decide +kernel
theorem d_Model_typeItem_220 : decode prog_14_method_13_code 220 = .ok (.iconst 0, 1) := by decide +kernel
theorem d_Model_typeItem_221 : decode prog_14_method_13_code 221 = .ok (.ior, 1) := by decide +kernel
theorem d_Model_typeItem_222 : decode prog_14_method_13_code 222 = .ok (.putfield 77, 3) := by decide +kernel
theorem d_Model_typeItem_225 : decode prog_14_method_13_code 225 = .ok (.return_, 1) := by decide +kernel
theorem d_Model_typeItem_216 : decode prog_14_method_13_code 216 = .ok (.iconst 1, 1) := by decide +kernel
theorem d_Model_typeItem_217 : decode prog_14_method_13_code 217 = .ok (.goto 4, 3) := by decide +kernel
theorem d_Model_typeItem_149 : decode prog_14_method_13_code 149 = .ok (.aload_n 0, 1) := by decide +kernel
theorem d_Model_typeItem_150 : decode prog_14_method_13_code 150 = .ok (.invokevirtual 179, 3) := by decide +kernel
theorem nm_Model_type : x_nm y_Model_type 0 = true := by decide +kernel
theorem d_Model_typeItem_153 : decode prog_14_method_13_code 153 = .ok (.goto 4, 3) := by decide +kernel
theorem d_Model_typeItem_133 : decode prog_14_method_13_code 133 = .ok (.new 56, 3) := by decide +kernel
theorem d_Model_typeItem_136 : decode prog_14_method_13_code 136 = .ok (.dup, 1) := by decide +kernel
theorem d_Model_typeItem_137 : decode prog_14_method_13_code 137 = .ok (.iconst 1, 1) := by decide +kernel
theorem d_Model_typeItem_138 : decode prog_14_method_13_code 138 = .ok (.invokespecial 58, 3) := by decide +kernel
theorem d_Model_typeItem_141 : decode prog_14_method_13_code 141 = .ok (.athrow, 1) := by decide +kernel
theorem d_Model_typeItem_85 : decode prog_14_method_13_code 85 = .ok (.aload_n 0, 1) := by decide +kernel
theorem d_Model_typeItem_86 : decode prog_14_method_13_code 86 = .ok (.invokevirtual 179, 3) := by decide +kernel
theorem d_Model_typeItem_89 : decode prog_14_method_13_code 89 = .ok (.istore 7, 2) := by decide +kernel
theorem d_Model_typeItem_91 : decode prog_14_method_13_code 91 = .ok (.iload 5, 2) := by decide +kernel
theorem d_Model_typeItem_93 : decode prog_14_method_13_code 93 = .ok (.ifCond .eq 21, 3) := by decide +kernel
theorem d_Model_typeItem_114 : decode prog_14_method_13_code 114 = .ok (.iinc 6 1, 3) := by decide +kernel
theorem d_Model_typeItem_117 : decode prog_14_method_13_code 117 = .ok (.goto (-40), 3) := by decide +kernel
theorem d_Model_typeItem_54 : decode prog_14_method_13_code 54 = .ok (.iload_n 3, 1) := by decide +kernel
theorem d_Model_typeItem_55 : decode prog_14_method_13_code 55 = .ok (.goto 4, 3) := by decide +kernel
theorem d_Model_typeItem_67 : decode prog_14_method_13_code 67 = .ok (.iconst 1, 1) := by decide +kernel
theorem d_Model_typeItem_68 : decode prog_14_method_13_code 68 = .ok (.goto 4, 3) := by decide +kernel
theorem d_Model_typeItem_164 : decode prog_14_method_13_code 164 = .ok (.aload_n 0, 1) := by decide +kernel
theorem d_Model_typeItem_165 : decode prog_14_method_13_code 165 = .ok (.getfield 16, 3) := by decide +kernel
theorem d_Model_typeItem_168 : decode prog_14_method_13_code 168 = .ok (.getfield 228, 3) := by decide +kernel
theorem d_Model_typeItem_171 : decode prog_14_method_13_code 171 = .ok (.iload_n 3, 1) := by decide +kernel
theorem d_Model_typeItem_172 : decode prog_14_method_13_code 172 = .ok (.lload_n 1, 1) := by decide +kernel
theorem d_Model_typeItem_173 : decode prog_14_method_13_code 173 = .ok (.l2i, 1) := by decide +kernel
theorem d_Model_typeItem_174 : decode prog_14_method_13_code 174 = .ok (.iastore, 1) := by decide +kernel
theorem d_Model_typeItem_175 : decode prog_14_method_13_code 175 = .ok (.aload_n 0, 1) := by decide +kernel
theorem d_Model_typeItem_176 : decode prog_14_method_13_code 176 = .ok (.getfield 16, 3) := by decide +kernel
theorem d_Model_typeItem_179 : decode prog_14_method_13_code 179 = .ok (.getfield 231, 3) := by decide +kernel
theorem d_Model_typeItem_182 : decode prog_14_method_13_code 182 = .ok (.iload_n 3, 1) := by decide +kernel
theorem d_Model_typeItem_183 : decode prog_14_method_13_code 183 = .ok (.iload 8, 2) := by decide +kernel
theorem d_Model_typeItem_185 : decode prog_14_method_13_code 185 = .ok (.iastore, 1) := by decide +kernel
theorem d_Model_typeItem_96 : decode prog_14_method_13_code 96 = .ok (.aload_n 0, 1) := by decide +kernel
theorem d_Model_typeItem_97 : decode prog_14_method_13_code 97 = .ok (.getfield 16, 3) := by decide +kernel
theorem d_Model_typeItem_100 : decode prog_14_method_13_code 100 = .ok (.getfield 225, 3) := by decide +kernel
theorem d_Model_typeItem_103 : decode prog_14_method_13_code 103 = .ok (.bipush 6, 2) := by decide +kernel
theorem d_Model_typeItem_105 : decode prog_14_method_13_code 105 = .ok (.iload 4, 2) := by decide +kernel
theorem d_Model_typeItem_107 : decode prog_14_method_13_code 107 = .ok (.imul, 1) := by decide +kernel
theorem d_Model_typeItem_108 : decode prog_14_method_13_code 108 = .ok (.iload 6, 2) := by decide +kernel
theorem d_Model_typeItem_110 : decode prog_14_method_13_code 110 = .ok (.iadd, 1) := by decide +kernel
theorem d_Model_typeItem_111 : decode prog_14_method_13_code 111 = .ok (.iload 7, 2) := by decide +kernel
theorem d_Model_typeItem_113 : decode prog_14_method_13_code 113 = .ok (.iastore, 1) := by decide +kernel
theorem d_Model_typeItem_31 : decode prog_14_method_13_code 31 = .ok (.new 56, 3) := by decide +kernel
theorem d_Model_typeItem_34 : decode prog_14_method_13_code 34 = .ok (.dup, 1) := by decide +kernel
theorem d_Model_typeItem_35 : decode prog_14_method_13_code 35 = .ok (.iconst 1, 1) := by decide +kernel
theorem d_Model_typeItem_36 : decode prog_14_method_13_code 36 = .ok (.invokespecial 58, 3) := by decide +kernel
theorem d_Model_typeItem_39 : decode prog_14_method_13_code 39 = .ok (.athrow, 1) := by decide +kernel
theorem d_Model_typeItem_9 : decode prog_14_method_13_code 9 = .ok (.new 56, 3) := by decide +kernel
theorem d_Model_typeItem_12 : decode prog_14_method_13_code 12 = .ok (.dup, 1) := by decide +kernel
theorem d_Model_typeItem_13 : decode prog_14_method_13_code 13 = .ok (.iconst 1, 1) := by decide +kernel
theorem d_Model_typeItem_14 : decode prog_14_method_13_code 14 = .ok (.invokespecial 58, 3) := by decide +kernel
theorem d_Model_typeItem_17 : decode prog_14_method_13_code 17 = .ok (.athrow, 1) := by decide +kernel
theorem d_Model_importItem_0 : decode prog_14_method_17_code 0 = .ok (.aload_n 0, 1) := by decide +kernel
theorem d_Model_importItem_1 : decode prog_14_method_17_code 1 = .ok (.getfield 16, 3) := by decide +kernel
theorem d_Model_importItem_4 : decode prog_14_method_17_code 4 = .ok (.getfield 107, 3) := by decide +kernel
theorem d_Model_importItem_7 : decode prog_14_method_17_code 7 = .ok (.istore_n 1, 1) := by decide +kernel
theorem d_Model_importItem_8 : decode prog_14_method_17_code 8 = .ok (.aload_n 0, 1) := by decide +kernel
theorem d_Model_importItem_9 : decode prog_14_method_17_code 9 = .ok (.iconst 1, 1) := by decide +kernel
theorem d_Model_importItem_10 : decode prog_14_method_17_code 10 = .ok (.invokevirtual 146, 3) := by decide +kernel
theorem nm_Model_name : x_nm y_Model_name 1 = true := by decide +kernel
theorem d_Model_importItem_13 : decode prog_14_method_17_code 13 = .ok (.istore_n 2, 1) := by decide +kernel
theorem d_Model_importItem_14 : decode prog_14_method_17_code 14 = .ok (.aload_n 0, 1) := by decide +kernel
theorem d_Model_importItem_15 : decode prog_14_method_17_code 15 = .ok (.getfield 72, 3) := by decide +kernel
theorem d_Model_importItem_18 : decode prog_14_method_17_code 18 = .ok (.istore_n 3, 1) := by decide +kernel
theorem d_Model_importItem_19 : decode prog_14_method_17_code 19 = .ok (.aload_n 0, 1) := by decide +kernel
theorem d_Model_importItem_20 : decode prog_14_method_17_code 20 = .ok (.iconst 1, 1) := by decide +kernel
theorem d_Model_importItem_21 : decode prog_14_method_17_code 21 = .ok (.invokevirtual 146, 3) := by decide +kernel
theorem d_Model_importItem_24 : decode prog_14_method_17_code 24 = .ok (.istore 4, 2) := by decide +kernel
theorem d_Model_importItem_26 : decode prog_14_method_17_code 26 = .ok (.aload_n 0, 1) := by decide +kernel
theorem d_Model_importItem_27 : decode prog_14_method_17_code 27 = .ok (.getfield 72, 3) := by decide +kernel
theorem d_Model_importItem_30 : decode prog_14_method_17_code 30 = .ok (.istore 5, 2) := by decide +kernel
theorem d_Model_importItem_32 : decode prog_14_method_17_code 32 = .ok (.aload_n 0, 1) := by decide +kernel
theorem d_Model_importItem_33 : decode prog_14_method_17_code 33 = .ok (.invokevirtual 64, 3) := by decide +kernel
theorem d_Model_importItem_36 : decode prog_14_method_17_code 36 = .ok (.istore 6, 2) := by decide +kernel
theorem d_Model_importItem_38 : decode prog_14_method_17_code 38 = .ok (.iload 6, 2) := by decide +kernel
theorem d_Model_importItem_40 : decode prog_14_method_17_code 40 = .ok (.iconst 3, 1) := by decide +kernel
theorem d_Model_importItem_41 : decode prog_14_method_17_code 41 = .ok (.if_icmp .le 12, 3) := by decide +kernel
theorem d_Model_importItem_53 : decode prog_14_method_17_code 53 = .ok (.iload_n 1, 1) := by decide +kernel
theorem d_Model_importItem_54 : decode prog_14_method_17_code 54 = .ok (.bipush 30, 2) := by decide +kernel
theorem d_Model_importItem_56 : decode prog_14_method_17_code 56 = .ok (.if_icmp .ge 56, 3) := by decide +kernel
theorem d_Model_importItem_112 : decode prog_14_method_17_code 112 = .ok (.lconst 0, 1) := by decide +kernel
theorem d_Model_importItem_113 : decode prog_14_method_17_code 113 = .ok (.lstore 8, 2) := by decide +kernel
theorem d_Model_importItem_115 : decode prog_14_method_17_code 115 = .ok (.iload 6, 2) := by decide +kernel
theorem d_Model_importItem_117 : decode prog_14_method_17_code 117 = .ok (.ifCond .ne 22, 3) := by decide +kernel
theorem d_Model_importItem_139 : decode prog_14_method_17_code 139 = .ok (.iload 6, 2) := by decide +kernel
theorem d_Model_importItem_141 : decode prog_14_method_17_code 141 = .ok (.iconst 3, 1) := by decide +kernel
theorem d_Model_importItem_142 : decode prog_14_method_17_code 142 = .ok (.if_icmp .ne 32, 3) := by decide +kernel
theorem d_Model_importItem_174 : decode prog_14_method_17_code 174 = .ok (.iload 6, 2) := by decide +kernel
theorem d_Model_importItem_176 : decode prog_14_method_17_code 176 = .ok (.iconst 1, 1) := by decide +kernel
theorem d_Model_importItem_177 : decode prog_14_method_17_code 177 = .ok (.if_icmp .ne 21, 3) := by decide +kernel
theorem d_Model_importItem_198 : decode prog_14_method_17_code 198 = .ok (.aload_n 0, 1) := by decide +kernel
theorem d_Model_importItem_199 : decode prog_14_method_17_code 199 = .ok (.ldc2_w 280, 3) := by decide +kernel
theorem d_Model_importItem_202 : decode prog_14_method_17_code 202 = .ok (.invokevirtual 171, 3) := by decide +kernel
theorem nm_Model_limits : x_nm y_Model_limits 1 = true := by decide +kernel
theorem d_Model_importItem_205 : decode prog_14_method_17_code 205 = .ok (.aload_n 0, 1) := by decide +kernel
theorem d_Model_importItem_206 : decode prog_14_method_17_code 206 = .ok (.getfield 89, 3) := by decide +kernel
theorem d_Model_importItem_209 : decode prog_14_method_17_code 209 = .ok (.invokestatic 150, 3) := by decide +kernel
theorem d_Model_importItem_212 : decode prog_14_method_17_code 212 = .ok (.istore 7, 2) := by decide +kernel
theorem d_Model_importItem_214 : decode prog_14_method_17_code 214 = .ok (.aload_n 0, 1) := by decide +kernel
theorem d_Model_importItem_215 : decode prog_14_method_17_code 215 = .ok (.getfield 95, 3) := by decide +kernel
theorem d_Model_importItem_218 : decode prog_14_method_17_code 218 = .ok (.lstore 8, 2) := by decide +kernel
theorem d_Model_importItem_220 : decode prog_14_method_17_code 220 = .ok (.aload_n 0, 1) := by decide +kernel
theorem d_Model_importItem_221 : decode prog_14_method_17_code 221 = .ok (.iload 6, 2) := by decide +kernel
theorem d_Model_importItem_223 : decode prog_14_method_17_code 223 = .ok (.iconst 1, 1) := by decide +kernel
theorem d_Model_importItem_224 : decode prog_14_method_17_code 224 = .ok (.if_icmp .ne 7, 3) := by decide +kernel
theorem d_Model_importItem_231 : decode prog_14_method_17_code 231 = .ok (.iconst 0, 1) := by decide +kernel
theorem d_Model_importItem_232 : decode prog_14_method_17_code 232 = .ok (.iload_n 1, 1) := by decide +kernel
theorem d_Model_importItem_233 : decode prog_14_method_17_code 233 = .ok (.invokevirtual 175, 3) := by decide +kernel
theorem nm_Model_limited : x_nm y_Model_limited 2 = true := by decide +kernel
theorem d_Model_importItem_236 : decode prog_14_method_17_code 236 = .ok (.iload_n 1, 1) := by decide +kernel
theorem d_Model_importItem_237 : decode prog_14_method_17_code 237 = .ok (.bipush 30, 2) := by decide +kernel
theorem d_Model_importItem_239 : decode prog_14_method_17_code 239 = .ok (.if_icmp .ge 25, 3) := by decide +kernel
theorem d_Model_importItem_264 : decode prog_14_method_17_code 264 = .ok (.aload_n 0, 1) := by decide +kernel
theorem d_Model_importItem_265 : decode prog_14_method_17_code 265 = .ok (.getfield 16, 3) := by decide +kernel
theorem d_Model_importItem_268 : decode prog_14_method_17_code 268 = .ok (.dup, 1) := by decide +kernel
theorem d_Model_importItem_269 : decode prog_14_method_17_code 269 = .ok (.getfield 107, 3) := by decide +kernel
theorem d_Model_importItem_272 : decode prog_14_method_17_code 272 = .ok (.iconst 1, 1) := by decide +kernel
theorem d_Model_importItem_273 : decode prog_14_method_17_code 273 = .ok (.iadd, 1) := by decide +kernel
theorem d_Model_importItem_274 : decode prog_14_method_17_code 274 = .ok (.putfield 107, 3) := by decide +kernel
theorem d_Model_importItem_277 : decode prog_14_method_17_code 277 = .ok (.aload_n 0, 1) := by decide +kernel
theorem d_Model_importItem_278 : decode prog_14_method_17_code 278 = .ok (.dup, 1) := by decide +kernel
theorem d_Model_importItem_279 : decode prog_14_method_17_code 279 = .ok (.getfield 77, 3) := by decide +kernel
theorem d_Model_importItem_282 : decode prog_14_method_17_code 282 = .ok (.aload_n 0, 1) := by decide +kernel
theorem d_Model_importItem_283 : decode prog_14_method_17_code 283 = .ok (.getfield 16, 3) := by decide +kernel
theorem d_Model_importItem_286 : decode prog_14_method_17_code 286 = .ok (.getfield 107, 3) := by decide +kernel
theorem d_Model_importItem_289 : decode prog_14_method_17_code 289 = .ok (.bipush 30, 2) := by decide +kernel
theorem d_Model_importItem_291 : decode prog_14_method_17_code 291 = .ok (.if_icmp .le 7, 3) := by decide +kernel
theorem d_Model_importItem_298 : decode prog_14_method_17_code 298 = .ok (.iconst 0, 1) := by decide +kernel
theorem d_Model_importItem_299 : decode prog_14_method_17_code 299 = .ok (.ior, 1) := by decide +kernel
theorem d_Model_importItem_300 : decode prog_14_method_17_code 300 = .ok (.putfield 77, 3) := by decide +kernel
theorem d_Model_importItem_303 : decode prog_14_method_17_code 303 = .ok (.return_, 1) := by decide +kernel
theorem d_Model_importItem_294 : decode prog_14_method_17_code 294 = .ok (.iconst 1, 1) := by decide +kernel
theorem d_Model_importItem_295 : decode prog_14_method_17_code 295 = .ok (.goto 4, 3) := by decide +kernel
theorem d_Model_importItem_180 : decode prog_14_method_17_code 180 = .ok (.aload_n 0, 1) := by decide +kernel
theorem d_Model_importItem_181 : decode prog_14_method_17_code 181 = .ok (.invokevirtual 64, 3) := by decide +kernel
theorem d_Model_importItem_184 : decode prog_14_method_17_code 184 = .ok (.bipush 112, 2) := by decide +kernel
theorem d_Model_importItem_186 : decode prog_14_method_17_code 186 = .ok (.if_icmp .eq 12, 3) := by decide +kernel
theorem d_Model_importItem_227 : decode prog_14_method_17_code 227 = .ok (.iconst 1, 1) := by decide +kernel
theorem d_Model_importItem_228 : decode prog_14_method_17_code 228 = .ok (.goto 4, 3) := by decide +kernel
theorem d_Model_importItem_189 : decode prog_14_method_17_code 189 = .ok (.new 56, 3) := by decide +kernel
theorem d_Model_importItem_192 : decode prog_14_method_17_code 192 = .ok (.dup, 1) := by decide +kernel
theorem d_Model_importItem_193 : decode prog_14_method_17_code 193 = .ok (.iconst 1, 1) := by decide +kernel
theorem d_Model_importItem_194 : decode prog_14_method_17_code 194 = .ok (.invokespecial 58, 3) := by decide +kernel
theorem d_Model_importItem_197 : decode prog_14_method_17_code 197 = .ok (.athrow, 1) := by decide +kernel
theorem d_Model_importItem_145 : decode prog_14_method_17_code 145 = .ok (.aload_n 0, 1) := by decide +kernel
theorem d_Model_importItem_146 : decode prog_14_method_17_code 146 = .ok (.invokevirtual 179, 3) := by decide +kernel
theorem d_Model_importItem_149 : decode prog_14_method_17_code 149 = .ok (.istore 7, 2) := by decide +kernel
theorem d_Model_importItem_151 : decode prog_14_method_17_code 151 = .ok (.aload_n 0, 1) := by decide +kernel
theorem d_Model_importItem_152 : decode prog_14_method_17_code 152 = .ok (.invokevirtual 86, 3) := by decide +kernel
theorem d_Model_importItem_155 : decode prog_14_method_17_code 155 = .ok (.istore 10, 2) := by decide +kernel
theorem d_Model_importItem_157 : decode prog_14_method_17_code 157 = .ok (.iload 10, 2) := by decide +kernel
theorem d_Model_importItem_159 : decode prog_14_method_17_code 159 = .ok (.i2l, 1) := by decide +kernel
theorem d_Model_importItem_160 : decode prog_14_method_17_code 160 = .ok (.lstore 8, 2) := by decide +kernel
theorem d_Model_importItem_162 : decode prog_14_method_17_code 162 = .ok (.aload_n 0, 1) := by decide +kernel
theorem d_Model_importItem_163 : decode prog_14_method_17_code 163 = .ok (.iload 7, 2) := by decide +kernel
theorem d_Model_importItem_165 : decode prog_14_method_17_code 165 = .ok (.iload 10, 2) := by decide +kernel
theorem d_Model_importItem_167 : decode prog_14_method_17_code 167 = .ok (.iload_n 1, 1) := by decide +kernel
theorem d_Model_importItem_168 : decode prog_14_method_17_code 168 = .ok (.invokevirtual 198, 3) := by decide +kernel
theorem nm_Model_global : x_nm y_Model_global 3 = true := by decide +kernel
theorem d_Model_importItem_171 : decode prog_14_method_17_code 171 = .ok (.goto 65, 3) := by decide +kernel
theorem d_Model_importItem_120 : decode prog_14_method_17_code 120 = .ok (.aload_n 0, 1) := by decide +kernel
theorem d_Model_importItem_121 : decode prog_14_method_17_code 121 = .ok (.invokevirtual 68, 3) := by decide +kernel
theorem d_Model_importItem_124 : decode prog_14_method_17_code 124 = .ok (.invokestatic 150, 3) := by decide +kernel
theorem d_Model_importItem_127 : decode prog_14_method_17_code 127 = .ok (.istore 7, 2) := by decide +kernel
theorem d_Model_importItem_129 : decode prog_14_method_17_code 129 = .ok (.aload_n 0, 1) := by decide +kernel
theorem d_Model_importItem_130 : decode prog_14_method_17_code 130 = .ok (.iload 7, 2) := by decide +kernel
theorem d_Model_importItem_132 : decode prog_14_method_17_code 132 = .ok (.iload_n 1, 1) := by decide +kernel
theorem d_Model_importItem_133 : decode prog_14_method_17_code 133 = .ok (.invokevirtual 163, 3) := by decide +kernel
theorem nm_Model_functionItem : x_nm y_Model_functionItem 2 = true := by decide +kernel
theorem d_Model_importItem_136 : decode prog_14_method_17_code 136 = .ok (.goto 100, 3) := by decide +kernel
theorem d_Model_importItem_59 : decode prog_14_method_17_code 59 = .ok (.aload_n 0, 1) := by decide +kernel
theorem d_Model_importItem_60 : decode prog_14_method_17_code 60 = .ok (.getfield 16, 3) := by decide +kernel
theorem d_Model_importItem_63 : decode prog_14_method_17_code 63 = .ok (.getfield 263, 3) := by decide +kernel
theorem d_Model_importItem_66 : decode prog_14_method_17_code 66 = .ok (.iload_n 1, 1) := by decide +kernel
theorem d_Model_importItem_67 : decode prog_14_method_17_code 67 = .ok (.iload_n 3, 1) := by decide +kernel
theorem d_Model_importItem_68 : decode prog_14_method_17_code 68 = .ok (.iastore, 1) := by decide +kernel
theorem d_Model_importItem_69 : decode prog_14_method_17_code 69 = .ok (.aload_n 0, 1) := by decide +kernel
theorem d_Model_importItem_70 : decode prog_14_method_17_code 70 = .ok (.getfield 16, 3) := by decide +kernel
theorem d_Model_importItem_73 : decode prog_14_method_17_code 73 = .ok (.getfield 266, 3) := by decide +kernel
theorem d_Model_importItem_76 : decode prog_14_method_17_code 76 = .ok (.iload_n 1, 1) := by decide +kernel
theorem d_Model_importItem_77 : decode prog_14_method_17_code 77 = .ok (.iload_n 2, 1) := by decide +kernel
theorem d_Model_importItem_78 : decode prog_14_method_17_code 78 = .ok (.iastore, 1) := by decide +kernel
theorem d_Model_importItem_79 : decode prog_14_method_17_code 79 = .ok (.aload_n 0, 1) := by decide +kernel
theorem d_Model_importItem_80 : decode prog_14_method_17_code 80 = .ok (.getfield 16, 3) := by decide +kernel
theorem d_Model_importItem_83 : decode prog_14_method_17_code 83 = .ok (.getfield 269, 3) := by decide +kernel
theorem d_Model_importItem_86 : decode prog_14_method_17_code 86 = .ok (.iload_n 1, 1) := by decide +kernel
theorem d_Model_importItem_87 : decode prog_14_method_17_code 87 = .ok (.iload 5, 2) := by decide +kernel
theorem d_Model_importItem_89 : decode prog_14_method_17_code 89 = .ok (.iastore, 1) := by decide +kernel
theorem d_Model_importItem_90 : decode prog_14_method_17_code 90 = .ok (.aload_n 0, 1) := by decide +kernel
theorem d_Model_importItem_91 : decode prog_14_method_17_code 91 = .ok (.getfield 16, 3) := by decide +kernel
theorem d_Model_importItem_94 : decode prog_14_method_17_code 94 = .ok (.getfield 272, 3) := by decide +kernel
theorem d_Model_importItem_97 : decode prog_14_method_17_code 97 = .ok (.iload_n 1, 1) := by decide +kernel
theorem d_Model_importItem_98 : decode prog_14_method_17_code 98 = .ok (.iload 4, 2) := by decide +kernel
theorem d_Model_importItem_100 : decode prog_14_method_17_code 100 = .ok (.iastore, 1) := by decide +kernel
theorem d_Model_importItem_101 : decode prog_14_method_17_code 101 = .ok (.aload_n 0, 1) := by decide +kernel
theorem d_Model_importItem_102 : decode prog_14_method_17_code 102 = .ok (.getfield 16, 3) := by decide +kernel
theorem d_Model_importItem_105 : decode prog_14_method_17_code 105 = .ok (.getfield 275, 3) := by decide +kernel
theorem d_Model_importItem_108 : decode prog_14_method_17_code 108 = .ok (.iload_n 1, 1) := by decide +kernel
theorem d_Model_importItem_109 : decode prog_14_method_17_code 109 = .ok (.iload 6, 2) := by decide +kernel
theorem d_Model_importItem_111 : decode prog_14_method_17_code 111 = .ok (.iastore, 1) := by decide +kernel
theorem d_Model_importItem_242 : decode prog_14_method_17_code 242 = .ok (.aload_n 0, 1) := by decide +kernel
theorem d_Model_importItem_243 : decode prog_14_method_17_code 243 = .ok (.getfield 16, 3) := by decide +kernel
theorem d_Model_importItem_246 : decode prog_14_method_17_code 246 = .ok (.getfield 282, 3) := by decide +kernel
theorem d_Model_importItem_249 : decode prog_14_method_17_code 249 = .ok (.iload_n 1, 1) := by decide +kernel
theorem d_Model_importItem_250 : decode prog_14_method_17_code 250 = .ok (.iload 7, 2) := by decide +kernel
theorem d_Model_importItem_252 : decode prog_14_method_17_code 252 = .ok (.iastore, 1) := by decide +kernel
theorem d_Model_importItem_253 : decode prog_14_method_17_code 253 = .ok (.aload_n 0, 1) := by decide +kernel
theorem d_Model_importItem_254 : decode prog_14_method_17_code 254 = .ok (.getfield 16, 3) := by decide +kernel
theorem d_Model_importItem_257 : decode prog_14_method_17_code 257 = .ok (.getfield 285, 3) := by decide +kernel
theorem d_Model_importItem_260 : decode prog_14_method_17_code 260 = .ok (.iload_n 1, 1) := by decide +kernel
theorem d_Model_importItem_261 : decode prog_14_method_17_code 261 = .ok (.lload 8, 2) := by decide +kernel
theorem d_Model_importItem_263 : decode prog_14_method_17_code 263 = .ok (.lastore, 1) := by decide +kernel
theorem d_Model_importItem_44 : decode prog_14_method_17_code 44 = .ok (.new 56, 3) := by decide +kernel
theorem d_Model_importItem_47 : decode prog_14_method_17_code 47 = .ok (.dup, 1) := by decide +kernel
theorem d_Model_importItem_48 : decode prog_14_method_17_code 48 = .ok (.iconst 1, 1) := by decide +kernel
theorem d_Model_importItem_49 : decode prog_14_method_17_code 49 = .ok (.invokespecial 58, 3) := by decide +kernel
theorem d_Model_importItem_52 : decode prog_14_method_17_code 52 = .ok (.athrow, 1) := by decide +kernel
theorem d_Model_element_0 : decode prog_14_method_19_code 0 = .ok (.aload_n 0, 1) := by decide +kernel
theorem d_Model_element_1 : decode prog_14_method_19_code 1 = .ok (.invokevirtual 68, 3) := by decide +kernel
theorem d_Model_element_4 : decode prog_14_method_19_code 4 = .ok (.invokestatic 150, 3) := by decide +kernel
theorem d_Model_element_7 : decode prog_14_method_19_code 7 = .ok (.istore_n 1, 1) := by decide +kernel
theorem d_Model_element_8 : decode prog_14_method_19_code 8 = .ok (.aload_n 0, 1) := by decide +kernel
theorem d_Model_element_9 : decode prog_14_method_19_code 9 = .ok (.getfield 16, 3) := by decide +kernel
theorem d_Model_element_12 : decode prog_14_method_19_code 12 = .ok (.getfield 128, 3) := by decide +kernel
theorem d_Model_element_15 : decode prog_14_method_19_code 15 = .ok (.istore_n 2, 1) := by decide +kernel
theorem d_Model_element_16 : decode prog_14_method_19_code 16 = .ok (.aload_n 0, 1) := by decide +kernel
theorem d_Model_element_17 : decode prog_14_method_19_code 17 = .ok (.invokevirtual 182, 3) := by decide +kernel
theorem nm_Model_initial : x_nm y_Model_initial 0 = true := by decide +kernel
theorem d_Model_element_20 : decode prog_14_method_19_code 20 = .ok (.aload_n 0, 1) := by decide +kernel
theorem d_Model_element_21 : decode prog_14_method_19_code 21 = .ok (.invokevirtual 68, 3) := by decide +kernel
theorem d_Model_element_24 : decode prog_14_method_19_code 24 = .ok (.lstore_n 3, 1) := by decide +kernel
theorem d_Model_element_25 : decode prog_14_method_19_code 25 = .ok (.aload_n 0, 1) := by decide +kernel
theorem d_Model_element_26 : decode prog_14_method_19_code 26 = .ok (.getfield 50, 3) := by decide +kernel
theorem d_Model_element_29 : decode prog_14_method_19_code 29 = .ok (.istore 5, 2) := by decide +kernel
theorem d_Model_element_31 : decode prog_14_method_19_code 31 = .ok (.lconst 0, 1) := by decide +kernel
theorem d_Model_element_32 : decode prog_14_method_19_code 32 = .ok (.lstore 6, 2) := by decide +kernel
theorem d_Model_element_34 : decode prog_14_method_19_code 34 = .ok (.lload 6, 2) := by decide +kernel
theorem d_Model_element_36 : decode prog_14_method_19_code 36 = .ok (.lload_n 3, 1) := by decide +kernel
theorem d_Model_element_37 : decode prog_14_method_19_code 37 = .ok (.lcmp, 1) := by decide +kernel
theorem d_Model_element_38 : decode prog_14_method_19_code 38 = .ok (.ifCond .ge 17, 3) := by decide +kernel
theorem d_Model_element_55 : decode prog_14_method_19_code 55 = .ok (.iload_n 2, 1) := by decide +kernel
theorem d_Model_element_56 : decode prog_14_method_19_code 56 = .ok (.bipush 20, 2) := by decide +kernel
theorem d_Model_element_58 : decode prog_14_method_19_code 58 = .ok (.if_icmp .ge 63, 3) := by decide +kernel
theorem d_Model_element_121 : decode prog_14_method_19_code 121 = .ok (.aload_n 0, 1) := by decide +kernel
theorem d_Model_element_122 : decode prog_14_method_19_code 122 = .ok (.getfield 16, 3) := by decide +kernel
theorem d_Model_element_125 : decode prog_14_method_19_code 125 = .ok (.dup, 1) := by decide +kernel
theorem d_Model_element_126 : decode prog_14_method_19_code 126 = .ok (.getfield 128, 3) := by decide +kernel
theorem d_Model_element_129 : decode prog_14_method_19_code 129 = .ok (.iconst 1, 1) := by decide +kernel
theorem d_Model_element_130 : decode prog_14_method_19_code 130 = .ok (.iadd, 1) := by decide +kernel
theorem d_Model_element_131 : decode prog_14_method_19_code 131 = .ok (.putfield 128, 3) := by decide +kernel
theorem d_Model_element_134 : decode prog_14_method_19_code 134 = .ok (.aload_n 0, 1) := by decide +kernel
theorem d_Model_element_135 : decode prog_14_method_19_code 135 = .ok (.dup, 1) := by decide +kernel
theorem d_Model_element_136 : decode prog_14_method_19_code 136 = .ok (.getfield 77, 3) := by decide +kernel
theorem d_Model_element_139 : decode prog_14_method_19_code 139 = .ok (.aload_n 0, 1) := by decide +kernel
theorem d_Model_element_140 : decode prog_14_method_19_code 140 = .ok (.getfield 16, 3) := by decide +kernel
theorem d_Model_element_143 : decode prog_14_method_19_code 143 = .ok (.getfield 128, 3) := by decide +kernel
theorem d_Model_element_146 : decode prog_14_method_19_code 146 = .ok (.bipush 20, 2) := by decide +kernel
theorem d_Model_element_148 : decode prog_14_method_19_code 148 = .ok (.if_icmp .le 7, 3) := by decide +kernel
theorem d_Model_element_155 : decode prog_14_method_19_code 155 = .ok (.iconst 0, 1) := by decide +kernel
theorem d_Model_element_156 : decode prog_14_method_19_code 156 = .ok (.ior, 1) := by decide +kernel
theorem d_Model_element_157 : decode prog_14_method_19_code 157 = .ok (.putfield 77, 3) := by decide +kernel
theorem d_Model_element_160 : decode prog_14_method_19_code 160 = .ok (.return_, 1) := by decide +kernel
theorem d_Model_element_151 : decode prog_14_method_19_code 151 = .ok (.iconst 1, 1) := by decide +kernel
theorem d_Model_element_152 : decode prog_14_method_19_code 152 = .ok (.goto 4, 3) := by decide +kernel
theorem d_Model_element_61 : decode prog_14_method_19_code 61 = .ok (.aload_n 0, 1) := by decide +kernel
theorem d_Model_element_62 : decode prog_14_method_19_code 62 = .ok (.getfield 16, 3) := by decide +kernel
theorem d_Model_element_65 : decode prog_14_method_19_code 65 = .ok (.getfield 292, 3) := by decide +kernel
theorem d_Model_element_68 : decode prog_14_method_19_code 68 = .ok (.iload_n 2, 1) := by decide +kernel
theorem d_Model_element_69 : decode prog_14_method_19_code 69 = .ok (.iload_n 1, 1) := by decide +kernel
theorem d_Model_element_70 : decode prog_14_method_19_code 70 = .ok (.iastore, 1) := by decide +kernel
theorem d_Model_element_71 : decode prog_14_method_19_code 71 = .ok (.aload_n 0, 1) := by decide +kernel
theorem d_Model_element_72 : decode prog_14_method_19_code 72 = .ok (.getfield 16, 3) := by decide +kernel
theorem d_Model_element_75 : decode prog_14_method_19_code 75 = .ok (.getfield 295, 3) := by decide +kernel
theorem d_Model_element_78 : decode prog_14_method_19_code 78 = .ok (.iload_n 2, 1) := by decide +kernel
theorem d_Model_element_79 : decode prog_14_method_19_code 79 = .ok (.aload_n 0, 1) := by decide +kernel
theorem d_Model_element_80 : decode prog_14_method_19_code 80 = .ok (.getfield 188, 3) := by decide +kernel
theorem d_Model_element_83 : decode prog_14_method_19_code 83 = .ok (.iastore, 1) := by decide +kernel
theorem d_Model_element_84 : decode prog_14_method_19_code 84 = .ok (.aload_n 0, 1) := by decide +kernel
theorem d_Model_element_85 : decode prog_14_method_19_code 85 = .ok (.getfield 16, 3) := by decide +kernel
theorem d_Model_element_88 : decode prog_14_method_19_code 88 = .ok (.getfield 298, 3) := by decide +kernel
theorem d_Model_element_91 : decode prog_14_method_19_code 91 = .ok (.iload_n 2, 1) := by decide +kernel
theorem d_Model_element_92 : decode prog_14_method_19_code 92 = .ok (.aload_n 0, 1) := by decide +kernel
theorem d_Model_element_93 : decode prog_14_method_19_code 93 = .ok (.getfield 195, 3) := by decide +kernel
theorem d_Model_element_96 : decode prog_14_method_19_code 96 = .ok (.lastore, 1) := by decide +kernel
theorem d_Model_element_97 : decode prog_14_method_19_code 97 = .ok (.aload_n 0, 1) := by decide +kernel
theorem d_Model_element_98 : decode prog_14_method_19_code 98 = .ok (.getfield 16, 3) := by decide +kernel
theorem d_Model_element_101 : decode prog_14_method_19_code 101 = .ok (.getfield 301, 3) := by decide +kernel
theorem d_Model_element_104 : decode prog_14_method_19_code 104 = .ok (.iload_n 2, 1) := by decide +kernel
theorem d_Model_element_105 : decode prog_14_method_19_code 105 = .ok (.lload_n 3, 1) := by decide +kernel
theorem d_Model_element_106 : decode prog_14_method_19_code 106 = .ok (.invokestatic 150, 3) := by decide +kernel
theorem d_Model_element_109 : decode prog_14_method_19_code 109 = .ok (.iastore, 1) := by decide +kernel
theorem d_Model_element_110 : decode prog_14_method_19_code 110 = .ok (.aload_n 0, 1) := by decide +kernel
theorem d_Model_element_111 : decode prog_14_method_19_code 111 = .ok (.getfield 16, 3) := by decide +kernel
theorem d_Model_element_114 : decode prog_14_method_19_code 114 = .ok (.getfield 304, 3) := by decide +kernel
theorem d_Model_element_117 : decode prog_14_method_19_code 117 = .ok (.iload_n 2, 1) := by decide +kernel
theorem d_Model_element_118 : decode prog_14_method_19_code 118 = .ok (.iload 5, 2) := by decide +kernel
theorem d_Model_element_120 : decode prog_14_method_19_code 120 = .ok (.iastore, 1) := by decide +kernel
theorem d_Model_element_41 : decode prog_14_method_19_code 41 = .ok (.aload_n 0, 1) := by decide +kernel
theorem d_Model_element_42 : decode prog_14_method_19_code 42 = .ok (.invokevirtual 68, 3) := by decide +kernel
theorem d_Model_element_45 : decode prog_14_method_19_code 45 = .ok (.pop2, 1) := by decide +kernel
theorem d_Model_element_46 : decode prog_14_method_19_code 46 = .ok (.lload 6, 2) := by decide +kernel
theorem d_Model_element_48 : decode prog_14_method_19_code 48 = .ok (.lconst 1, 1) := by decide +kernel
theorem d_Model_element_49 : decode prog_14_method_19_code 49 = .ok (.ladd, 1) := by decide +kernel
theorem d_Model_element_50 : decode prog_14_method_19_code 50 = .ok (.lstore 6, 2) := by decide +kernel
theorem d_Model_element_52 : decode prog_14_method_19_code 52 = .ok (.goto (-18), 3) := by decide +kernel
theorem d_Model_data_0 : decode prog_14_method_20_code 0 = .ok (.aload_n 0, 1) := by decide +kernel
theorem d_Model_data_1 : decode prog_14_method_20_code 1 = .ok (.invokevirtual 68, 3) := by decide +kernel
theorem d_Model_data_4 : decode prog_14_method_20_code 4 = .ok (.invokestatic 150, 3) := by decide +kernel
theorem d_Model_data_7 : decode prog_14_method_20_code 7 = .ok (.istore_n 1, 1) := by decide +kernel
theorem d_Model_data_8 : decode prog_14_method_20_code 8 = .ok (.aload_n 0, 1) := by decide +kernel
theorem d_Model_data_9 : decode prog_14_method_20_code 9 = .ok (.getfield 16, 3) := by decide +kernel
theorem d_Model_data_12 : decode prog_14_method_20_code 12 = .ok (.getfield 131, 3) := by decide +kernel
theorem d_Model_data_15 : decode prog_14_method_20_code 15 = .ok (.istore_n 2, 1) := by decide +kernel
theorem d_Model_data_16 : decode prog_14_method_20_code 16 = .ok (.aload_n 0, 1) := by decide +kernel
theorem d_Model_data_17 : decode prog_14_method_20_code 17 = .ok (.invokevirtual 182, 3) := by decide +kernel
theorem d_Model_data_20 : decode prog_14_method_20_code 20 = .ok (.aload_n 0, 1) := by decide +kernel
theorem d_Model_data_21 : decode prog_14_method_20_code 21 = .ok (.invokevirtual 68, 3) := by decide +kernel
theorem d_Model_data_24 : decode prog_14_method_20_code 24 = .ok (.lstore_n 3, 1) := by decide +kernel
theorem d_Model_data_25 : decode prog_14_method_20_code 25 = .ok (.lload_n 3, 1) := by decide +kernel
theorem d_Model_data_26 : decode prog_14_method_20_code 26 = .ok (.aload_n 0, 1) := by decide +kernel
theorem d_Model_data_27 : decode prog_14_method_20_code 27 = .ok (.getfield 53, 3) := by decide +kernel
theorem d_Model_data_30 : decode prog_14_method_20_code 30 = .ok (.aload_n 0, 1) := by decide +kernel
theorem d_Model_data_31 : decode prog_14_method_20_code 31 = .ok (.getfield 50, 3) := by decide +kernel
theorem d_Model_data_34 : decode prog_14_method_20_code 34 = .ok (.isub, 1) := by decide +kernel
theorem d_Model_data_35 : decode prog_14_method_20_code 35 = .ok (.i2l, 1) := by decide +kernel
theorem d_Model_data_36 : decode prog_14_method_20_code 36 = .ok (.lcmp, 1) := by decide +kernel
theorem d_Model_data_37 : decode prog_14_method_20_code 37 = .ok (.ifCond .le 12, 3) := by decide +kernel
theorem d_Model_data_49 : decode prog_14_method_20_code 49 = .ok (.iload_n 2, 1) := by decide +kernel
theorem d_Model_data_50 : decode prog_14_method_20_code 50 = .ok (.bipush 20, 2) := by decide +kernel
theorem d_Model_data_52 : decode prog_14_method_20_code 52 = .ok (.if_icmp .ge 63, 3) := by decide +kernel
theorem d_Model_data_115 : decode prog_14_method_20_code 115 = .ok (.aload_n 0, 1) := by decide +kernel
theorem d_Model_data_116 : decode prog_14_method_20_code 116 = .ok (.dup, 1) := by decide +kernel
theorem d_Model_data_117 : decode prog_14_method_20_code 117 = .ok (.getfield 50, 3) := by decide +kernel
theorem d_Model_data_120 : decode prog_14_method_20_code 120 = .ok (.lload_n 3, 1) := by decide +kernel
theorem d_Model_data_121 : decode prog_14_method_20_code 121 = .ok (.l2i, 1) := by decide +kernel
theorem d_Model_data_122 : decode prog_14_method_20_code 122 = .ok (.iadd, 1) := by decide +kernel
theorem d_Model_data_123 : decode prog_14_method_20_code 123 = .ok (.putfield 50, 3) := by decide +kernel
theorem d_Model_data_126 : decode prog_14_method_20_code 126 = .ok (.aload_n 0, 1) := by decide +kernel
theorem d_Model_data_127 : decode prog_14_method_20_code 127 = .ok (.getfield 16, 3) := by decide +kernel
theorem d_Model_data_130 : decode prog_14_method_20_code 130 = .ok (.dup, 1) := by decide +kernel
theorem d_Model_data_131 : decode prog_14_method_20_code 131 = .ok (.getfield 131, 3) := by decide +kernel
theorem d_Model_data_134 : decode prog_14_method_20_code 134 = .ok (.iconst 1, 1) := by decide +kernel
theorem d_Model_data_135 : decode prog_14_method_20_code 135 = .ok (.iadd, 1) := by decide +kernel
theorem d_Model_data_136 : decode prog_14_method_20_code 136 = .ok (.putfield 131, 3) := by decide +kernel
theorem d_Model_data_139 : decode prog_14_method_20_code 139 = .ok (.aload_n 0, 1) := by decide +kernel
theorem d_Model_data_140 : decode prog_14_method_20_code 140 = .ok (.dup, 1) := by decide +kernel
theorem d_Model_data_141 : decode prog_14_method_20_code 141 = .ok (.getfield 77, 3) := by decide +kernel
theorem d_Model_data_144 : decode prog_14_method_20_code 144 = .ok (.aload_n 0, 1) := by decide +kernel
theorem d_Model_data_145 : decode prog_14_method_20_code 145 = .ok (.getfield 16, 3) := by decide +kernel
theorem d_Model_data_148 : decode prog_14_method_20_code 148 = .ok (.getfield 131, 3) := by decide +kernel
theorem d_Model_data_151 : decode prog_14_method_20_code 151 = .ok (.bipush 20, 2) := by decide +kernel
theorem d_Model_data_153 : decode prog_14_method_20_code 153 = .ok (.if_icmp .le 7, 3) := by decide +kernel
theorem d_Model_data_160 : decode prog_14_method_20_code 160 = .ok (.iconst 0, 1) := by decide +kernel
theorem d_Model_data_161 : decode prog_14_method_20_code 161 = .ok (.ior, 1) := by decide +kernel
theorem d_Model_data_162 : decode prog_14_method_20_code 162 = .ok (.putfield 77, 3) := by decide +kernel
theorem d_Model_data_165 : decode prog_14_method_20_code 165 = .ok (.return_, 1) := by decide +kernel
theorem d_Model_data_156 : decode prog_14_method_20_code 156 = .ok (.iconst 1, 1) := by decide +kernel
theorem d_Model_data_157 : decode prog_14_method_20_code 157 = .ok (.goto 4, 3) := by decide +kernel
theorem d_Model_data_55 : decode prog_14_method_20_code 55 = .ok (.aload_n 0, 1) := by decide +kernel
theorem d_Model_data_56 : decode prog_14_method_20_code 56 = .ok (.getfield 16, 3) := by decide +kernel
theorem d_Model_data_59 : decode prog_14_method_20_code 59 = .ok (.getfield 307, 3) := by decide +kernel
theorem d_Model_data_62 : decode prog_14_method_20_code 62 = .ok (.iload_n 2, 1) := by decide +kernel
theorem d_Model_data_63 : decode prog_14_method_20_code 63 = .ok (.iload_n 1, 1) := by decide +kernel
theorem d_Model_data_64 : decode prog_14_method_20_code 64 = .ok (.iastore, 1) := by decide +kernel
theorem d_Model_data_65 : decode prog_14_method_20_code 65 = .ok (.aload_n 0, 1) := by decide +kernel
theorem d_Model_data_66 : decode prog_14_method_20_code 66 = .ok (.getfield 16, 3) := by decide +kernel
theorem d_Model_data_69 : decode prog_14_method_20_code 69 = .ok (.getfield 310, 3) := by decide +kernel
theorem d_Model_data_72 : decode prog_14_method_20_code 72 = .ok (.iload_n 2, 1) := by decide +kernel
theorem d_Model_data_73 : decode prog_14_method_20_code 73 = .ok (.aload_n 0, 1) := by decide +kernel
theorem d_Model_data_74 : decode prog_14_method_20_code 74 = .ok (.getfield 188, 3) := by decide +kernel
theorem d_Model_data_77 : decode prog_14_method_20_code 77 = .ok (.iastore, 1) := by decide +kernel
theorem d_Model_data_78 : decode prog_14_method_20_code 78 = .ok (.aload_n 0, 1) := by decide +kernel
theorem d_Model_data_79 : decode prog_14_method_20_code 79 = .ok (.getfield 16, 3) := by decide +kernel
theorem d_Model_data_82 : decode prog_14_method_20_code 82 = .ok (.getfield 313, 3) := by decide +kernel
theorem d_Model_data_85 : decode prog_14_method_20_code 85 = .ok (.iload_n 2, 1) := by decide +kernel
theorem d_Model_data_86 : decode prog_14_method_20_code 86 = .ok (.aload_n 0, 1) := by decide +kernel
theorem d_Model_data_87 : decode prog_14_method_20_code 87 = .ok (.getfield 195, 3) := by decide +kernel
theorem d_Model_data_90 : decode prog_14_method_20_code 90 = .ok (.lastore, 1) := by decide +kernel
theorem d_Model_data_91 : decode prog_14_method_20_code 91 = .ok (.aload_n 0, 1) := by decide +kernel
theorem d_Model_data_92 : decode prog_14_method_20_code 92 = .ok (.getfield 16, 3) := by decide +kernel
theorem d_Model_data_95 : decode prog_14_method_20_code 95 = .ok (.getfield 316, 3) := by decide +kernel
theorem d_Model_data_98 : decode prog_14_method_20_code 98 = .ok (.iload_n 2, 1) := by decide +kernel
theorem d_Model_data_99 : decode prog_14_method_20_code 99 = .ok (.lload_n 3, 1) := by decide +kernel
theorem d_Model_data_100 : decode prog_14_method_20_code 100 = .ok (.l2i, 1) := by decide +kernel
theorem d_Model_data_101 : decode prog_14_method_20_code 101 = .ok (.iastore, 1) := by decide +kernel
theorem d_Model_data_102 : decode prog_14_method_20_code 102 = .ok (.aload_n 0, 1) := by decide +kernel
theorem d_Model_data_103 : decode prog_14_method_20_code 103 = .ok (.getfield 16, 3) := by decide +kernel
theorem d_Model_data_106 : decode prog_14_method_20_code 106 = .ok (.getfield 319, 3) := by decide +kernel
theorem d_Model_data_109 : decode prog_14_method_20_code 109 = .ok (.iload_n 2, 1) := by decide +kernel
theorem d_Model_data_110 : decode prog_14_method_20_code 110 = .ok (.aload_n 0, 1) := by decide +kernel
theorem d_Model_data_111 : decode prog_14_method_20_code 111 = .ok (.getfield 50, 3) := by decide +kernel
theorem d_Model_data_114 : decode prog_14_method_20_code 114 = .ok (.iastore, 1) := by decide +kernel
theorem d_Model_data_40 : decode prog_14_method_20_code 40 = .ok (.new 56, 3) := by decide +kernel
theorem d_Model_data_43 : decode prog_14_method_20_code 43 = .ok (.dup, 1) := by decide +kernel
theorem d_Model_data_44 : decode prog_14_method_20_code 44 = .ok (.iconst 1, 1) := by decide +kernel
theorem d_Model_data_45 : decode prog_14_method_20_code 45 = .ok (.invokespecial 58, 3) := by decide +kernel
theorem d_Model_data_48 : decode prog_14_method_20_code 48 = .ok (.athrow, 1) := by decide +kernel
