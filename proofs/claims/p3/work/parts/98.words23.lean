def y_Law_law : MethodName := ⟨"WasmReaderLaw", "law", "([I)Z"⟩
theorem m_1069 : Cond.classLink "WasmReaderLaw" 8 "WasmReader" ∈ xtb := x_in (List.mem_of_getElem? (i := 111) (by decide +kernel)) (by decide +kernel)
theorem m_1070 : Cond.instantiable "WasmReader" 5 ∈ xtb := x_in (List.mem_of_getElem? (i := 112) (by decide +kernel)) (by decide +kernel)
theorem m_1071 : Cond.methodLink "WasmReaderLaw" 40 y_Reader_init ∈ xtb := x_in (List.mem_of_getElem? (i := 113) (by decide +kernel)) (by decide +kernel)
theorem m_1072 : Cond.code y_Reader_init prog_1_method_1_code 1 none ∈ xtb := x_in (List.mem_of_getElem? (i := 115) (by decide +kernel)) (by decide +kernel)
theorem m_1073 : Cond.instanceMethod y_Reader_init ∈ xtb := x_in (List.mem_of_getElem? (i := 114) (by decide +kernel)) (by decide +kernel)
theorem m_1074 : Cond.classLink "WasmReaderLaw" 41 "WasmReaderModel" ∈ xtb := x_in (List.mem_of_getElem? (i := 1099) (by decide +kernel)) (by decide +kernel)
theorem m_1075 : Cond.instantiable "WasmReaderModel" 24 ∈ xtb := x_in (List.mem_of_getElem? (i := 1100) (by decide +kernel)) (by decide +kernel)
theorem m_1076 : Cond.methodLink "WasmReaderLaw" 43 y_Model_init ∈ xtb := x_in (List.mem_of_getElem? (i := 1101) (by decide +kernel)) (by decide +kernel)
theorem m_1077 : Cond.code y_Model_init prog_14_method_1_code 1 none ∈ xtb := x_in (List.mem_of_getElem? (i := 1103) (by decide +kernel)) (by decide +kernel)
theorem m_1078 : Cond.instanceMethod y_Model_init ∈ xtb := x_in (List.mem_of_getElem? (i := 1102) (by decide +kernel)) (by decide +kernel)
theorem m_1079 : Cond.codeWith y_Law_feed method_3_code 8 (some .int) [(0, 16, 19, 13)] ∈ xtb := x_in (List.mem_of_getElem? (i := 940) (by decide +kernel)) (by decide +kernel)
theorem m_1080 : Cond.initialized "WasmReaderLaw" ∈ xtb := x_in (List.mem_of_getElem? (i := 87) (by decide +kernel)) (by decide +kernel)
theorem m_1081 : Cond.methodLink "WasmReaderLaw" 44 y_Law_feed ∈ xtb := x_in (List.mem_of_getElem? (i := 938) (by decide +kernel)) (by decide +kernel)
theorem m_1082 : Cond.static y_Law_feed ∈ xtb := x_in (List.mem_of_getElem? (i := 939) (by decide +kernel)) (by decide +kernel)
theorem m_1083 : Cond.methodLink "WasmReaderLaw" 49 y_Model_feed ∈ xtb := x_in (List.mem_of_getElem? (i := 1398) (by decide +kernel)) (by decide +kernel)
theorem m_1084 : Cond.code y_Model_feed prog_14_method_41_code 6 (some .int) ∈ xtb := x_in (List.mem_of_getElem? (i := 1401) (by decide +kernel)) (by decide +kernel)
theorem m_1085 : Cond.instanceMethod y_Model_feed ∈ xtb := x_in (List.mem_of_getElem? (i := 1399) (by decide +kernel)) (by decide +kernel)
theorem m_1086 : Cond.selects "WasmReaderModel" y_Model_feed y_Model_feed ∈ xtb := x_in (List.mem_of_getElem? (i := 1400) (by decide +kernel)) (by decide +kernel)
theorem m_1087 : Cond.codeWith y_Law_end method_4_code 4 (some .int) [(0, 9, 12, 19)] ∈ xtb := x_in (List.mem_of_getElem? (i := 1017) (by decide +kernel)) (by decide +kernel)
theorem m_1088 : Cond.methodLink "WasmReaderLaw" 50 y_Law_end ∈ xtb := x_in (List.mem_of_getElem? (i := 1015) (by decide +kernel)) (by decide +kernel)
theorem m_1089 : Cond.static y_Law_end ∈ xtb := x_in (List.mem_of_getElem? (i := 1016) (by decide +kernel)) (by decide +kernel)
theorem m_1090 : Cond.methodLink "WasmReaderLaw" 53 y_Model_end ∈ xtb := x_in (List.mem_of_getElem? (i := 1406) (by decide +kernel)) (by decide +kernel)
theorem m_1091 : Cond.code y_Model_end prog_14_method_43_code 2 (some .int) ∈ xtb := x_in (List.mem_of_getElem? (i := 1409) (by decide +kernel)) (by decide +kernel)
theorem m_1092 : Cond.instanceMethod y_Model_end ∈ xtb := x_in (List.mem_of_getElem? (i := 1407) (by decide +kernel)) (by decide +kernel)
theorem m_1093 : Cond.selects "WasmReaderModel" y_Model_end y_Model_end ∈ xtb := x_in (List.mem_of_getElem? (i := 1408) (by decide +kernel)) (by decide +kernel)
theorem m_1094 : Cond.methodLink "WasmReaderLaw" 54 y_Model_thrown ∈ xtb := x_in (List.mem_of_getElem? (i := 1394) (by decide +kernel)) (by decide +kernel)
theorem m_1095 : Cond.code y_Model_thrown prog_14_method_2_code 1 (some .int) ∈ xtb := x_in (List.mem_of_getElem? (i := 1397) (by decide +kernel)) (by decide +kernel)
theorem m_1096 : Cond.instanceMethod y_Model_thrown ∈ xtb := x_in (List.mem_of_getElem? (i := 1395) (by decide +kernel)) (by decide +kernel)
theorem m_1097 : Cond.selects "WasmReaderModel" y_Model_thrown y_Model_thrown ∈ xtb := x_in (List.mem_of_getElem? (i := 1396) (by decide +kernel)) (by decide +kernel)
theorem m_1098 : Cond.methodLink "WasmReaderLaw" 58 y_Reader_read ∈ xtb := x_in (List.mem_of_getElem? (i := 466) (by decide +kernel)) (by decide +kernel)
theorem m_1099 : Cond.code y_Reader_read prog_1_method_4_code 3 (some .int) ∈ xtb := x_in (List.mem_of_getElem? (i := 469) (by decide +kernel)) (by decide +kernel)
theorem m_1100 : Cond.instanceMethod y_Reader_read ∈ xtb := x_in (List.mem_of_getElem? (i := 467) (by decide +kernel)) (by decide +kernel)
theorem m_1101 : Cond.selects "WasmReader" y_Reader_read y_Reader_read ∈ xtb := x_in (List.mem_of_getElem? (i := 468) (by decide +kernel)) (by decide +kernel)
theorem m_1102 : Cond.codeWith y_Model_read prog_14_method_45_code 2 (some .int) [(46, 77, 80, 56)] ∈ xtb := x_in (List.mem_of_getElem? (i := 1413) (by decide +kernel)) (by decide +kernel)
theorem m_1103 : Cond.methodLink "WasmReaderLaw" 61 y_Model_read ∈ xtb := x_in (List.mem_of_getElem? (i := 1410) (by decide +kernel)) (by decide +kernel)
theorem m_1104 : Cond.instanceMethod y_Model_read ∈ xtb := x_in (List.mem_of_getElem? (i := 1411) (by decide +kernel)) (by decide +kernel)
theorem m_1105 : Cond.selects "WasmReaderModel" y_Model_read y_Model_read ∈ xtb := x_in (List.mem_of_getElem? (i := 1412) (by decide +kernel)) (by decide +kernel)
theorem m_1106 : Cond.codeWith y_Law_count method_5_code 4 (some .int) [(0, 9, 12, 13), (0, 9, 15, 19)] ∈ xtb := x_in (List.mem_of_getElem? (i := 1040) (by decide +kernel)) (by decide +kernel)
theorem m_1107 : Cond.methodLink "WasmReaderLaw" 62 y_Law_count ∈ xtb := x_in (List.mem_of_getElem? (i := 1038) (by decide +kernel)) (by decide +kernel)
theorem m_1108 : Cond.static y_Law_count ∈ xtb := x_in (List.mem_of_getElem? (i := 1039) (by decide +kernel)) (by decide +kernel)
theorem m_1109 : Cond.methodLink "WasmReaderLaw" 64 y_Model_count ∈ xtb := x_in (List.mem_of_getElem? (i := 1608) (by decide +kernel)) (by decide +kernel)
theorem m_1110 : Cond.code y_Model_count prog_14_method_47_code 2 (some .int) ∈ xtb := x_in (List.mem_of_getElem? (i := 1611) (by decide +kernel)) (by decide +kernel)
theorem m_1111 : Cond.instanceMethod y_Model_count ∈ xtb := x_in (List.mem_of_getElem? (i := 1609) (by decide +kernel)) (by decide +kernel)
theorem m_1112 : Cond.selects "WasmReaderModel" y_Model_count y_Model_count ∈ xtb := x_in (List.mem_of_getElem? (i := 1610) (by decide +kernel)) (by decide +kernel)
theorem m_1113 : Cond.codeWith y_Law_function method_6_code 5 (some .int) [(0, 10, 13, 13), (0, 10, 17, 28), (0, 10, 21, 19)] ∈ xtb := x_in (List.mem_of_getElem? (i := 1047) (by decide +kernel)) (by decide +kernel)
theorem m_1114 : Cond.methodLink "WasmReaderLaw" 65 y_Law_function ∈ xtb := x_in (List.mem_of_getElem? (i := 1045) (by decide +kernel)) (by decide +kernel)
theorem m_1115 : Cond.static y_Law_function ∈ xtb := x_in (List.mem_of_getElem? (i := 1046) (by decide +kernel)) (by decide +kernel)
theorem m_1116 : Cond.methodLink "WasmReaderLaw" 68 y_Model_function ∈ xtb := x_in (List.mem_of_getElem? (i := 1616) (by decide +kernel)) (by decide +kernel)
theorem m_1117 : Cond.code y_Model_function prog_14_method_48_code 8 (some .int) ∈ xtb := x_in (List.mem_of_getElem? (i := 1619) (by decide +kernel)) (by decide +kernel)
theorem m_1118 : Cond.instanceMethod y_Model_function ∈ xtb := x_in (List.mem_of_getElem? (i := 1617) (by decide +kernel)) (by decide +kernel)
theorem m_1119 : Cond.selects "WasmReaderModel" y_Model_function y_Model_function ∈ xtb := x_in (List.mem_of_getElem? (i := 1618) (by decide +kernel)) (by decide +kernel)
theorem m_1120 : Cond.codeWith y_Law_export method_7_code 5 (some .int) [(0, 10, 13, 13), (0, 10, 17, 28), (0, 10, 21, 19)] ∈ xtb := x_in (List.mem_of_getElem? (i := 1073) (by decide +kernel)) (by decide +kernel)
theorem m_1121 : Cond.methodLink "WasmReaderLaw" 69 y_Law_export ∈ xtb := x_in (List.mem_of_getElem? (i := 1071) (by decide +kernel)) (by decide +kernel)
theorem m_1122 : Cond.static y_Law_export ∈ xtb := x_in (List.mem_of_getElem? (i := 1072) (by decide +kernel)) (by decide +kernel)
theorem m_1123 : Cond.methodLink "WasmReaderLaw" 71 y_Model_export ∈ xtb := x_in (List.mem_of_getElem? (i := 1620) (by decide +kernel)) (by decide +kernel)
theorem m_1124 : Cond.code y_Model_export prog_14_method_49_code 3 (some .int) ∈ xtb := x_in (List.mem_of_getElem? (i := 1623) (by decide +kernel)) (by decide +kernel)
theorem m_1125 : Cond.instanceMethod y_Model_export ∈ xtb := x_in (List.mem_of_getElem? (i := 1621) (by decide +kernel)) (by decide +kernel)
theorem m_1126 : Cond.selects "WasmReaderModel" y_Model_export y_Model_export ∈ xtb := x_in (List.mem_of_getElem? (i := 1622) (by decide +kernel)) (by decide +kernel)
theorem m_1127 : Cond.codeWith y_Law_global method_8_code 5 (some .int) [(0, 10, 13, 13), (0, 10, 17, 28), (0, 10, 21, 19)] ∈ xtb := x_in (List.mem_of_getElem? (i := 1082) (by decide +kernel)) (by decide +kernel)
theorem m_1128 : Cond.methodLink "WasmReaderLaw" 72 y_Law_global ∈ xtb := x_in (List.mem_of_getElem? (i := 1080) (by decide +kernel)) (by decide +kernel)
theorem m_1129 : Cond.static y_Law_global ∈ xtb := x_in (List.mem_of_getElem? (i := 1081) (by decide +kernel)) (by decide +kernel)
theorem m_1130 : Cond.methodLink "WasmReaderLaw" 74 y_Model_global2 ∈ xtb := x_in (List.mem_of_getElem? (i := 1624) (by decide +kernel)) (by decide +kernel)
theorem m_1131 : Cond.code y_Model_global2 prog_14_method_50_code 3 (some .int) ∈ xtb := x_in (List.mem_of_getElem? (i := 1627) (by decide +kernel)) (by decide +kernel)
theorem m_1132 : Cond.instanceMethod y_Model_global2 ∈ xtb := x_in (List.mem_of_getElem? (i := 1625) (by decide +kernel)) (by decide +kernel)
theorem m_1133 : Cond.selects "WasmReaderModel" y_Model_global2 y_Model_global2 ∈ xtb := x_in (List.mem_of_getElem? (i := 1626) (by decide +kernel)) (by decide +kernel)
theorem m_1134 : Cond.codeWith y_Law_initial method_9_code 4 (some .int) [(0, 8, 11, 13), (0, 8, 14, 28)] ∈ xtb := x_in (List.mem_of_getElem? (i := 1094) (by decide +kernel)) (by decide +kernel)
theorem m_1135 : Cond.methodLink "WasmReaderLaw" 75 y_Law_initial ∈ xtb := x_in (List.mem_of_getElem? (i := 1092) (by decide +kernel)) (by decide +kernel)
theorem m_1136 : Cond.static y_Law_initial ∈ xtb := x_in (List.mem_of_getElem? (i := 1093) (by decide +kernel)) (by decide +kernel)
theorem m_1137 : Cond.methodLink "WasmReaderLaw" 77 y_Model_initial2 ∈ xtb := x_in (List.mem_of_getElem? (i := 1628) (by decide +kernel)) (by decide +kernel)
theorem m_1138 : Cond.code y_Model_initial2 prog_14_method_51_code 2 (some .long) ∈ xtb := x_in (List.mem_of_getElem? (i := 1631) (by decide +kernel)) (by decide +kernel)
theorem m_1139 : Cond.instanceMethod y_Model_initial2 ∈ xtb := x_in (List.mem_of_getElem? (i := 1629) (by decide +kernel)) (by decide +kernel)
theorem m_1140 : Cond.selects "WasmReaderModel" y_Model_initial2 y_Model_initial2 ∈ xtb := x_in (List.mem_of_getElem? (i := 1630) (by decide +kernel)) (by decide +kernel)
theorem d_Law_law_0 : decode code 0 = .ok (.new 8, 3) := by decide +kernel
theorem d_Law_law_3 : decode code 3 = .ok (.dup, 1) := by decide +kernel
theorem d_Law_law_4 : decode code 4 = .ok (.invokespecial 40, 3) := by decide +kernel
theorem nm_Reader_init : x_nm y_Reader_init 0 = true := by decide +kernel
theorem d_Law_law_7 : decode code 7 = .ok (.astore_n 1, 1) := by decide +kernel
theorem d_Law_law_8 : decode code 8 = .ok (.new 41, 3) := by decide +kernel
theorem d_Law_law_11 : decode code 11 = .ok (.dup, 1) := by decide +kernel
theorem d_Law_law_12 : decode code 12 = .ok (.invokespecial 43, 3) := by decide +kernel
theorem nm_Model_init : x_nm y_Model_init 0 = true := by decide +kernel
theorem d_Law_law_15 : decode code 15 = .ok (.astore_n 2, 1) := by decide +kernel
theorem d_Law_law_16 : decode code 16 = .ok (.iconst 1, 1) := by decide +kernel
theorem d_Law_law_17 : decode code 17 = .ok (.newarray .long, 2) := by decide +kernel
theorem d_Law_law_19 : decode code 19 = .ok (.astore_n 3, 1) := by decide +kernel
theorem d_Law_law_20 : decode code 20 = .ok (.iconst 0, 1) := by decide +kernel
theorem d_Law_law_21 : decode code 21 = .ok (.istore 4, 2) := by decide +kernel
theorem d_Law_law_88 : decode code 88 = .ok (.aload_n 1, 1) := by decide +kernel
theorem d_Law_law_89 : decode code 89 = .ok (.aload_n 0, 1) := by decide +kernel
theorem d_Law_law_90 : decode code 90 = .ok (.iload 4, 2) := by decide +kernel
theorem d_Law_law_92 : decode code 92 = .ok (.iconst 1, 1) := by decide +kernel
theorem d_Law_law_93 : decode code 93 = .ok (.iadd, 1) := by decide +kernel
theorem d_Law_law_94 : decode code 94 = .ok (.iaload, 1) := by decide +kernel
theorem d_Law_law_95 : decode code 95 = .ok (.aload_n 0, 1) := by decide +kernel
theorem d_Law_law_96 : decode code 96 = .ok (.iload 4, 2) := by decide +kernel
theorem d_Law_law_98 : decode code 98 = .ok (.iconst 2, 1) := by decide +kernel
theorem d_Law_law_99 : decode code 99 = .ok (.iadd, 1) := by decide +kernel
theorem d_Law_law_100 : decode code 100 = .ok (.iaload, 1) := by decide +kernel
theorem d_Law_law_101 : decode code 101 = .ok (.aload_n 0, 1) := by decide +kernel
theorem d_Law_law_102 : decode code 102 = .ok (.iload 4, 2) := by decide +kernel
theorem d_Law_law_104 : decode code 104 = .ok (.iconst 3, 1) := by decide +kernel
theorem d_Law_law_105 : decode code 105 = .ok (.iadd, 1) := by decide +kernel
theorem d_Law_law_106 : decode code 106 = .ok (.iaload, 1) := by decide +kernel
theorem d_Law_law_107 : decode code 107 = .ok (.aload_n 0, 1) := by decide +kernel
theorem d_Law_law_108 : decode code 108 = .ok (.iload 4, 2) := by decide +kernel
theorem d_Law_law_110 : decode code 110 = .ok (.iconst 4, 1) := by decide +kernel
theorem d_Law_law_111 : decode code 111 = .ok (.iadd, 1) := by decide +kernel
theorem d_Law_law_112 : decode code 112 = .ok (.iaload, 1) := by decide +kernel
theorem d_Law_law_113 : decode code 113 = .ok (.aload_n 0, 1) := by decide +kernel
theorem d_Law_law_114 : decode code 114 = .ok (.iload 4, 2) := by decide +kernel
theorem d_Law_law_116 : decode code 116 = .ok (.iconst 5, 1) := by decide +kernel
theorem d_Law_law_117 : decode code 117 = .ok (.iadd, 1) := by decide +kernel
theorem d_Law_law_118 : decode code 118 = .ok (.iaload, 1) := by decide +kernel
theorem d_Law_law_119 : decode code 119 = .ok (.aload_n 3, 1) := by decide +kernel
theorem d_Law_law_120 : decode code 120 = .ok (.invokestatic 44, 3) := by decide +kernel
theorem nm_Law_feed : x_nm y_Law_feed 7 = true := by decide +kernel
theorem d_Law_law_123 : decode code 123 = .ok (.istore 5, 2) := by decide +kernel
theorem d_Law_law_125 : decode code 125 = .ok (.aload_n 2, 1) := by decide +kernel
theorem d_Law_law_126 : decode code 126 = .ok (.aload_n 0, 1) := by decide +kernel
theorem d_Law_law_127 : decode code 127 = .ok (.iload 4, 2) := by decide +kernel
theorem d_Law_law_129 : decode code 129 = .ok (.iconst 1, 1) := by decide +kernel
theorem d_Law_law_130 : decode code 130 = .ok (.iadd, 1) := by decide +kernel
theorem d_Law_law_131 : decode code 131 = .ok (.iaload, 1) := by decide +kernel
theorem d_Law_law_132 : decode code 132 = .ok (.aload_n 0, 1) := by decide +kernel
theorem d_Law_law_133 : decode code 133 = .ok (.iload 4, 2) := by decide +kernel
theorem d_Law_law_135 : decode code 135 = .ok (.iconst 2, 1) := by decide +kernel
theorem d_Law_law_136 : decode code 136 = .ok (.iadd, 1) := by decide +kernel
theorem d_Law_law_137 : decode code 137 = .ok (.iaload, 1) := by decide +kernel
theorem d_Law_law_138 : decode code 138 = .ok (.aload_n 0, 1) := by decide +kernel
theorem d_Law_law_139 : decode code 139 = .ok (.iload 4, 2) := by decide +kernel
theorem d_Law_law_141 : decode code 141 = .ok (.iconst 3, 1) := by decide +kernel
theorem d_Law_law_142 : decode code 142 = .ok (.iadd, 1) := by decide +kernel
theorem d_Law_law_143 : decode code 143 = .ok (.iaload, 1) := by decide +kernel
theorem d_Law_law_144 : decode code 144 = .ok (.aload_n 0, 1) := by decide +kernel
theorem d_Law_law_145 : decode code 145 = .ok (.iload 4, 2) := by decide +kernel
theorem d_Law_law_147 : decode code 147 = .ok (.iconst 4, 1) := by decide +kernel
theorem d_Law_law_148 : decode code 148 = .ok (.iadd, 1) := by decide +kernel
theorem d_Law_law_149 : decode code 149 = .ok (.iaload, 1) := by decide +kernel
theorem d_Law_law_150 : decode code 150 = .ok (.aload_n 0, 1) := by decide +kernel
theorem d_Law_law_151 : decode code 151 = .ok (.iload 4, 2) := by decide +kernel
theorem d_Law_law_153 : decode code 153 = .ok (.iconst 5, 1) := by decide +kernel
theorem d_Law_law_154 : decode code 154 = .ok (.iadd, 1) := by decide +kernel
theorem d_Law_law_155 : decode code 155 = .ok (.iaload, 1) := by decide +kernel
theorem d_Law_law_156 : decode code 156 = .ok (.invokevirtual 49, 3) := by decide +kernel
theorem nm_Model_feed : x_nm y_Model_feed 5 = true := by decide +kernel
theorem d_Law_law_159 : decode code 159 = .ok (.istore 6, 2) := by decide +kernel
theorem d_Law_law_161 : decode code 161 = .ok (.goto 248, 3) := by decide +kernel
theorem d_Law_law_409 : decode code 409 = .ok (.iinc 4 6, 3) := by decide +kernel
theorem d_Law_law_412 : decode code 412 = .ok (.goto (-389), 3) := by decide +kernel
theorem d_Law_law_164 : decode code 164 = .ok (.aload_n 1, 1) := by decide +kernel
theorem d_Law_law_165 : decode code 165 = .ok (.aload_n 0, 1) := by decide +kernel
theorem d_Law_law_166 : decode code 166 = .ok (.iload 4, 2) := by decide +kernel
theorem d_Law_law_168 : decode code 168 = .ok (.iconst 1, 1) := by decide +kernel
theorem d_Law_law_169 : decode code 169 = .ok (.iadd, 1) := by decide +kernel
theorem d_Law_law_170 : decode code 170 = .ok (.iaload, 1) := by decide +kernel
theorem d_Law_law_171 : decode code 171 = .ok (.aload_n 3, 1) := by decide +kernel
theorem d_Law_law_172 : decode code 172 = .ok (.invokestatic 50, 3) := by decide +kernel
theorem nm_Law_end : x_nm y_Law_end 3 = true := by decide +kernel
theorem d_Law_law_175 : decode code 175 = .ok (.istore 5, 2) := by decide +kernel
theorem d_Law_law_177 : decode code 177 = .ok (.aload_n 2, 1) := by decide +kernel
theorem d_Law_law_178 : decode code 178 = .ok (.aload_n 0, 1) := by decide +kernel
theorem d_Law_law_179 : decode code 179 = .ok (.iload 4, 2) := by decide +kernel
theorem d_Law_law_181 : decode code 181 = .ok (.iconst 1, 1) := by decide +kernel
theorem d_Law_law_182 : decode code 182 = .ok (.iadd, 1) := by decide +kernel
theorem d_Law_law_183 : decode code 183 = .ok (.iaload, 1) := by decide +kernel
theorem d_Law_law_184 : decode code 184 = .ok (.invokevirtual 53, 3) := by decide +kernel
theorem nm_Model_end : x_nm y_Model_end 1 = true := by decide +kernel
theorem d_Law_law_187 : decode code 187 = .ok (.istore 6, 2) := by decide +kernel
theorem d_Law_law_189 : decode code 189 = .ok (.aload_n 2, 1) := by decide +kernel
theorem d_Law_law_190 : decode code 190 = .ok (.invokevirtual 54, 3) := by decide +kernel
theorem nm_Model_thrown : x_nm y_Model_thrown 0 = true := by decide +kernel
theorem d_Law_law_193 : decode code 193 = .ok (.iload 5, 2) := by decide +kernel
theorem d_Law_law_195 : decode code 195 = .ok (.if_icmp .eq 5, 3) := by decide +kernel
theorem d_Law_law_200 : decode code 200 = .ok (.iload 5, 2) := by decide +kernel
theorem d_Law_law_202 : decode code 202 = .ok (.ifCond .ne 15, 3) := by decide +kernel
theorem d_Law_law_217 : decode code 217 = .ok (.goto 192, 3) := by decide +kernel
theorem d_Law_law_205 : decode code 205 = .ok (.aload_n 3, 1) := by decide +kernel
theorem d_Law_law_206 : decode code 206 = .ok (.iconst 0, 1) := by decide +kernel
theorem d_Law_law_207 : decode code 207 = .ok (.laload, 1) := by decide +kernel
theorem d_Law_law_208 : decode code 208 = .ok (.iload 6, 2) := by decide +kernel
theorem d_Law_law_210 : decode code 210 = .ok (.i2l, 1) := by decide +kernel
theorem d_Law_law_211 : decode code 211 = .ok (.lcmp, 1) := by decide +kernel
theorem d_Law_law_212 : decode code 212 = .ok (.ifCond .eq 5, 3) := by decide +kernel
theorem d_Law_law_220 : decode code 220 = .ok (.aload_n 1, 1) := by decide +kernel
theorem d_Law_law_221 : decode code 221 = .ok (.invokevirtual 58, 3) := by decide +kernel
theorem nm_Reader_read : x_nm y_Reader_read 0 = true := by decide +kernel
theorem d_Law_law_224 : decode code 224 = .ok (.pop, 1) := by decide +kernel
theorem d_Law_law_225 : decode code 225 = .ok (.aload_n 2, 1) := by decide +kernel
theorem d_Law_law_226 : decode code 226 = .ok (.invokevirtual 61, 3) := by decide +kernel
theorem nm_Model_read : x_nm y_Model_read 0 = true := by decide +kernel
theorem d_Law_law_229 : decode code 229 = .ok (.pop, 1) := by decide +kernel
theorem d_Law_law_230 : decode code 230 = .ok (.goto 179, 3) := by decide +kernel
theorem d_Law_law_233 : decode code 233 = .ok (.aload_n 1, 1) := by decide +kernel
theorem d_Law_law_234 : decode code 234 = .ok (.aload_n 0, 1) := by decide +kernel
theorem d_Law_law_235 : decode code 235 = .ok (.iload 4, 2) := by decide +kernel
theorem d_Law_law_237 : decode code 237 = .ok (.iconst 1, 1) := by decide +kernel
theorem d_Law_law_238 : decode code 238 = .ok (.iadd, 1) := by decide +kernel
theorem d_Law_law_239 : decode code 239 = .ok (.iaload, 1) := by decide +kernel
theorem d_Law_law_240 : decode code 240 = .ok (.aload_n 3, 1) := by decide +kernel
theorem d_Law_law_241 : decode code 241 = .ok (.invokestatic 62, 3) := by decide +kernel
theorem nm_Law_count : x_nm y_Law_count 3 = true := by decide +kernel
theorem d_Law_law_244 : decode code 244 = .ok (.istore 5, 2) := by decide +kernel
theorem d_Law_law_246 : decode code 246 = .ok (.aload_n 2, 1) := by decide +kernel
theorem d_Law_law_247 : decode code 247 = .ok (.aload_n 0, 1) := by decide +kernel
theorem d_Law_law_248 : decode code 248 = .ok (.iload 4, 2) := by decide +kernel
theorem d_Law_law_250 : decode code 250 = .ok (.iconst 1, 1) := by decide +kernel
theorem d_Law_law_251 : decode code 251 = .ok (.iadd, 1) := by decide +kernel
theorem d_Law_law_252 : decode code 252 = .ok (.iaload, 1) := by decide +kernel
theorem d_Law_law_253 : decode code 253 = .ok (.invokevirtual 64, 3) := by decide +kernel
theorem nm_Model_count : x_nm y_Model_count 1 = true := by decide +kernel
theorem d_Law_law_256 : decode code 256 = .ok (.istore 6, 2) := by decide +kernel
theorem d_Law_law_258 : decode code 258 = .ok (.goto 151, 3) := by decide +kernel
theorem d_Law_law_261 : decode code 261 = .ok (.aload_n 1, 1) := by decide +kernel
theorem d_Law_law_262 : decode code 262 = .ok (.aload_n 0, 1) := by decide +kernel
theorem d_Law_law_263 : decode code 263 = .ok (.iload 4, 2) := by decide +kernel
theorem d_Law_law_265 : decode code 265 = .ok (.iconst 1, 1) := by decide +kernel
theorem d_Law_law_266 : decode code 266 = .ok (.iadd, 1) := by decide +kernel
theorem d_Law_law_267 : decode code 267 = .ok (.iaload, 1) := by decide +kernel
theorem d_Law_law_268 : decode code 268 = .ok (.aload_n 0, 1) := by decide +kernel
theorem d_Law_law_269 : decode code 269 = .ok (.iload 4, 2) := by decide +kernel
theorem d_Law_law_271 : decode code 271 = .ok (.iconst 2, 1) := by decide +kernel
theorem d_Law_law_272 : decode code 272 = .ok (.iadd, 1) := by decide +kernel
theorem d_Law_law_273 : decode code 273 = .ok (.iaload, 1) := by decide +kernel
theorem d_Law_law_274 : decode code 274 = .ok (.aload_n 3, 1) := by decide +kernel
theorem d_Law_law_275 : decode code 275 = .ok (.invokestatic 65, 3) := by decide +kernel
theorem nm_Law_function : x_nm y_Law_function 4 = true := by decide +kernel
theorem d_Law_law_278 : decode code 278 = .ok (.istore 5, 2) := by decide +kernel
theorem d_Law_law_280 : decode code 280 = .ok (.aload_n 2, 1) := by decide +kernel
theorem d_Law_law_281 : decode code 281 = .ok (.aload_n 0, 1) := by decide +kernel
theorem d_Law_law_282 : decode code 282 = .ok (.iload 4, 2) := by decide +kernel
theorem d_Law_law_284 : decode code 284 = .ok (.iconst 1, 1) := by decide +kernel
theorem d_Law_law_285 : decode code 285 = .ok (.iadd, 1) := by decide +kernel
theorem d_Law_law_286 : decode code 286 = .ok (.iaload, 1) := by decide +kernel
theorem d_Law_law_287 : decode code 287 = .ok (.aload_n 0, 1) := by decide +kernel
theorem d_Law_law_288 : decode code 288 = .ok (.iload 4, 2) := by decide +kernel
theorem d_Law_law_290 : decode code 290 = .ok (.iconst 2, 1) := by decide +kernel
theorem d_Law_law_291 : decode code 291 = .ok (.iadd, 1) := by decide +kernel
theorem d_Law_law_292 : decode code 292 = .ok (.iaload, 1) := by decide +kernel
theorem d_Law_law_293 : decode code 293 = .ok (.invokevirtual 68, 3) := by decide +kernel
theorem nm_Model_function : x_nm y_Model_function 2 = true := by decide +kernel
theorem d_Law_law_296 : decode code 296 = .ok (.istore 6, 2) := by decide +kernel
theorem d_Law_law_298 : decode code 298 = .ok (.goto 111, 3) := by decide +kernel
theorem d_Law_law_301 : decode code 301 = .ok (.aload_n 1, 1) := by decide +kernel
theorem d_Law_law_302 : decode code 302 = .ok (.aload_n 0, 1) := by decide +kernel
theorem d_Law_law_303 : decode code 303 = .ok (.iload 4, 2) := by decide +kernel
theorem d_Law_law_305 : decode code 305 = .ok (.iconst 1, 1) := by decide +kernel
theorem d_Law_law_306 : decode code 306 = .ok (.iadd, 1) := by decide +kernel
theorem d_Law_law_307 : decode code 307 = .ok (.iaload, 1) := by decide +kernel
theorem d_Law_law_308 : decode code 308 = .ok (.aload_n 0, 1) := by decide +kernel
theorem d_Law_law_309 : decode code 309 = .ok (.iload 4, 2) := by decide +kernel
theorem d_Law_law_311 : decode code 311 = .ok (.iconst 2, 1) := by decide +kernel
theorem d_Law_law_312 : decode code 312 = .ok (.iadd, 1) := by decide +kernel
theorem d_Law_law_313 : decode code 313 = .ok (.iaload, 1) := by decide +kernel
theorem d_Law_law_314 : decode code 314 = .ok (.aload_n 3, 1) := by decide +kernel
theorem d_Law_law_315 : decode code 315 = .ok (.invokestatic 69, 3) := by decide +kernel
theorem nm_Law_export : x_nm y_Law_export 4 = true := by decide +kernel
theorem d_Law_law_318 : decode code 318 = .ok (.istore 5, 2) := by decide +kernel
theorem d_Law_law_320 : decode code 320 = .ok (.aload_n 2, 1) := by decide +kernel
theorem d_Law_law_321 : decode code 321 = .ok (.aload_n 0, 1) := by decide +kernel
theorem d_Law_law_322 : decode code 322 = .ok (.iload 4, 2) := by decide +kernel
theorem d_Law_law_324 : decode code 324 = .ok (.iconst 1, 1) := by decide +kernel
theorem d_Law_law_325 : decode code 325 = .ok (.iadd, 1) := by decide +kernel
theorem d_Law_law_326 : decode code 326 = .ok (.iaload, 1) := by decide +kernel
theorem d_Law_law_327 : decode code 327 = .ok (.aload_n 0, 1) := by decide +kernel
theorem d_Law_law_328 : decode code 328 = .ok (.iload 4, 2) := by decide +kernel
theorem d_Law_law_330 : decode code 330 = .ok (.iconst 2, 1) := by decide +kernel
theorem d_Law_law_331 : decode code 331 = .ok (.iadd, 1) := by decide +kernel
theorem d_Law_law_332 : decode code 332 = .ok (.iaload, 1) := by decide +kernel
theorem d_Law_law_333 : decode code 333 = .ok (.invokevirtual 71, 3) := by decide +kernel
theorem nm_Model_export : x_nm y_Model_export 2 = true := by decide +kernel
theorem d_Law_law_336 : decode code 336 = .ok (.istore 6, 2) := by decide +kernel
theorem d_Law_law_338 : decode code 338 = .ok (.goto 71, 3) := by decide +kernel
theorem d_Law_law_341 : decode code 341 = .ok (.aload_n 1, 1) := by decide +kernel
theorem d_Law_law_342 : decode code 342 = .ok (.aload_n 0, 1) := by decide +kernel
theorem d_Law_law_343 : decode code 343 = .ok (.iload 4, 2) := by decide +kernel
theorem d_Law_law_345 : decode code 345 = .ok (.iconst 1, 1) := by decide +kernel
theorem d_Law_law_346 : decode code 346 = .ok (.iadd, 1) := by decide +kernel
theorem d_Law_law_347 : decode code 347 = .ok (.iaload, 1) := by decide +kernel
theorem d_Law_law_348 : decode code 348 = .ok (.aload_n 0, 1) := by decide +kernel
theorem d_Law_law_349 : decode code 349 = .ok (.iload 4, 2) := by decide +kernel
theorem d_Law_law_351 : decode code 351 = .ok (.iconst 2, 1) := by decide +kernel
theorem d_Law_law_352 : decode code 352 = .ok (.iadd, 1) := by decide +kernel
theorem d_Law_law_353 : decode code 353 = .ok (.iaload, 1) := by decide +kernel
theorem d_Law_law_354 : decode code 354 = .ok (.aload_n 3, 1) := by decide +kernel
theorem d_Law_law_355 : decode code 355 = .ok (.invokestatic 72, 3) := by decide +kernel
theorem nm_Law_global : x_nm y_Law_global 4 = true := by decide +kernel
theorem d_Law_law_358 : decode code 358 = .ok (.istore 5, 2) := by decide +kernel
theorem d_Law_law_360 : decode code 360 = .ok (.aload_n 2, 1) := by decide +kernel
theorem d_Law_law_361 : decode code 361 = .ok (.aload_n 0, 1) := by decide +kernel
theorem d_Law_law_362 : decode code 362 = .ok (.iload 4, 2) := by decide +kernel
theorem d_Law_law_364 : decode code 364 = .ok (.iconst 1, 1) := by decide +kernel
theorem d_Law_law_365 : decode code 365 = .ok (.iadd, 1) := by decide +kernel
theorem d_Law_law_366 : decode code 366 = .ok (.iaload, 1) := by decide +kernel
theorem d_Law_law_367 : decode code 367 = .ok (.aload_n 0, 1) := by decide +kernel
theorem d_Law_law_368 : decode code 368 = .ok (.iload 4, 2) := by decide +kernel
theorem d_Law_law_370 : decode code 370 = .ok (.iconst 2, 1) := by decide +kernel
theorem d_Law_law_371 : decode code 371 = .ok (.iadd, 1) := by decide +kernel
theorem d_Law_law_372 : decode code 372 = .ok (.iaload, 1) := by decide +kernel
theorem d_Law_law_373 : decode code 373 = .ok (.invokevirtual 74, 3) := by decide +kernel
theorem nm_Model_global2 : x_nm y_Model_global2 2 = true := by decide +kernel
theorem d_Law_law_376 : decode code 376 = .ok (.istore 6, 2) := by decide +kernel
theorem d_Law_law_378 : decode code 378 = .ok (.goto 31, 3) := by decide +kernel
theorem d_Law_law_381 : decode code 381 = .ok (.aload_n 1, 1) := by decide +kernel
theorem d_Law_law_382 : decode code 382 = .ok (.aload_n 0, 1) := by decide +kernel
theorem d_Law_law_383 : decode code 383 = .ok (.iload 4, 2) := by decide +kernel
theorem d_Law_law_385 : decode code 385 = .ok (.iconst 1, 1) := by decide +kernel
theorem d_Law_law_386 : decode code 386 = .ok (.iadd, 1) := by decide +kernel
theorem d_Law_law_387 : decode code 387 = .ok (.iaload, 1) := by decide +kernel
theorem d_Law_law_388 : decode code 388 = .ok (.aload_n 3, 1) := by decide +kernel
theorem d_Law_law_389 : decode code 389 = .ok (.invokestatic 75, 3) := by decide +kernel
theorem nm_Law_initial : x_nm y_Law_initial 3 = true := by decide +kernel
theorem d_Law_law_392 : decode code 392 = .ok (.istore 5, 2) := by decide +kernel
theorem d_Law_law_394 : decode code 394 = .ok (.aload_n 2, 1) := by decide +kernel
theorem d_Law_law_395 : decode code 395 = .ok (.aload_n 0, 1) := by decide +kernel
theorem d_Law_law_396 : decode code 396 = .ok (.iload 4, 2) := by decide +kernel
theorem d_Law_law_398 : decode code 398 = .ok (.iconst 1, 1) := by decide +kernel
theorem d_Law_law_399 : decode code 399 = .ok (.iadd, 1) := by decide +kernel
theorem d_Law_law_400 : decode code 400 = .ok (.iaload, 1) := by decide +kernel
theorem d_Law_law_401 : decode code 401 = .ok (.invokevirtual 77, 3) := by decide +kernel
theorem nm_Model_initial2 : x_nm y_Model_initial2 1 = true := by decide +kernel
theorem d_Law_law_404 : decode code 404 = .ok (.lstore 6, 2) := by decide +kernel
theorem d_Law_law_406 : decode code 406 = .ok (.goto 3, 3) := by decide +kernel
