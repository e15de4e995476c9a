def y_Law_feed : MethodName := ⟨"WasmReaderLaw", "feed", "(LWasmReader;IIIII[J)I"⟩
def y_Law_end : MethodName := ⟨"WasmReaderLaw", "end", "(LWasmReader;I[J)I"⟩
def y_Law_count : MethodName := ⟨"WasmReaderLaw", "count", "(LWasmReader;I[J)I"⟩
def y_Law_function : MethodName := ⟨"WasmReaderLaw", "function", "(LWasmReader;II[J)I"⟩
def y_Law_export : MethodName := ⟨"WasmReaderLaw", "export", "(LWasmReader;II[J)I"⟩
def y_Law_global : MethodName := ⟨"WasmReaderLaw", "global", "(LWasmReader;II[J)I"⟩
def y_Law_initial : MethodName := ⟨"WasmReaderLaw", "initial", "(LWasmReader;I[J)I"⟩
theorem m_1035 : Cond.methodLink "WasmReaderLaw" 7 y_Reader_feed ∈ xtb := x_in (List.mem_of_getElem? (i := 942) (by decide +kernel)) (by decide +kernel)
theorem m_1036 : Cond.code y_Reader_feed prog_1_method_2_code 6 (some .int) ∈ xtb := x_in (List.mem_of_getElem? (i := 945) (by decide +kernel)) (by decide +kernel)
theorem m_1037 : Cond.instanceMethod y_Reader_feed ∈ xtb := x_in (List.mem_of_getElem? (i := 943) (by decide +kernel)) (by decide +kernel)
theorem m_1038 : Cond.selects "WasmReader" y_Reader_feed y_Reader_feed ∈ xtb := x_in (List.mem_of_getElem? (i := 944) (by decide +kernel)) (by decide +kernel)
theorem m_1039 : Cond.classLink "WasmReaderLaw" 13 "java/lang/IllegalStateException" ∈ xtb := x_in (List.mem_of_getElem? (i := 941) (by decide +kernel)) (by decide +kernel)
theorem m_1040 : Cond.castable "java/lang/IllegalStateException" "java/lang/IllegalStateException" ∈ xtb := x_in (List.mem_of_getElem? (i := 948) (by decide +kernel)) (by decide +kernel)
theorem m_1041 : Cond.methodLink "WasmReaderLaw" 15 y_Reader_end ∈ xtb := x_in (List.mem_of_getElem? (i := 1019) (by decide +kernel)) (by decide +kernel)
theorem m_1042 : Cond.code y_Reader_end prog_1_method_3_code 2 (some .int) ∈ xtb := x_in (List.mem_of_getElem? (i := 1022) (by decide +kernel)) (by decide +kernel)
theorem m_1043 : Cond.instanceMethod y_Reader_end ∈ xtb := x_in (List.mem_of_getElem? (i := 1020) (by decide +kernel)) (by decide +kernel)
theorem m_1044 : Cond.selects "WasmReader" y_Reader_end y_Reader_end ∈ xtb := x_in (List.mem_of_getElem? (i := 1021) (by decide +kernel)) (by decide +kernel)
theorem m_1045 : Cond.classLink "WasmReaderLaw" 19 "java/lang/IllegalArgumentException" ∈ xtb := x_in (List.mem_of_getElem? (i := 1018) (by decide +kernel)) (by decide +kernel)
theorem m_1046 : Cond.castable "java/lang/IllegalArgumentException" "java/lang/IllegalArgumentException" ∈ xtb := x_in (List.mem_of_getElem? (i := 1025) (by decide +kernel)) (by decide +kernel)
theorem m_1047 : Cond.code y_Reader_count prog_1_method_5_code 2 (some .int) ∈ xtb := x_in (List.mem_of_getElem? (i := 1044) (by decide +kernel)) (by decide +kernel)
theorem m_1048 : Cond.methodLink "WasmReaderLaw" 21 y_Reader_count ∈ xtb := x_in (List.mem_of_getElem? (i := 1041) (by decide +kernel)) (by decide +kernel)
theorem m_1049 : Cond.instanceMethod y_Reader_count ∈ xtb := x_in (List.mem_of_getElem? (i := 1042) (by decide +kernel)) (by decide +kernel)
theorem m_1050 : Cond.selects "WasmReader" y_Reader_count y_Reader_count ∈ xtb := x_in (List.mem_of_getElem? (i := 1043) (by decide +kernel)) (by decide +kernel)
theorem m_1051 : Cond.code y_Reader_function prog_1_method_6_code 4 (some .int) ∈ xtb := x_in (List.mem_of_getElem? (i := 1052) (by decide +kernel)) (by decide +kernel)
theorem m_1052 : Cond.methodLink "WasmReaderLaw" 24 y_Reader_function ∈ xtb := x_in (List.mem_of_getElem? (i := 1049) (by decide +kernel)) (by decide +kernel)
theorem m_1053 : Cond.instanceMethod y_Reader_function ∈ xtb := x_in (List.mem_of_getElem? (i := 1050) (by decide +kernel)) (by decide +kernel)
theorem m_1054 : Cond.selects "WasmReader" y_Reader_function y_Reader_function ∈ xtb := x_in (List.mem_of_getElem? (i := 1051) (by decide +kernel)) (by decide +kernel)
theorem m_1055 : Cond.classLink "WasmReaderLaw" 28 "java/lang/IndexOutOfBoundsException" ∈ xtb := x_in (List.mem_of_getElem? (i := 1048) (by decide +kernel)) (by decide +kernel)
theorem m_1056 : Cond.castable "java/lang/IndexOutOfBoundsException" "java/lang/IndexOutOfBoundsException" ∈ xtb := x_in (List.mem_of_getElem? (i := 1056) (by decide +kernel)) (by decide +kernel)
theorem m_1057 : Cond.code y_Reader_export prog_1_method_7_code 4 (some .int) ∈ xtb := x_in (List.mem_of_getElem? (i := 1077) (by decide +kernel)) (by decide +kernel)
theorem m_1058 : Cond.methodLink "WasmReaderLaw" 30 y_Reader_export ∈ xtb := x_in (List.mem_of_getElem? (i := 1074) (by decide +kernel)) (by decide +kernel)
theorem m_1059 : Cond.instanceMethod y_Reader_export ∈ xtb := x_in (List.mem_of_getElem? (i := 1075) (by decide +kernel)) (by decide +kernel)
theorem m_1060 : Cond.selects "WasmReader" y_Reader_export y_Reader_export ∈ xtb := x_in (List.mem_of_getElem? (i := 1076) (by decide +kernel)) (by decide +kernel)
theorem m_1061 : Cond.code y_Reader_global prog_1_method_8_code 4 (some .int) ∈ xtb := x_in (List.mem_of_getElem? (i := 1086) (by decide +kernel)) (by decide +kernel)
theorem m_1062 : Cond.methodLink "WasmReaderLaw" 33 y_Reader_global ∈ xtb := x_in (List.mem_of_getElem? (i := 1083) (by decide +kernel)) (by decide +kernel)
theorem m_1063 : Cond.instanceMethod y_Reader_global ∈ xtb := x_in (List.mem_of_getElem? (i := 1084) (by decide +kernel)) (by decide +kernel)
theorem m_1064 : Cond.selects "WasmReader" y_Reader_global y_Reader_global ∈ xtb := x_in (List.mem_of_getElem? (i := 1085) (by decide +kernel)) (by decide +kernel)
theorem m_1065 : Cond.code y_Reader_initial prog_1_method_9_code 2 (some .long) ∈ xtb := x_in (List.mem_of_getElem? (i := 1098) (by decide +kernel)) (by decide +kernel)
theorem m_1066 : Cond.methodLink "WasmReaderLaw" 36 y_Reader_initial ∈ xtb := x_in (List.mem_of_getElem? (i := 1095) (by decide +kernel)) (by decide +kernel)
theorem m_1067 : Cond.instanceMethod y_Reader_initial ∈ xtb := x_in (List.mem_of_getElem? (i := 1096) (by decide +kernel)) (by decide +kernel)
theorem m_1068 : Cond.selects "WasmReader" y_Reader_initial y_Reader_initial ∈ xtb := x_in (List.mem_of_getElem? (i := 1097) (by decide +kernel)) (by decide +kernel)
theorem d_Law_feed_0 : decode method_3_code 0 = .ok (.aload 6, 2) := by decide +kernel
theorem d_Law_feed_2 : decode method_3_code 2 = .ok (.iconst 0, 1) := by decide +kernel
theorem d_Law_feed_3 : decode method_3_code 3 = .ok (.aload_n 0, 1) := by decide +kernel
theorem d_Law_feed_4 : decode method_3_code 4 = .ok (.iload_n 1, 1) := by decide +kernel
theorem d_Law_feed_5 : decode method_3_code 5 = .ok (.iload_n 2, 1) := by decide +kernel
theorem d_Law_feed_6 : decode method_3_code 6 = .ok (.iload_n 3, 1) := by decide +kernel
theorem d_Law_feed_7 : decode method_3_code 7 = .ok (.iload 4, 2) := by decide +kernel
theorem d_Law_feed_9 : decode method_3_code 9 = .ok (.iload 5, 2) := by decide +kernel
theorem d_Law_feed_11 : decode method_3_code 11 = .ok (.invokevirtual 7, 3) := by decide +kernel
theorem nm_Reader_feed : x_nm y_Reader_feed 5 = true := by decide +kernel
theorem d_Law_feed_14 : decode method_3_code 14 = .ok (.i2l, 1) := by decide +kernel
theorem d_Law_feed_15 : decode method_3_code 15 = .ok (.lastore, 1) := by decide +kernel
theorem d_Law_feed_16 : decode method_3_code 16 = .ok (.goto 7, 3) := by decide +kernel
theorem d_Law_feed_23 : decode method_3_code 23 = .ok (.iconst 0, 1) := by decide +kernel
theorem d_Law_feed_24 : decode method_3_code 24 = .ok (.ireturn, 1) := by decide +kernel
theorem d_Law_feed_19 : decode method_3_code 19 = .ok (.astore 7, 2) := by decide +kernel
theorem d_Law_feed_21 : decode method_3_code 21 = .ok (.iconst 1, 1) := by decide +kernel
theorem d_Law_feed_22 : decode method_3_code 22 = .ok (.ireturn, 1) := by decide +kernel
theorem d_Law_end_0 : decode method_4_code 0 = .ok (.aload_n 2, 1) := by decide +kernel
theorem d_Law_end_1 : decode method_4_code 1 = .ok (.iconst 0, 1) := by decide +kernel
theorem d_Law_end_2 : decode method_4_code 2 = .ok (.aload_n 0, 1) := by decide +kernel
theorem d_Law_end_3 : decode method_4_code 3 = .ok (.iload_n 1, 1) := by decide +kernel
theorem d_Law_end_4 : decode method_4_code 4 = .ok (.invokevirtual 15, 3) := by decide +kernel
theorem nm_Reader_end : x_nm y_Reader_end 1 = true := by decide +kernel
theorem d_Law_end_7 : decode method_4_code 7 = .ok (.i2l, 1) := by decide +kernel
theorem d_Law_end_8 : decode method_4_code 8 = .ok (.lastore, 1) := by decide +kernel
theorem d_Law_end_9 : decode method_4_code 9 = .ok (.goto 6, 3) := by decide +kernel
theorem d_Law_end_15 : decode method_4_code 15 = .ok (.iconst 0, 1) := by decide +kernel
theorem d_Law_end_16 : decode method_4_code 16 = .ok (.ireturn, 1) := by decide +kernel
theorem d_Law_end_12 : decode method_4_code 12 = .ok (.astore_n 3, 1) := by decide +kernel
theorem d_Law_end_13 : decode method_4_code 13 = .ok (.iconst 1, 1) := by decide +kernel
theorem d_Law_end_14 : decode method_4_code 14 = .ok (.ireturn, 1) := by decide +kernel
theorem d_Law_count_0 : decode method_5_code 0 = .ok (.aload_n 2, 1) := by decide +kernel
theorem d_Law_count_1 : decode method_5_code 1 = .ok (.iconst 0, 1) := by decide +kernel
theorem d_Law_count_2 : decode method_5_code 2 = .ok (.aload_n 0, 1) := by decide +kernel
theorem d_Law_count_3 : decode method_5_code 3 = .ok (.iload_n 1, 1) := by decide +kernel
theorem d_Law_count_4 : decode method_5_code 4 = .ok (.invokevirtual 21, 3) := by decide +kernel
theorem nm_Reader_count : x_nm y_Reader_count 1 = true := by decide +kernel
theorem d_Law_count_7 : decode method_5_code 7 = .ok (.i2l, 1) := by decide +kernel
theorem d_Law_count_8 : decode method_5_code 8 = .ok (.lastore, 1) := by decide +kernel
theorem d_Law_count_9 : decode method_5_code 9 = .ok (.goto 9, 3) := by decide +kernel
theorem d_Law_count_18 : decode method_5_code 18 = .ok (.iconst 0, 1) := by decide +kernel
theorem d_Law_count_19 : decode method_5_code 19 = .ok (.ireturn, 1) := by decide +kernel
theorem d_Law_count_12 : decode method_5_code 12 = .ok (.astore_n 3, 1) := by decide +kernel
theorem d_Law_count_13 : decode method_5_code 13 = .ok (.iconst 1, 1) := by decide +kernel
theorem d_Law_count_14 : decode method_5_code 14 = .ok (.ireturn, 1) := by decide +kernel
theorem d_Law_count_15 : decode method_5_code 15 = .ok (.astore_n 3, 1) := by decide +kernel
theorem d_Law_count_16 : decode method_5_code 16 = .ok (.iconst 2, 1) := by decide +kernel
theorem d_Law_count_17 : decode method_5_code 17 = .ok (.ireturn, 1) := by decide +kernel
theorem d_Law_function_0 : decode method_6_code 0 = .ok (.aload_n 3, 1) := by decide +kernel
theorem d_Law_function_1 : decode method_6_code 1 = .ok (.iconst 0, 1) := by decide +kernel
theorem d_Law_function_2 : decode method_6_code 2 = .ok (.aload_n 0, 1) := by decide +kernel
theorem d_Law_function_3 : decode method_6_code 3 = .ok (.iload_n 1, 1) := by decide +kernel
theorem d_Law_function_4 : decode method_6_code 4 = .ok (.iload_n 2, 1) := by decide +kernel
theorem d_Law_function_5 : decode method_6_code 5 = .ok (.invokevirtual 24, 3) := by decide +kernel
theorem nm_Reader_function : x_nm y_Reader_function 2 = true := by decide +kernel
theorem d_Law_function_8 : decode method_6_code 8 = .ok (.i2l, 1) := by decide +kernel
theorem d_Law_function_9 : decode method_6_code 9 = .ok (.lastore, 1) := by decide +kernel
theorem d_Law_function_10 : decode method_6_code 10 = .ok (.goto 15, 3) := by decide +kernel
theorem d_Law_function_25 : decode method_6_code 25 = .ok (.iconst 0, 1) := by decide +kernel
theorem d_Law_function_26 : decode method_6_code 26 = .ok (.ireturn, 1) := by decide +kernel
theorem d_Law_function_13 : decode method_6_code 13 = .ok (.astore 4, 2) := by decide +kernel
theorem d_Law_function_15 : decode method_6_code 15 = .ok (.iconst 1, 1) := by decide +kernel
theorem d_Law_function_16 : decode method_6_code 16 = .ok (.ireturn, 1) := by decide +kernel
theorem d_Law_function_17 : decode method_6_code 17 = .ok (.astore 4, 2) := by decide +kernel
theorem d_Law_function_19 : decode method_6_code 19 = .ok (.iconst 2, 1) := by decide +kernel
theorem d_Law_function_20 : decode method_6_code 20 = .ok (.ireturn, 1) := by decide +kernel
theorem d_Law_function_21 : decode method_6_code 21 = .ok (.astore 4, 2) := by decide +kernel
theorem d_Law_function_23 : decode method_6_code 23 = .ok (.iconst 3, 1) := by decide +kernel
theorem d_Law_function_24 : decode method_6_code 24 = .ok (.ireturn, 1) := by decide +kernel
theorem d_Law_export_0 : decode method_7_code 0 = .ok (.aload_n 3, 1) := by decide +kernel
theorem d_Law_export_1 : decode method_7_code 1 = .ok (.iconst 0, 1) := by decide +kernel
theorem d_Law_export_2 : decode method_7_code 2 = .ok (.aload_n 0, 1) := by decide +kernel
theorem d_Law_export_3 : decode method_7_code 3 = .ok (.iload_n 1, 1) := by decide +kernel
theorem d_Law_export_4 : decode method_7_code 4 = .ok (.iload_n 2, 1) := by decide +kernel
theorem d_Law_export_5 : decode method_7_code 5 = .ok (.invokevirtual 30, 3) := by decide +kernel
theorem nm_Reader_export : x_nm y_Reader_export 2 = true := by decide +kernel
theorem d_Law_export_8 : decode method_7_code 8 = .ok (.i2l, 1) := by decide +kernel
theorem d_Law_export_9 : decode method_7_code 9 = .ok (.lastore, 1) := by decide +kernel
theorem d_Law_export_10 : decode method_7_code 10 = .ok (.goto 15, 3) := by decide +kernel
theorem d_Law_export_25 : decode method_7_code 25 = .ok (.iconst 0, 1) := by decide +kernel
theorem d_Law_export_26 : decode method_7_code 26 = .ok (.ireturn, 1) := by decide +kernel
theorem d_Law_export_13 : decode method_7_code 13 = .ok (.astore 4, 2) := by decide +kernel
theorem d_Law_export_15 : decode method_7_code 15 = .ok (.iconst 1, 1) := by decide +kernel
theorem d_Law_export_16 : decode method_7_code 16 = .ok (.ireturn, 1) := by decide +kernel
theorem d_Law_export_17 : decode method_7_code 17 = .ok (.astore 4, 2) := by decide +kernel
theorem d_Law_export_19 : decode method_7_code 19 = .ok (.iconst 2, 1) := by decide +kernel
theorem d_Law_export_20 : decode method_7_code 20 = .ok (.ireturn, 1) := by decide +kernel
theorem d_Law_export_21 : decode method_7_code 21 = .ok (.astore 4, 2) := by decide +kernel
theorem d_Law_export_23 : decode method_7_code 23 = .ok (.iconst 3, 1) := by decide +kernel
theorem d_Law_export_24 : decode method_7_code 24 = .ok (.ireturn, 1) := by decide +kernel
theorem d_Law_global_0 : decode method_8_code 0 = .ok (.aload_n 3, 1) := by decide +kernel
theorem d_Law_global_1 : decode method_8_code 1 = .ok (.iconst 0, 1) := by decide +kernel
theorem d_Law_global_2 : decode method_8_code 2 = .ok (.aload_n 0, 1) := by decide +kernel
theorem d_Law_global_3 : decode method_8_code 3 = .ok (.iload_n 1, 1) := by decide +kernel
theorem d_Law_global_4 : decode method_8_code 4 = .ok (.iload_n 2, 1) := by decide +kernel
theorem d_Law_global_5 : decode method_8_code 5 = .ok (.invokevirtual 33, 3) := by decide +kernel
theorem nm_Reader_global : x_nm y_Reader_global 2 = true := by decide +kernel
theorem d_Law_global_8 : decode method_8_code 8 = .ok (.i2l, 1) := by decide +kernel
theorem d_Law_global_9 : decode method_8_code 9 = .ok (.lastore, 1) := by decide +kernel
theorem d_Law_global_10 : decode method_8_code 10 = .ok (.goto 15, 3) := by decide +kernel
theorem d_Law_global_25 : decode method_8_code 25 = .ok (.iconst 0, 1) := by decide +kernel
theorem d_Law_global_26 : decode method_8_code 26 = .ok (.ireturn, 1) := by decide +kernel
theorem d_Law_global_13 : decode method_8_code 13 = .ok (.astore 4, 2) := by decide +kernel
theorem d_Law_global_15 : decode method_8_code 15 = .ok (.iconst 1, 1) := by decide +kernel
theorem d_Law_global_16 : decode method_8_code 16 = .ok (.ireturn, 1) := by decide +kernel
theorem d_Law_global_17 : decode method_8_code 17 = .ok (.astore 4, 2) := by decide +kernel
theorem d_Law_global_19 : decode method_8_code 19 = .ok (.iconst 2, 1) := by decide +kernel
theorem d_Law_global_20 : decode method_8_code 20 = .ok (.ireturn, 1) := by decide +kernel
theorem d_Law_global_21 : decode method_8_code 21 = .ok (.astore 4, 2) := by decide +kernel
theorem d_Law_global_23 : decode method_8_code 23 = .ok (.iconst 3, 1) := by decide +kernel
theorem d_Law_global_24 : decode method_8_code 24 = .ok (.ireturn, 1) := by decide +kernel
theorem d_Law_initial_0 : decode method_9_code 0 = .ok (.aload_n 2, 1) := by decide +kernel
theorem d_Law_initial_1 : decode method_9_code 1 = .ok (.iconst 0, 1) := by decide +kernel
theorem d_Law_initial_2 : decode method_9_code 2 = .ok (.aload_n 0, 1) := by decide +kernel
theorem d_Law_initial_3 : decode method_9_code 3 = .ok (.iload_n 1, 1) := by decide +kernel
theorem d_Law_initial_4 : decode method_9_code 4 = .ok (.invokevirtual 36, 3) := by decide +kernel
theorem nm_Reader_initial : x_nm y_Reader_initial 1 = true := by decide +kernel
theorem d_Law_initial_7 : decode method_9_code 7 = .ok (.lastore, 1) := by decide +kernel
theorem d_Law_initial_8 : decode method_9_code 8 = .ok (.goto 9, 3) := by decide +kernel
theorem d_Law_initial_17 : decode method_9_code 17 = .ok (.iconst 0, 1) := by decide +kernel
theorem d_Law_initial_18 : decode method_9_code 18 = .ok (.ireturn, 1) := by decide +kernel
theorem d_Law_initial_11 : decode method_9_code 11 = .ok (.astore_n 3, 1) := by decide +kernel
theorem d_Law_initial_12 : decode method_9_code 12 = .ok (.iconst 1, 1) := by decide +kernel
theorem d_Law_initial_13 : decode method_9_code 13 = .ok (.ireturn, 1) := by decide +kernel
theorem d_Law_initial_14 : decode method_9_code 14 = .ok (.astore_n 3, 1) := by decide +kernel
theorem d_Law_initial_15 : decode method_9_code 15 = .ok (.iconst 2, 1) := by decide +kernel
theorem d_Law_initial_16 : decode method_9_code 16 = .ok (.ireturn, 1) := by decide +kernel
