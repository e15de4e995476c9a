def y_Reader_feed : MethodName := ⟨"WasmReader", "feed", "(IIIII)I"⟩
def y_Reader_end : MethodName := ⟨"WasmReader", "end", "(I)I"⟩
def y_Reader_count : MethodName := ⟨"WasmReader", "count", "(I)I"⟩
def y_Reader_function : MethodName := ⟨"WasmReader", "function", "(II)I"⟩
def y_Reader_export : MethodName := ⟨"WasmReader", "export", "(II)I"⟩
def y_Reader_global : MethodName := ⟨"WasmReader", "global", "(II)I"⟩
def y_Reader_initial : MethodName := ⟨"WasmReader", "initial", "(I)J"⟩
theorem m_231 : Cond.methodLink "WasmReader" 41 y_Cursor_append ∈ xtb := x_in (List.mem_of_getElem? (i := 1011) (by decide +kernel)) (by decide +kernel)
theorem m_232 : Cond.code y_Cursor_append prog_2_method_2_code 3 none ∈ xtb := x_in (List.mem_of_getElem? (i := 1014) (by decide +kernel)) (by decide +kernel)
theorem m_233 : Cond.instanceMethod y_Cursor_append ∈ xtb := x_in (List.mem_of_getElem? (i := 1012) (by decide +kernel)) (by decide +kernel)
theorem m_234 : Cond.selects "WasmReader$Cursor" y_Cursor_append y_Cursor_append ∈ xtb := x_in (List.mem_of_getElem? (i := 1013) (by decide +kernel)) (by decide +kernel)
theorem m_235 : Cond.classLink "WasmReader" 45 "java/lang/IllegalArgumentException" ∈ xtb := x_in (List.mem_of_getElem? (i := 1023) (by decide +kernel)) (by decide +kernel)
theorem m_236 : Cond.initialized "java/lang/IllegalArgumentException" ∈ xtb := x_in (List.mem_of_getElem? (i := 104) (by decide +kernel)) (by decide +kernel)
theorem m_237 : Cond.instantiable "java/lang/IllegalArgumentException" 6 ∈ xtb := x_in (List.mem_of_getElem? (i := 1024) (by decide +kernel)) (by decide +kernel)
theorem m_238 : Cond.classLink "WasmReader" 38 "java/lang/IllegalStateException" ∈ xtb := x_in (List.mem_of_getElem? (i := 946) (by decide +kernel)) (by decide +kernel)
theorem m_239 : Cond.initialized "java/lang/IllegalStateException" ∈ xtb := x_in (List.mem_of_getElem? (i := 103) (by decide +kernel)) (by decide +kernel)
theorem m_240 : Cond.instantiable "java/lang/IllegalStateException" 6 ∈ xtb := x_in (List.mem_of_getElem? (i := 947) (by decide +kernel)) (by decide +kernel)
theorem d_Reader_feed_0 : decode prog_1_method_2_code 0 = .ok (.aload_n 0, 1) := by decide +kernel
theorem d_Reader_feed_1 : decode prog_1_method_2_code 1 = .ok (.getfield 10, 3) := by decide +kernel
theorem d_Reader_feed_4 : decode prog_1_method_2_code 4 = .ok (.getfield 34, 3) := by decide +kernel
theorem d_Reader_feed_7 : decode prog_1_method_2_code 7 = .ok (.sipush 3980, 3) := by decide +kernel
theorem d_Reader_feed_10 : decode prog_1_method_2_code 10 = .ok (.if_icmp .le 11, 3) := by decide +kernel
theorem d_Reader_feed_21 : decode prog_1_method_2_code 21 = .ok (.aload_n 0, 1) := by decide +kernel
theorem d_Reader_feed_22 : decode prog_1_method_2_code 22 = .ok (.getfield 10, 3) := by decide +kernel
theorem d_Reader_feed_25 : decode prog_1_method_2_code 25 = .ok (.iload_n 1, 1) := by decide +kernel
theorem d_Reader_feed_26 : decode prog_1_method_2_code 26 = .ok (.invokevirtual 41, 3) := by decide +kernel
theorem nm_Cursor_append : x_nm y_Cursor_append 1 = true := by decide +kernel
theorem d_Reader_feed_29 : decode prog_1_method_2_code 29 = .ok (.aload_n 0, 1) := by decide +kernel
theorem d_Reader_feed_30 : decode prog_1_method_2_code 30 = .ok (.getfield 10, 3) := by decide +kernel
theorem d_Reader_feed_33 : decode prog_1_method_2_code 33 = .ok (.iload_n 2, 1) := by decide +kernel
theorem d_Reader_feed_34 : decode prog_1_method_2_code 34 = .ok (.invokevirtual 41, 3) := by decide +kernel
theorem d_Reader_feed_37 : decode prog_1_method_2_code 37 = .ok (.aload_n 0, 1) := by decide +kernel
theorem d_Reader_feed_38 : decode prog_1_method_2_code 38 = .ok (.getfield 10, 3) := by decide +kernel
theorem d_Reader_feed_41 : decode prog_1_method_2_code 41 = .ok (.iload_n 3, 1) := by decide +kernel
theorem d_Reader_feed_42 : decode prog_1_method_2_code 42 = .ok (.invokevirtual 41, 3) := by decide +kernel
theorem d_Reader_feed_45 : decode prog_1_method_2_code 45 = .ok (.aload_n 0, 1) := by decide +kernel
theorem d_Reader_feed_46 : decode prog_1_method_2_code 46 = .ok (.getfield 10, 3) := by decide +kernel
theorem d_Reader_feed_49 : decode prog_1_method_2_code 49 = .ok (.iload 4, 2) := by decide +kernel
theorem d_Reader_feed_51 : decode prog_1_method_2_code 51 = .ok (.invokevirtual 41, 3) := by decide +kernel
theorem d_Reader_feed_54 : decode prog_1_method_2_code 54 = .ok (.aload_n 0, 1) := by decide +kernel
theorem d_Reader_feed_55 : decode prog_1_method_2_code 55 = .ok (.getfield 10, 3) := by decide +kernel
theorem d_Reader_feed_58 : decode prog_1_method_2_code 58 = .ok (.iload 5, 2) := by decide +kernel
theorem d_Reader_feed_60 : decode prog_1_method_2_code 60 = .ok (.invokevirtual 41, 3) := by decide +kernel
theorem d_Reader_feed_63 : decode prog_1_method_2_code 63 = .ok (.aload_n 0, 1) := by decide +kernel
theorem d_Reader_feed_64 : decode prog_1_method_2_code 64 = .ok (.getfield 10, 3) := by decide +kernel
theorem d_Reader_feed_67 : decode prog_1_method_2_code 67 = .ok (.getfield 34, 3) := by decide +kernel
theorem d_Reader_feed_70 : decode prog_1_method_2_code 70 = .ok (.ireturn, 1) := by decide +kernel
theorem d_Reader_end_0 : decode prog_1_method_3_code 0 = .ok (.iload_n 1, 1) := by decide +kernel
theorem d_Reader_end_1 : decode prog_1_method_3_code 1 = .ok (.ifCond .lt 14, 3) := by decide +kernel
theorem d_Reader_end_4 : decode prog_1_method_3_code 4 = .ok (.iload_n 1, 1) := by decide +kernel
theorem d_Reader_end_5 : decode prog_1_method_3_code 5 = .ok (.aload_n 0, 1) := by decide +kernel
theorem d_Reader_end_6 : decode prog_1_method_3_code 6 = .ok (.getfield 10, 3) := by decide +kernel
theorem d_Reader_end_9 : decode prog_1_method_3_code 9 = .ok (.getfield 34, 3) := by decide +kernel
theorem d_Reader_end_12 : decode prog_1_method_3_code 12 = .ok (.if_icmp .le 11, 3) := by decide +kernel
theorem d_Reader_end_23 : decode prog_1_method_3_code 23 = .ok (.aload_n 0, 1) := by decide +kernel
theorem d_Reader_end_24 : decode prog_1_method_3_code 24 = .ok (.getfield 10, 3) := by decide +kernel
theorem d_Reader_end_27 : decode prog_1_method_3_code 27 = .ok (.iload_n 1, 1) := by decide +kernel
theorem d_Reader_end_28 : decode prog_1_method_3_code 28 = .ok (.putfield 34, 3) := by decide +kernel
theorem d_Reader_end_31 : decode prog_1_method_3_code 31 = .ok (.iload_n 1, 1) := by decide +kernel
theorem d_Reader_end_32 : decode prog_1_method_3_code 32 = .ok (.ireturn, 1) := by decide +kernel
set_option maxRecDepth 100000 in
theorem own_IAE_47 : (Bundle.ownAtoms0 "WasmReader" 47 "java/lang/IllegalArgumentException" ["java/lang/RuntimeException", "java/lang/Exception"]).all (fun w => decide (w ∈ xtb) || decide (w ∈ xbad)) = true := by decide +kernel
theorem d_Reader_end_15 : decode prog_1_method_3_code 15 = .ok (.new 45, 3) := by decide +kernel
theorem d_Reader_end_18 : decode prog_1_method_3_code 18 = .ok (.dup, 1) := by decide +kernel
theorem d_Reader_end_19 : decode prog_1_method_3_code 19 = .ok (.invokespecial 47, 3) := by decide +kernel
theorem d_Reader_end_22 : decode prog_1_method_3_code 22 = .ok (.athrow, 1) := by decide +kernel
theorem d_Reader_count_0 : decode prog_1_method_5_code 0 = .ok (.aload_n 0, 1) := by decide +kernel
theorem d_Reader_count_1 : decode prog_1_method_5_code 1 = .ok (.getfield 82, 3) := by decide +kernel
theorem d_Reader_count_4 : decode prog_1_method_5_code 4 = .ok (.ifCond .ne 11, 3) := by decide +kernel
set_option maxRecDepth 100000 in
theorem own_ISE_40 : (Bundle.ownAtoms0 "WasmReader" 40 "java/lang/IllegalStateException" ["java/lang/RuntimeException", "java/lang/Exception"]).all (fun w => decide (w ∈ xtb) || decide (w ∈ xbad)) = true := by decide +kernel
theorem d_Reader_count_7 : decode prog_1_method_5_code 7 = .ok (.new 38, 3) := by decide +kernel
theorem d_Reader_count_10 : decode prog_1_method_5_code 10 = .ok (.dup, 1) := by decide +kernel
theorem d_Reader_count_11 : decode prog_1_method_5_code 11 = .ok (.invokespecial 40, 3) := by decide +kernel
theorem d_Reader_count_14 : decode prog_1_method_5_code 14 = .ok (.athrow, 1) := by decide +kernel
theorem d_Reader_function_0 : decode prog_1_method_6_code 0 = .ok (.aload_n 0, 1) := by decide +kernel
theorem d_Reader_function_1 : decode prog_1_method_6_code 1 = .ok (.getfield 82, 3) := by decide +kernel
theorem d_Reader_function_4 : decode prog_1_method_6_code 4 = .ok (.ifCond .ne 11, 3) := by decide +kernel
theorem d_Reader_function_7 : decode prog_1_method_6_code 7 = .ok (.new 38, 3) := by decide +kernel
theorem d_Reader_function_10 : decode prog_1_method_6_code 10 = .ok (.dup, 1) := by decide +kernel
theorem d_Reader_function_11 : decode prog_1_method_6_code 11 = .ok (.invokespecial 40, 3) := by decide +kernel
theorem d_Reader_function_14 : decode prog_1_method_6_code 14 = .ok (.athrow, 1) := by decide +kernel
theorem d_Reader_export_0 : decode prog_1_method_7_code 0 = .ok (.aload_n 0, 1) := by decide +kernel
theorem d_Reader_export_1 : decode prog_1_method_7_code 1 = .ok (.getfield 82, 3) := by decide +kernel
theorem d_Reader_export_4 : decode prog_1_method_7_code 4 = .ok (.ifCond .ne 11, 3) := by decide +kernel
theorem d_Reader_export_7 : decode prog_1_method_7_code 7 = .ok (.new 38, 3) := by decide +kernel
theorem d_Reader_export_10 : decode prog_1_method_7_code 10 = .ok (.dup, 1) := by decide +kernel
theorem d_Reader_export_11 : decode prog_1_method_7_code 11 = .ok (.invokespecial 40, 3) := by decide +kernel
theorem d_Reader_export_14 : decode prog_1_method_7_code 14 = .ok (.athrow, 1) := by decide +kernel
theorem d_Reader_global_0 : decode prog_1_method_8_code 0 = .ok (.aload_n 0, 1) := by decide +kernel
theorem d_Reader_global_1 : decode prog_1_method_8_code 1 = .ok (.getfield 82, 3) := by decide +kernel
theorem d_Reader_global_4 : decode prog_1_method_8_code 4 = .ok (.ifCond .ne 11, 3) := by decide +kernel
theorem d_Reader_global_7 : decode prog_1_method_8_code 7 = .ok (.new 38, 3) := by decide +kernel
theorem d_Reader_global_10 : decode prog_1_method_8_code 10 = .ok (.dup, 1) := by decide +kernel
theorem d_Reader_global_11 : decode prog_1_method_8_code 11 = .ok (.invokespecial 40, 3) := by decide +kernel
theorem d_Reader_global_14 : decode prog_1_method_8_code 14 = .ok (.athrow, 1) := by decide +kernel
theorem d_Reader_initial_0 : decode prog_1_method_9_code 0 = .ok (.aload_n 0, 1) := by decide +kernel
theorem d_Reader_initial_1 : decode prog_1_method_9_code 1 = .ok (.getfield 82, 3) := by decide +kernel
theorem d_Reader_initial_4 : decode prog_1_method_9_code 4 = .ok (.ifCond .ne 11, 3) := by decide +kernel
theorem d_Reader_initial_7 : decode prog_1_method_9_code 7 = .ok (.new 38, 3) := by decide +kernel
theorem d_Reader_initial_10 : decode prog_1_method_9_code 10 = .ok (.dup, 1) := by decide +kernel
theorem d_Reader_initial_11 : decode prog_1_method_9_code 11 = .ok (.invokespecial 40, 3) := by decide +kernel
theorem d_Reader_initial_14 : decode prog_1_method_9_code 14 = .ok (.athrow, 1) := by decide +kernel
