def y_Model_four : MethodName := ⟨"WasmReaderModel", "four", "(I)V"⟩
def y_Model_feed : MethodName := ⟨"WasmReaderModel", "feed", "(IIIII)I"⟩
def y_Model_end : MethodName := ⟨"WasmReaderModel", "end", "(I)I"⟩
def y_Model_thrown : MethodName := ⟨"WasmReaderModel", "thrown", "()I"⟩
def y_Model_fails : MethodName := ⟨"WasmReaderModel", "fails", "(I)Z"⟩
def y_Model_count : MethodName := ⟨"WasmReaderModel", "count", "(I)I"⟩
def y_Model_function : MethodName := ⟨"WasmReaderModel", "function", "(II)I"⟩
def y_Model_export : MethodName := ⟨"WasmReaderModel", "export", "(II)I"⟩
def y_Model_global : MethodName := ⟨"WasmReaderModel", "global", "(II)I"⟩
def y_Model_initial : MethodName := ⟨"WasmReaderModel", "initial", "(I)J"⟩
theorem m_241 : Cond.fieldLink "WasmReaderModel" 411 "WasmReaderModel" "rows" "I" ∈ xtb := x_in (List.mem_of_getElem? (i := 1322) (by decide +kernel)) (by decide +kernel)
theorem m_242 : Cond.fieldLink "WasmReaderModel" 46 "WasmReaderModel" "thrown" "I" ∈ xtb := x_in (List.mem_of_getElem? (i := 1323) (by decide +kernel)) (by decide +kernel)
theorem m_243 : Cond.methodLink "WasmReaderModel" 414 y_Model_four ∈ xtb := x_in (List.mem_of_getElem? (i := 1402) (by decide +kernel)) (by decide +kernel)
theorem m_244 : Cond.code y_Model_four prog_14_method_42_code 3 none ∈ xtb := x_in (List.mem_of_getElem? (i := 1405) (by decide +kernel)) (by decide +kernel)
theorem m_245 : Cond.initialized "WasmReaderModel" ∈ xtb := x_in (List.mem_of_getElem? (i := 98) (by decide +kernel)) (by decide +kernel)
theorem m_246 : Cond.instanceMethod y_Model_four ∈ xtb := x_in (List.mem_of_getElem? (i := 1404) (by decide +kernel)) (by decide +kernel)
theorem m_247 : Cond.selects "WasmReaderModel" y_Model_four y_Model_four ∈ xtb := x_in (List.mem_of_getElem? (i := 50) (by decide +kernel)) (by decide +kernel)
theorem m_248 : Cond.fieldLink "WasmReaderModel" 423 "WasmReaderModel" "isRead" "Z" ∈ xtb := x_in (List.mem_of_getElem? (i := 1324) (by decide +kernel)) (by decide +kernel)
theorem m_249 : Cond.methodLink "WasmReaderModel" 438 y_Model_fails ∈ xtb := x_in (List.mem_of_getElem? (i := 1612) (by decide +kernel)) (by decide +kernel)
theorem m_250 : Cond.code y_Model_fails prog_14_method_46_code 2 (some .boolean) ∈ xtb := x_in (List.mem_of_getElem? (i := 1615) (by decide +kernel)) (by decide +kernel)
theorem m_251 : Cond.instanceMethod y_Model_fails ∈ xtb := x_in (List.mem_of_getElem? (i := 1614) (by decide +kernel)) (by decide +kernel)
theorem m_252 : Cond.selects "WasmReaderModel" y_Model_fails y_Model_fails ∈ xtb := x_in (List.mem_of_getElem? (i := 86) (by decide +kernel)) (by decide +kernel)
theorem d_Model_four_0 : decode prog_14_method_42_code 0 = .ok (.bipush 24, 2) := by decide +kernel
theorem d_Model_four_2 : decode prog_14_method_42_code 2 = .ok (.istore_n 2, 1) := by decide +kernel
theorem d_Model_four_3 : decode prog_14_method_42_code 3 = .ok (.iload_n 2, 1) := by decide +kernel
theorem d_Model_four_4 : decode prog_14_method_42_code 4 = .ok (.ifCond .lt 29, 3) := by decide +kernel
theorem d_Model_four_7 : decode prog_14_method_42_code 7 = .ok (.aload_n 0, 1) := by decide +kernel
theorem d_Model_four_8 : decode prog_14_method_42_code 8 = .ok (.getfield 9, 3) := by decide +kernel
theorem d_Model_four_11 : decode prog_14_method_42_code 11 = .ok (.aload_n 0, 1) := by decide +kernel
theorem d_Model_four_12 : decode prog_14_method_42_code 12 = .ok (.dup, 1) := by decide +kernel
theorem d_Model_four_13 : decode prog_14_method_42_code 13 = .ok (.getfield 411, 3) := by decide +kernel
theorem d_Model_four_16 : decode prog_14_method_42_code 16 = .ok (.dup_x1, 1) := by decide +kernel
theorem d_Model_four_17 : decode prog_14_method_42_code 17 = .ok (.iconst 1, 1) := by decide +kernel
theorem d_Model_four_18 : decode prog_14_method_42_code 18 = .ok (.iadd, 1) := by decide +kernel
theorem d_Model_four_19 : decode prog_14_method_42_code 19 = .ok (.putfield 411, 3) := by decide +kernel
theorem d_Model_four_22 : decode prog_14_method_42_code 22 = .ok (.iload_n 1, 1) := by decide +kernel
theorem d_Model_four_23 : decode prog_14_method_42_code 23 = .ok (.iload_n 2, 1) := by decide +kernel
theorem d_Model_four_24 : decode prog_14_method_42_code 24 = .ok (.ishr, 1) := by decide +kernel
theorem d_Model_four_25 : decode prog_14_method_42_code 25 = .ok (.i2b, 1) := by decide +kernel
theorem d_Model_four_26 : decode prog_14_method_42_code 26 = .ok (.bastore, 1) := by decide +kernel
theorem d_Model_four_27 : decode prog_14_method_42_code 27 = .ok (.iinc 2 (-8), 3) := by decide +kernel
theorem d_Model_four_30 : decode prog_14_method_42_code 30 = .ok (.goto (-27), 3) := by decide +kernel
theorem d_Model_four_33 : decode prog_14_method_42_code 33 = .ok (.return_, 1) := by decide +kernel
theorem d_Model_feed_0 : decode prog_14_method_41_code 0 = .ok (.aload_n 0, 1) := by decide +kernel
theorem d_Model_feed_1 : decode prog_14_method_41_code 1 = .ok (.aload_n 0, 1) := by decide +kernel
theorem d_Model_feed_2 : decode prog_14_method_41_code 2 = .ok (.getfield 411, 3) := by decide +kernel
theorem d_Model_feed_5 : decode prog_14_method_41_code 5 = .ok (.bipush 20, 2) := by decide +kernel
theorem d_Model_feed_7 : decode prog_14_method_41_code 7 = .ok (.iadd, 1) := by decide +kernel
theorem d_Model_feed_8 : decode prog_14_method_41_code 8 = .ok (.sipush 4000, 3) := by decide +kernel
theorem d_Model_feed_11 : decode prog_14_method_41_code 11 = .ok (.if_icmp .le 7, 3) := by decide +kernel
theorem d_Model_feed_18 : decode prog_14_method_41_code 18 = .ok (.iconst 0, 1) := by decide +kernel
theorem d_Model_feed_19 : decode prog_14_method_41_code 19 = .ok (.putfield 46, 3) := by decide +kernel
theorem d_Model_feed_22 : decode prog_14_method_41_code 22 = .ok (.aload_n 0, 1) := by decide +kernel
theorem d_Model_feed_23 : decode prog_14_method_41_code 23 = .ok (.getfield 46, 3) := by decide +kernel
theorem d_Model_feed_26 : decode prog_14_method_41_code 26 = .ok (.ifCond .le 5, 3) := by decide +kernel
theorem d_Model_feed_31 : decode prog_14_method_41_code 31 = .ok (.aload_n 0, 1) := by decide +kernel
theorem d_Model_feed_32 : decode prog_14_method_41_code 32 = .ok (.iload_n 1, 1) := by decide +kernel
theorem d_Model_feed_33 : decode prog_14_method_41_code 33 = .ok (.invokevirtual 414, 3) := by decide +kernel
theorem nm_Model_four : x_nm y_Model_four 1 = true := by decide +kernel
theorem d_Model_feed_36 : decode prog_14_method_41_code 36 = .ok (.aload_n 0, 1) := by decide +kernel
theorem d_Model_feed_37 : decode prog_14_method_41_code 37 = .ok (.iload_n 2, 1) := by decide +kernel
theorem d_Model_feed_38 : decode prog_14_method_41_code 38 = .ok (.invokevirtual 414, 3) := by decide +kernel
theorem d_Model_feed_41 : decode prog_14_method_41_code 41 = .ok (.aload_n 0, 1) := by decide +kernel
theorem d_Model_feed_42 : decode prog_14_method_41_code 42 = .ok (.iload_n 3, 1) := by decide +kernel
theorem d_Model_feed_43 : decode prog_14_method_41_code 43 = .ok (.invokevirtual 414, 3) := by decide +kernel
theorem d_Model_feed_46 : decode prog_14_method_41_code 46 = .ok (.aload_n 0, 1) := by decide +kernel
theorem d_Model_feed_47 : decode prog_14_method_41_code 47 = .ok (.iload 4, 2) := by decide +kernel
theorem d_Model_feed_49 : decode prog_14_method_41_code 49 = .ok (.invokevirtual 414, 3) := by decide +kernel
theorem d_Model_feed_52 : decode prog_14_method_41_code 52 = .ok (.aload_n 0, 1) := by decide +kernel
theorem d_Model_feed_53 : decode prog_14_method_41_code 53 = .ok (.iload 5, 2) := by decide +kernel
theorem d_Model_feed_55 : decode prog_14_method_41_code 55 = .ok (.invokevirtual 414, 3) := by decide +kernel
theorem d_Model_feed_58 : decode prog_14_method_41_code 58 = .ok (.aload_n 0, 1) := by decide +kernel
theorem d_Model_feed_59 : decode prog_14_method_41_code 59 = .ok (.getfield 411, 3) := by decide +kernel
theorem d_Model_feed_62 : decode prog_14_method_41_code 62 = .ok (.ireturn, 1) := by decide +kernel
theorem d_Model_end_0 : decode prog_14_method_43_code 0 = .ok (.aload_n 0, 1) := by decide +kernel
theorem d_Model_end_1 : decode prog_14_method_43_code 1 = .ok (.iload_n 1, 1) := by decide +kernel
theorem d_Model_end_2 : decode prog_14_method_43_code 2 = .ok (.ifCond .lt 11, 3) := by decide +kernel
theorem d_Model_end_5 : decode prog_14_method_43_code 5 = .ok (.iload_n 1, 1) := by decide +kernel
theorem d_Model_end_6 : decode prog_14_method_43_code 6 = .ok (.aload_n 0, 1) := by decide +kernel
theorem d_Model_end_7 : decode prog_14_method_43_code 7 = .ok (.getfield 411, 3) := by decide +kernel
theorem d_Model_end_10 : decode prog_14_method_43_code 10 = .ok (.if_icmp .le 7, 3) := by decide +kernel
theorem d_Model_end_17 : decode prog_14_method_43_code 17 = .ok (.iconst 0, 1) := by decide +kernel
theorem d_Model_end_18 : decode prog_14_method_43_code 18 = .ok (.putfield 46, 3) := by decide +kernel
theorem d_Model_end_21 : decode prog_14_method_43_code 21 = .ok (.aload_n 0, 1) := by decide +kernel
theorem d_Model_end_22 : decode prog_14_method_43_code 22 = .ok (.getfield 46, 3) := by decide +kernel
theorem d_Model_end_25 : decode prog_14_method_43_code 25 = .ok (.ifCond .le 5, 3) := by decide +kernel
theorem d_Model_end_30 : decode prog_14_method_43_code 30 = .ok (.aload_n 0, 1) := by decide +kernel
theorem d_Model_end_31 : decode prog_14_method_43_code 31 = .ok (.iload_n 1, 1) := by decide +kernel
theorem d_Model_end_32 : decode prog_14_method_43_code 32 = .ok (.putfield 411, 3) := by decide +kernel
theorem d_Model_end_35 : decode prog_14_method_43_code 35 = .ok (.iload_n 1, 1) := by decide +kernel
theorem d_Model_end_36 : decode prog_14_method_43_code 36 = .ok (.ireturn, 1) := by decide +kernel
theorem d_Model_end_13 : decode prog_14_method_43_code 13 = .ok (.iconst 1, 1) := by decide +kernel
theorem d_Model_end_14 : decode prog_14_method_43_code 14 = .ok (.goto 4, 3) := by decide +kernel
theorem d_Model_end_28 : decode prog_14_method_43_code 28 = .ok (.iconst 0, 1) := by decide +kernel
theorem d_Model_end_29 : decode prog_14_method_43_code 29 = .ok (.ireturn, 1) := by decide +kernel
theorem d_Model_thrown_0 : decode prog_14_method_2_code 0 = .ok (.aload_n 0, 1) := by decide +kernel
theorem d_Model_thrown_1 : decode prog_14_method_2_code 1 = .ok (.getfield 46, 3) := by decide +kernel
theorem d_Model_thrown_4 : decode prog_14_method_2_code 4 = .ok (.ireturn, 1) := by decide +kernel
theorem d_Model_fails_0 : decode prog_14_method_46_code 0 = .ok (.aload_n 0, 1) := by decide +kernel
theorem d_Model_fails_1 : decode prog_14_method_46_code 1 = .ok (.iload_n 1, 1) := by decide +kernel
theorem d_Model_fails_2 : decode prog_14_method_46_code 2 = .ok (.putfield 46, 3) := by decide +kernel
theorem d_Model_fails_5 : decode prog_14_method_46_code 5 = .ok (.iload_n 1, 1) := by decide +kernel
theorem d_Model_fails_6 : decode prog_14_method_46_code 6 = .ok (.ifCond .le 7, 3) := by decide +kernel
theorem d_Model_fails_9 : decode prog_14_method_46_code 9 = .ok (.iconst 1, 1) := by decide +kernel
theorem d_Model_fails_10 : decode prog_14_method_46_code 10 = .ok (.goto 4, 3) := by decide +kernel
theorem d_Model_fails_14 : decode prog_14_method_46_code 14 = .ok (.ireturn, 1) := by decide +kernel
theorem d_Model_count_0 : decode prog_14_method_47_code 0 = .ok (.aload_n 0, 1) := by decide +kernel
theorem d_Model_count_1 : decode prog_14_method_47_code 1 = .ok (.aload_n 0, 1) := by decide +kernel
theorem d_Model_count_2 : decode prog_14_method_47_code 2 = .ok (.getfield 423, 3) := by decide +kernel
theorem d_Model_count_5 : decode prog_14_method_47_code 5 = .ok (.ifCond .ne 7, 3) := by decide +kernel
theorem d_Model_count_8 : decode prog_14_method_47_code 8 = .ok (.iconst 1, 1) := by decide +kernel
theorem d_Model_count_9 : decode prog_14_method_47_code 9 = .ok (.goto 18, 3) := by decide +kernel
theorem d_Model_count_27 : decode prog_14_method_47_code 27 = .ok (.invokevirtual 438, 3) := by decide +kernel
theorem nm_Model_fails : x_nm y_Model_fails 1 = true := by decide +kernel
theorem d_Model_count_30 : decode prog_14_method_47_code 30 = .ok (.ifCond .eq 5, 3) := by decide +kernel
theorem d_Model_count_33 : decode prog_14_method_47_code 33 = .ok (.iconst 0, 1) := by decide +kernel
theorem d_Model_count_34 : decode prog_14_method_47_code 34 = .ok (.ireturn, 1) := by decide +kernel
theorem d_Model_function_0 : decode prog_14_method_48_code 0 = .ok (.aload_n 0, 1) := by decide +kernel
theorem d_Model_function_1 : decode prog_14_method_48_code 1 = .ok (.aload_n 0, 1) := by decide +kernel
theorem d_Model_function_2 : decode prog_14_method_48_code 2 = .ok (.getfield 423, 3) := by decide +kernel
theorem d_Model_function_5 : decode prog_14_method_48_code 5 = .ok (.ifCond .ne 7, 3) := by decide +kernel
theorem d_Model_function_8 : decode prog_14_method_48_code 8 = .ok (.iconst 1, 1) := by decide +kernel
theorem d_Model_function_9 : decode prog_14_method_48_code 9 = .ok (.goto 23, 3) := by decide +kernel
theorem d_Model_function_32 : decode prog_14_method_48_code 32 = .ok (.invokevirtual 438, 3) := by decide +kernel
theorem d_Model_function_35 : decode prog_14_method_48_code 35 = .ok (.ifCond .eq 5, 3) := by decide +kernel
theorem d_Model_function_38 : decode prog_14_method_48_code 38 = .ok (.iconst 0, 1) := by decide +kernel
theorem d_Model_function_39 : decode prog_14_method_48_code 39 = .ok (.ireturn, 1) := by decide +kernel
theorem d_Model_export_0 : decode prog_14_method_49_code 0 = .ok (.aload_n 0, 1) := by decide +kernel
theorem d_Model_export_1 : decode prog_14_method_49_code 1 = .ok (.aload_n 0, 1) := by decide +kernel
theorem d_Model_export_2 : decode prog_14_method_49_code 2 = .ok (.getfield 423, 3) := by decide +kernel
theorem d_Model_export_5 : decode prog_14_method_49_code 5 = .ok (.ifCond .ne 7, 3) := by decide +kernel
theorem d_Model_export_8 : decode prog_14_method_49_code 8 = .ok (.iconst 1, 1) := by decide +kernel
theorem d_Model_export_9 : decode prog_14_method_49_code 9 = .ok (.goto 58, 3) := by decide +kernel
theorem d_Model_export_67 : decode prog_14_method_49_code 67 = .ok (.invokevirtual 438, 3) := by decide +kernel
theorem d_Model_export_70 : decode prog_14_method_49_code 70 = .ok (.ifCond .eq 5, 3) := by decide +kernel
theorem d_Model_export_73 : decode prog_14_method_49_code 73 = .ok (.iconst 0, 1) := by decide +kernel
theorem d_Model_export_74 : decode prog_14_method_49_code 74 = .ok (.ireturn, 1) := by decide +kernel
theorem d_Model_global_0 : decode prog_14_method_50_code 0 = .ok (.aload_n 0, 1) := by decide +kernel
theorem d_Model_global_1 : decode prog_14_method_50_code 1 = .ok (.aload_n 0, 1) := by decide +kernel
theorem d_Model_global_2 : decode prog_14_method_50_code 2 = .ok (.getfield 423, 3) := by decide +kernel
theorem d_Model_global_5 : decode prog_14_method_50_code 5 = .ok (.ifCond .ne 7, 3) := by decide +kernel
theorem d_Model_global_8 : decode prog_14_method_50_code 8 = .ok (.iconst 1, 1) := by decide +kernel
theorem d_Model_global_9 : decode prog_14_method_50_code 9 = .ok (.goto 36, 3) := by decide +kernel
theorem d_Model_global_45 : decode prog_14_method_50_code 45 = .ok (.invokevirtual 438, 3) := by decide +kernel
theorem d_Model_global_48 : decode prog_14_method_50_code 48 = .ok (.ifCond .eq 5, 3) := by decide +kernel
theorem d_Model_global_51 : decode prog_14_method_50_code 51 = .ok (.iconst 0, 1) := by decide +kernel
theorem d_Model_global_52 : decode prog_14_method_50_code 52 = .ok (.ireturn, 1) := by decide +kernel
theorem d_Model_initial_0 : decode prog_14_method_51_code 0 = .ok (.aload_n 0, 1) := by decide +kernel
theorem d_Model_initial_1 : decode prog_14_method_51_code 1 = .ok (.aload_n 0, 1) := by decide +kernel
theorem d_Model_initial_2 : decode prog_14_method_51_code 2 = .ok (.getfield 423, 3) := by decide +kernel
theorem d_Model_initial_5 : decode prog_14_method_51_code 5 = .ok (.ifCond .ne 7, 3) := by decide +kernel
theorem d_Model_initial_8 : decode prog_14_method_51_code 8 = .ok (.iconst 1, 1) := by decide +kernel
theorem d_Model_initial_9 : decode prog_14_method_51_code 9 = .ok (.goto 23, 3) := by decide +kernel
theorem d_Model_initial_32 : decode prog_14_method_51_code 32 = .ok (.invokevirtual 438, 3) := by decide +kernel
theorem d_Model_initial_35 : decode prog_14_method_51_code 35 = .ok (.ifCond .eq 5, 3) := by decide +kernel
theorem d_Model_initial_38 : decode prog_14_method_51_code 38 = .ok (.lconst 0, 1) := by decide +kernel
theorem d_Model_initial_39 : decode prog_14_method_51_code 39 = .ok (.lreturn, 1) := by decide +kernel
