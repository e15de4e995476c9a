def y_Throwable_init : MethodName := ⟨"java/lang/Throwable", "<init>", "(Ljava/lang/String;Ljava/lang/Throwable;ZZ)V"⟩
def y_Exception_init : MethodName := ⟨"java/lang/Exception", "<init>", "(Ljava/lang/String;Ljava/lang/Throwable;ZZ)V"⟩
def y_RuntimeEx_init : MethodName := ⟨"java/lang/RuntimeException", "<init>", "(Ljava/lang/String;Ljava/lang/Throwable;ZZ)V"⟩
def y_Stop_init : MethodName := ⟨"WasmReaderModel$Stop", "<init>", "(I)V"⟩
theorem m_695 : Cond.methodLink "java/lang/Throwable" 1 objectInit ∈ xtb := x_in (List.mem_of_getElem? (i := 971) (by decide +kernel)) (by decide +kernel)
theorem m_696 : Cond.fieldLink "java/lang/Throwable" 7 "java/lang/Throwable" "cause" "Ljava/lang/Throwable;" ∈ xtb := x_in (List.mem_of_getElem? (i := 1000) (by decide +kernel)) (by decide +kernel)
theorem m_697 : Cond.fieldLink "java/lang/Throwable" 13 "java/lang/Throwable" "UNASSIGNED_STACK" "[Ljava/lang/StackTraceElement;" ∈ xtb := x_in (List.mem_of_getElem? (i := 972) (by decide +kernel)) (by decide +kernel)
theorem m_698 : Cond.fieldLink "java/lang/Throwable" 17 "java/lang/Throwable" "stackTrace" "[Ljava/lang/StackTraceElement;" ∈ xtb := x_in (List.mem_of_getElem? (i := 1001) (by decide +kernel)) (by decide +kernel)
theorem m_699 : Cond.fieldLink "java/lang/Throwable" 20 "java/lang/Throwable" "SUPPRESSED_SENTINEL" "Ljava/util/List;" ∈ xtb := x_in (List.mem_of_getElem? (i := 974) (by decide +kernel)) (by decide +kernel)
theorem m_700 : Cond.fieldLink "java/lang/Throwable" 24 "java/lang/Throwable" "suppressedExceptions" "Ljava/util/List;" ∈ xtb := x_in (List.mem_of_getElem? (i := 1002) (by decide +kernel)) (by decide +kernel)
theorem m_701 : Cond.fieldLink "java/lang/Throwable" 31 "java/lang/Throwable" "detailMessage" "Ljava/lang/String;" ∈ xtb := x_in (List.mem_of_getElem? (i := 999) (by decide +kernel)) (by decide +kernel)
theorem m_702 : Cond.methodLink "java/lang/Exception" 16 y_Throwable_init ∈ xtb := x_in (List.mem_of_getElem? (i := 1443) (by decide +kernel)) (by decide +kernel)
theorem m_703 : Cond.code y_Throwable_init prog_24_method_5_code 5 none ∈ xtb := x_in (List.mem_of_getElem? (i := 1445) (by decide +kernel)) (by decide +kernel)
theorem m_704 : Cond.initialized "java/lang/Throwable" ∈ xtb := x_in (List.mem_of_getElem? (i := 100) (by decide +kernel)) (by decide +kernel)
theorem m_705 : Cond.instanceMethod y_Throwable_init ∈ xtb := x_in (List.mem_of_getElem? (i := 1444) (by decide +kernel)) (by decide +kernel)
theorem m_706 : Cond.methodLink "java/lang/RuntimeException" 16 y_Exception_init ∈ xtb := x_in (List.mem_of_getElem? (i := 1440) (by decide +kernel)) (by decide +kernel)
theorem m_707 : Cond.code y_Exception_init prog_17_method_5_code 5 none ∈ xtb := x_in (List.mem_of_getElem? (i := 1442) (by decide +kernel)) (by decide +kernel)
theorem m_708 : Cond.initialized "java/lang/Exception" ∈ xtb := x_in (List.mem_of_getElem? (i := 101) (by decide +kernel)) (by decide +kernel)
theorem m_709 : Cond.instanceMethod y_Exception_init ∈ xtb := x_in (List.mem_of_getElem? (i := 1441) (by decide +kernel)) (by decide +kernel)
theorem m_710 : Cond.methodLink "WasmReaderModel$Stop" 1 y_RuntimeEx_init ∈ xtb := x_in (List.mem_of_getElem? (i := 1437) (by decide +kernel)) (by decide +kernel)
theorem m_711 : Cond.code y_RuntimeEx_init prog_22_method_5_code 5 none ∈ xtb := x_in (List.mem_of_getElem? (i := 1439) (by decide +kernel)) (by decide +kernel)
theorem m_712 : Cond.initialized "java/lang/RuntimeException" ∈ xtb := x_in (List.mem_of_getElem? (i := 102) (by decide +kernel)) (by decide +kernel)
theorem m_713 : Cond.instanceMethod y_RuntimeEx_init ∈ xtb := x_in (List.mem_of_getElem? (i := 1438) (by decide +kernel)) (by decide +kernel)
theorem m_714 : Cond.fieldLink "WasmReaderModel$Stop" 7 "WasmReaderModel$Stop" "why" "I" ∈ xtb := x_in (List.mem_of_getElem? (i := 1446) (by decide +kernel)) (by decide +kernel)
theorem d_Throwable_init_0 : decode prog_24_method_5_code 0 = .ok (.aload_n 0, 1) := by decide +kernel
theorem d_Throwable_init_1 : decode prog_24_method_5_code 1 = .ok (.invokespecial 1, 3) := by decide +kernel
theorem d_Throwable_init_4 : decode prog_24_method_5_code 4 = .ok (.aload_n 0, 1) := by decide +kernel
theorem d_Throwable_init_5 : decode prog_24_method_5_code 5 = .ok (.aload_n 0, 1) := by decide +kernel
theorem d_Throwable_init_6 : decode prog_24_method_5_code 6 = .ok (.putfield 7, 3) := by decide +kernel
theorem d_Throwable_init_9 : decode prog_24_method_5_code 9 = .ok (.aload_n 0, 1) := by decide +kernel
theorem d_Throwable_init_10 : decode prog_24_method_5_code 10 = .ok (.getstatic 13, 3) := by decide +kernel
theorem d_Throwable_init_13 : decode prog_24_method_5_code 13 = .ok (.putfield 17, 3) := by decide +kernel
theorem d_Throwable_init_16 : decode prog_24_method_5_code 16 = .ok (.aload_n 0, 1) := by decide +kernel
theorem d_Throwable_init_17 : decode prog_24_method_5_code 17 = .ok (.getstatic 20, 3) := by decide +kernel
theorem d_Throwable_init_20 : decode prog_24_method_5_code 20 = .ok (.putfield 24, 3) := by decide +kernel
theorem d_Throwable_init_23 : decode prog_24_method_5_code 23 = .ok (.iload 4, 2) := by decide +kernel
theorem d_Throwable_init_25 : decode prog_24_method_5_code 25 = .ok (.ifCond .eq 11, 3) := by decide +kernel
theorem d_Throwable_init_36 : decode prog_24_method_5_code 36 = .ok (.aload_n 0, 1) := by decide +kernel
theorem d_Throwable_init_37 : decode prog_24_method_5_code 37 = .ok (.aconst_null, 1) := by decide +kernel
theorem d_Throwable_init_38 : decode prog_24_method_5_code 38 = .ok (.putfield 17, 3) := by decide +kernel
theorem d_Throwable_init_41 : decode prog_24_method_5_code 41 = .ok (.aload_n 0, 1) := by decide +kernel
theorem d_Throwable_init_42 : decode prog_24_method_5_code 42 = .ok (.aload_n 1, 1) := by decide +kernel
theorem d_Throwable_init_43 : decode prog_24_method_5_code 43 = .ok (.putfield 31, 3) := by decide +kernel
theorem d_Throwable_init_46 : decode prog_24_method_5_code 46 = .ok (.aload_n 0, 1) := by decide +kernel
theorem d_Throwable_init_47 : decode prog_24_method_5_code 47 = .ok (.aload_n 2, 1) := by decide +kernel
theorem d_Throwable_init_48 : decode prog_24_method_5_code 48 = .ok (.putfield 7, 3) := by decide +kernel
theorem d_Throwable_init_51 : decode prog_24_method_5_code 51 = .ok (.iload_n 3, 1) := by decide +kernel
theorem d_Throwable_init_52 : decode prog_24_method_5_code 52 = .ok (.ifCond .ne 8, 3) := by decide +kernel
theorem d_Throwable_init_55 : decode prog_24_method_5_code 55 = .ok (.aload_n 0, 1) := by decide +kernel
theorem d_Throwable_init_56 : decode prog_24_method_5_code 56 = .ok (.aconst_null, 1) := by decide +kernel
theorem d_Throwable_init_57 : decode prog_24_method_5_code 57 = .ok (.putfield 24, 3) := by decide +kernel
theorem d_Throwable_init_60 : decode prog_24_method_5_code 60 = .ok (.return_, 1) := by decide +kernel
theorem d_Exception_init_0 : decode prog_17_method_5_code 0 = .ok (.aload_n 0, 1) := by decide +kernel
theorem d_Exception_init_1 : decode prog_17_method_5_code 1 = .ok (.aload_n 1, 1) := by decide +kernel
theorem d_Exception_init_2 : decode prog_17_method_5_code 2 = .ok (.aload_n 2, 1) := by decide +kernel
theorem d_Exception_init_3 : decode prog_17_method_5_code 3 = .ok (.iload_n 3, 1) := by decide +kernel
theorem d_Exception_init_4 : decode prog_17_method_5_code 4 = .ok (.iload 4, 2) := by decide +kernel
theorem d_Exception_init_6 : decode prog_17_method_5_code 6 = .ok (.invokespecial 16, 3) := by decide +kernel
theorem nm_Throwable_init : x_nm y_Throwable_init 4 = true := by decide +kernel
theorem d_Exception_init_9 : decode prog_17_method_5_code 9 = .ok (.return_, 1) := by decide +kernel
theorem d_RuntimeEx_init_0 : decode prog_22_method_5_code 0 = .ok (.aload_n 0, 1) := by decide +kernel
theorem d_RuntimeEx_init_1 : decode prog_22_method_5_code 1 = .ok (.aload_n 1, 1) := by decide +kernel
theorem d_RuntimeEx_init_2 : decode prog_22_method_5_code 2 = .ok (.aload_n 2, 1) := by decide +kernel
theorem d_RuntimeEx_init_3 : decode prog_22_method_5_code 3 = .ok (.iload_n 3, 1) := by decide +kernel
theorem d_RuntimeEx_init_4 : decode prog_22_method_5_code 4 = .ok (.iload 4, 2) := by decide +kernel
theorem d_RuntimeEx_init_6 : decode prog_22_method_5_code 6 = .ok (.invokespecial 16, 3) := by decide +kernel
theorem nm_Exception_init : x_nm y_Exception_init 4 = true := by decide +kernel
theorem d_RuntimeEx_init_9 : decode prog_22_method_5_code 9 = .ok (.return_, 1) := by decide +kernel
theorem d_Stop_init_0 : decode prog_15_method_1_code 0 = .ok (.aload_n 0, 1) := by decide +kernel
theorem d_Stop_init_1 : decode prog_15_method_1_code 1 = .ok (.aconst_null, 1) := by decide +kernel
theorem d_Stop_init_2 : decode prog_15_method_1_code 2 = .ok (.aconst_null, 1) := by decide +kernel
theorem d_Stop_init_3 : decode prog_15_method_1_code 3 = .ok (.iconst 0, 1) := by decide +kernel
theorem d_Stop_init_4 : decode prog_15_method_1_code 4 = .ok (.iconst 0, 1) := by decide +kernel
theorem d_Stop_init_5 : decode prog_15_method_1_code 5 = .ok (.invokespecial 1, 3) := by decide +kernel
theorem nm_RuntimeEx_init : x_nm y_RuntimeEx_init 4 = true := by decide +kernel
theorem d_Stop_init_8 : decode prog_15_method_1_code 8 = .ok (.aload_n 0, 1) := by decide +kernel
theorem d_Stop_init_9 : decode prog_15_method_1_code 9 = .ok (.iload_n 1, 1) := by decide +kernel
theorem d_Stop_init_10 : decode prog_15_method_1_code 10 = .ok (.putfield 7, 3) := by decide +kernel
theorem d_Stop_init_13 : decode prog_15_method_1_code 13 = .ok (.return_, 1) := by decide +kernel
