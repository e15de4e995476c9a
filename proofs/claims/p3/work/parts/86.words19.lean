def y_Model_read : MethodName := ⟨"WasmReaderModel", "read", "()I"⟩
theorem m_953 : Cond.methodLink "WasmReaderModel" 417 arraycopyName ∈ xtb := x_in (List.mem_of_getElem? (i := 1415) (by decide +kernel)) (by decide +kernel)
theorem m_954 : Cond.native arraycopyName ∈ xtb := x_in (List.mem_of_getElem? (i := 1417) (by decide +kernel)) (by decide +kernel)
theorem m_955 : Cond.static arraycopyName ∈ xtb := x_in (List.mem_of_getElem? (i := 1416) (by decide +kernel)) (by decide +kernel)
theorem m_956 : Cond.initialized "java/lang/System" ∈ xtb := x_in (List.mem_of_getElem? (i := 108) (by decide +kernel)) (by decide +kernel)
set_option maxRecDepth 100000 in
theorem m_957 : Cond.code y_Model_parse prog_14_method_11_code 12 none ∈ xtb := x_in (List.mem_of_getElem? (i := 1421) rfl) (by decide +kernel)
theorem m_958 : Cond.methodLink "WasmReaderModel" 426 y_Model_parse ∈ xtb := x_in (List.mem_of_getElem? (i := 1418) (by decide +kernel)) (by decide +kernel)
theorem m_959 : Cond.instanceMethod y_Model_parse ∈ xtb := x_in (List.mem_of_getElem? (i := 1420) (by decide +kernel)) (by decide +kernel)
theorem m_960 : Cond.selects "WasmReaderModel" y_Model_parse y_Model_parse ∈ xtb := x_in (List.mem_of_getElem? (i := 51) (by decide +kernel)) (by decide +kernel)
theorem m_961 : Cond.castable "WasmReaderModel$Stop" "WasmReaderModel$Stop" ∈ xtb := x_in (List.mem_of_getElem? (i := 1427) (by decide +kernel)) (by decide +kernel)
theorem m_962 : Cond.fieldLink "WasmReaderModel" 435 "WasmReaderModel$Stop" "why" "I" ∈ xtb := x_in (List.mem_of_getElem? (i := 1447) (by decide +kernel)) (by decide +kernel)
theorem m_963 : Cond.methodLink "WasmReaderModel" 429 y_Model_isRoom ∈ xtb := x_in (List.mem_of_getElem? (i := 1537) (by decide +kernel)) (by decide +kernel)
theorem m_964 : Cond.code y_Model_isRoom prog_14_method_44_code 3 (some .boolean) ∈ xtb := x_in (List.mem_of_getElem? (i := 1540) (by decide +kernel)) (by decide +kernel)
theorem m_965 : Cond.instanceMethod y_Model_isRoom ∈ xtb := x_in (List.mem_of_getElem? (i := 1539) (by decide +kernel)) (by decide +kernel)
theorem m_966 : Cond.selects "WasmReaderModel" y_Model_isRoom y_Model_isRoom ∈ xtb := x_in (List.mem_of_getElem? (i := 70) (by decide +kernel)) (by decide +kernel)
set_option maxRecDepth 100000 in
theorem m_967 : Cond.code y_Model_valid2 prog_14_method_26_code 4 none ∈ xtb := x_in (List.mem_of_getElem? (i := 1544) rfl) (by decide +kernel)
theorem m_968 : Cond.methodLink "WasmReaderModel" 433 y_Model_valid2 ∈ xtb := x_in (List.mem_of_getElem? (i := 1541) (by decide +kernel)) (by decide +kernel)
theorem m_969 : Cond.instanceMethod y_Model_valid2 ∈ xtb := x_in (List.mem_of_getElem? (i := 1543) (by decide +kernel)) (by decide +kernel)
theorem m_970 : Cond.selects "WasmReaderModel" y_Model_valid2 y_Model_valid2 ∈ xtb := x_in (List.mem_of_getElem? (i := 71) (by decide +kernel)) (by decide +kernel)
theorem d_Model_read_0 : decode prog_14_method_45_code 0 = .ok (.aload_n 0, 1) := by decide +kernel
theorem d_Model_read_1 : decode prog_14_method_45_code 1 = .ok (.iconst 0, 1) := by decide +kernel
theorem d_Model_read_2 : decode prog_14_method_45_code 2 = .ok (.putfield 46, 3) := by decide +kernel
theorem d_Model_read_5 : decode prog_14_method_45_code 5 = .ok (.aload_n 0, 1) := by decide +kernel
theorem d_Model_read_6 : decode prog_14_method_45_code 6 = .ok (.getfield 9, 3) := by decide +kernel
theorem d_Model_read_9 : decode prog_14_method_45_code 9 = .ok (.iconst 0, 1) := by decide +kernel
theorem d_Model_read_10 : decode prog_14_method_45_code 10 = .ok (.aload_n 0, 1) := by decide +kernel
theorem d_Model_read_11 : decode prog_14_method_45_code 11 = .ok (.getfield 16, 3) := by decide +kernel
theorem d_Model_read_14 : decode prog_14_method_45_code 14 = .ok (.getfield 61, 3) := by decide +kernel
theorem d_Model_read_17 : decode prog_14_method_45_code 17 = .ok (.iconst 0, 1) := by decide +kernel
theorem d_Model_read_18 : decode prog_14_method_45_code 18 = .ok (.aload_n 0, 1) := by decide +kernel
theorem d_Model_read_19 : decode prog_14_method_45_code 19 = .ok (.getfield 411, 3) := by decide +kernel
theorem d_Model_read_22 : decode prog_14_method_45_code 22 = .ok (.invokestatic 417, 3) := by decide +kernel
theorem d_Model_read_25 : decode prog_14_method_45_code 25 = .ok (.aload_n 0, 1) := by decide +kernel
theorem d_Model_read_26 : decode prog_14_method_45_code 26 = .ok (.getfield 16, 3) := by decide +kernel
theorem d_Model_read_29 : decode prog_14_method_45_code 29 = .ok (.aload_n 0, 1) := by decide +kernel
theorem d_Model_read_30 : decode prog_14_method_45_code 30 = .ok (.getfield 411, 3) := by decide +kernel
theorem d_Model_read_33 : decode prog_14_method_45_code 33 = .ok (.putfield 98, 3) := by decide +kernel
theorem d_Model_read_36 : decode prog_14_method_45_code 36 = .ok (.aload_n 0, 1) := by decide +kernel
theorem d_Model_read_37 : decode prog_14_method_45_code 37 = .ok (.iconst 0, 1) := by decide +kernel
theorem d_Model_read_38 : decode prog_14_method_45_code 38 = .ok (.putfield 411, 3) := by decide +kernel
theorem d_Model_read_41 : decode prog_14_method_45_code 41 = .ok (.aload_n 0, 1) := by decide +kernel
theorem d_Model_read_42 : decode prog_14_method_45_code 42 = .ok (.iconst 0, 1) := by decide +kernel
theorem d_Model_read_43 : decode prog_14_method_45_code 43 = .ok (.putfield 423, 3) := by decide +kernel
theorem d_Model_read_46 : decode prog_14_method_45_code 46 = .ok (.aload_n 0, 1) := by decide +kernel
theorem d_Model_read_47 : decode prog_14_method_45_code 47 = .ok (.invokevirtual 426, 3) := by decide +kernel
theorem nm_Model_parse : x_nm y_Model_parse 0 = true := by decide +kernel
theorem d_Model_read_80 : decode prog_14_method_45_code 80 = .ok (.astore_n 1, 1) := by decide +kernel
theorem d_Model_read_81 : decode prog_14_method_45_code 81 = .ok (.aload_n 1, 1) := by decide +kernel
theorem d_Model_read_82 : decode prog_14_method_45_code 82 = .ok (.getfield 435, 3) := by decide +kernel
theorem d_Model_read_85 : decode prog_14_method_45_code 85 = .ok (.ireturn, 1) := by decide +kernel
theorem d_Model_read_50 : decode prog_14_method_45_code 50 = .ok (.aload_n 0, 1) := by decide +kernel
theorem d_Model_read_51 : decode prog_14_method_45_code 51 = .ok (.getfield 77, 3) := by decide +kernel
theorem d_Model_read_54 : decode prog_14_method_45_code 54 = .ok (.ifCond .ne 10, 3) := by decide +kernel
theorem d_Model_read_64 : decode prog_14_method_45_code 64 = .ok (.new 56, 3) := by decide +kernel
theorem d_Model_read_67 : decode prog_14_method_45_code 67 = .ok (.dup, 1) := by decide +kernel
theorem d_Model_read_68 : decode prog_14_method_45_code 68 = .ok (.iconst 3, 1) := by decide +kernel
theorem d_Model_read_69 : decode prog_14_method_45_code 69 = .ok (.invokespecial 58, 3) := by decide +kernel
theorem d_Model_read_72 : decode prog_14_method_45_code 72 = .ok (.athrow, 1) := by decide +kernel
theorem d_Model_read_57 : decode prog_14_method_45_code 57 = .ok (.aload_n 0, 1) := by decide +kernel
theorem d_Model_read_58 : decode prog_14_method_45_code 58 = .ok (.invokevirtual 429, 3) := by decide +kernel
theorem nm_Model_isRoom : x_nm y_Model_isRoom 0 = true := by decide +kernel
theorem d_Model_read_61 : decode prog_14_method_45_code 61 = .ok (.ifCond .ne 12, 3) := by decide +kernel
theorem d_Model_read_73 : decode prog_14_method_45_code 73 = .ok (.aload_n 0, 1) := by decide +kernel
theorem d_Model_read_74 : decode prog_14_method_45_code 74 = .ok (.invokevirtual 433, 3) := by decide +kernel
theorem nm_Model_valid2 : x_nm y_Model_valid2 0 = true := by decide +kernel
theorem d_Model_read_77 : decode prog_14_method_45_code 77 = .ok (.goto 9, 3) := by decide +kernel
theorem d_Model_read_86 : decode prog_14_method_45_code 86 = .ok (.aload_n 0, 1) := by decide +kernel
theorem d_Model_read_87 : decode prog_14_method_45_code 87 = .ok (.iconst 1, 1) := by decide +kernel
theorem d_Model_read_88 : decode prog_14_method_45_code 88 = .ok (.putfield 423, 3) := by decide +kernel
theorem d_Model_read_91 : decode prog_14_method_45_code 91 = .ok (.iconst 0, 1) := by decide +kernel
theorem d_Model_read_92 : decode prog_14_method_45_code 92 = .ok (.ireturn, 1) := by decide +kernel
