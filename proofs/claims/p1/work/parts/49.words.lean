def y_Throwable_init : MethodName := ⟨"java/lang/Throwable", "<init>", "(Ljava/lang/String;Ljava/lang/Throwable;ZZ)V"⟩
def y_Exception_init : MethodName := ⟨"java/lang/Exception", "<init>", "(Ljava/lang/String;Ljava/lang/Throwable;ZZ)V"⟩
def y_RuntimeEx_init : MethodName := ⟨"java/lang/RuntimeException", "<init>", "(Ljava/lang/String;Ljava/lang/Throwable;ZZ)V"⟩
def y_Stop_init : MethodName := ⟨"WasmReaderModel$Stop", "<init>", "(I)V"⟩
def y_Model_one : MethodName := ⟨"WasmReaderModel", "one", "()I"⟩
def y_Model_parse : MethodName := ⟨"WasmReaderModel", "parse", "()V"⟩
def y_Model_read : MethodName := ⟨"WasmReaderModel", "read", "()I"⟩
def arraycopyName : MethodName := ⟨"java/lang/System", "arraycopy", "(Ljava/lang/Object;ILjava/lang/Object;II)V"⟩
theorem m_253 : Cond.methodLink "java/lang/Throwable" 1 objectInit ∈ xtb := x_in (List.mem_of_getElem? (i := 971) (by decide +kernel)) (by decide +kernel)
theorem m_254 : Cond.fieldLink "java/lang/Throwable" 7 "java/lang/Throwable" "cause" "Ljava/lang/Throwable;" ∈ xtb := x_in (List.mem_of_getElem? (i := 1000) (by decide +kernel)) (by decide +kernel)
theorem m_255 : Cond.fieldLink "java/lang/Throwable" 13 "java/lang/Throwable" "UNASSIGNED_STACK" "[Ljava/lang/StackTraceElement;" ∈ xtb := x_in (List.mem_of_getElem? (i := 972) (by decide +kernel)) (by decide +kernel)
theorem m_256 : Cond.fieldLink "java/lang/Throwable" 17 "java/lang/Throwable" "stackTrace" "[Ljava/lang/StackTraceElement;" ∈ xtb := x_in (List.mem_of_getElem? (i := 1001) (by decide +kernel)) (by decide +kernel)
theorem m_257 : Cond.fieldLink "java/lang/Throwable" 20 "java/lang/Throwable" "SUPPRESSED_SENTINEL" "Ljava/util/List;" ∈ xtb := x_in (List.mem_of_getElem? (i := 974) (by decide +kernel)) (by decide +kernel)
theorem m_258 : Cond.fieldLink "java/lang/Throwable" 24 "java/lang/Throwable" "suppressedExceptions" "Ljava/util/List;" ∈ xtb := x_in (List.mem_of_getElem? (i := 1002) (by decide +kernel)) (by decide +kernel)
theorem m_259 : Cond.fieldLink "java/lang/Throwable" 31 "java/lang/Throwable" "detailMessage" "Ljava/lang/String;" ∈ xtb := x_in (List.mem_of_getElem? (i := 999) (by decide +kernel)) (by decide +kernel)
theorem m_260 : Cond.methodLink "java/lang/Exception" 16 y_Throwable_init ∈ xtb := x_in (List.mem_of_getElem? (i := 1443) (by decide +kernel)) (by decide +kernel)
theorem m_261 : Cond.code y_Throwable_init prog_24_method_5_code 5 none ∈ xtb := x_in (List.mem_of_getElem? (i := 1445) (by decide +kernel)) (by decide +kernel)
theorem m_262 : Cond.initialized "java/lang/Throwable" ∈ xtb := x_in (List.mem_of_getElem? (i := 100) (by decide +kernel)) (by decide +kernel)
theorem m_263 : Cond.instanceMethod y_Throwable_init ∈ xtb := x_in (List.mem_of_getElem? (i := 1444) (by decide +kernel)) (by decide +kernel)
theorem m_264 : Cond.methodLink "java/lang/RuntimeException" 16 y_Exception_init ∈ xtb := x_in (List.mem_of_getElem? (i := 1440) (by decide +kernel)) (by decide +kernel)
theorem m_265 : Cond.code y_Exception_init prog_17_method_5_code 5 none ∈ xtb := x_in (List.mem_of_getElem? (i := 1442) (by decide +kernel)) (by decide +kernel)
theorem m_266 : Cond.initialized "java/lang/Exception" ∈ xtb := x_in (List.mem_of_getElem? (i := 101) (by decide +kernel)) (by decide +kernel)
theorem m_267 : Cond.instanceMethod y_Exception_init ∈ xtb := x_in (List.mem_of_getElem? (i := 1441) (by decide +kernel)) (by decide +kernel)
theorem m_268 : Cond.methodLink "WasmReaderModel$Stop" 1 y_RuntimeEx_init ∈ xtb := x_in (List.mem_of_getElem? (i := 1437) (by decide +kernel)) (by decide +kernel)
theorem m_269 : Cond.code y_RuntimeEx_init prog_22_method_5_code 5 none ∈ xtb := x_in (List.mem_of_getElem? (i := 1439) (by decide +kernel)) (by decide +kernel)
theorem m_270 : Cond.initialized "java/lang/RuntimeException" ∈ xtb := x_in (List.mem_of_getElem? (i := 102) (by decide +kernel)) (by decide +kernel)
theorem m_271 : Cond.instanceMethod y_RuntimeEx_init ∈ xtb := x_in (List.mem_of_getElem? (i := 1438) (by decide +kernel)) (by decide +kernel)
theorem m_272 : Cond.fieldLink "WasmReaderModel$Stop" 7 "WasmReaderModel$Stop" "why" "I" ∈ xtb := x_in (List.mem_of_getElem? (i := 1446) (by decide +kernel)) (by decide +kernel)
theorem m_273 : Cond.fieldLink "WasmReaderModel" 50 "WasmReaderModel" "at" "I" ∈ xtb := x_in (List.mem_of_getElem? (i := 1326) (by decide +kernel)) (by decide +kernel)
theorem m_274 : Cond.fieldLink "WasmReaderModel" 53 "WasmReaderModel" "end" "I" ∈ xtb := x_in (List.mem_of_getElem? (i := 1327) (by decide +kernel)) (by decide +kernel)
theorem m_275 : Cond.classLink "WasmReaderModel" 56 "WasmReaderModel$Stop" ∈ xtb := x_in (List.mem_of_getElem? (i := 1414) (by decide +kernel)) (by decide +kernel)
theorem m_276 : Cond.instantiable "WasmReaderModel$Stop" 7 ∈ xtb := x_in (List.mem_of_getElem? (i := 1426) (by decide +kernel)) (by decide +kernel)
theorem m_277 : Cond.initialized "WasmReaderModel$Stop" ∈ xtb := x_in (List.mem_of_getElem? (i := 109) (by decide +kernel)) (by decide +kernel)
theorem m_278 : Cond.methodLink "WasmReaderModel" 58 y_Stop_init ∈ xtb := x_in (List.mem_of_getElem? (i := 1434) (by decide +kernel)) (by decide +kernel)
theorem m_279 : Cond.code y_Stop_init prog_15_method_1_code 2 none ∈ xtb := x_in (List.mem_of_getElem? (i := 1436) (by decide +kernel)) (by decide +kernel)
theorem m_280 : Cond.instanceMethod y_Stop_init ∈ xtb := x_in (List.mem_of_getElem? (i := 1435) (by decide +kernel)) (by decide +kernel)
theorem m_281 : Cond.fieldLink "WasmReaderModel" 98 "WasmReaderModel$Unit" "size" "I" ∈ xtb := x_in (List.mem_of_getElem? (i := 1113) (by decide +kernel)) (by decide +kernel)
theorem m_282 : Cond.fieldLink "WasmReaderModel" 77 "WasmReaderModel" "isOver" "Z" ∈ xtb := x_in (List.mem_of_getElem? (i := 1328) (by decide +kernel)) (by decide +kernel)
theorem m_283 : Cond.fieldLink "WasmReaderModel" 101 "WasmReaderModel" "isWrong" "Z" ∈ xtb := x_in (List.mem_of_getElem? (i := 1329) (by decide +kernel)) (by decide +kernel)
theorem m_284 : Cond.fieldLink "WasmReaderModel" 104 "WasmReaderModel$Unit" "types" "I" ∈ xtb := x_in (List.mem_of_getElem? (i := 1114) (by decide +kernel)) (by decide +kernel)
theorem m_285 : Cond.fieldLink "WasmReaderModel" 107 "WasmReaderModel$Unit" "imports" "I" ∈ xtb := x_in (List.mem_of_getElem? (i := 1115) (by decide +kernel)) (by decide +kernel)
theorem m_286 : Cond.fieldLink "WasmReaderModel" 110 "WasmReaderModel$Unit" "functions" "I" ∈ xtb := x_in (List.mem_of_getElem? (i := 1116) (by decide +kernel)) (by decide +kernel)
theorem m_287 : Cond.fieldLink "WasmReaderModel" 113 "WasmReaderModel$Unit" "ownFunctions" "I" ∈ xtb := x_in (List.mem_of_getElem? (i := 1117) (by decide +kernel)) (by decide +kernel)
theorem m_288 : Cond.fieldLink "WasmReaderModel" 116 "WasmReaderModel$Unit" "tables" "I" ∈ xtb := x_in (List.mem_of_getElem? (i := 1118) (by decide +kernel)) (by decide +kernel)
theorem m_289 : Cond.fieldLink "WasmReaderModel" 119 "WasmReaderModel$Unit" "memories" "I" ∈ xtb := x_in (List.mem_of_getElem? (i := 1119) (by decide +kernel)) (by decide +kernel)
theorem m_290 : Cond.fieldLink "WasmReaderModel" 122 "WasmReaderModel$Unit" "globals" "I" ∈ xtb := x_in (List.mem_of_getElem? (i := 1120) (by decide +kernel)) (by decide +kernel)
theorem m_291 : Cond.fieldLink "WasmReaderModel" 125 "WasmReaderModel$Unit" "exports" "I" ∈ xtb := x_in (List.mem_of_getElem? (i := 1121) (by decide +kernel)) (by decide +kernel)
theorem m_292 : Cond.fieldLink "WasmReaderModel" 128 "WasmReaderModel$Unit" "elements" "I" ∈ xtb := x_in (List.mem_of_getElem? (i := 1122) (by decide +kernel)) (by decide +kernel)
theorem m_293 : Cond.fieldLink "WasmReaderModel" 131 "WasmReaderModel$Unit" "datas" "I" ∈ xtb := x_in (List.mem_of_getElem? (i := 1123) (by decide +kernel)) (by decide +kernel)
theorem m_294 : Cond.fieldLink "WasmReaderModel" 134 "WasmReaderModel$Unit" "bodies" "I" ∈ xtb := x_in (List.mem_of_getElem? (i := 1124) (by decide +kernel)) (by decide +kernel)
theorem m_295 : Cond.fieldLink "WasmReaderModel" 137 "WasmReaderModel$Unit" "start" "I" ∈ xtb := x_in (List.mem_of_getElem? (i := 1125) (by decide +kernel)) (by decide +kernel)
theorem m_296 : Cond.fieldLink "WasmReaderModel" 140 "WasmReaderModel$Unit" "tImport" "I" ∈ xtb := x_in (List.mem_of_getElem? (i := 1160) (by decide +kernel)) (by decide +kernel)
theorem m_297 : Cond.fieldLink "WasmReaderModel" 143 "WasmReaderModel$Unit" "mImport" "I" ∈ xtb := x_in (List.mem_of_getElem? (i := 1162) (by decide +kernel)) (by decide +kernel)
theorem m_298 : Cond.code y_Model_one prog_14_method_3_code 1 (some .int) ∈ xtb := x_in (List.mem_of_getElem? (i := 1425) (by decide +kernel)) (by decide +kernel)
theorem m_299 : Cond.methodLink "WasmReaderModel" 64 y_Model_one ∈ xtb := x_in (List.mem_of_getElem? (i := 1422) (by decide +kernel)) (by decide +kernel)
theorem m_300 : Cond.instanceMethod y_Model_one ∈ xtb := x_in (List.mem_of_getElem? (i := 1424) (by decide +kernel)) (by decide +kernel)
theorem m_301 : Cond.selects "WasmReaderModel" y_Model_one y_Model_one ∈ xtb := x_in (List.mem_of_getElem? (i := 52) (by decide +kernel)) (by decide +kernel)
theorem m_302 : Cond.fieldLink "WasmReaderModel" 61 "WasmReaderModel$Unit" "b" "[B" ∈ xtb := x_in (List.mem_of_getElem? (i := 1112) (by decide +kernel)) (by decide +kernel)
theorem m_303 : Cond.methodLink "WasmReaderModel" 417 arraycopyName ∈ xtb := x_in (List.mem_of_getElem? (i := 1415) (by decide +kernel)) (by decide +kernel)
theorem m_304 : Cond.native arraycopyName ∈ xtb := x_in (List.mem_of_getElem? (i := 1417) (by decide +kernel)) (by decide +kernel)
theorem m_305 : Cond.static arraycopyName ∈ xtb := x_in (List.mem_of_getElem? (i := 1416) (by decide +kernel)) (by decide +kernel)
theorem m_306 : Cond.initialized "java/lang/System" ∈ xtb := x_in (List.mem_of_getElem? (i := 108) (by decide +kernel)) (by decide +kernel)
theorem m_307 : Cond.code y_Model_parse prog_14_method_11_code 12 none ∈ xtb := x_in (List.mem_of_getElem? (i := 1421) (by decide +kernel)) (by decide +kernel)
theorem m_308 : Cond.methodLink "WasmReaderModel" 426 y_Model_parse ∈ xtb := x_in (List.mem_of_getElem? (i := 1418) (by decide +kernel)) (by decide +kernel)
theorem m_309 : Cond.instanceMethod y_Model_parse ∈ xtb := x_in (List.mem_of_getElem? (i := 1420) (by decide +kernel)) (by decide +kernel)
theorem m_310 : Cond.selects "WasmReaderModel" y_Model_parse y_Model_parse ∈ xtb := x_in (List.mem_of_getElem? (i := 51) (by decide +kernel)) (by decide +kernel)
theorem m_311 : Cond.castable "WasmReaderModel$Stop" "WasmReaderModel$Stop" ∈ xtb := x_in (List.mem_of_getElem? (i := 1427) (by decide +kernel)) (by decide +kernel)
theorem m_312 : Cond.fieldLink "WasmReaderModel" 435 "WasmReaderModel$Stop" "why" "I" ∈ xtb := x_in (List.mem_of_getElem? (i := 1447) (by decide +kernel)) (by decide +kernel)
theorem d_Throwable_init_0 : decode prog_24_method_5_code 0 = .ok (.aload_n 0, 1) := by decide +kernel
theorem d_Throwable_init_1 : decode prog_24_method_5_code 1 = .ok (.invokespecial 1, 3) := by decide +kernel
theorem d_Throwable_init_4 : decode prog_24_method_5_code 4 = .ok (.aload_n 0, 1) := by decide +kernel
theorem d_Throwable_init_5 : decode prog_24_method_5_code 5 = .ok (.aload_n 0, 1) := by decide +kernel
theorem d_Throwable_init_6 : decode prog_24_method_5_code 6 = .ok (.putfield 7, 3) := by decide +kernel
theorem d_Throwable_init_9 : decode prog_24_method_5_code 9 = .ok (.aload_n 0, 1) := by decide +kernel
theorem d_Throwable_init_10 : decode prog_24_method_5_code 10 = .ok (.getstatic 13, 3) := by decide +kernel
theorem d_Throwable_init_13 : decode prog_24_method_5_code 13 = .ok (.putfield 17, 3) := by decide +kernel
theorem d_Throwable_init_16 : decode prog_24_method_5_code 16 = .ok (.aload_n 0, 1) := by decide +kernel
theorem d_Throwable_init_17 : decode prog_24_method_5_code 17 = .ok (.getstatic 20, 3) := by decide +kernel
theorem d_Throwable_init_20 : decode prog_24_method_5_code 20 = .ok (.putfield 24, 3) := by decide +kernel
theorem d_Throwable_init_23 : decode prog_24_method_5_code 23 = .ok (.iload 4, 2) := by decide +kernel
theorem d_Throwable_init_25 : decode prog_24_method_5_code 25 = .ok (.ifCond .eq 11, 3) := by decide +kernel
theorem d_Throwable_init_36 : decode prog_24_method_5_code 36 = .ok (.aload_n 0, 1) := by decide +kernel
theorem d_Throwable_init_37 : decode prog_24_method_5_code 37 = .ok (.aconst_null, 1) := by decide +kernel
theorem d_Throwable_init_38 : decode prog_24_method_5_code 38 = .ok (.putfield 17, 3) := by decide +kernel
theorem d_Throwable_init_41 : decode prog_24_method_5_code 41 = .ok (.aload_n 0, 1) := by decide +kernel
theorem d_Throwable_init_42 : decode prog_24_method_5_code 42 = .ok (.aload_n 1, 1) := by decide +kernel
theorem d_Throwable_init_43 : decode prog_24_method_5_code 43 = .ok (.putfield 31, 3) := by decide +kernel
theorem d_Throwable_init_46 : decode prog_24_method_5_code 46 = .ok (.aload_n 0, 1) := by decide +kernel
theorem d_Throwable_init_47 : decode prog_24_method_5_code 47 = .ok (.aload_n 2, 1) := by decide +kernel
theorem d_Throwable_init_48 : decode prog_24_method_5_code 48 = .ok (.putfield 7, 3) := by decide +kernel
theorem d_Throwable_init_51 : decode prog_24_method_5_code 51 = .ok (.iload_n 3, 1) := by decide +kernel
theorem d_Throwable_init_52 : decode prog_24_method_5_code 52 = .ok (.ifCond .ne 8, 3) := by decide +kernel
theorem d_Throwable_init_55 : decode prog_24_method_5_code 55 = .ok (.aload_n 0, 1) := by decide +kernel
theorem d_Throwable_init_56 : decode prog_24_method_5_code 56 = .ok (.aconst_null, 1) := by decide +kernel
theorem d_Throwable_init_57 : decode prog_24_method_5_code 57 = .ok (.putfield 24, 3) := by decide +kernel
theorem d_Throwable_init_60 : decode prog_24_method_5_code 60 = .ok (.return_, 1) := by decide +kernel
theorem d_Exception_init_0 : decode prog_17_method_5_code 0 = .ok (.aload_n 0, 1) := by decide +kernel
theorem d_Exception_init_1 : decode prog_17_method_5_code 1 = .ok (.aload_n 1, 1) := by decide +kernel
theorem d_Exception_init_2 : decode prog_17_method_5_code 2 = .ok (.aload_n 2, 1) := by decide +kernel
theorem d_Exception_init_3 : decode prog_17_method_5_code 3 = .ok (.iload_n 3, 1) := by decide +kernel
theorem d_Exception_init_4 : decode prog_17_method_5_code 4 = .ok (.iload 4, 2) := by decide +kernel
theorem d_Exception_init_6 : decode prog_17_method_5_code 6 = .ok (.invokespecial 16, 3) := by decide +kernel
theorem nm_Throwable_init : x_nm y_Throwable_init 4 = true := by decide +kernel
theorem d_Exception_init_9 : decode prog_17_method_5_code 9 = .ok (.return_, 1) := by decide +kernel
theorem d_RuntimeEx_init_0 : decode prog_22_method_5_code 0 = .ok (.aload_n 0, 1) := by decide +kernel
theorem d_RuntimeEx_init_1 : decode prog_22_method_5_code 1 = .ok (.aload_n 1, 1) := by decide +kernel
theorem d_RuntimeEx_init_2 : decode prog_22_method_5_code 2 = .ok (.aload_n 2, 1) := by decide +kernel
theorem d_RuntimeEx_init_3 : decode prog_22_method_5_code 3 = .ok (.iload_n 3, 1) := by decide +kernel
theorem d_RuntimeEx_init_4 : decode prog_22_method_5_code 4 = .ok (.iload 4, 2) := by decide +kernel
theorem d_RuntimeEx_init_6 : decode prog_22_method_5_code 6 = .ok (.invokespecial 16, 3) := by decide +kernel
theorem nm_Exception_init : x_nm y_Exception_init 4 = true := by decide +kernel
theorem d_RuntimeEx_init_9 : decode prog_22_method_5_code 9 = .ok (.return_, 1) := by decide +kernel
theorem d_Stop_init_0 : decode prog_15_method_1_code 0 = .ok (.aload_n 0, 1) := by decide +kernel
theorem d_Stop_init_1 : decode prog_15_method_1_code 1 = .ok (.aconst_null, 1) := by decide +kernel
theorem d_Stop_init_2 : decode prog_15_method_1_code 2 = .ok (.aconst_null, 1) := by decide +kernel
theorem d_Stop_init_3 : decode prog_15_method_1_code 3 = .ok (.iconst 0, 1) := by decide +kernel
theorem d_Stop_init_4 : decode prog_15_method_1_code 4 = .ok (.iconst 0, 1) := by decide +kernel
theorem d_Stop_init_5 : decode prog_15_method_1_code 5 = .ok (.invokespecial 1, 3) := by decide +kernel
theorem nm_RuntimeEx_init : x_nm y_RuntimeEx_init 4 = true := by decide +kernel
theorem d_Stop_init_8 : decode prog_15_method_1_code 8 = .ok (.aload_n 0, 1) := by decide +kernel
theorem d_Stop_init_9 : decode prog_15_method_1_code 9 = .ok (.iload_n 1, 1) := by decide +kernel
theorem d_Stop_init_10 : decode prog_15_method_1_code 10 = .ok (.putfield 7, 3) := by decide +kernel
theorem d_Stop_init_13 : decode prog_15_method_1_code 13 = .ok (.return_, 1) := by decide +kernel
theorem d_Model_one_0 : decode prog_14_method_3_code 0 = .ok (.aload_n 0, 1) := by decide +kernel
theorem d_Model_one_1 : decode prog_14_method_3_code 1 = .ok (.getfield 50, 3) := by decide +kernel
theorem d_Model_one_4 : decode prog_14_method_3_code 4 = .ok (.aload_n 0, 1) := by decide +kernel
theorem d_Model_one_5 : decode prog_14_method_3_code 5 = .ok (.getfield 53, 3) := by decide +kernel
theorem d_Model_one_8 : decode prog_14_method_3_code 8 = .ok (.if_icmp .lt 12, 3) := by decide +kernel
theorem d_Model_one_11 : decode prog_14_method_3_code 11 = .ok (.new 56, 3) := by decide +kernel
theorem d_Model_one_14 : decode prog_14_method_3_code 14 = .ok (.dup, 1) := by decide +kernel
theorem d_Model_one_15 : decode prog_14_method_3_code 15 = .ok (.iconst 1, 1) := by decide +kernel
theorem d_Model_one_16 : decode prog_14_method_3_code 16 = .ok (.invokespecial 58, 3) := by decide +kernel
theorem nm_Stop_init : x_nm y_Stop_init 1 = true := by decide +kernel
theorem d_Model_one_19 : decode prog_14_method_3_code 19 = .ok (.athrow, 1) := by decide +kernel
theorem d_Model_parse_0 : decode prog_14_method_11_code 0 = .ok (.aload_n 0, 1) := by decide +kernel
theorem d_Model_parse_1 : decode prog_14_method_11_code 1 = .ok (.getfield 16, 3) := by decide +kernel
theorem d_Model_parse_4 : decode prog_14_method_11_code 4 = .ok (.astore_n 1, 1) := by decide +kernel
theorem d_Model_parse_5 : decode prog_14_method_11_code 5 = .ok (.aload_n 0, 1) := by decide +kernel
theorem d_Model_parse_6 : decode prog_14_method_11_code 6 = .ok (.iconst 0, 1) := by decide +kernel
theorem d_Model_parse_7 : decode prog_14_method_11_code 7 = .ok (.putfield 50, 3) := by decide +kernel
theorem d_Model_parse_10 : decode prog_14_method_11_code 10 = .ok (.aload_n 0, 1) := by decide +kernel
theorem d_Model_parse_11 : decode prog_14_method_11_code 11 = .ok (.aload_n 1, 1) := by decide +kernel
theorem d_Model_parse_12 : decode prog_14_method_11_code 12 = .ok (.getfield 98, 3) := by decide +kernel
theorem d_Model_parse_15 : decode prog_14_method_11_code 15 = .ok (.putfield 53, 3) := by decide +kernel
theorem d_Model_parse_18 : decode prog_14_method_11_code 18 = .ok (.aload_n 0, 1) := by decide +kernel
theorem d_Model_parse_19 : decode prog_14_method_11_code 19 = .ok (.iconst 0, 1) := by decide +kernel
theorem d_Model_parse_20 : decode prog_14_method_11_code 20 = .ok (.putfield 77, 3) := by decide +kernel
theorem d_Model_parse_23 : decode prog_14_method_11_code 23 = .ok (.aload_n 0, 1) := by decide +kernel
theorem d_Model_parse_24 : decode prog_14_method_11_code 24 = .ok (.iconst 0, 1) := by decide +kernel
theorem d_Model_parse_25 : decode prog_14_method_11_code 25 = .ok (.putfield 101, 3) := by decide +kernel
theorem d_Model_parse_28 : decode prog_14_method_11_code 28 = .ok (.aload_n 1, 1) := by decide +kernel
theorem d_Model_parse_29 : decode prog_14_method_11_code 29 = .ok (.iconst 0, 1) := by decide +kernel
theorem d_Model_parse_30 : decode prog_14_method_11_code 30 = .ok (.putfield 104, 3) := by decide +kernel
theorem d_Model_parse_33 : decode prog_14_method_11_code 33 = .ok (.aload_n 1, 1) := by decide +kernel
theorem d_Model_parse_34 : decode prog_14_method_11_code 34 = .ok (.iconst 0, 1) := by decide +kernel
theorem d_Model_parse_35 : decode prog_14_method_11_code 35 = .ok (.putfield 107, 3) := by decide +kernel
theorem d_Model_parse_38 : decode prog_14_method_11_code 38 = .ok (.aload_n 1, 1) := by decide +kernel
theorem d_Model_parse_39 : decode prog_14_method_11_code 39 = .ok (.iconst 0, 1) := by decide +kernel
theorem d_Model_parse_40 : decode prog_14_method_11_code 40 = .ok (.putfield 110, 3) := by decide +kernel
theorem d_Model_parse_43 : decode prog_14_method_11_code 43 = .ok (.aload_n 1, 1) := by decide +kernel
theorem d_Model_parse_44 : decode prog_14_method_11_code 44 = .ok (.iconst 0, 1) := by decide +kernel
theorem d_Model_parse_45 : decode prog_14_method_11_code 45 = .ok (.putfield 113, 3) := by decide +kernel
theorem d_Model_parse_48 : decode prog_14_method_11_code 48 = .ok (.aload_n 1, 1) := by decide +kernel
theorem d_Model_parse_49 : decode prog_14_method_11_code 49 = .ok (.iconst 0, 1) := by decide +kernel
theorem d_Model_parse_50 : decode prog_14_method_11_code 50 = .ok (.putfield 116, 3) := by decide +kernel
theorem d_Model_parse_53 : decode prog_14_method_11_code 53 = .ok (.aload_n 1, 1) := by decide +kernel
theorem d_Model_parse_54 : decode prog_14_method_11_code 54 = .ok (.iconst 0, 1) := by decide +kernel
theorem d_Model_parse_55 : decode prog_14_method_11_code 55 = .ok (.putfield 119, 3) := by decide +kernel
theorem d_Model_parse_58 : decode prog_14_method_11_code 58 = .ok (.aload_n 1, 1) := by decide +kernel
theorem d_Model_parse_59 : decode prog_14_method_11_code 59 = .ok (.iconst 0, 1) := by decide +kernel
theorem d_Model_parse_60 : decode prog_14_method_11_code 60 = .ok (.putfield 122, 3) := by decide +kernel
theorem d_Model_parse_63 : decode prog_14_method_11_code 63 = .ok (.aload_n 1, 1) := by decide +kernel
theorem d_Model_parse_64 : decode prog_14_method_11_code 64 = .ok (.iconst 0, 1) := by decide +kernel
theorem d_Model_parse_65 : decode prog_14_method_11_code 65 = .ok (.putfield 125, 3) := by decide +kernel
theorem d_Model_parse_68 : decode prog_14_method_11_code 68 = .ok (.aload_n 1, 1) := by decide +kernel
theorem d_Model_parse_69 : decode prog_14_method_11_code 69 = .ok (.iconst 0, 1) := by decide +kernel
theorem d_Model_parse_70 : decode prog_14_method_11_code 70 = .ok (.putfield 128, 3) := by decide +kernel
theorem d_Model_parse_73 : decode prog_14_method_11_code 73 = .ok (.aload_n 1, 1) := by decide +kernel
theorem d_Model_parse_74 : decode prog_14_method_11_code 74 = .ok (.iconst 0, 1) := by decide +kernel
theorem d_Model_parse_75 : decode prog_14_method_11_code 75 = .ok (.putfield 131, 3) := by decide +kernel
theorem d_Model_parse_78 : decode prog_14_method_11_code 78 = .ok (.aload_n 1, 1) := by decide +kernel
theorem d_Model_parse_79 : decode prog_14_method_11_code 79 = .ok (.iconst 0, 1) := by decide +kernel
theorem d_Model_parse_80 : decode prog_14_method_11_code 80 = .ok (.putfield 134, 3) := by decide +kernel
theorem d_Model_parse_83 : decode prog_14_method_11_code 83 = .ok (.aload_n 1, 1) := by decide +kernel
theorem d_Model_parse_84 : decode prog_14_method_11_code 84 = .ok (.iconst (-1), 1) := by decide +kernel
theorem d_Model_parse_85 : decode prog_14_method_11_code 85 = .ok (.putfield 137, 3) := by decide +kernel
theorem d_Model_parse_88 : decode prog_14_method_11_code 88 = .ok (.aload_n 1, 1) := by decide +kernel
theorem d_Model_parse_89 : decode prog_14_method_11_code 89 = .ok (.iconst (-1), 1) := by decide +kernel
theorem d_Model_parse_90 : decode prog_14_method_11_code 90 = .ok (.putfield 140, 3) := by decide +kernel
theorem d_Model_parse_93 : decode prog_14_method_11_code 93 = .ok (.aload_n 1, 1) := by decide +kernel
theorem d_Model_parse_94 : decode prog_14_method_11_code 94 = .ok (.iconst (-1), 1) := by decide +kernel
theorem d_Model_parse_95 : decode prog_14_method_11_code 95 = .ok (.putfield 143, 3) := by decide +kernel
theorem d_Model_parse_98 : decode prog_14_method_11_code 98 = .ok (.bipush 8, 2) := by decide +kernel
theorem d_Model_parse_100 : decode prog_14_method_11_code 100 = .ok (.newarray .int, 2) := by decide +kernel
theorem d_Model_parse_102 : decode prog_14_method_11_code 102 = .ok (.dup, 1) := by decide +kernel
theorem d_Model_parse_103 : decode prog_14_method_11_code 103 = .ok (.iconst 0, 1) := by decide +kernel
theorem d_Model_parse_104 : decode prog_14_method_11_code 104 = .ok (.iconst 0, 1) := by decide +kernel
theorem d_Model_parse_105 : decode prog_14_method_11_code 105 = .ok (.iastore, 1) := by decide +kernel
theorem d_Model_parse_106 : decode prog_14_method_11_code 106 = .ok (.dup, 1) := by decide +kernel
theorem d_Model_parse_107 : decode prog_14_method_11_code 107 = .ok (.iconst 1, 1) := by decide +kernel
theorem d_Model_parse_108 : decode prog_14_method_11_code 108 = .ok (.bipush 97, 2) := by decide +kernel
theorem d_Model_parse_110 : decode prog_14_method_11_code 110 = .ok (.iastore, 1) := by decide +kernel
theorem d_Model_parse_111 : decode prog_14_method_11_code 111 = .ok (.dup, 1) := by decide +kernel
theorem d_Model_parse_112 : decode prog_14_method_11_code 112 = .ok (.iconst 2, 1) := by decide +kernel
theorem d_Model_parse_113 : decode prog_14_method_11_code 113 = .ok (.bipush 115, 2) := by decide +kernel
theorem d_Model_parse_115 : decode prog_14_method_11_code 115 = .ok (.iastore, 1) := by decide +kernel
theorem d_Model_parse_116 : decode prog_14_method_11_code 116 = .ok (.dup, 1) := by decide +kernel
theorem d_Model_parse_117 : decode prog_14_method_11_code 117 = .ok (.iconst 3, 1) := by decide +kernel
theorem d_Model_parse_118 : decode prog_14_method_11_code 118 = .ok (.bipush 109, 2) := by decide +kernel
theorem d_Model_parse_120 : decode prog_14_method_11_code 120 = .ok (.iastore, 1) := by decide +kernel
theorem d_Model_parse_121 : decode prog_14_method_11_code 121 = .ok (.dup, 1) := by decide +kernel
theorem d_Model_parse_122 : decode prog_14_method_11_code 122 = .ok (.iconst 4, 1) := by decide +kernel
theorem d_Model_parse_123 : decode prog_14_method_11_code 123 = .ok (.iconst 1, 1) := by decide +kernel
theorem d_Model_parse_124 : decode prog_14_method_11_code 124 = .ok (.iastore, 1) := by decide +kernel
theorem d_Model_parse_125 : decode prog_14_method_11_code 125 = .ok (.dup, 1) := by decide +kernel
theorem d_Model_parse_126 : decode prog_14_method_11_code 126 = .ok (.iconst 5, 1) := by decide +kernel
theorem d_Model_parse_127 : decode prog_14_method_11_code 127 = .ok (.iconst 0, 1) := by decide +kernel
theorem d_Model_parse_128 : decode prog_14_method_11_code 128 = .ok (.iastore, 1) := by decide +kernel
theorem d_Model_parse_129 : decode prog_14_method_11_code 129 = .ok (.dup, 1) := by decide +kernel
theorem d_Model_parse_130 : decode prog_14_method_11_code 130 = .ok (.bipush 6, 2) := by decide +kernel
theorem d_Model_parse_132 : decode prog_14_method_11_code 132 = .ok (.iconst 0, 1) := by decide +kernel
theorem d_Model_parse_133 : decode prog_14_method_11_code 133 = .ok (.iastore, 1) := by decide +kernel
theorem d_Model_parse_134 : decode prog_14_method_11_code 134 = .ok (.dup, 1) := by decide +kernel
theorem d_Model_parse_135 : decode prog_14_method_11_code 135 = .ok (.bipush 7, 2) := by decide +kernel
theorem d_Model_parse_137 : decode prog_14_method_11_code 137 = .ok (.iconst 0, 1) := by decide +kernel
theorem d_Model_parse_138 : decode prog_14_method_11_code 138 = .ok (.iastore, 1) := by decide +kernel
theorem d_Model_parse_139 : decode prog_14_method_11_code 139 = .ok (.astore_n 2, 1) := by decide +kernel
theorem d_Model_parse_140 : decode prog_14_method_11_code 140 = .ok (.iconst 0, 1) := by decide +kernel
theorem d_Model_parse_141 : decode prog_14_method_11_code 141 = .ok (.istore_n 3, 1) := by decide +kernel
theorem d_Model_parse_142 : decode prog_14_method_11_code 142 = .ok (.iload_n 3, 1) := by decide +kernel
theorem d_Model_parse_143 : decode prog_14_method_11_code 143 = .ok (.bipush 8, 2) := by decide +kernel
theorem d_Model_parse_145 : decode prog_14_method_11_code 145 = .ok (.if_icmp .ge 28, 3) := by decide +kernel
theorem d_Model_parse_148 : decode prog_14_method_11_code 148 = .ok (.aload_n 0, 1) := by decide +kernel
theorem d_Model_parse_149 : decode prog_14_method_11_code 149 = .ok (.invokevirtual 64, 3) := by decide +kernel
theorem nm_Model_one : x_nm y_Model_one 0 = true := by decide +kernel
theorem d_Model_read_0 : decode prog_14_method_45_code 0 = .ok (.aload_n 0, 1) := by decide +kernel
theorem d_Model_read_1 : decode prog_14_method_45_code 1 = .ok (.iconst 0, 1) := by decide +kernel
theorem d_Model_read_2 : decode prog_14_method_45_code 2 = .ok (.putfield 46, 3) := by decide +kernel
theorem d_Model_read_5 : decode prog_14_method_45_code 5 = .ok (.aload_n 0, 1) := by decide +kernel
theorem d_Model_read_6 : decode prog_14_method_45_code 6 = .ok (.getfield 9, 3) := by decide +kernel
theorem d_Model_read_9 : decode prog_14_method_45_code 9 = .ok (.iconst 0, 1) := by decide +kernel
theorem d_Model_read_10 : decode prog_14_method_45_code 10 = .ok (.aload_n 0, 1) := by decide +kernel
theorem d_Model_read_11 : decode prog_14_method_45_code 11 = .ok (.getfield 16, 3) := by decide +kernel
theorem d_Model_read_14 : decode prog_14_method_45_code 14 = .ok (.getfield 61, 3) := by decide +kernel
theorem d_Model_read_17 : decode prog_14_method_45_code 17 = .ok (.iconst 0, 1) := by decide +kernel
theorem d_Model_read_18 : decode prog_14_method_45_code 18 = .ok (.aload_n 0, 1) := by decide +kernel
theorem d_Model_read_19 : decode prog_14_method_45_code 19 = .ok (.getfield 411, 3) := by decide +kernel
theorem d_Model_read_22 : decode prog_14_method_45_code 22 = .ok (.invokestatic 417, 3) := by decide +kernel
theorem d_Model_read_25 : decode prog_14_method_45_code 25 = .ok (.aload_n 0, 1) := by decide +kernel
theorem d_Model_read_26 : decode prog_14_method_45_code 26 = .ok (.getfield 16, 3) := by decide +kernel
theorem d_Model_read_29 : decode prog_14_method_45_code 29 = .ok (.aload_n 0, 1) := by decide +kernel
theorem d_Model_read_30 : decode prog_14_method_45_code 30 = .ok (.getfield 411, 3) := by decide +kernel
theorem d_Model_read_33 : decode prog_14_method_45_code 33 = .ok (.putfield 98, 3) := by decide +kernel
theorem d_Model_read_36 : decode prog_14_method_45_code 36 = .ok (.aload_n 0, 1) := by decide +kernel
theorem d_Model_read_37 : decode prog_14_method_45_code 37 = .ok (.iconst 0, 1) := by decide +kernel
theorem d_Model_read_38 : decode prog_14_method_45_code 38 = .ok (.putfield 411, 3) := by decide +kernel
theorem d_Model_read_41 : decode prog_14_method_45_code 41 = .ok (.aload_n 0, 1) := by decide +kernel
theorem d_Model_read_42 : decode prog_14_method_45_code 42 = .ok (.iconst 0, 1) := by decide +kernel
theorem d_Model_read_43 : decode prog_14_method_45_code 43 = .ok (.putfield 423, 3) := by decide +kernel
theorem d_Model_read_46 : decode prog_14_method_45_code 46 = .ok (.aload_n 0, 1) := by decide +kernel
theorem d_Model_read_47 : decode prog_14_method_45_code 47 = .ok (.invokevirtual 426, 3) := by decide +kernel
theorem nm_Model_parse : x_nm y_Model_parse 0 = true := by decide +kernel
theorem d_Model_read_80 : decode prog_14_method_45_code 80 = .ok (.astore_n 1, 1) := by decide +kernel
theorem d_Model_read_81 : decode prog_14_method_45_code 81 = .ok (.aload_n 1, 1) := by decide +kernel
theorem d_Model_read_82 : decode prog_14_method_45_code 82 = .ok (.getfield 435, 3) := by decide +kernel
theorem d_Model_read_85 : decode prog_14_method_45_code 85 = .ok (.ireturn, 1) := by decide +kernel
