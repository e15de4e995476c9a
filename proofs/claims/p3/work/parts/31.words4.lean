def y_Reader_typeOfCode : MethodName := ⟨"WasmReader", "typeOfCode", "(I)I"⟩
def y_Grammar_atMost : MethodName := ⟨"WasmReader$Grammar", "atMost", "(I)I"⟩
def y_Grammar_valueType : MethodName := ⟨"WasmReader$Grammar", "valueType", "()I"⟩
def y_Grammar_blockType : MethodName := ⟨"WasmReader$Grammar", "blockType", "()V"⟩
def y_Grammar_customSection : MethodName := ⟨"WasmReader$Grammar", "customSection", "()V"⟩
def y_Grammar_nameLength : MethodName := ⟨"WasmReader$Grammar", "nameLength", "()I"⟩
def y_Grammar_typeSection : MethodName := ⟨"WasmReader$Grammar", "typeSection", "()V"⟩
theorem m_280 : Cond.methodLink "WasmReader$Grammar" 109 y_Cursor_vector ∈ xtb := x_in (List.mem_of_getElem? (i := 540) (by decide +kernel)) (by decide +kernel)
theorem m_281 : Cond.methodLink "WasmReader$Grammar" 40 y_Cursor_fail ∈ xtb := x_in (List.mem_of_getElem? (i := 532) (by decide +kernel)) (by decide +kernel)
theorem m_282 : Cond.methodLink "WasmReader$Grammar" 33 y_Cursor_nextByte ∈ xtb := x_in (List.mem_of_getElem? (i := 518) (by decide +kernel)) (by decide +kernel)
theorem m_283 : Cond.methodLinkNest "WasmReader$Grammar" 142 y_Reader_typeOfCode "WasmReader" ∈ xtb := x_in (List.mem_of_getElem? (i := 557) (by decide +kernel)) (by decide +kernel)
theorem m_284 : Cond.code y_Reader_typeOfCode prog_1_method_10_code 1 (some .int) ∈ xtb := x_in (List.mem_of_getElem? (i := 559) (by decide +kernel)) (by decide +kernel)
theorem m_285 : Cond.initialized "WasmReader" ∈ xtb := x_in (List.mem_of_getElem? (i := 88) (by decide +kernel)) (by decide +kernel)
theorem m_286 : Cond.static y_Reader_typeOfCode ∈ xtb := x_in (List.mem_of_getElem? (i := 558) (by decide +kernel)) (by decide +kernel)
theorem m_287 : Cond.methodLink "WasmReader$Grammar" 112 y_Cursor_skip ∈ xtb := x_in (List.mem_of_getElem? (i := 541) (by decide +kernel)) (by decide +kernel)
theorem m_288 : Cond.code y_Cursor_skip prog_2_method_13_code 2 none ∈ xtb := x_in (List.mem_of_getElem? (i := 544) (by decide +kernel)) (by decide +kernel)
theorem m_289 : Cond.instanceMethod y_Cursor_skip ∈ xtb := x_in (List.mem_of_getElem? (i := 542) (by decide +kernel)) (by decide +kernel)
theorem m_290 : Cond.selects "WasmReader$Cursor" y_Cursor_skip y_Cursor_skip ∈ xtb := x_in (List.mem_of_getElem? (i := 543) (by decide +kernel)) (by decide +kernel)
theorem m_291 : Cond.fieldLink "WasmReader$Grammar" 115 "WasmReader$Cursor" "limit" "I" ∈ xtb := x_in (List.mem_of_getElem? (i := 132) (by decide +kernel)) (by decide +kernel)
theorem m_292 : Cond.fieldLink "WasmReader$Grammar" 118 "WasmReader$Cursor" "position" "I" ∈ xtb := x_in (List.mem_of_getElem? (i := 130) (by decide +kernel)) (by decide +kernel)
theorem m_293 : Cond.fieldLink "WasmReader$Grammar" 176 "WasmReader$WasmModule" "partTooLarge" "Z" ∈ xtb := x_in (List.mem_of_getElem? (i := 394) (by decide +kernel)) (by decide +kernel)
theorem m_294 : Cond.fieldLink "WasmReader$Grammar" 121 "WasmReader$Cursor" "malformed" "Z" ∈ xtb := x_in (List.mem_of_getElem? (i := 135) (by decide +kernel)) (by decide +kernel)
theorem m_295 : Cond.methodLink "WasmReader$Grammar" 125 y_Grammar_atMost ∈ xtb := x_in (List.mem_of_getElem? (i := 549) (by decide +kernel)) (by decide +kernel)
theorem m_296 : Cond.code y_Grammar_atMost prog_6_method_6_code 3 (some .int) ∈ xtb := x_in (List.mem_of_getElem? (i := 552) (by decide +kernel)) (by decide +kernel)
theorem m_297 : Cond.instanceMethod y_Grammar_atMost ∈ xtb := x_in (List.mem_of_getElem? (i := 551) (by decide +kernel)) (by decide +kernel)
theorem m_298 : Cond.selects "WasmReader$Grammar" y_Grammar_atMost y_Grammar_atMost ∈ xtb := x_in (List.mem_of_getElem? (i := 2) (by decide +kernel)) (by decide +kernel)
theorem m_299 : Cond.methodLink "WasmReader$Grammar" 129 y_Grammar_valueType ∈ xtb := x_in (List.mem_of_getElem? (i := 553) (by decide +kernel)) (by decide +kernel)
theorem m_300 : Cond.code y_Grammar_valueType prog_6_method_7_code 2 (some .int) ∈ xtb := x_in (List.mem_of_getElem? (i := 556) (by decide +kernel)) (by decide +kernel)
theorem m_301 : Cond.instanceMethod y_Grammar_valueType ∈ xtb := x_in (List.mem_of_getElem? (i := 555) (by decide +kernel)) (by decide +kernel)
theorem m_302 : Cond.selects "WasmReader$Grammar" y_Grammar_valueType y_Grammar_valueType ∈ xtb := x_in (List.mem_of_getElem? (i := 3) (by decide +kernel)) (by decide +kernel)
theorem m_303 : Cond.fieldLink "WasmReader$Grammar" 132 "WasmReader$WasmModule" "types" "LWasmReader$Types;" ∈ xtb := x_in (List.mem_of_getElem? (i := 357) (by decide +kernel)) (by decide +kernel)
theorem m_304 : Cond.methodLink "WasmReader$Grammar" 136 y_Types_add ∈ xtb := x_in (List.mem_of_getElem? (i := 560) (by decide +kernel)) (by decide +kernel)
theorem m_305 : Cond.code y_Types_add prog_10_method_2_code 4 none ∈ xtb := x_in (List.mem_of_getElem? (i := 563) (by decide +kernel)) (by decide +kernel)
theorem m_306 : Cond.instanceMethod y_Types_add ∈ xtb := x_in (List.mem_of_getElem? (i := 561) (by decide +kernel)) (by decide +kernel)
theorem m_307 : Cond.selects "WasmReader$Types" y_Types_add y_Types_add ∈ xtb := x_in (List.mem_of_getElem? (i := 562) (by decide +kernel)) (by decide +kernel)
theorem d_Reader_typeOfCode_0 : decode prog_1_method_10_code 0 = .ok (.iload_n 0, 1) := by decide +kernel
theorem d_Reader_typeOfCode_1 : decode prog_1_method_10_code 1 = .ok (.bipush 127, 2) := by decide +kernel
theorem d_Reader_typeOfCode_3 : decode prog_1_method_10_code 3 = .ok (.if_icmp .ne 7, 3) := by decide +kernel
theorem d_Reader_typeOfCode_10 : decode prog_1_method_10_code 10 = .ok (.iload_n 0, 1) := by decide +kernel
theorem d_Reader_typeOfCode_11 : decode prog_1_method_10_code 11 = .ok (.bipush 126, 2) := by decide +kernel
theorem d_Reader_typeOfCode_13 : decode prog_1_method_10_code 13 = .ok (.if_icmp .ne 7, 3) := by decide +kernel
theorem d_Reader_typeOfCode_20 : decode prog_1_method_10_code 20 = .ok (.iconst (-1), 1) := by decide +kernel
theorem d_Reader_typeOfCode_21 : decode prog_1_method_10_code 21 = .ok (.ireturn, 1) := by decide +kernel
theorem d_Reader_typeOfCode_16 : decode prog_1_method_10_code 16 = .ok (.iconst 1, 1) := by decide +kernel
theorem d_Reader_typeOfCode_17 : decode prog_1_method_10_code 17 = .ok (.goto 4, 3) := by decide +kernel
theorem d_Reader_typeOfCode_6 : decode prog_1_method_10_code 6 = .ok (.iconst 0, 1) := by decide +kernel
theorem d_Reader_typeOfCode_7 : decode prog_1_method_10_code 7 = .ok (.goto 14, 3) := by decide +kernel
theorem d_Grammar_atMost_0 : decode prog_6_method_6_code 0 = .ok (.aload_n 0, 1) := by decide +kernel
theorem d_Grammar_atMost_1 : decode prog_6_method_6_code 1 = .ok (.getfield 9, 3) := by decide +kernel
theorem d_Grammar_atMost_4 : decode prog_6_method_6_code 4 = .ok (.invokevirtual 109, 3) := by decide +kernel
theorem d_Grammar_atMost_7 : decode prog_6_method_6_code 7 = .ok (.istore_n 2, 1) := by decide +kernel
theorem d_Grammar_atMost_8 : decode prog_6_method_6_code 8 = .ok (.iload_n 2, 1) := by decide +kernel
theorem d_Grammar_atMost_9 : decode prog_6_method_6_code 9 = .ok (.iload_n 1, 1) := by decide +kernel
theorem d_Grammar_atMost_10 : decode prog_6_method_6_code 10 = .ok (.if_icmp .le 10, 3) := by decide +kernel
theorem d_Grammar_atMost_20 : decode prog_6_method_6_code 20 = .ok (.iload_n 2, 1) := by decide +kernel
theorem d_Grammar_atMost_21 : decode prog_6_method_6_code 21 = .ok (.ireturn, 1) := by decide +kernel
theorem d_Grammar_atMost_13 : decode prog_6_method_6_code 13 = .ok (.aload_n 0, 1) := by decide +kernel
theorem d_Grammar_atMost_14 : decode prog_6_method_6_code 14 = .ok (.getfield 9, 3) := by decide +kernel
theorem d_Grammar_atMost_17 : decode prog_6_method_6_code 17 = .ok (.invokevirtual 40, 3) := by decide +kernel
theorem d_Grammar_valueType_0 : decode prog_6_method_7_code 0 = .ok (.aload_n 0, 1) := by decide +kernel
theorem d_Grammar_valueType_1 : decode prog_6_method_7_code 1 = .ok (.getfield 9, 3) := by decide +kernel
theorem d_Grammar_valueType_4 : decode prog_6_method_7_code 4 = .ok (.invokevirtual 33, 3) := by decide +kernel
theorem d_Grammar_valueType_7 : decode prog_6_method_7_code 7 = .ok (.invokestatic 142, 3) := by decide +kernel
theorem nm_Reader_typeOfCode : x_nm y_Reader_typeOfCode 1 = true := by decide +kernel
theorem d_Grammar_valueType_10 : decode prog_6_method_7_code 10 = .ok (.istore_n 1, 1) := by decide +kernel
theorem d_Grammar_valueType_11 : decode prog_6_method_7_code 11 = .ok (.iload_n 1, 1) := by decide +kernel
theorem d_Grammar_valueType_12 : decode prog_6_method_7_code 12 = .ok (.iconst (-1), 1) := by decide +kernel
theorem d_Grammar_valueType_13 : decode prog_6_method_7_code 13 = .ok (.if_icmp .ne 10, 3) := by decide +kernel
theorem d_Grammar_valueType_23 : decode prog_6_method_7_code 23 = .ok (.iload_n 1, 1) := by decide +kernel
theorem d_Grammar_valueType_24 : decode prog_6_method_7_code 24 = .ok (.ireturn, 1) := by decide +kernel
theorem d_Grammar_valueType_16 : decode prog_6_method_7_code 16 = .ok (.aload_n 0, 1) := by decide +kernel
theorem d_Grammar_valueType_17 : decode prog_6_method_7_code 17 = .ok (.getfield 9, 3) := by decide +kernel
theorem d_Grammar_valueType_20 : decode prog_6_method_7_code 20 = .ok (.invokevirtual 40, 3) := by decide +kernel
theorem d_Grammar_blockType_0 : decode prog_6_method_25_code 0 = .ok (.aload_n 0, 1) := by decide +kernel
theorem d_Grammar_blockType_1 : decode prog_6_method_25_code 1 = .ok (.getfield 9, 3) := by decide +kernel
theorem d_Grammar_blockType_4 : decode prog_6_method_25_code 4 = .ok (.invokevirtual 33, 3) := by decide +kernel
theorem d_Grammar_blockType_7 : decode prog_6_method_25_code 7 = .ok (.istore_n 1, 1) := by decide +kernel
theorem d_Grammar_blockType_8 : decode prog_6_method_25_code 8 = .ok (.iload_n 1, 1) := by decide +kernel
theorem d_Grammar_blockType_9 : decode prog_6_method_25_code 9 = .ok (.bipush 64, 2) := by decide +kernel
theorem d_Grammar_blockType_11 : decode prog_6_method_25_code 11 = .ok (.if_icmp .eq 18, 3) := by decide +kernel
theorem d_Grammar_blockType_29 : decode prog_6_method_25_code 29 = .ok (.return_, 1) := by decide +kernel
theorem d_Grammar_blockType_14 : decode prog_6_method_25_code 14 = .ok (.iload_n 1, 1) := by decide +kernel
theorem d_Grammar_blockType_15 : decode prog_6_method_25_code 15 = .ok (.invokestatic 142, 3) := by decide +kernel
theorem d_Grammar_blockType_18 : decode prog_6_method_25_code 18 = .ok (.iconst (-1), 1) := by decide +kernel
theorem d_Grammar_blockType_19 : decode prog_6_method_25_code 19 = .ok (.if_icmp .ne 10, 3) := by decide +kernel
theorem d_Grammar_blockType_22 : decode prog_6_method_25_code 22 = .ok (.aload_n 0, 1) := by decide +kernel
theorem d_Grammar_blockType_23 : decode prog_6_method_25_code 23 = .ok (.getfield 9, 3) := by decide +kernel
theorem d_Grammar_blockType_26 : decode prog_6_method_25_code 26 = .ok (.invokevirtual 40, 3) := by decide +kernel
theorem d_Grammar_customSection_0 : decode prog_6_method_4_code 0 = .ok (.aload_n 0, 1) := by decide +kernel
theorem d_Grammar_customSection_1 : decode prog_6_method_4_code 1 = .ok (.getfield 9, 3) := by decide +kernel
theorem d_Grammar_customSection_4 : decode prog_6_method_4_code 4 = .ok (.aload_n 0, 1) := by decide +kernel
theorem d_Grammar_customSection_5 : decode prog_6_method_4_code 5 = .ok (.getfield 9, 3) := by decide +kernel
theorem d_Grammar_customSection_8 : decode prog_6_method_4_code 8 = .ok (.invokevirtual 109, 3) := by decide +kernel
theorem d_Grammar_customSection_11 : decode prog_6_method_4_code 11 = .ok (.invokevirtual 112, 3) := by decide +kernel
theorem nm_Cursor_skip : x_nm y_Cursor_skip 1 = true := by decide +kernel
theorem d_Grammar_customSection_14 : decode prog_6_method_4_code 14 = .ok (.aload_n 0, 1) := by decide +kernel
theorem d_Grammar_customSection_15 : decode prog_6_method_4_code 15 = .ok (.getfield 9, 3) := by decide +kernel
theorem d_Grammar_customSection_18 : decode prog_6_method_4_code 18 = .ok (.aload_n 0, 1) := by decide +kernel
theorem d_Grammar_customSection_19 : decode prog_6_method_4_code 19 = .ok (.getfield 9, 3) := by decide +kernel
theorem d_Grammar_customSection_22 : decode prog_6_method_4_code 22 = .ok (.getfield 115, 3) := by decide +kernel
theorem d_Grammar_customSection_25 : decode prog_6_method_4_code 25 = .ok (.aload_n 0, 1) := by decide +kernel
theorem d_Grammar_customSection_26 : decode prog_6_method_4_code 26 = .ok (.getfield 9, 3) := by decide +kernel
theorem d_Grammar_customSection_29 : decode prog_6_method_4_code 29 = .ok (.getfield 118, 3) := by decide +kernel
theorem d_Grammar_customSection_32 : decode prog_6_method_4_code 32 = .ok (.isub, 1) := by decide +kernel
theorem d_Grammar_customSection_33 : decode prog_6_method_4_code 33 = .ok (.invokevirtual 112, 3) := by decide +kernel
theorem d_Grammar_customSection_36 : decode prog_6_method_4_code 36 = .ok (.return_, 1) := by decide +kernel
theorem d_Grammar_nameLength_0 : decode prog_6_method_9_code 0 = .ok (.aload_n 0, 1) := by decide +kernel
theorem d_Grammar_nameLength_1 : decode prog_6_method_9_code 1 = .ok (.getfield 9, 3) := by decide +kernel
theorem d_Grammar_nameLength_4 : decode prog_6_method_9_code 4 = .ok (.invokevirtual 109, 3) := by decide +kernel
theorem d_Grammar_nameLength_7 : decode prog_6_method_9_code 7 = .ok (.istore_n 1, 1) := by decide +kernel
theorem d_Grammar_nameLength_8 : decode prog_6_method_9_code 8 = .ok (.iload_n 1, 1) := by decide +kernel
theorem d_Grammar_nameLength_9 : decode prog_6_method_9_code 9 = .ok (.bipush 20, 2) := by decide +kernel
theorem d_Grammar_nameLength_11 : decode prog_6_method_9_code 11 = .ok (.if_icmp .le 11, 3) := by decide +kernel
theorem d_Grammar_nameLength_22 : decode prog_6_method_9_code 22 = .ok (.iload_n 1, 1) := by decide +kernel
theorem d_Grammar_nameLength_23 : decode prog_6_method_9_code 23 = .ok (.ireturn, 1) := by decide +kernel
theorem d_Grammar_nameLength_14 : decode prog_6_method_9_code 14 = .ok (.aload_n 0, 1) := by decide +kernel
theorem d_Grammar_nameLength_15 : decode prog_6_method_9_code 15 = .ok (.getfield 15, 3) := by decide +kernel
theorem d_Grammar_nameLength_18 : decode prog_6_method_9_code 18 = .ok (.iconst 1, 1) := by decide +kernel
theorem d_Grammar_nameLength_19 : decode prog_6_method_9_code 19 = .ok (.putfield 176, 3) := by decide +kernel
theorem d_Grammar_typeSection_0 : decode prog_6_method_5_code 0 = .ok (.aload_n 0, 1) := by decide +kernel
theorem d_Grammar_typeSection_1 : decode prog_6_method_5_code 1 = .ok (.getfield 9, 3) := by decide +kernel
theorem d_Grammar_typeSection_4 : decode prog_6_method_5_code 4 = .ok (.invokevirtual 109, 3) := by decide +kernel
theorem d_Grammar_typeSection_7 : decode prog_6_method_5_code 7 = .ok (.istore_n 1, 1) := by decide +kernel
theorem d_Grammar_typeSection_8 : decode prog_6_method_5_code 8 = .ok (.iconst 0, 1) := by decide +kernel
theorem d_Grammar_typeSection_9 : decode prog_6_method_5_code 9 = .ok (.istore_n 2, 1) := by decide +kernel
theorem d_Grammar_typeSection_10 : decode prog_6_method_5_code 10 = .ok (.iload_n 2, 1) := by decide +kernel
theorem d_Grammar_typeSection_11 : decode prog_6_method_5_code 11 = .ok (.iload_n 1, 1) := by decide +kernel
theorem d_Grammar_typeSection_12 : decode prog_6_method_5_code 12 = .ok (.if_icmp .ge 114, 3) := by decide +kernel
theorem d_Grammar_typeSection_126 : decode prog_6_method_5_code 126 = .ok (.return_, 1) := by decide +kernel
theorem d_Grammar_typeSection_15 : decode prog_6_method_5_code 15 = .ok (.aload_n 0, 1) := by decide +kernel
theorem d_Grammar_typeSection_16 : decode prog_6_method_5_code 16 = .ok (.getfield 9, 3) := by decide +kernel
theorem d_Grammar_typeSection_19 : decode prog_6_method_5_code 19 = .ok (.getfield 121, 3) := by decide +kernel
theorem d_Grammar_typeSection_22 : decode prog_6_method_5_code 22 = .ok (.ifCond .ne 104, 3) := by decide +kernel
theorem d_Grammar_typeSection_25 : decode prog_6_method_5_code 25 = .ok (.aload_n 0, 1) := by decide +kernel
theorem d_Grammar_typeSection_26 : decode prog_6_method_5_code 26 = .ok (.getfield 9, 3) := by decide +kernel
theorem d_Grammar_typeSection_29 : decode prog_6_method_5_code 29 = .ok (.bipush 96, 2) := by decide +kernel
theorem d_Grammar_typeSection_31 : decode prog_6_method_5_code 31 = .ok (.invokevirtual 23, 3) := by decide +kernel
theorem d_Grammar_typeSection_34 : decode prog_6_method_5_code 34 = .ok (.aload_n 0, 1) := by decide +kernel
theorem d_Grammar_typeSection_35 : decode prog_6_method_5_code 35 = .ok (.bipush 6, 2) := by decide +kernel
theorem d_Grammar_typeSection_37 : decode prog_6_method_5_code 37 = .ok (.invokevirtual 125, 3) := by decide +kernel
theorem nm_Grammar_atMost : x_nm y_Grammar_atMost 1 = true := by decide +kernel
theorem d_Grammar_typeSection_40 : decode prog_6_method_5_code 40 = .ok (.istore_n 3, 1) := by decide +kernel
theorem d_Grammar_typeSection_41 : decode prog_6_method_5_code 41 = .ok (.iconst 0, 1) := by decide +kernel
theorem d_Grammar_typeSection_42 : decode prog_6_method_5_code 42 = .ok (.istore 4, 2) := by decide +kernel
theorem d_Grammar_typeSection_44 : decode prog_6_method_5_code 44 = .ok (.iconst 0, 1) := by decide +kernel
theorem d_Grammar_typeSection_45 : decode prog_6_method_5_code 45 = .ok (.istore 5, 2) := by decide +kernel
theorem d_Grammar_typeSection_47 : decode prog_6_method_5_code 47 = .ok (.iload 5, 2) := by decide +kernel
theorem d_Grammar_typeSection_49 : decode prog_6_method_5_code 49 = .ok (.iload_n 3, 1) := by decide +kernel
theorem d_Grammar_typeSection_50 : decode prog_6_method_5_code 50 = .ok (.if_icmp .ge 37, 3) := by decide +kernel
theorem d_Grammar_typeSection_87 : decode prog_6_method_5_code 87 = .ok (.aload_n 0, 1) := by decide +kernel
theorem d_Grammar_typeSection_88 : decode prog_6_method_5_code 88 = .ok (.iconst 1, 1) := by decide +kernel
theorem d_Grammar_typeSection_89 : decode prog_6_method_5_code 89 = .ok (.invokevirtual 125, 3) := by decide +kernel
theorem d_Grammar_typeSection_92 : decode prog_6_method_5_code 92 = .ok (.ifCond .ne 7, 3) := by decide +kernel
theorem d_Grammar_typeSection_99 : decode prog_6_method_5_code 99 = .ok (.aload_n 0, 1) := by decide +kernel
theorem d_Grammar_typeSection_100 : decode prog_6_method_5_code 100 = .ok (.invokevirtual 129, 3) := by decide +kernel
theorem nm_Grammar_valueType : x_nm y_Grammar_valueType 0 = true := by decide +kernel
theorem d_Grammar_typeSection_103 : decode prog_6_method_5_code 103 = .ok (.istore 5, 2) := by decide +kernel
theorem d_Grammar_typeSection_105 : decode prog_6_method_5_code 105 = .ok (.aload_n 0, 1) := by decide +kernel
theorem d_Grammar_typeSection_106 : decode prog_6_method_5_code 106 = .ok (.getfield 15, 3) := by decide +kernel
theorem d_Grammar_typeSection_109 : decode prog_6_method_5_code 109 = .ok (.getfield 132, 3) := by decide +kernel
theorem d_Grammar_typeSection_112 : decode prog_6_method_5_code 112 = .ok (.iload_n 3, 1) := by decide +kernel
theorem d_Grammar_typeSection_113 : decode prog_6_method_5_code 113 = .ok (.iload 4, 2) := by decide +kernel
theorem d_Grammar_typeSection_115 : decode prog_6_method_5_code 115 = .ok (.iload 5, 2) := by decide +kernel
theorem d_Grammar_typeSection_117 : decode prog_6_method_5_code 117 = .ok (.invokevirtual 136, 3) := by decide +kernel
theorem nm_Types_add : x_nm y_Types_add 3 = true := by decide +kernel
theorem d_Grammar_typeSection_120 : decode prog_6_method_5_code 120 = .ok (.iinc 2 1, 3) := by decide +kernel
theorem d_Grammar_typeSection_123 : decode prog_6_method_5_code 123 = .ok (.goto (-113), 3) := by decide +kernel
theorem d_Grammar_typeSection_95 : decode prog_6_method_5_code 95 = .ok (.iconst (-1), 1) := by decide +kernel
theorem d_Grammar_typeSection_96 : decode prog_6_method_5_code 96 = .ok (.goto 7, 3) := by decide +kernel
theorem d_Grammar_typeSection_53 : decode prog_6_method_5_code 53 = .ok (.iload 5, 2) := by decide +kernel
theorem d_Grammar_typeSection_55 : decode prog_6_method_5_code 55 = .ok (.bipush 6, 2) := by decide +kernel
theorem d_Grammar_typeSection_57 : decode prog_6_method_5_code 57 = .ok (.if_icmp .ge 30, 3) := by decide +kernel
theorem d_Grammar_typeSection_60 : decode prog_6_method_5_code 60 = .ok (.iload 4, 2) := by decide +kernel
theorem d_Grammar_typeSection_62 : decode prog_6_method_5_code 62 = .ok (.aload_n 0, 1) := by decide +kernel
theorem d_Grammar_typeSection_63 : decode prog_6_method_5_code 63 = .ok (.invokevirtual 129, 3) := by decide +kernel
theorem d_Grammar_typeSection_66 : decode prog_6_method_5_code 66 = .ok (.iconst 1, 1) := by decide +kernel
theorem d_Grammar_typeSection_67 : decode prog_6_method_5_code 67 = .ok (.if_icmp .ne 10, 3) := by decide +kernel
theorem d_Grammar_typeSection_77 : decode prog_6_method_5_code 77 = .ok (.iconst 0, 1) := by decide +kernel
theorem d_Grammar_typeSection_78 : decode prog_6_method_5_code 78 = .ok (.ior, 1) := by decide +kernel
theorem d_Grammar_typeSection_79 : decode prog_6_method_5_code 79 = .ok (.istore 4, 2) := by decide +kernel
theorem d_Grammar_typeSection_81 : decode prog_6_method_5_code 81 = .ok (.iinc 5 1, 3) := by decide +kernel
theorem d_Grammar_typeSection_84 : decode prog_6_method_5_code 84 = .ok (.goto (-37), 3) := by decide +kernel
theorem d_Grammar_typeSection_70 : decode prog_6_method_5_code 70 = .ok (.iconst 1, 1) := by decide +kernel
theorem d_Grammar_typeSection_71 : decode prog_6_method_5_code 71 = .ok (.iload 5, 2) := by decide +kernel
theorem d_Grammar_typeSection_73 : decode prog_6_method_5_code 73 = .ok (.ishl, 1) := by decide +kernel
theorem d_Grammar_typeSection_74 : decode prog_6_method_5_code 74 = .ok (.goto 4, 3) := by decide +kernel
