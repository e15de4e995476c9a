def y_Grammar_table : MethodName := ⟨"WasmReader$Grammar", "table", "()V"⟩
def y_Grammar_globalType : MethodName := ⟨"WasmReader$Grammar", "globalType", "()V"⟩
def y_Grammar_functionSection : MethodName := ⟨"WasmReader$Grammar", "functionSection", "()V"⟩
def y_Grammar_tableSection : MethodName := ⟨"WasmReader$Grammar", "tableSection", "()V"⟩
def y_Grammar_memorySection : MethodName := ⟨"WasmReader$Grammar", "memorySection", "()V"⟩
def y_Grammar_valueOfInitial : MethodName := ⟨"WasmReader$Grammar", "valueOfInitial", "(I)J"⟩
def y_Grammar_globalSection : MethodName := ⟨"WasmReader$Grammar", "globalSection", "()V"⟩
def y_Grammar_highestFunction : MethodName := ⟨"WasmReader$Grammar", "highestFunction", "()I"⟩
theorem m_308 : Cond.fieldLink "WasmReader$Grammar" 179 "WasmReader$WasmModule" "tables" "LWasmReader$Sized;" ∈ xtb := x_in (List.mem_of_getElem? (i := 381) (by decide +kernel)) (by decide +kernel)
theorem m_309 : Cond.methodLink "WasmReader$Grammar" 158 y_Sized_add ∈ xtb := x_in (List.mem_of_getElem? (i := 592) (by decide +kernel)) (by decide +kernel)
theorem m_310 : Cond.code y_Sized_add prog_8_method_2_code 3 none ∈ xtb := x_in (List.mem_of_getElem? (i := 595) (by decide +kernel)) (by decide +kernel)
theorem m_311 : Cond.instanceMethod y_Sized_add ∈ xtb := x_in (List.mem_of_getElem? (i := 593) (by decide +kernel)) (by decide +kernel)
theorem m_312 : Cond.selects "WasmReader$Sized" y_Sized_add y_Sized_add ∈ xtb := x_in (List.mem_of_getElem? (i := 594) (by decide +kernel)) (by decide +kernel)
theorem m_313 : Cond.fieldLink "WasmReader$Grammar" 166 "WasmReader$WasmModule" "globals" "LWasmReader$Globals;" ∈ xtb := x_in (List.mem_of_getElem? (i := 365) (by decide +kernel)) (by decide +kernel)
theorem m_314 : Cond.methodLink "WasmReader$Grammar" 182 y_Globals_add ∈ xtb := x_in (List.mem_of_getElem? (i := 603) (by decide +kernel)) (by decide +kernel)
theorem m_315 : Cond.code y_Globals_add prog_5_method_2_code 3 none ∈ xtb := x_in (List.mem_of_getElem? (i := 606) (by decide +kernel)) (by decide +kernel)
theorem m_316 : Cond.instanceMethod y_Globals_add ∈ xtb := x_in (List.mem_of_getElem? (i := 604) (by decide +kernel)) (by decide +kernel)
theorem m_317 : Cond.selects "WasmReader$Globals" y_Globals_add y_Globals_add ∈ xtb := x_in (List.mem_of_getElem? (i := 605) (by decide +kernel)) (by decide +kernel)
theorem m_318 : Cond.methodLink "WasmReader$Grammar" 73 y_Cursor_index ∈ xtb := x_in (List.mem_of_getElem? (i := 572) (by decide +kernel)) (by decide +kernel)
theorem m_319 : Cond.code y_Cursor_index prog_2_method_9_code 1 (some .int) ∈ xtb := x_in (List.mem_of_getElem? (i := 575) (by decide +kernel)) (by decide +kernel)
theorem m_320 : Cond.instanceMethod y_Cursor_index ∈ xtb := x_in (List.mem_of_getElem? (i := 573) (by decide +kernel)) (by decide +kernel)
theorem m_321 : Cond.selects "WasmReader$Cursor" y_Cursor_index y_Cursor_index ∈ xtb := x_in (List.mem_of_getElem? (i := 574) (by decide +kernel)) (by decide +kernel)
theorem m_322 : Cond.methodLink "WasmReader$Grammar" 148 y_Functions_add ∈ xtb := x_in (List.mem_of_getElem? (i := 580) (by decide +kernel)) (by decide +kernel)
theorem m_323 : Cond.code y_Functions_add prog_4_method_2_code 4 none ∈ xtb := x_in (List.mem_of_getElem? (i := 583) (by decide +kernel)) (by decide +kernel)
theorem m_324 : Cond.instanceMethod y_Functions_add ∈ xtb := x_in (List.mem_of_getElem? (i := 581) (by decide +kernel)) (by decide +kernel)
theorem m_325 : Cond.selects "WasmReader$Functions" y_Functions_add y_Functions_add ∈ xtb := x_in (List.mem_of_getElem? (i := 582) (by decide +kernel)) (by decide +kernel)
theorem m_326 : Cond.methodLink "WasmReader$Grammar" 151 y_Grammar_table ∈ xtb := x_in (List.mem_of_getElem? (i := 588) (by decide +kernel)) (by decide +kernel)
theorem m_327 : Cond.code y_Grammar_table prog_6_method_10_code 1 none ∈ xtb := x_in (List.mem_of_getElem? (i := 591) (by decide +kernel)) (by decide +kernel)
theorem m_328 : Cond.instanceMethod y_Grammar_table ∈ xtb := x_in (List.mem_of_getElem? (i := 590) (by decide +kernel)) (by decide +kernel)
theorem m_329 : Cond.selects "WasmReader$Grammar" y_Grammar_table y_Grammar_table ∈ xtb := x_in (List.mem_of_getElem? (i := 6) (by decide +kernel)) (by decide +kernel)
theorem m_330 : Cond.fieldLink "WasmReader$Grammar" 185 "WasmReader$Sized" "least" "J" ∈ xtb := x_in (List.mem_of_getElem? (i := 345) (by decide +kernel)) (by decide +kernel)
theorem m_331 : Cond.constantLong "WasmReader$Grammar" 189 200 ∈ xtb := x_in (List.mem_of_getElem? (i := 615) (by decide +kernel)) (by decide +kernel)
theorem m_332 : Cond.fieldLink "WasmReader$Grammar" 154 "WasmReader$WasmModule" "memories" "LWasmReader$Sized;" ∈ xtb := x_in (List.mem_of_getElem? (i := 385) (by decide +kernel)) (by decide +kernel)
theorem m_333 : Cond.constantLong "WasmReader$Grammar" 191 2 ∈ xtb := x_in (List.mem_of_getElem? (i := 620) (by decide +kernel)) (by decide +kernel)
theorem m_334 : Cond.methodLink "WasmReader$Grammar" 201 y_Cursor_signed ∈ xtb := x_in (List.mem_of_getElem? (i := 629) (by decide +kernel)) (by decide +kernel)
theorem m_335 : Cond.code y_Cursor_signed prog_2_method_10_code 6 (some .long) ∈ xtb := x_in (List.mem_of_getElem? (i := 632) (by decide +kernel)) (by decide +kernel)
theorem m_336 : Cond.instanceMethod y_Cursor_signed ∈ xtb := x_in (List.mem_of_getElem? (i := 630) (by decide +kernel)) (by decide +kernel)
theorem m_337 : Cond.selects "WasmReader$Cursor" y_Cursor_signed y_Cursor_signed ∈ xtb := x_in (List.mem_of_getElem? (i := 631) (by decide +kernel)) (by decide +kernel)
theorem m_338 : Cond.methodLink "WasmReader$Grammar" 163 y_Grammar_globalType ∈ xtb := x_in (List.mem_of_getElem? (i := 599) (by decide +kernel)) (by decide +kernel)
theorem m_339 : Cond.code y_Grammar_globalType prog_6_method_11_code 3 none ∈ xtb := x_in (List.mem_of_getElem? (i := 602) (by decide +kernel)) (by decide +kernel)
theorem m_340 : Cond.instanceMethod y_Grammar_globalType ∈ xtb := x_in (List.mem_of_getElem? (i := 601) (by decide +kernel)) (by decide +kernel)
theorem m_341 : Cond.selects "WasmReader$Grammar" y_Grammar_globalType y_Grammar_globalType ∈ xtb := x_in (List.mem_of_getElem? (i := 7) (by decide +kernel)) (by decide +kernel)
theorem m_342 : Cond.methodLink "WasmReader$Grammar" 193 y_Grammar_valueOfInitial ∈ xtb := x_in (List.mem_of_getElem? (i := 625) (by decide +kernel)) (by decide +kernel)
theorem m_343 : Cond.code y_Grammar_valueOfInitial prog_6_method_16_code 4 (some .long) ∈ xtb := x_in (List.mem_of_getElem? (i := 628) (by decide +kernel)) (by decide +kernel)
theorem m_344 : Cond.instanceMethod y_Grammar_valueOfInitial ∈ xtb := x_in (List.mem_of_getElem? (i := 627) (by decide +kernel)) (by decide +kernel)
theorem m_345 : Cond.selects "WasmReader$Grammar" y_Grammar_valueOfInitial y_Grammar_valueOfInitial ∈ xtb := x_in (List.mem_of_getElem? (i := 12) (by decide +kernel)) (by decide +kernel)
theorem m_346 : Cond.methodLink "WasmReader$Grammar" 197 y_Globals_setLastInitial ∈ xtb := x_in (List.mem_of_getElem? (i := 637) (by decide +kernel)) (by decide +kernel)
theorem m_347 : Cond.code y_Globals_setLastInitial prog_5_method_3_code 4 none ∈ xtb := x_in (List.mem_of_getElem? (i := 640) (by decide +kernel)) (by decide +kernel)
theorem m_348 : Cond.instanceMethod y_Globals_setLastInitial ∈ xtb := x_in (List.mem_of_getElem? (i := 638) (by decide +kernel)) (by decide +kernel)
theorem m_349 : Cond.selects "WasmReader$Globals" y_Globals_setLastInitial y_Globals_setLastInitial ∈ xtb := x_in (List.mem_of_getElem? (i := 639) (by decide +kernel)) (by decide +kernel)
theorem m_350 : Cond.code Lib.Math.max.name Lib.Math.max.code 2 (some .int) ∈ xtb := x_in (List.mem_of_getElem? (i := 535) (by decide +kernel)) (by decide +kernel)
theorem m_351 : Cond.methodLink "WasmReader$Grammar" 43 Lib.Math.max.name ∈ xtb := x_in (List.mem_of_getElem? (i := 533) (by decide +kernel)) (by decide +kernel)
theorem m_352 : Cond.static Lib.Math.max.name ∈ xtb := x_in (List.mem_of_getElem? (i := 534) (by decide +kernel)) (by decide +kernel)
theorem d_Grammar_table_0 : decode prog_6_method_10_code 0 = .ok (.aload_n 0, 1) := by decide +kernel
theorem d_Grammar_table_1 : decode prog_6_method_10_code 1 = .ok (.getfield 9, 3) := by decide +kernel
theorem d_Grammar_table_4 : decode prog_6_method_10_code 4 = .ok (.bipush 112, 2) := by decide +kernel
theorem d_Grammar_table_6 : decode prog_6_method_10_code 6 = .ok (.invokevirtual 23, 3) := by decide +kernel
theorem d_Grammar_table_9 : decode prog_6_method_10_code 9 = .ok (.aload_n 0, 1) := by decide +kernel
theorem d_Grammar_table_10 : decode prog_6_method_10_code 10 = .ok (.getfield 15, 3) := by decide +kernel
theorem d_Grammar_table_13 : decode prog_6_method_10_code 13 = .ok (.getfield 179, 3) := by decide +kernel
theorem d_Grammar_table_16 : decode prog_6_method_10_code 16 = .ok (.aload_n 0, 1) := by decide +kernel
theorem d_Grammar_table_17 : decode prog_6_method_10_code 17 = .ok (.getfield 9, 3) := by decide +kernel
theorem d_Grammar_table_20 : decode prog_6_method_10_code 20 = .ok (.invokevirtual 158, 3) := by decide +kernel
theorem nm_Sized_add : x_nm y_Sized_add 1 = true := by decide +kernel
theorem d_Grammar_table_23 : decode prog_6_method_10_code 23 = .ok (.return_, 1) := by decide +kernel
theorem d_Grammar_globalType_0 : decode prog_6_method_11_code 0 = .ok (.aload_n 0, 1) := by decide +kernel
theorem d_Grammar_globalType_1 : decode prog_6_method_11_code 1 = .ok (.invokevirtual 129, 3) := by decide +kernel
theorem d_Grammar_globalType_4 : decode prog_6_method_11_code 4 = .ok (.istore_n 1, 1) := by decide +kernel
theorem d_Grammar_globalType_5 : decode prog_6_method_11_code 5 = .ok (.aload_n 0, 1) := by decide +kernel
theorem d_Grammar_globalType_6 : decode prog_6_method_11_code 6 = .ok (.getfield 9, 3) := by decide +kernel
theorem d_Grammar_globalType_9 : decode prog_6_method_11_code 9 = .ok (.invokevirtual 33, 3) := by decide +kernel
theorem d_Grammar_globalType_12 : decode prog_6_method_11_code 12 = .ok (.istore_n 2, 1) := by decide +kernel
theorem d_Grammar_globalType_13 : decode prog_6_method_11_code 13 = .ok (.iload_n 2, 1) := by decide +kernel
theorem d_Grammar_globalType_14 : decode prog_6_method_11_code 14 = .ok (.iconst 1, 1) := by decide +kernel
theorem d_Grammar_globalType_15 : decode prog_6_method_11_code 15 = .ok (.if_icmp .le 10, 3) := by decide +kernel
theorem d_Grammar_globalType_25 : decode prog_6_method_11_code 25 = .ok (.aload_n 0, 1) := by decide +kernel
theorem d_Grammar_globalType_26 : decode prog_6_method_11_code 26 = .ok (.getfield 15, 3) := by decide +kernel
theorem d_Grammar_globalType_29 : decode prog_6_method_11_code 29 = .ok (.getfield 166, 3) := by decide +kernel
theorem d_Grammar_globalType_32 : decode prog_6_method_11_code 32 = .ok (.iload_n 1, 1) := by decide +kernel
theorem d_Grammar_globalType_33 : decode prog_6_method_11_code 33 = .ok (.iload_n 2, 1) := by decide +kernel
theorem d_Grammar_globalType_34 : decode prog_6_method_11_code 34 = .ok (.iconst 1, 1) := by decide +kernel
theorem d_Grammar_globalType_35 : decode prog_6_method_11_code 35 = .ok (.if_icmp .ne 7, 3) := by decide +kernel
theorem d_Grammar_globalType_42 : decode prog_6_method_11_code 42 = .ok (.iconst 0, 1) := by decide +kernel
theorem d_Grammar_globalType_43 : decode prog_6_method_11_code 43 = .ok (.invokevirtual 182, 3) := by decide +kernel
theorem nm_Globals_add : x_nm y_Globals_add 2 = true := by decide +kernel
theorem d_Grammar_globalType_46 : decode prog_6_method_11_code 46 = .ok (.return_, 1) := by decide +kernel
theorem d_Grammar_globalType_38 : decode prog_6_method_11_code 38 = .ok (.iconst 1, 1) := by decide +kernel
theorem d_Grammar_globalType_39 : decode prog_6_method_11_code 39 = .ok (.goto 4, 3) := by decide +kernel
theorem d_Grammar_globalType_18 : decode prog_6_method_11_code 18 = .ok (.aload_n 0, 1) := by decide +kernel
theorem d_Grammar_globalType_19 : decode prog_6_method_11_code 19 = .ok (.getfield 9, 3) := by decide +kernel
theorem d_Grammar_globalType_22 : decode prog_6_method_11_code 22 = .ok (.invokevirtual 40, 3) := by decide +kernel
theorem d_Grammar_functionSection_0 : decode prog_6_method_12_code 0 = .ok (.aload_n 0, 1) := by decide +kernel
theorem d_Grammar_functionSection_1 : decode prog_6_method_12_code 1 = .ok (.getfield 9, 3) := by decide +kernel
theorem d_Grammar_functionSection_4 : decode prog_6_method_12_code 4 = .ok (.invokevirtual 109, 3) := by decide +kernel
theorem d_Grammar_functionSection_7 : decode prog_6_method_12_code 7 = .ok (.istore_n 1, 1) := by decide +kernel
theorem d_Grammar_functionSection_8 : decode prog_6_method_12_code 8 = .ok (.iconst 0, 1) := by decide +kernel
theorem d_Grammar_functionSection_9 : decode prog_6_method_12_code 9 = .ok (.istore_n 2, 1) := by decide +kernel
theorem d_Grammar_functionSection_10 : decode prog_6_method_12_code 10 = .ok (.iload_n 2, 1) := by decide +kernel
theorem d_Grammar_functionSection_11 : decode prog_6_method_12_code 11 = .ok (.iload_n 1, 1) := by decide +kernel
theorem d_Grammar_functionSection_12 : decode prog_6_method_12_code 12 = .ok (.if_icmp .ge 43, 3) := by decide +kernel
theorem d_Grammar_functionSection_55 : decode prog_6_method_12_code 55 = .ok (.return_, 1) := by decide +kernel
theorem d_Grammar_functionSection_15 : decode prog_6_method_12_code 15 = .ok (.aload_n 0, 1) := by decide +kernel
theorem d_Grammar_functionSection_16 : decode prog_6_method_12_code 16 = .ok (.getfield 9, 3) := by decide +kernel
theorem d_Grammar_functionSection_19 : decode prog_6_method_12_code 19 = .ok (.getfield 121, 3) := by decide +kernel
theorem d_Grammar_functionSection_22 : decode prog_6_method_12_code 22 = .ok (.ifCond .ne 33, 3) := by decide +kernel
theorem d_Grammar_functionSection_25 : decode prog_6_method_12_code 25 = .ok (.aload_n 0, 1) := by decide +kernel
theorem d_Grammar_functionSection_26 : decode prog_6_method_12_code 26 = .ok (.getfield 15, 3) := by decide +kernel
theorem d_Grammar_functionSection_29 : decode prog_6_method_12_code 29 = .ok (.getfield 94, 3) := by decide +kernel
theorem d_Grammar_functionSection_32 : decode prog_6_method_12_code 32 = .ok (.aload_n 0, 1) := by decide +kernel
theorem d_Grammar_functionSection_33 : decode prog_6_method_12_code 33 = .ok (.getfield 9, 3) := by decide +kernel
theorem d_Grammar_functionSection_36 : decode prog_6_method_12_code 36 = .ok (.invokevirtual 73, 3) := by decide +kernel
theorem nm_Cursor_index : x_nm y_Cursor_index 0 = true := by decide +kernel
theorem d_Grammar_functionSection_39 : decode prog_6_method_12_code 39 = .ok (.aload_n 0, 1) := by decide +kernel
theorem d_Grammar_functionSection_40 : decode prog_6_method_12_code 40 = .ok (.getfield 15, 3) := by decide +kernel
theorem d_Grammar_functionSection_43 : decode prog_6_method_12_code 43 = .ok (.getfield 132, 3) := by decide +kernel
theorem d_Grammar_functionSection_46 : decode prog_6_method_12_code 46 = .ok (.invokevirtual 148, 3) := by decide +kernel
theorem nm_Functions_add : x_nm y_Functions_add 2 = true := by decide +kernel
theorem d_Grammar_functionSection_49 : decode prog_6_method_12_code 49 = .ok (.iinc 2 1, 3) := by decide +kernel
theorem d_Grammar_functionSection_52 : decode prog_6_method_12_code 52 = .ok (.goto (-42), 3) := by decide +kernel
theorem d_Grammar_tableSection_0 : decode prog_6_method_13_code 0 = .ok (.aload_n 0, 1) := by decide +kernel
theorem d_Grammar_tableSection_1 : decode prog_6_method_13_code 1 = .ok (.getfield 9, 3) := by decide +kernel
theorem d_Grammar_tableSection_4 : decode prog_6_method_13_code 4 = .ok (.invokevirtual 109, 3) := by decide +kernel
theorem d_Grammar_tableSection_7 : decode prog_6_method_13_code 7 = .ok (.istore_n 1, 1) := by decide +kernel
theorem d_Grammar_tableSection_8 : decode prog_6_method_13_code 8 = .ok (.iconst 0, 1) := by decide +kernel
theorem d_Grammar_tableSection_9 : decode prog_6_method_13_code 9 = .ok (.istore_n 2, 1) := by decide +kernel
theorem d_Grammar_tableSection_10 : decode prog_6_method_13_code 10 = .ok (.iload_n 2, 1) := by decide +kernel
theorem d_Grammar_tableSection_11 : decode prog_6_method_13_code 11 = .ok (.iload_n 1, 1) := by decide +kernel
theorem d_Grammar_tableSection_12 : decode prog_6_method_13_code 12 = .ok (.if_icmp .ge 48, 3) := by decide +kernel
theorem d_Grammar_tableSection_60 : decode prog_6_method_13_code 60 = .ok (.return_, 1) := by decide +kernel
theorem d_Grammar_tableSection_15 : decode prog_6_method_13_code 15 = .ok (.aload_n 0, 1) := by decide +kernel
theorem d_Grammar_tableSection_16 : decode prog_6_method_13_code 16 = .ok (.getfield 9, 3) := by decide +kernel
theorem d_Grammar_tableSection_19 : decode prog_6_method_13_code 19 = .ok (.getfield 121, 3) := by decide +kernel
theorem d_Grammar_tableSection_22 : decode prog_6_method_13_code 22 = .ok (.ifCond .ne 38, 3) := by decide +kernel
theorem d_Grammar_tableSection_25 : decode prog_6_method_13_code 25 = .ok (.aload_n 0, 1) := by decide +kernel
theorem d_Grammar_tableSection_26 : decode prog_6_method_13_code 26 = .ok (.invokevirtual 151, 3) := by decide +kernel
theorem nm_Grammar_table : x_nm y_Grammar_table 0 = true := by decide +kernel
theorem d_Grammar_tableSection_29 : decode prog_6_method_13_code 29 = .ok (.aload_n 0, 1) := by decide +kernel
theorem d_Grammar_tableSection_30 : decode prog_6_method_13_code 30 = .ok (.getfield 15, 3) := by decide +kernel
theorem d_Grammar_tableSection_33 : decode prog_6_method_13_code 33 = .ok (.getfield 179, 3) := by decide +kernel
theorem d_Grammar_tableSection_36 : decode prog_6_method_13_code 36 = .ok (.getfield 185, 3) := by decide +kernel
theorem d_Grammar_tableSection_39 : decode prog_6_method_13_code 39 = .ok (.ldc2_w 189, 3) := by decide +kernel
theorem d_Grammar_tableSection_42 : decode prog_6_method_13_code 42 = .ok (.lcmp, 1) := by decide +kernel
theorem d_Grammar_tableSection_43 : decode prog_6_method_13_code 43 = .ok (.ifCond .le 11, 3) := by decide +kernel
theorem d_Grammar_tableSection_54 : decode prog_6_method_13_code 54 = .ok (.iinc 2 1, 3) := by decide +kernel
theorem d_Grammar_tableSection_57 : decode prog_6_method_13_code 57 = .ok (.goto (-47), 3) := by decide +kernel
theorem d_Grammar_tableSection_46 : decode prog_6_method_13_code 46 = .ok (.aload_n 0, 1) := by decide +kernel
theorem d_Grammar_tableSection_47 : decode prog_6_method_13_code 47 = .ok (.getfield 15, 3) := by decide +kernel
theorem d_Grammar_tableSection_50 : decode prog_6_method_13_code 50 = .ok (.iconst 1, 1) := by decide +kernel
theorem d_Grammar_tableSection_51 : decode prog_6_method_13_code 51 = .ok (.putfield 176, 3) := by decide +kernel
theorem d_Grammar_memorySection_0 : decode prog_6_method_14_code 0 = .ok (.aload_n 0, 1) := by decide +kernel
theorem d_Grammar_memorySection_1 : decode prog_6_method_14_code 1 = .ok (.getfield 9, 3) := by decide +kernel
theorem d_Grammar_memorySection_4 : decode prog_6_method_14_code 4 = .ok (.invokevirtual 109, 3) := by decide +kernel
theorem d_Grammar_memorySection_7 : decode prog_6_method_14_code 7 = .ok (.istore_n 1, 1) := by decide +kernel
theorem d_Grammar_memorySection_8 : decode prog_6_method_14_code 8 = .ok (.iconst 0, 1) := by decide +kernel
theorem d_Grammar_memorySection_9 : decode prog_6_method_14_code 9 = .ok (.istore_n 2, 1) := by decide +kernel
theorem d_Grammar_memorySection_10 : decode prog_6_method_14_code 10 = .ok (.iload_n 2, 1) := by decide +kernel
theorem d_Grammar_memorySection_11 : decode prog_6_method_14_code 11 = .ok (.iload_n 1, 1) := by decide +kernel
theorem d_Grammar_memorySection_12 : decode prog_6_method_14_code 12 = .ok (.if_icmp .ge 58, 3) := by decide +kernel
theorem d_Grammar_memorySection_70 : decode prog_6_method_14_code 70 = .ok (.return_, 1) := by decide +kernel
theorem d_Grammar_memorySection_15 : decode prog_6_method_14_code 15 = .ok (.aload_n 0, 1) := by decide +kernel
theorem d_Grammar_memorySection_16 : decode prog_6_method_14_code 16 = .ok (.getfield 9, 3) := by decide +kernel
theorem d_Grammar_memorySection_19 : decode prog_6_method_14_code 19 = .ok (.getfield 121, 3) := by decide +kernel
theorem d_Grammar_memorySection_22 : decode prog_6_method_14_code 22 = .ok (.ifCond .ne 48, 3) := by decide +kernel
theorem d_Grammar_memorySection_25 : decode prog_6_method_14_code 25 = .ok (.aload_n 0, 1) := by decide +kernel
theorem d_Grammar_memorySection_26 : decode prog_6_method_14_code 26 = .ok (.getfield 15, 3) := by decide +kernel
theorem d_Grammar_memorySection_29 : decode prog_6_method_14_code 29 = .ok (.getfield 154, 3) := by decide +kernel
theorem d_Grammar_memorySection_32 : decode prog_6_method_14_code 32 = .ok (.aload_n 0, 1) := by decide +kernel
theorem d_Grammar_memorySection_33 : decode prog_6_method_14_code 33 = .ok (.getfield 9, 3) := by decide +kernel
theorem d_Grammar_memorySection_36 : decode prog_6_method_14_code 36 = .ok (.invokevirtual 158, 3) := by decide +kernel
theorem d_Grammar_memorySection_39 : decode prog_6_method_14_code 39 = .ok (.aload_n 0, 1) := by decide +kernel
theorem d_Grammar_memorySection_40 : decode prog_6_method_14_code 40 = .ok (.getfield 15, 3) := by decide +kernel
theorem d_Grammar_memorySection_43 : decode prog_6_method_14_code 43 = .ok (.getfield 154, 3) := by decide +kernel
theorem d_Grammar_memorySection_46 : decode prog_6_method_14_code 46 = .ok (.getfield 185, 3) := by decide +kernel
theorem d_Grammar_memorySection_49 : decode prog_6_method_14_code 49 = .ok (.ldc2_w 191, 3) := by decide +kernel
theorem d_Grammar_memorySection_52 : decode prog_6_method_14_code 52 = .ok (.lcmp, 1) := by decide +kernel
theorem d_Grammar_memorySection_53 : decode prog_6_method_14_code 53 = .ok (.ifCond .le 11, 3) := by decide +kernel
theorem d_Grammar_memorySection_64 : decode prog_6_method_14_code 64 = .ok (.iinc 2 1, 3) := by decide +kernel
theorem d_Grammar_memorySection_67 : decode prog_6_method_14_code 67 = .ok (.goto (-57), 3) := by decide +kernel
theorem d_Grammar_memorySection_56 : decode prog_6_method_14_code 56 = .ok (.aload_n 0, 1) := by decide +kernel
theorem d_Grammar_memorySection_57 : decode prog_6_method_14_code 57 = .ok (.getfield 15, 3) := by decide +kernel
theorem d_Grammar_memorySection_60 : decode prog_6_method_14_code 60 = .ok (.iconst 1, 1) := by decide +kernel
theorem d_Grammar_memorySection_61 : decode prog_6_method_14_code 61 = .ok (.putfield 176, 3) := by decide +kernel
theorem d_Grammar_valueOfInitial_0 : decode prog_6_method_16_code 0 = .ok (.lconst 0, 1) := by decide +kernel
theorem d_Grammar_valueOfInitial_1 : decode prog_6_method_16_code 1 = .ok (.lstore_n 2, 1) := by decide +kernel
theorem d_Grammar_valueOfInitial_2 : decode prog_6_method_16_code 2 = .ok (.iload_n 1, 1) := by decide +kernel
theorem d_Grammar_valueOfInitial_3 : decode prog_6_method_16_code 3 = .ok (.lookupswitch 71 #[(35, 59), (65, 33), (66, 46)], 33) := by decide +kernel
theorem d_Grammar_valueOfInitial_62 : decode prog_6_method_16_code 62 = .ok (.aload_n 0, 1) := by decide +kernel
theorem d_Grammar_valueOfInitial_63 : decode prog_6_method_16_code 63 = .ok (.getfield 9, 3) := by decide +kernel
theorem d_Grammar_valueOfInitial_66 : decode prog_6_method_16_code 66 = .ok (.invokevirtual 73, 3) := by decide +kernel
theorem d_Grammar_valueOfInitial_69 : decode prog_6_method_16_code 69 = .ok (.i2l, 1) := by decide +kernel
theorem d_Grammar_valueOfInitial_70 : decode prog_6_method_16_code 70 = .ok (.lstore_n 2, 1) := by decide +kernel
theorem d_Grammar_valueOfInitial_71 : decode prog_6_method_16_code 71 = .ok (.goto 10, 3) := by decide +kernel
theorem d_Grammar_valueOfInitial_81 : decode prog_6_method_16_code 81 = .ok (.aload_n 0, 1) := by decide +kernel
theorem d_Grammar_valueOfInitial_82 : decode prog_6_method_16_code 82 = .ok (.getfield 9, 3) := by decide +kernel
theorem d_Grammar_valueOfInitial_85 : decode prog_6_method_16_code 85 = .ok (.bipush 11, 2) := by decide +kernel
theorem d_Grammar_valueOfInitial_87 : decode prog_6_method_16_code 87 = .ok (.invokevirtual 23, 3) := by decide +kernel
theorem d_Grammar_valueOfInitial_90 : decode prog_6_method_16_code 90 = .ok (.lload_n 2, 1) := by decide +kernel
theorem d_Grammar_valueOfInitial_91 : decode prog_6_method_16_code 91 = .ok (.lreturn, 1) := by decide +kernel
theorem d_Grammar_valueOfInitial_36 : decode prog_6_method_16_code 36 = .ok (.aload_n 0, 1) := by decide +kernel
theorem d_Grammar_valueOfInitial_37 : decode prog_6_method_16_code 37 = .ok (.getfield 9, 3) := by decide +kernel
theorem d_Grammar_valueOfInitial_40 : decode prog_6_method_16_code 40 = .ok (.bipush 32, 2) := by decide +kernel
theorem d_Grammar_valueOfInitial_42 : decode prog_6_method_16_code 42 = .ok (.invokevirtual 201, 3) := by decide +kernel
theorem nm_Cursor_signed : x_nm y_Cursor_signed 1 = true := by decide +kernel
theorem d_Grammar_valueOfInitial_45 : decode prog_6_method_16_code 45 = .ok (.lstore_n 2, 1) := by decide +kernel
theorem d_Grammar_valueOfInitial_46 : decode prog_6_method_16_code 46 = .ok (.goto 35, 3) := by decide +kernel
theorem d_Grammar_valueOfInitial_49 : decode prog_6_method_16_code 49 = .ok (.aload_n 0, 1) := by decide +kernel
theorem d_Grammar_valueOfInitial_50 : decode prog_6_method_16_code 50 = .ok (.getfield 9, 3) := by decide +kernel
theorem d_Grammar_valueOfInitial_53 : decode prog_6_method_16_code 53 = .ok (.bipush 64, 2) := by decide +kernel
theorem d_Grammar_valueOfInitial_55 : decode prog_6_method_16_code 55 = .ok (.invokevirtual 201, 3) := by decide +kernel
theorem d_Grammar_valueOfInitial_58 : decode prog_6_method_16_code 58 = .ok (.lstore_n 2, 1) := by decide +kernel
theorem d_Grammar_valueOfInitial_59 : decode prog_6_method_16_code 59 = .ok (.goto 22, 3) := by decide +kernel
theorem d_Grammar_valueOfInitial_74 : decode prog_6_method_16_code 74 = .ok (.aload_n 0, 1) := by decide +kernel
theorem d_Grammar_valueOfInitial_75 : decode prog_6_method_16_code 75 = .ok (.getfield 9, 3) := by decide +kernel
theorem d_Grammar_valueOfInitial_78 : decode prog_6_method_16_code 78 = .ok (.invokevirtual 40, 3) := by decide +kernel
theorem d_Grammar_globalSection_0 : decode prog_6_method_15_code 0 = .ok (.aload_n 0, 1) := by decide +kernel
theorem d_Grammar_globalSection_1 : decode prog_6_method_15_code 1 = .ok (.getfield 9, 3) := by decide +kernel
theorem d_Grammar_globalSection_4 : decode prog_6_method_15_code 4 = .ok (.invokevirtual 109, 3) := by decide +kernel
theorem d_Grammar_globalSection_7 : decode prog_6_method_15_code 7 = .ok (.istore_n 1, 1) := by decide +kernel
theorem d_Grammar_globalSection_8 : decode prog_6_method_15_code 8 = .ok (.iconst 0, 1) := by decide +kernel
theorem d_Grammar_globalSection_9 : decode prog_6_method_15_code 9 = .ok (.istore_n 2, 1) := by decide +kernel
theorem d_Grammar_globalSection_10 : decode prog_6_method_15_code 10 = .ok (.iload_n 2, 1) := by decide +kernel
theorem d_Grammar_globalSection_11 : decode prog_6_method_15_code 11 = .ok (.iload_n 1, 1) := by decide +kernel
theorem d_Grammar_globalSection_12 : decode prog_6_method_15_code 12 = .ok (.if_icmp .ge 47, 3) := by decide +kernel
theorem d_Grammar_globalSection_59 : decode prog_6_method_15_code 59 = .ok (.return_, 1) := by decide +kernel
theorem d_Grammar_globalSection_15 : decode prog_6_method_15_code 15 = .ok (.aload_n 0, 1) := by decide +kernel
theorem d_Grammar_globalSection_16 : decode prog_6_method_15_code 16 = .ok (.getfield 9, 3) := by decide +kernel
theorem d_Grammar_globalSection_19 : decode prog_6_method_15_code 19 = .ok (.getfield 121, 3) := by decide +kernel
theorem d_Grammar_globalSection_22 : decode prog_6_method_15_code 22 = .ok (.ifCond .ne 37, 3) := by decide +kernel
theorem d_Grammar_globalSection_25 : decode prog_6_method_15_code 25 = .ok (.aload_n 0, 1) := by decide +kernel
theorem d_Grammar_globalSection_26 : decode prog_6_method_15_code 26 = .ok (.invokevirtual 163, 3) := by decide +kernel
theorem nm_Grammar_globalType : x_nm y_Grammar_globalType 0 = true := by decide +kernel
theorem d_Grammar_globalSection_29 : decode prog_6_method_15_code 29 = .ok (.aload_n 0, 1) := by decide +kernel
theorem d_Grammar_globalSection_30 : decode prog_6_method_15_code 30 = .ok (.getfield 9, 3) := by decide +kernel
theorem d_Grammar_globalSection_33 : decode prog_6_method_15_code 33 = .ok (.invokevirtual 33, 3) := by decide +kernel
theorem d_Grammar_globalSection_36 : decode prog_6_method_15_code 36 = .ok (.istore_n 3, 1) := by decide +kernel
theorem d_Grammar_globalSection_37 : decode prog_6_method_15_code 37 = .ok (.aload_n 0, 1) := by decide +kernel
theorem d_Grammar_globalSection_38 : decode prog_6_method_15_code 38 = .ok (.getfield 15, 3) := by decide +kernel
theorem d_Grammar_globalSection_41 : decode prog_6_method_15_code 41 = .ok (.getfield 166, 3) := by decide +kernel
theorem d_Grammar_globalSection_44 : decode prog_6_method_15_code 44 = .ok (.iload_n 3, 1) := by decide +kernel
theorem d_Grammar_globalSection_45 : decode prog_6_method_15_code 45 = .ok (.aload_n 0, 1) := by decide +kernel
theorem d_Grammar_globalSection_46 : decode prog_6_method_15_code 46 = .ok (.iload_n 3, 1) := by decide +kernel
theorem d_Grammar_globalSection_47 : decode prog_6_method_15_code 47 = .ok (.invokevirtual 193, 3) := by decide +kernel
theorem nm_Grammar_valueOfInitial : x_nm y_Grammar_valueOfInitial 1 = true := by decide +kernel
theorem d_Grammar_globalSection_50 : decode prog_6_method_15_code 50 = .ok (.invokevirtual 197, 3) := by decide +kernel
theorem nm_Globals_setLastInitial : x_nm y_Globals_setLastInitial 2 = true := by decide +kernel
theorem d_Grammar_globalSection_53 : decode prog_6_method_15_code 53 = .ok (.iinc 2 1, 3) := by decide +kernel
theorem d_Grammar_globalSection_56 : decode prog_6_method_15_code 56 = .ok (.goto (-46), 3) := by decide +kernel
theorem d_Grammar_highestFunction_0 : decode prog_6_method_19_code 0 = .ok (.iconst (-1), 1) := by decide +kernel
theorem d_Grammar_highestFunction_1 : decode prog_6_method_19_code 1 = .ok (.istore_n 1, 1) := by decide +kernel
theorem d_Grammar_highestFunction_2 : decode prog_6_method_19_code 2 = .ok (.aload_n 0, 1) := by decide +kernel
theorem d_Grammar_highestFunction_3 : decode prog_6_method_19_code 3 = .ok (.getfield 9, 3) := by decide +kernel
theorem d_Grammar_highestFunction_6 : decode prog_6_method_19_code 6 = .ok (.invokevirtual 109, 3) := by decide +kernel
theorem d_Grammar_highestFunction_9 : decode prog_6_method_19_code 9 = .ok (.istore_n 2, 1) := by decide +kernel
theorem d_Grammar_highestFunction_10 : decode prog_6_method_19_code 10 = .ok (.iconst 0, 1) := by decide +kernel
theorem d_Grammar_highestFunction_11 : decode prog_6_method_19_code 11 = .ok (.istore_n 3, 1) := by decide +kernel
theorem d_Grammar_highestFunction_12 : decode prog_6_method_19_code 12 = .ok (.iload_n 3, 1) := by decide +kernel
theorem d_Grammar_highestFunction_13 : decode prog_6_method_19_code 13 = .ok (.iload_n 2, 1) := by decide +kernel
theorem d_Grammar_highestFunction_14 : decode prog_6_method_19_code 14 = .ok (.if_icmp .ge 31, 3) := by decide +kernel
theorem d_Grammar_highestFunction_45 : decode prog_6_method_19_code 45 = .ok (.iload_n 1, 1) := by decide +kernel
theorem d_Grammar_highestFunction_46 : decode prog_6_method_19_code 46 = .ok (.ireturn, 1) := by decide +kernel
theorem d_Grammar_highestFunction_17 : decode prog_6_method_19_code 17 = .ok (.aload_n 0, 1) := by decide +kernel
theorem d_Grammar_highestFunction_18 : decode prog_6_method_19_code 18 = .ok (.getfield 9, 3) := by decide +kernel
theorem d_Grammar_highestFunction_21 : decode prog_6_method_19_code 21 = .ok (.getfield 121, 3) := by decide +kernel
theorem d_Grammar_highestFunction_24 : decode prog_6_method_19_code 24 = .ok (.ifCond .ne 21, 3) := by decide +kernel
theorem d_Grammar_highestFunction_27 : decode prog_6_method_19_code 27 = .ok (.iload_n 1, 1) := by decide +kernel
theorem d_Grammar_highestFunction_28 : decode prog_6_method_19_code 28 = .ok (.aload_n 0, 1) := by decide +kernel
theorem d_Grammar_highestFunction_29 : decode prog_6_method_19_code 29 = .ok (.getfield 9, 3) := by decide +kernel
theorem d_Grammar_highestFunction_32 : decode prog_6_method_19_code 32 = .ok (.invokevirtual 73, 3) := by decide +kernel
theorem d_Grammar_highestFunction_35 : decode prog_6_method_19_code 35 = .ok (.invokestatic 43, 3) := by decide +kernel
theorem d_Grammar_highestFunction_38 : decode prog_6_method_19_code 38 = .ok (.istore_n 1, 1) := by decide +kernel
theorem d_Grammar_highestFunction_39 : decode prog_6_method_19_code 39 = .ok (.iinc 3 1, 3) := by decide +kernel
theorem d_Grammar_highestFunction_42 : decode prog_6_method_19_code 42 = .ok (.goto (-30), 3) := by decide +kernel
