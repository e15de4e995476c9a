def y_Exports_setNextName : MethodName := ⟨"WasmReader$Exports", "setNextName", "([BII)V"⟩
def y_Exports_nameByte : MethodName := ⟨"WasmReader$Exports", "nameByte", "(II)I"⟩
def y_Exports_sameName : MethodName := ⟨"WasmReader$Exports", "sameName", "(II)Z"⟩
def y_Grammar_exportSection : MethodName := ⟨"WasmReader$Grammar", "exportSection", "()V"⟩
def y_Grammar_elementSection : MethodName := ⟨"WasmReader$Grammar", "elementSection", "()V"⟩
def y_Grammar_dataSection : MethodName := ⟨"WasmReader$Grammar", "dataSection", "()V"⟩
def y_Grammar_importSection : MethodName := ⟨"WasmReader$Grammar", "importSection", "()V"⟩
theorem m_353 : Cond.code Lib.Math.min.name Lib.Math.min.code 2 (some .int) ∈ xtb := x_in (List.mem_of_getElem? (i := 655) (by decide +kernel)) (by decide +kernel)
theorem m_354 : Cond.methodLink "WasmReader$Exports" 29 Lib.Math.min.name ∈ xtb := x_in (List.mem_of_getElem? (i := 653) (by decide +kernel)) (by decide +kernel)
theorem m_355 : Cond.static Lib.Math.min.name ∈ xtb := x_in (List.mem_of_getElem? (i := 654) (by decide +kernel)) (by decide +kernel)
theorem m_356 : Cond.methodLink "WasmReader$Exports" 35 y_Exports_has ∈ xtb := x_in (List.mem_of_getElem? (i := 797) (by decide +kernel)) (by decide +kernel)
theorem m_357 : Cond.code y_Exports_has prog_3_method_4_code 2 (some .boolean) ∈ xtb := x_in (List.mem_of_getElem? (i := 788) (by decide +kernel)) (by decide +kernel)
theorem m_358 : Cond.instanceMethod y_Exports_has ∈ xtb := x_in (List.mem_of_getElem? (i := 786) (by decide +kernel)) (by decide +kernel)
theorem m_359 : Cond.selects "WasmReader$Exports" y_Exports_has y_Exports_has ∈ xtb := x_in (List.mem_of_getElem? (i := 787) (by decide +kernel)) (by decide +kernel)
theorem m_360 : Cond.methodLink "WasmReader$Exports" 39 y_Exports_nameByte ∈ xtb := x_in (List.mem_of_getElem? (i := 798) (by decide +kernel)) (by decide +kernel)
theorem m_361 : Cond.code y_Exports_nameByte prog_3_method_5_code 3 (some .int) ∈ xtb := x_in (List.mem_of_getElem? (i := 801) (by decide +kernel)) (by decide +kernel)
theorem m_362 : Cond.instanceMethod y_Exports_nameByte ∈ xtb := x_in (List.mem_of_getElem? (i := 799) (by decide +kernel)) (by decide +kernel)
theorem m_363 : Cond.selects "WasmReader$Exports" y_Exports_nameByte y_Exports_nameByte ∈ xtb := x_in (List.mem_of_getElem? (i := 800) (by decide +kernel)) (by decide +kernel)
theorem m_364 : Cond.methodLink "WasmReader$Grammar" 145 y_Grammar_nameLength ∈ xtb := x_in (List.mem_of_getElem? (i := 568) (by decide +kernel)) (by decide +kernel)
theorem m_365 : Cond.code y_Grammar_nameLength prog_6_method_9_code 2 (some .int) ∈ xtb := x_in (List.mem_of_getElem? (i := 571) (by decide +kernel)) (by decide +kernel)
theorem m_366 : Cond.instanceMethod y_Grammar_nameLength ∈ xtb := x_in (List.mem_of_getElem? (i := 570) (by decide +kernel)) (by decide +kernel)
theorem m_367 : Cond.selects "WasmReader$Grammar" y_Grammar_nameLength y_Grammar_nameLength ∈ xtb := x_in (List.mem_of_getElem? (i := 5) (by decide +kernel)) (by decide +kernel)
theorem m_368 : Cond.fieldLink "WasmReader$Grammar" 204 "WasmReader$WasmModule" "exports" "LWasmReader$Exports;" ∈ xtb := x_in (List.mem_of_getElem? (i := 369) (by decide +kernel)) (by decide +kernel)
theorem m_369 : Cond.fieldLink "WasmReader$Grammar" 208 "WasmReader$Cursor" "bytes" "[B" ∈ xtb := x_in (List.mem_of_getElem? (i := 126) (by decide +kernel)) (by decide +kernel)
theorem m_370 : Cond.methodLink "WasmReader$Grammar" 212 y_Exports_setNextName ∈ xtb := x_in (List.mem_of_getElem? (i := 649) (by decide +kernel)) (by decide +kernel)
theorem m_371 : Cond.code y_Exports_setNextName prog_3_method_2_code 5 none ∈ xtb := x_in (List.mem_of_getElem? (i := 652) (by decide +kernel)) (by decide +kernel)
theorem m_372 : Cond.instanceMethod y_Exports_setNextName ∈ xtb := x_in (List.mem_of_getElem? (i := 650) (by decide +kernel)) (by decide +kernel)
theorem m_373 : Cond.selects "WasmReader$Exports" y_Exports_setNextName y_Exports_setNextName ∈ xtb := x_in (List.mem_of_getElem? (i := 651) (by decide +kernel)) (by decide +kernel)
theorem m_374 : Cond.methodLink "WasmReader$Grammar" 218 y_Exports_add ∈ xtb := x_in (List.mem_of_getElem? (i := 656) (by decide +kernel)) (by decide +kernel)
theorem m_375 : Cond.code y_Exports_add prog_3_method_3_code 3 none ∈ xtb := x_in (List.mem_of_getElem? (i := 659) (by decide +kernel)) (by decide +kernel)
theorem m_376 : Cond.instanceMethod y_Exports_add ∈ xtb := x_in (List.mem_of_getElem? (i := 657) (by decide +kernel)) (by decide +kernel)
theorem m_377 : Cond.selects "WasmReader$Exports" y_Exports_add y_Exports_add ∈ xtb := x_in (List.mem_of_getElem? (i := 658) (by decide +kernel)) (by decide +kernel)
theorem m_378 : Cond.fieldLink "WasmReader$Grammar" 221 "WasmReader$WasmModule" "elements" "LWasmReader$Segments;" ∈ xtb := x_in (List.mem_of_getElem? (i := 373) (by decide +kernel)) (by decide +kernel)
theorem m_379 : Cond.methodLink "WasmReader$Grammar" 225 y_Grammar_highestFunction ∈ xtb := x_in (List.mem_of_getElem? (i := 664) (by decide +kernel)) (by decide +kernel)
theorem m_380 : Cond.code y_Grammar_highestFunction prog_6_method_19_code 4 (some .int) ∈ xtb := x_in (List.mem_of_getElem? (i := 667) (by decide +kernel)) (by decide +kernel)
theorem m_381 : Cond.instanceMethod y_Grammar_highestFunction ∈ xtb := x_in (List.mem_of_getElem? (i := 666) (by decide +kernel)) (by decide +kernel)
theorem m_382 : Cond.selects "WasmReader$Grammar" y_Grammar_highestFunction y_Grammar_highestFunction ∈ xtb := x_in (List.mem_of_getElem? (i := 16) (by decide +kernel)) (by decide +kernel)
theorem m_383 : Cond.methodLink "WasmReader$Grammar" 228 y_Segments_add ∈ xtb := x_in (List.mem_of_getElem? (i := 668) (by decide +kernel)) (by decide +kernel)
theorem m_384 : Cond.code y_Segments_add prog_7_method_2_code 6 none ∈ xtb := x_in (List.mem_of_getElem? (i := 671) (by decide +kernel)) (by decide +kernel)
theorem m_385 : Cond.instanceMethod y_Segments_add ∈ xtb := x_in (List.mem_of_getElem? (i := 669) (by decide +kernel)) (by decide +kernel)
theorem m_386 : Cond.selects "WasmReader$Segments" y_Segments_add y_Segments_add ∈ xtb := x_in (List.mem_of_getElem? (i := 670) (by decide +kernel)) (by decide +kernel)
theorem m_387 : Cond.fieldLink "WasmReader$Grammar" 233 "WasmReader$WasmModule" "data" "LWasmReader$Segments;" ∈ xtb := x_in (List.mem_of_getElem? (i := 377) (by decide +kernel)) (by decide +kernel)
theorem m_388 : Cond.fieldLink "WasmReader$Grammar" 173 "WasmReader$WasmModule" "imports" "I" ∈ xtb := x_in (List.mem_of_getElem? (i := 388) (by decide +kernel)) (by decide +kernel)
theorem m_389 : Cond.fieldLink "WasmReader$Grammar" 170 "WasmReader$Globals" "imported" "I" ∈ xtb := x_in (List.mem_of_getElem? (i := 249) (by decide +kernel)) (by decide +kernel)
theorem d_Exports_setNextName_0 : decode prog_3_method_2_code 0 = .ok (.aload_n 0, 1) := by decide +kernel
theorem d_Exports_setNextName_1 : decode prog_3_method_2_code 1 = .ok (.getfield 25, 3) := by decide +kernel
theorem d_Exports_setNextName_4 : decode prog_3_method_2_code 4 = .ok (.bipush 40, 2) := by decide +kernel
theorem d_Exports_setNextName_6 : decode prog_3_method_2_code 6 = .ok (.if_icmp .lt 4, 3) := by decide +kernel
theorem d_Exports_setNextName_10 : decode prog_3_method_2_code 10 = .ok (.aload_n 0, 1) := by decide +kernel
theorem d_Exports_setNextName_11 : decode prog_3_method_2_code 11 = .ok (.getfield 18, 3) := by decide +kernel
theorem d_Exports_setNextName_14 : decode prog_3_method_2_code 14 = .ok (.aload_n 0, 1) := by decide +kernel
theorem d_Exports_setNextName_15 : decode prog_3_method_2_code 15 = .ok (.getfield 25, 3) := by decide +kernel
theorem d_Exports_setNextName_18 : decode prog_3_method_2_code 18 = .ok (.iload_n 3, 1) := by decide +kernel
theorem d_Exports_setNextName_19 : decode prog_3_method_2_code 19 = .ok (.bipush 20, 2) := by decide +kernel
theorem d_Exports_setNextName_21 : decode prog_3_method_2_code 21 = .ok (.invokestatic 29, 3) := by decide +kernel
theorem d_Exports_setNextName_24 : decode prog_3_method_2_code 24 = .ok (.iastore, 1) := by decide +kernel
theorem d_Exports_setNextName_25 : decode prog_3_method_2_code 25 = .ok (.iconst 0, 1) := by decide +kernel
theorem d_Exports_setNextName_26 : decode prog_3_method_2_code 26 = .ok (.istore 4, 2) := by decide +kernel
theorem d_Exports_setNextName_28 : decode prog_3_method_2_code 28 = .ok (.iload 4, 2) := by decide +kernel
theorem d_Exports_setNextName_30 : decode prog_3_method_2_code 30 = .ok (.iload_n 3, 1) := by decide +kernel
theorem d_Exports_setNextName_31 : decode prog_3_method_2_code 31 = .ok (.if_icmp .ge 46, 3) := by decide +kernel
theorem d_Exports_setNextName_77 : decode prog_3_method_2_code 77 = .ok (.return_, 1) := by decide +kernel
theorem d_Exports_setNextName_34 : decode prog_3_method_2_code 34 = .ok (.iload 4, 2) := by decide +kernel
theorem d_Exports_setNextName_36 : decode prog_3_method_2_code 36 = .ok (.bipush 20, 2) := by decide +kernel
theorem d_Exports_setNextName_38 : decode prog_3_method_2_code 38 = .ok (.if_icmp .ge 39, 3) := by decide +kernel
theorem d_Exports_setNextName_41 : decode prog_3_method_2_code 41 = .ok (.iload_n 2, 1) := by decide +kernel
theorem d_Exports_setNextName_42 : decode prog_3_method_2_code 42 = .ok (.iload 4, 2) := by decide +kernel
theorem d_Exports_setNextName_44 : decode prog_3_method_2_code 44 = .ok (.iadd, 1) := by decide +kernel
theorem d_Exports_setNextName_45 : decode prog_3_method_2_code 45 = .ok (.aload_n 1, 1) := by decide +kernel
theorem d_Exports_setNextName_46 : decode prog_3_method_2_code 46 = .ok (.arraylength, 1) := by decide +kernel
theorem d_Exports_setNextName_47 : decode prog_3_method_2_code 47 = .ok (.if_icmp .ge 30, 3) := by decide +kernel
theorem d_Exports_setNextName_50 : decode prog_3_method_2_code 50 = .ok (.aload_n 0, 1) := by decide +kernel
theorem d_Exports_setNextName_51 : decode prog_3_method_2_code 51 = .ok (.getfield 21, 3) := by decide +kernel
theorem d_Exports_setNextName_54 : decode prog_3_method_2_code 54 = .ok (.aload_n 0, 1) := by decide +kernel
theorem d_Exports_setNextName_55 : decode prog_3_method_2_code 55 = .ok (.getfield 25, 3) := by decide +kernel
theorem d_Exports_setNextName_58 : decode prog_3_method_2_code 58 = .ok (.bipush 20, 2) := by decide +kernel
theorem d_Exports_setNextName_60 : decode prog_3_method_2_code 60 = .ok (.imul, 1) := by decide +kernel
theorem d_Exports_setNextName_61 : decode prog_3_method_2_code 61 = .ok (.iload 4, 2) := by decide +kernel
theorem d_Exports_setNextName_63 : decode prog_3_method_2_code 63 = .ok (.iadd, 1) := by decide +kernel
theorem d_Exports_setNextName_64 : decode prog_3_method_2_code 64 = .ok (.aload_n 1, 1) := by decide +kernel
theorem d_Exports_setNextName_65 : decode prog_3_method_2_code 65 = .ok (.iload_n 2, 1) := by decide +kernel
theorem d_Exports_setNextName_66 : decode prog_3_method_2_code 66 = .ok (.iload 4, 2) := by decide +kernel
theorem d_Exports_setNextName_68 : decode prog_3_method_2_code 68 = .ok (.iadd, 1) := by decide +kernel
theorem d_Exports_setNextName_69 : decode prog_3_method_2_code 69 = .ok (.baload, 1) := by decide +kernel
theorem d_Exports_setNextName_70 : decode prog_3_method_2_code 70 = .ok (.bastore, 1) := by decide +kernel
theorem d_Exports_setNextName_71 : decode prog_3_method_2_code 71 = .ok (.iinc 4 1, 3) := by decide +kernel
theorem d_Exports_setNextName_74 : decode prog_3_method_2_code 74 = .ok (.goto (-46), 3) := by decide +kernel
theorem d_Exports_setNextName_9 : decode prog_3_method_2_code 9 = .ok (.return_, 1) := by decide +kernel
theorem d_Exports_nameByte_0 : decode prog_3_method_5_code 0 = .ok (.aload_n 0, 1) := by decide +kernel
theorem d_Exports_nameByte_1 : decode prog_3_method_5_code 1 = .ok (.iload_n 1, 1) := by decide +kernel
theorem d_Exports_nameByte_2 : decode prog_3_method_5_code 2 = .ok (.invokevirtual 35, 3) := by decide +kernel
theorem nm_Exports_has : x_nm y_Exports_has 1 = true := by decide +kernel
theorem d_Exports_nameByte_5 : decode prog_3_method_5_code 5 = .ok (.ifCond .eq 31, 3) := by decide +kernel
theorem d_Exports_nameByte_36 : decode prog_3_method_5_code 36 = .ok (.iconst 0, 1) := by decide +kernel
theorem d_Exports_nameByte_37 : decode prog_3_method_5_code 37 = .ok (.ireturn, 1) := by decide +kernel
theorem d_Exports_nameByte_8 : decode prog_3_method_5_code 8 = .ok (.iload_n 2, 1) := by decide +kernel
theorem d_Exports_nameByte_9 : decode prog_3_method_5_code 9 = .ok (.ifCond .lt 27, 3) := by decide +kernel
theorem d_Exports_nameByte_12 : decode prog_3_method_5_code 12 = .ok (.iload_n 2, 1) := by decide +kernel
theorem d_Exports_nameByte_13 : decode prog_3_method_5_code 13 = .ok (.bipush 20, 2) := by decide +kernel
theorem d_Exports_nameByte_15 : decode prog_3_method_5_code 15 = .ok (.if_icmp .ge 21, 3) := by decide +kernel
theorem d_Exports_nameByte_18 : decode prog_3_method_5_code 18 = .ok (.aload_n 0, 1) := by decide +kernel
theorem d_Exports_nameByte_19 : decode prog_3_method_5_code 19 = .ok (.getfield 21, 3) := by decide +kernel
theorem d_Exports_nameByte_22 : decode prog_3_method_5_code 22 = .ok (.iload_n 1, 1) := by decide +kernel
theorem d_Exports_nameByte_23 : decode prog_3_method_5_code 23 = .ok (.bipush 20, 2) := by decide +kernel
theorem d_Exports_nameByte_25 : decode prog_3_method_5_code 25 = .ok (.imul, 1) := by decide +kernel
theorem d_Exports_nameByte_26 : decode prog_3_method_5_code 26 = .ok (.iload_n 2, 1) := by decide +kernel
theorem d_Exports_nameByte_27 : decode prog_3_method_5_code 27 = .ok (.iadd, 1) := by decide +kernel
theorem d_Exports_nameByte_28 : decode prog_3_method_5_code 28 = .ok (.baload, 1) := by decide +kernel
theorem d_Exports_nameByte_29 : decode prog_3_method_5_code 29 = .ok (.sipush 255, 3) := by decide +kernel
theorem d_Exports_nameByte_32 : decode prog_3_method_5_code 32 = .ok (.iand, 1) := by decide +kernel
theorem d_Exports_nameByte_33 : decode prog_3_method_5_code 33 = .ok (.goto 4, 3) := by decide +kernel
theorem d_Exports_sameName_0 : decode prog_3_method_6_code 0 = .ok (.aload_n 0, 1) := by decide +kernel
theorem d_Exports_sameName_1 : decode prog_3_method_6_code 1 = .ok (.iload_n 1, 1) := by decide +kernel
theorem d_Exports_sameName_2 : decode prog_3_method_6_code 2 = .ok (.invokevirtual 35, 3) := by decide +kernel
theorem d_Exports_sameName_5 : decode prog_3_method_6_code 5 = .ok (.ifCond .eq 26, 3) := by decide +kernel
theorem d_Exports_sameName_31 : decode prog_3_method_6_code 31 = .ok (.iconst 0, 1) := by decide +kernel
theorem d_Exports_sameName_32 : decode prog_3_method_6_code 32 = .ok (.ireturn, 1) := by decide +kernel
theorem d_Exports_sameName_8 : decode prog_3_method_6_code 8 = .ok (.aload_n 0, 1) := by decide +kernel
theorem d_Exports_sameName_9 : decode prog_3_method_6_code 9 = .ok (.iload_n 2, 1) := by decide +kernel
theorem d_Exports_sameName_10 : decode prog_3_method_6_code 10 = .ok (.invokevirtual 35, 3) := by decide +kernel
theorem d_Exports_sameName_13 : decode prog_3_method_6_code 13 = .ok (.ifCond .eq 18, 3) := by decide +kernel
theorem d_Exports_sameName_16 : decode prog_3_method_6_code 16 = .ok (.aload_n 0, 1) := by decide +kernel
theorem d_Exports_sameName_17 : decode prog_3_method_6_code 17 = .ok (.getfield 18, 3) := by decide +kernel
theorem d_Exports_sameName_20 : decode prog_3_method_6_code 20 = .ok (.iload_n 1, 1) := by decide +kernel
theorem d_Exports_sameName_21 : decode prog_3_method_6_code 21 = .ok (.iaload, 1) := by decide +kernel
theorem d_Exports_sameName_22 : decode prog_3_method_6_code 22 = .ok (.aload_n 0, 1) := by decide +kernel
theorem d_Exports_sameName_23 : decode prog_3_method_6_code 23 = .ok (.getfield 18, 3) := by decide +kernel
theorem d_Exports_sameName_26 : decode prog_3_method_6_code 26 = .ok (.iload_n 2, 1) := by decide +kernel
theorem d_Exports_sameName_27 : decode prog_3_method_6_code 27 = .ok (.iaload, 1) := by decide +kernel
theorem d_Exports_sameName_28 : decode prog_3_method_6_code 28 = .ok (.if_icmp .eq 5, 3) := by decide +kernel
theorem d_Exports_sameName_33 : decode prog_3_method_6_code 33 = .ok (.iconst 0, 1) := by decide +kernel
theorem d_Exports_sameName_34 : decode prog_3_method_6_code 34 = .ok (.istore_n 3, 1) := by decide +kernel
theorem d_Exports_sameName_35 : decode prog_3_method_6_code 35 = .ok (.iload_n 3, 1) := by decide +kernel
theorem d_Exports_sameName_36 : decode prog_3_method_6_code 36 = .ok (.aload_n 0, 1) := by decide +kernel
theorem d_Exports_sameName_37 : decode prog_3_method_6_code 37 = .ok (.getfield 18, 3) := by decide +kernel
theorem d_Exports_sameName_40 : decode prog_3_method_6_code 40 = .ok (.iload_n 1, 1) := by decide +kernel
theorem d_Exports_sameName_41 : decode prog_3_method_6_code 41 = .ok (.iaload, 1) := by decide +kernel
theorem d_Exports_sameName_42 : decode prog_3_method_6_code 42 = .ok (.if_icmp .ge 26, 3) := by decide +kernel
theorem d_Exports_sameName_68 : decode prog_3_method_6_code 68 = .ok (.iconst 1, 1) := by decide +kernel
theorem d_Exports_sameName_69 : decode prog_3_method_6_code 69 = .ok (.ireturn, 1) := by decide +kernel
theorem d_Exports_sameName_45 : decode prog_3_method_6_code 45 = .ok (.aload_n 0, 1) := by decide +kernel
theorem d_Exports_sameName_46 : decode prog_3_method_6_code 46 = .ok (.iload_n 1, 1) := by decide +kernel
theorem d_Exports_sameName_47 : decode prog_3_method_6_code 47 = .ok (.iload_n 3, 1) := by decide +kernel
theorem d_Exports_sameName_48 : decode prog_3_method_6_code 48 = .ok (.invokevirtual 39, 3) := by decide +kernel
theorem nm_Exports_nameByte : x_nm y_Exports_nameByte 2 = true := by decide +kernel
theorem d_Exports_sameName_51 : decode prog_3_method_6_code 51 = .ok (.aload_n 0, 1) := by decide +kernel
theorem d_Exports_sameName_52 : decode prog_3_method_6_code 52 = .ok (.iload_n 2, 1) := by decide +kernel
theorem d_Exports_sameName_53 : decode prog_3_method_6_code 53 = .ok (.iload_n 3, 1) := by decide +kernel
theorem d_Exports_sameName_54 : decode prog_3_method_6_code 54 = .ok (.invokevirtual 39, 3) := by decide +kernel
theorem d_Exports_sameName_57 : decode prog_3_method_6_code 57 = .ok (.if_icmp .eq 5, 3) := by decide +kernel
theorem d_Exports_sameName_62 : decode prog_3_method_6_code 62 = .ok (.iinc 3 1, 3) := by decide +kernel
theorem d_Exports_sameName_65 : decode prog_3_method_6_code 65 = .ok (.goto (-30), 3) := by decide +kernel
theorem d_Exports_sameName_60 : decode prog_3_method_6_code 60 = .ok (.iconst 0, 1) := by decide +kernel
theorem d_Exports_sameName_61 : decode prog_3_method_6_code 61 = .ok (.ireturn, 1) := by decide +kernel
theorem d_Grammar_exportSection_0 : decode prog_6_method_17_code 0 = .ok (.aload_n 0, 1) := by decide +kernel
theorem d_Grammar_exportSection_1 : decode prog_6_method_17_code 1 = .ok (.getfield 9, 3) := by decide +kernel
theorem d_Grammar_exportSection_4 : decode prog_6_method_17_code 4 = .ok (.invokevirtual 109, 3) := by decide +kernel
theorem d_Grammar_exportSection_7 : decode prog_6_method_17_code 7 = .ok (.istore_n 1, 1) := by decide +kernel
theorem d_Grammar_exportSection_8 : decode prog_6_method_17_code 8 = .ok (.iconst 0, 1) := by decide +kernel
theorem d_Grammar_exportSection_9 : decode prog_6_method_17_code 9 = .ok (.istore_n 2, 1) := by decide +kernel
theorem d_Grammar_exportSection_10 : decode prog_6_method_17_code 10 = .ok (.iload_n 2, 1) := by decide +kernel
theorem d_Grammar_exportSection_11 : decode prog_6_method_17_code 11 = .ok (.iload_n 1, 1) := by decide +kernel
theorem d_Grammar_exportSection_12 : decode prog_6_method_17_code 12 = .ok (.if_icmp .ge 98, 3) := by decide +kernel
theorem d_Grammar_exportSection_110 : decode prog_6_method_17_code 110 = .ok (.return_, 1) := by decide +kernel
theorem d_Grammar_exportSection_15 : decode prog_6_method_17_code 15 = .ok (.aload_n 0, 1) := by decide +kernel
theorem d_Grammar_exportSection_16 : decode prog_6_method_17_code 16 = .ok (.getfield 9, 3) := by decide +kernel
theorem d_Grammar_exportSection_19 : decode prog_6_method_17_code 19 = .ok (.getfield 121, 3) := by decide +kernel
theorem d_Grammar_exportSection_22 : decode prog_6_method_17_code 22 = .ok (.ifCond .ne 88, 3) := by decide +kernel
theorem d_Grammar_exportSection_25 : decode prog_6_method_17_code 25 = .ok (.aload_n 0, 1) := by decide +kernel
theorem d_Grammar_exportSection_26 : decode prog_6_method_17_code 26 = .ok (.invokevirtual 145, 3) := by decide +kernel
theorem nm_Grammar_nameLength : x_nm y_Grammar_nameLength 0 = true := by decide +kernel
theorem d_Grammar_exportSection_29 : decode prog_6_method_17_code 29 = .ok (.istore_n 3, 1) := by decide +kernel
theorem d_Grammar_exportSection_30 : decode prog_6_method_17_code 30 = .ok (.aload_n 0, 1) := by decide +kernel
theorem d_Grammar_exportSection_31 : decode prog_6_method_17_code 31 = .ok (.getfield 15, 3) := by decide +kernel
theorem d_Grammar_exportSection_34 : decode prog_6_method_17_code 34 = .ok (.getfield 204, 3) := by decide +kernel
theorem d_Grammar_exportSection_37 : decode prog_6_method_17_code 37 = .ok (.aload_n 0, 1) := by decide +kernel
theorem d_Grammar_exportSection_38 : decode prog_6_method_17_code 38 = .ok (.getfield 9, 3) := by decide +kernel
theorem d_Grammar_exportSection_41 : decode prog_6_method_17_code 41 = .ok (.getfield 208, 3) := by decide +kernel
theorem d_Grammar_exportSection_44 : decode prog_6_method_17_code 44 = .ok (.aload_n 0, 1) := by decide +kernel
theorem d_Grammar_exportSection_45 : decode prog_6_method_17_code 45 = .ok (.getfield 9, 3) := by decide +kernel
theorem d_Grammar_exportSection_48 : decode prog_6_method_17_code 48 = .ok (.getfield 118, 3) := by decide +kernel
theorem d_Grammar_exportSection_51 : decode prog_6_method_17_code 51 = .ok (.iload_n 3, 1) := by decide +kernel
theorem d_Grammar_exportSection_52 : decode prog_6_method_17_code 52 = .ok (.invokevirtual 212, 3) := by decide +kernel
theorem nm_Exports_setNextName : x_nm y_Exports_setNextName 3 = true := by decide +kernel
theorem d_Grammar_exportSection_55 : decode prog_6_method_17_code 55 = .ok (.aload_n 0, 1) := by decide +kernel
theorem d_Grammar_exportSection_56 : decode prog_6_method_17_code 56 = .ok (.getfield 9, 3) := by decide +kernel
theorem d_Grammar_exportSection_59 : decode prog_6_method_17_code 59 = .ok (.iload_n 3, 1) := by decide +kernel
theorem d_Grammar_exportSection_60 : decode prog_6_method_17_code 60 = .ok (.invokevirtual 112, 3) := by decide +kernel
theorem d_Grammar_exportSection_63 : decode prog_6_method_17_code 63 = .ok (.aload_n 0, 1) := by decide +kernel
theorem d_Grammar_exportSection_64 : decode prog_6_method_17_code 64 = .ok (.getfield 9, 3) := by decide +kernel
theorem d_Grammar_exportSection_67 : decode prog_6_method_17_code 67 = .ok (.invokevirtual 33, 3) := by decide +kernel
theorem d_Grammar_exportSection_70 : decode prog_6_method_17_code 70 = .ok (.istore 4, 2) := by decide +kernel
theorem d_Grammar_exportSection_72 : decode prog_6_method_17_code 72 = .ok (.iload 4, 2) := by decide +kernel
theorem d_Grammar_exportSection_74 : decode prog_6_method_17_code 74 = .ok (.iconst 3, 1) := by decide +kernel
theorem d_Grammar_exportSection_75 : decode prog_6_method_17_code 75 = .ok (.if_icmp .le 10, 3) := by decide +kernel
theorem d_Grammar_exportSection_85 : decode prog_6_method_17_code 85 = .ok (.aload_n 0, 1) := by decide +kernel
theorem d_Grammar_exportSection_86 : decode prog_6_method_17_code 86 = .ok (.getfield 15, 3) := by decide +kernel
theorem d_Grammar_exportSection_89 : decode prog_6_method_17_code 89 = .ok (.getfield 204, 3) := by decide +kernel
theorem d_Grammar_exportSection_92 : decode prog_6_method_17_code 92 = .ok (.iload 4, 2) := by decide +kernel
theorem d_Grammar_exportSection_94 : decode prog_6_method_17_code 94 = .ok (.aload_n 0, 1) := by decide +kernel
theorem d_Grammar_exportSection_95 : decode prog_6_method_17_code 95 = .ok (.getfield 9, 3) := by decide +kernel
theorem d_Grammar_exportSection_98 : decode prog_6_method_17_code 98 = .ok (.invokevirtual 73, 3) := by decide +kernel
theorem d_Grammar_exportSection_101 : decode prog_6_method_17_code 101 = .ok (.invokevirtual 218, 3) := by decide +kernel
theorem nm_Exports_add : x_nm y_Exports_add 2 = true := by decide +kernel
theorem d_Grammar_exportSection_104 : decode prog_6_method_17_code 104 = .ok (.iinc 2 1, 3) := by decide +kernel
theorem d_Grammar_exportSection_107 : decode prog_6_method_17_code 107 = .ok (.goto (-97), 3) := by decide +kernel
theorem d_Grammar_exportSection_78 : decode prog_6_method_17_code 78 = .ok (.aload_n 0, 1) := by decide +kernel
theorem d_Grammar_exportSection_79 : decode prog_6_method_17_code 79 = .ok (.getfield 9, 3) := by decide +kernel
theorem d_Grammar_exportSection_82 : decode prog_6_method_17_code 82 = .ok (.invokevirtual 40, 3) := by decide +kernel
theorem d_Grammar_elementSection_0 : decode prog_6_method_18_code 0 = .ok (.aload_n 0, 1) := by decide +kernel
theorem d_Grammar_elementSection_1 : decode prog_6_method_18_code 1 = .ok (.getfield 9, 3) := by decide +kernel
theorem d_Grammar_elementSection_4 : decode prog_6_method_18_code 4 = .ok (.invokevirtual 109, 3) := by decide +kernel
theorem d_Grammar_elementSection_7 : decode prog_6_method_18_code 7 = .ok (.istore_n 1, 1) := by decide +kernel
theorem d_Grammar_elementSection_8 : decode prog_6_method_18_code 8 = .ok (.iconst 0, 1) := by decide +kernel
theorem d_Grammar_elementSection_9 : decode prog_6_method_18_code 9 = .ok (.istore_n 2, 1) := by decide +kernel
theorem d_Grammar_elementSection_10 : decode prog_6_method_18_code 10 = .ok (.iload_n 2, 1) := by decide +kernel
theorem d_Grammar_elementSection_11 : decode prog_6_method_18_code 11 = .ok (.iload_n 1, 1) := by decide +kernel
theorem d_Grammar_elementSection_12 : decode prog_6_method_18_code 12 = .ok (.if_icmp .ge 63, 3) := by decide +kernel
theorem d_Grammar_elementSection_75 : decode prog_6_method_18_code 75 = .ok (.return_, 1) := by decide +kernel
theorem d_Grammar_elementSection_15 : decode prog_6_method_18_code 15 = .ok (.aload_n 0, 1) := by decide +kernel
theorem d_Grammar_elementSection_16 : decode prog_6_method_18_code 16 = .ok (.getfield 9, 3) := by decide +kernel
theorem d_Grammar_elementSection_19 : decode prog_6_method_18_code 19 = .ok (.getfield 121, 3) := by decide +kernel
theorem d_Grammar_elementSection_22 : decode prog_6_method_18_code 22 = .ok (.ifCond .ne 53, 3) := by decide +kernel
theorem d_Grammar_elementSection_25 : decode prog_6_method_18_code 25 = .ok (.aload_n 0, 1) := by decide +kernel
theorem d_Grammar_elementSection_26 : decode prog_6_method_18_code 26 = .ok (.getfield 9, 3) := by decide +kernel
theorem d_Grammar_elementSection_29 : decode prog_6_method_18_code 29 = .ok (.invokevirtual 73, 3) := by decide +kernel
theorem d_Grammar_elementSection_32 : decode prog_6_method_18_code 32 = .ok (.istore_n 3, 1) := by decide +kernel
theorem d_Grammar_elementSection_33 : decode prog_6_method_18_code 33 = .ok (.aload_n 0, 1) := by decide +kernel
theorem d_Grammar_elementSection_34 : decode prog_6_method_18_code 34 = .ok (.getfield 9, 3) := by decide +kernel
theorem d_Grammar_elementSection_37 : decode prog_6_method_18_code 37 = .ok (.invokevirtual 33, 3) := by decide +kernel
theorem d_Grammar_elementSection_40 : decode prog_6_method_18_code 40 = .ok (.istore 4, 2) := by decide +kernel
theorem d_Grammar_elementSection_42 : decode prog_6_method_18_code 42 = .ok (.aload_n 0, 1) := by decide +kernel
theorem d_Grammar_elementSection_43 : decode prog_6_method_18_code 43 = .ok (.iload 4, 2) := by decide +kernel
theorem d_Grammar_elementSection_45 : decode prog_6_method_18_code 45 = .ok (.invokevirtual 193, 3) := by decide +kernel
theorem d_Grammar_elementSection_48 : decode prog_6_method_18_code 48 = .ok (.lstore 5, 2) := by decide +kernel
theorem d_Grammar_elementSection_50 : decode prog_6_method_18_code 50 = .ok (.aload_n 0, 1) := by decide +kernel
theorem d_Grammar_elementSection_51 : decode prog_6_method_18_code 51 = .ok (.getfield 15, 3) := by decide +kernel
theorem d_Grammar_elementSection_54 : decode prog_6_method_18_code 54 = .ok (.getfield 221, 3) := by decide +kernel
theorem d_Grammar_elementSection_57 : decode prog_6_method_18_code 57 = .ok (.iload_n 3, 1) := by decide +kernel
theorem d_Grammar_elementSection_58 : decode prog_6_method_18_code 58 = .ok (.iload 4, 2) := by decide +kernel
theorem d_Grammar_elementSection_60 : decode prog_6_method_18_code 60 = .ok (.lload 5, 2) := by decide +kernel
theorem d_Grammar_elementSection_62 : decode prog_6_method_18_code 62 = .ok (.aload_n 0, 1) := by decide +kernel
theorem d_Grammar_elementSection_63 : decode prog_6_method_18_code 63 = .ok (.invokevirtual 225, 3) := by decide +kernel
theorem nm_Grammar_highestFunction : x_nm y_Grammar_highestFunction 0 = true := by decide +kernel
theorem d_Grammar_elementSection_66 : decode prog_6_method_18_code 66 = .ok (.invokevirtual 228, 3) := by decide +kernel
theorem nm_Segments_add : x_nm y_Segments_add 4 = true := by decide +kernel
theorem d_Grammar_elementSection_69 : decode prog_6_method_18_code 69 = .ok (.iinc 2 1, 3) := by decide +kernel
theorem d_Grammar_elementSection_72 : decode prog_6_method_18_code 72 = .ok (.goto (-62), 3) := by decide +kernel
theorem d_Grammar_dataSection_0 : decode prog_6_method_20_code 0 = .ok (.aload_n 0, 1) := by decide +kernel
theorem d_Grammar_dataSection_1 : decode prog_6_method_20_code 1 = .ok (.getfield 9, 3) := by decide +kernel
theorem d_Grammar_dataSection_4 : decode prog_6_method_20_code 4 = .ok (.invokevirtual 109, 3) := by decide +kernel
theorem d_Grammar_dataSection_7 : decode prog_6_method_20_code 7 = .ok (.istore_n 1, 1) := by decide +kernel
theorem d_Grammar_dataSection_8 : decode prog_6_method_20_code 8 = .ok (.iconst 0, 1) := by decide +kernel
theorem d_Grammar_dataSection_9 : decode prog_6_method_20_code 9 = .ok (.istore_n 2, 1) := by decide +kernel
theorem d_Grammar_dataSection_10 : decode prog_6_method_20_code 10 = .ok (.iload_n 2, 1) := by decide +kernel
theorem d_Grammar_dataSection_11 : decode prog_6_method_20_code 11 = .ok (.iload_n 1, 1) := by decide +kernel
theorem d_Grammar_dataSection_12 : decode prog_6_method_20_code 12 = .ok (.if_icmp .ge 74, 3) := by decide +kernel
theorem d_Grammar_dataSection_86 : decode prog_6_method_20_code 86 = .ok (.return_, 1) := by decide +kernel
theorem d_Grammar_dataSection_15 : decode prog_6_method_20_code 15 = .ok (.aload_n 0, 1) := by decide +kernel
theorem d_Grammar_dataSection_16 : decode prog_6_method_20_code 16 = .ok (.getfield 9, 3) := by decide +kernel
theorem d_Grammar_dataSection_19 : decode prog_6_method_20_code 19 = .ok (.getfield 121, 3) := by decide +kernel
theorem d_Grammar_dataSection_22 : decode prog_6_method_20_code 22 = .ok (.ifCond .ne 64, 3) := by decide +kernel
theorem d_Grammar_dataSection_25 : decode prog_6_method_20_code 25 = .ok (.aload_n 0, 1) := by decide +kernel
theorem d_Grammar_dataSection_26 : decode prog_6_method_20_code 26 = .ok (.getfield 9, 3) := by decide +kernel
theorem d_Grammar_dataSection_29 : decode prog_6_method_20_code 29 = .ok (.invokevirtual 73, 3) := by decide +kernel
theorem d_Grammar_dataSection_32 : decode prog_6_method_20_code 32 = .ok (.istore_n 3, 1) := by decide +kernel
theorem d_Grammar_dataSection_33 : decode prog_6_method_20_code 33 = .ok (.aload_n 0, 1) := by decide +kernel
theorem d_Grammar_dataSection_34 : decode prog_6_method_20_code 34 = .ok (.getfield 9, 3) := by decide +kernel
theorem d_Grammar_dataSection_37 : decode prog_6_method_20_code 37 = .ok (.invokevirtual 33, 3) := by decide +kernel
theorem d_Grammar_dataSection_40 : decode prog_6_method_20_code 40 = .ok (.istore 4, 2) := by decide +kernel
theorem d_Grammar_dataSection_42 : decode prog_6_method_20_code 42 = .ok (.aload_n 0, 1) := by decide +kernel
theorem d_Grammar_dataSection_43 : decode prog_6_method_20_code 43 = .ok (.iload 4, 2) := by decide +kernel
theorem d_Grammar_dataSection_45 : decode prog_6_method_20_code 45 = .ok (.invokevirtual 193, 3) := by decide +kernel
theorem d_Grammar_dataSection_48 : decode prog_6_method_20_code 48 = .ok (.lstore 5, 2) := by decide +kernel
theorem d_Grammar_dataSection_50 : decode prog_6_method_20_code 50 = .ok (.aload_n 0, 1) := by decide +kernel
theorem d_Grammar_dataSection_51 : decode prog_6_method_20_code 51 = .ok (.getfield 15, 3) := by decide +kernel
theorem d_Grammar_dataSection_54 : decode prog_6_method_20_code 54 = .ok (.getfield 233, 3) := by decide +kernel
theorem d_Grammar_dataSection_57 : decode prog_6_method_20_code 57 = .ok (.iload_n 3, 1) := by decide +kernel
theorem d_Grammar_dataSection_58 : decode prog_6_method_20_code 58 = .ok (.iload 4, 2) := by decide +kernel
theorem d_Grammar_dataSection_60 : decode prog_6_method_20_code 60 = .ok (.lload 5, 2) := by decide +kernel
theorem d_Grammar_dataSection_62 : decode prog_6_method_20_code 62 = .ok (.iconst (-1), 1) := by decide +kernel
theorem d_Grammar_dataSection_63 : decode prog_6_method_20_code 63 = .ok (.invokevirtual 228, 3) := by decide +kernel
theorem d_Grammar_dataSection_66 : decode prog_6_method_20_code 66 = .ok (.aload_n 0, 1) := by decide +kernel
theorem d_Grammar_dataSection_67 : decode prog_6_method_20_code 67 = .ok (.getfield 9, 3) := by decide +kernel
theorem d_Grammar_dataSection_70 : decode prog_6_method_20_code 70 = .ok (.aload_n 0, 1) := by decide +kernel
theorem d_Grammar_dataSection_71 : decode prog_6_method_20_code 71 = .ok (.getfield 9, 3) := by decide +kernel
theorem d_Grammar_dataSection_74 : decode prog_6_method_20_code 74 = .ok (.invokevirtual 109, 3) := by decide +kernel
theorem d_Grammar_dataSection_77 : decode prog_6_method_20_code 77 = .ok (.invokevirtual 112, 3) := by decide +kernel
theorem d_Grammar_dataSection_80 : decode prog_6_method_20_code 80 = .ok (.iinc 2 1, 3) := by decide +kernel
theorem d_Grammar_dataSection_83 : decode prog_6_method_20_code 83 = .ok (.goto (-73), 3) := by decide +kernel
theorem d_Grammar_importSection_0 : decode prog_6_method_8_code 0 = .ok (.aload_n 0, 1) := by decide +kernel
theorem d_Grammar_importSection_1 : decode prog_6_method_8_code 1 = .ok (.getfield 9, 3) := by decide +kernel
theorem d_Grammar_importSection_4 : decode prog_6_method_8_code 4 = .ok (.invokevirtual 109, 3) := by decide +kernel
theorem d_Grammar_importSection_7 : decode prog_6_method_8_code 7 = .ok (.istore_n 1, 1) := by decide +kernel
theorem d_Grammar_importSection_8 : decode prog_6_method_8_code 8 = .ok (.iconst 0, 1) := by decide +kernel
theorem d_Grammar_importSection_9 : decode prog_6_method_8_code 9 = .ok (.istore_n 2, 1) := by decide +kernel
theorem d_Grammar_importSection_10 : decode prog_6_method_8_code 10 = .ok (.iload_n 2, 1) := by decide +kernel
theorem d_Grammar_importSection_11 : decode prog_6_method_8_code 11 = .ok (.iload_n 1, 1) := by decide +kernel
theorem d_Grammar_importSection_12 : decode prog_6_method_8_code 12 = .ok (.if_icmp .ge 188, 3) := by decide +kernel
theorem d_Grammar_importSection_200 : decode prog_6_method_8_code 200 = .ok (.return_, 1) := by decide +kernel
theorem d_Grammar_importSection_15 : decode prog_6_method_8_code 15 = .ok (.aload_n 0, 1) := by decide +kernel
theorem d_Grammar_importSection_16 : decode prog_6_method_8_code 16 = .ok (.getfield 9, 3) := by decide +kernel
theorem d_Grammar_importSection_19 : decode prog_6_method_8_code 19 = .ok (.getfield 121, 3) := by decide +kernel
theorem d_Grammar_importSection_22 : decode prog_6_method_8_code 22 = .ok (.ifCond .ne 178, 3) := by decide +kernel
theorem d_Grammar_importSection_25 : decode prog_6_method_8_code 25 = .ok (.aload_n 0, 1) := by decide +kernel
theorem d_Grammar_importSection_26 : decode prog_6_method_8_code 26 = .ok (.getfield 9, 3) := by decide +kernel
theorem d_Grammar_importSection_29 : decode prog_6_method_8_code 29 = .ok (.aload_n 0, 1) := by decide +kernel
theorem d_Grammar_importSection_30 : decode prog_6_method_8_code 30 = .ok (.invokevirtual 145, 3) := by decide +kernel
theorem d_Grammar_importSection_33 : decode prog_6_method_8_code 33 = .ok (.invokevirtual 112, 3) := by decide +kernel
theorem d_Grammar_importSection_36 : decode prog_6_method_8_code 36 = .ok (.aload_n 0, 1) := by decide +kernel
theorem d_Grammar_importSection_37 : decode prog_6_method_8_code 37 = .ok (.getfield 9, 3) := by decide +kernel
theorem d_Grammar_importSection_40 : decode prog_6_method_8_code 40 = .ok (.aload_n 0, 1) := by decide +kernel
theorem d_Grammar_importSection_41 : decode prog_6_method_8_code 41 = .ok (.invokevirtual 145, 3) := by decide +kernel
theorem d_Grammar_importSection_44 : decode prog_6_method_8_code 44 = .ok (.invokevirtual 112, 3) := by decide +kernel
theorem d_Grammar_importSection_47 : decode prog_6_method_8_code 47 = .ok (.aload_n 0, 1) := by decide +kernel
theorem d_Grammar_importSection_48 : decode prog_6_method_8_code 48 = .ok (.getfield 9, 3) := by decide +kernel
theorem d_Grammar_importSection_51 : decode prog_6_method_8_code 51 = .ok (.invokevirtual 33, 3) := by decide +kernel
theorem d_Grammar_importSection_54 : decode prog_6_method_8_code 54 = .ok (.tableswitch 120 0 3 #[30, 73, 80, 97], 30) := by decide +kernel
theorem d_Grammar_importSection_174 : decode prog_6_method_8_code 174 = .ok (.aload_n 0, 1) := by decide +kernel
theorem d_Grammar_importSection_175 : decode prog_6_method_8_code 175 = .ok (.getfield 9, 3) := by decide +kernel
theorem d_Grammar_importSection_178 : decode prog_6_method_8_code 178 = .ok (.invokevirtual 40, 3) := by decide +kernel
theorem d_Grammar_importSection_181 : decode prog_6_method_8_code 181 = .ok (.aload_n 0, 1) := by decide +kernel
theorem d_Grammar_importSection_182 : decode prog_6_method_8_code 182 = .ok (.getfield 15, 3) := by decide +kernel
theorem d_Grammar_importSection_185 : decode prog_6_method_8_code 185 = .ok (.dup, 1) := by decide +kernel
theorem d_Grammar_importSection_186 : decode prog_6_method_8_code 186 = .ok (.getfield 173, 3) := by decide +kernel
theorem d_Grammar_importSection_189 : decode prog_6_method_8_code 189 = .ok (.iconst 1, 1) := by decide +kernel
theorem d_Grammar_importSection_190 : decode prog_6_method_8_code 190 = .ok (.iadd, 1) := by decide +kernel
theorem d_Grammar_importSection_191 : decode prog_6_method_8_code 191 = .ok (.putfield 173, 3) := by decide +kernel
theorem d_Grammar_importSection_194 : decode prog_6_method_8_code 194 = .ok (.iinc 2 1, 3) := by decide +kernel
theorem d_Grammar_importSection_197 : decode prog_6_method_8_code 197 = .ok (.goto (-187), 3) := by decide +kernel
theorem d_Grammar_importSection_84 : decode prog_6_method_8_code 84 = .ok (.aload_n 0, 1) := by decide +kernel
theorem d_Grammar_importSection_85 : decode prog_6_method_8_code 85 = .ok (.getfield 15, 3) := by decide +kernel
theorem d_Grammar_importSection_88 : decode prog_6_method_8_code 88 = .ok (.getfield 94, 3) := by decide +kernel
theorem d_Grammar_importSection_91 : decode prog_6_method_8_code 91 = .ok (.aload_n 0, 1) := by decide +kernel
theorem d_Grammar_importSection_92 : decode prog_6_method_8_code 92 = .ok (.getfield 9, 3) := by decide +kernel
theorem d_Grammar_importSection_95 : decode prog_6_method_8_code 95 = .ok (.invokevirtual 73, 3) := by decide +kernel
theorem d_Grammar_importSection_98 : decode prog_6_method_8_code 98 = .ok (.aload_n 0, 1) := by decide +kernel
theorem d_Grammar_importSection_99 : decode prog_6_method_8_code 99 = .ok (.getfield 15, 3) := by decide +kernel
theorem d_Grammar_importSection_102 : decode prog_6_method_8_code 102 = .ok (.getfield 132, 3) := by decide +kernel
theorem d_Grammar_importSection_105 : decode prog_6_method_8_code 105 = .ok (.invokevirtual 148, 3) := by decide +kernel
theorem d_Grammar_importSection_108 : decode prog_6_method_8_code 108 = .ok (.aload_n 0, 1) := by decide +kernel
theorem d_Grammar_importSection_109 : decode prog_6_method_8_code 109 = .ok (.getfield 15, 3) := by decide +kernel
theorem d_Grammar_importSection_112 : decode prog_6_method_8_code 112 = .ok (.getfield 94, 3) := by decide +kernel
theorem d_Grammar_importSection_115 : decode prog_6_method_8_code 115 = .ok (.dup, 1) := by decide +kernel
theorem d_Grammar_importSection_116 : decode prog_6_method_8_code 116 = .ok (.getfield 106, 3) := by decide +kernel
theorem d_Grammar_importSection_119 : decode prog_6_method_8_code 119 = .ok (.iconst 1, 1) := by decide +kernel
theorem d_Grammar_importSection_120 : decode prog_6_method_8_code 120 = .ok (.iadd, 1) := by decide +kernel
theorem d_Grammar_importSection_121 : decode prog_6_method_8_code 121 = .ok (.putfield 106, 3) := by decide +kernel
theorem d_Grammar_importSection_124 : decode prog_6_method_8_code 124 = .ok (.goto 57, 3) := by decide +kernel
theorem d_Grammar_importSection_127 : decode prog_6_method_8_code 127 = .ok (.aload_n 0, 1) := by decide +kernel
theorem d_Grammar_importSection_128 : decode prog_6_method_8_code 128 = .ok (.invokevirtual 151, 3) := by decide +kernel
theorem d_Grammar_importSection_131 : decode prog_6_method_8_code 131 = .ok (.goto 50, 3) := by decide +kernel
theorem d_Grammar_importSection_134 : decode prog_6_method_8_code 134 = .ok (.aload_n 0, 1) := by decide +kernel
theorem d_Grammar_importSection_135 : decode prog_6_method_8_code 135 = .ok (.getfield 15, 3) := by decide +kernel
theorem d_Grammar_importSection_138 : decode prog_6_method_8_code 138 = .ok (.getfield 154, 3) := by decide +kernel
theorem d_Grammar_importSection_141 : decode prog_6_method_8_code 141 = .ok (.aload_n 0, 1) := by decide +kernel
theorem d_Grammar_importSection_142 : decode prog_6_method_8_code 142 = .ok (.getfield 9, 3) := by decide +kernel
theorem d_Grammar_importSection_145 : decode prog_6_method_8_code 145 = .ok (.invokevirtual 158, 3) := by decide +kernel
theorem d_Grammar_importSection_148 : decode prog_6_method_8_code 148 = .ok (.goto 33, 3) := by decide +kernel
theorem d_Grammar_importSection_151 : decode prog_6_method_8_code 151 = .ok (.aload_n 0, 1) := by decide +kernel
theorem d_Grammar_importSection_152 : decode prog_6_method_8_code 152 = .ok (.invokevirtual 163, 3) := by decide +kernel
theorem d_Grammar_importSection_155 : decode prog_6_method_8_code 155 = .ok (.aload_n 0, 1) := by decide +kernel
theorem d_Grammar_importSection_156 : decode prog_6_method_8_code 156 = .ok (.getfield 15, 3) := by decide +kernel
theorem d_Grammar_importSection_159 : decode prog_6_method_8_code 159 = .ok (.getfield 166, 3) := by decide +kernel
theorem d_Grammar_importSection_162 : decode prog_6_method_8_code 162 = .ok (.dup, 1) := by decide +kernel
theorem d_Grammar_importSection_163 : decode prog_6_method_8_code 163 = .ok (.getfield 170, 3) := by decide +kernel
theorem d_Grammar_importSection_166 : decode prog_6_method_8_code 166 = .ok (.iconst 1, 1) := by decide +kernel
theorem d_Grammar_importSection_167 : decode prog_6_method_8_code 167 = .ok (.iadd, 1) := by decide +kernel
theorem d_Grammar_importSection_168 : decode prog_6_method_8_code 168 = .ok (.putfield 170, 3) := by decide +kernel
theorem d_Grammar_importSection_171 : decode prog_6_method_8_code 171 = .ok (.goto 10, 3) := by decide +kernel
