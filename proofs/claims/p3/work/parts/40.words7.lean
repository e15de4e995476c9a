def y_Reader_isAccess : MethodName := ⟨"WasmReader", "isAccess", "(I)Z"⟩
def y_Reader_numericRow : MethodName := ⟨"WasmReader", "numericRow", "(I)I"⟩
def y_Grammar_elseOf : MethodName := ⟨"WasmReader$Grammar", "elseOf", "(I)V"⟩
def y_Grammar_openBlock : MethodName := ⟨"WasmReader$Grammar", "openBlock", "(IZ)V"⟩
def y_Grammar_labels : MethodName := ⟨"WasmReader$Grammar", "labels", "()V"⟩
def y_Grammar_operands : MethodName := ⟨"WasmReader$Grammar", "operands", "(I)V"⟩
def y_Grammar_instructions : MethodName := ⟨"WasmReader$Grammar", "instructions", "()V"⟩
def y_Grammar_locals : MethodName := ⟨"WasmReader$Grammar", "locals", "(I)V"⟩
def y_Grammar_codeSection : MethodName := ⟨"WasmReader$Grammar", "codeSection", "()V"⟩
theorem m_390 : Cond.fieldLink "WasmReader" 200 "WasmReader" "ACCESS_ALIGNMENT" "[I" ∈ xtb := x_in (List.mem_of_getElem? (i := 717) (by decide +kernel)) (by decide +kernel)
theorem m_391 : Cond.fieldLink "WasmReader" 203 "WasmReader" "NUMERIC" "[I" ∈ xtb := x_in (List.mem_of_getElem? (i := 722) (by decide +kernel)) (by decide +kernel)
theorem m_392 : Cond.methodLink "WasmReader$Grammar" 245 y_Cursor_unsigned ∈ xtb := x_in (List.mem_of_getElem? (i := 680) (by decide +kernel)) (by decide +kernel)
theorem m_393 : Cond.methodLinkNest "WasmReader$Grammar" 270 y_Reader_isAccess "WasmReader" ∈ xtb := x_in (List.mem_of_getElem? (i := 714) (by decide +kernel)) (by decide +kernel)
theorem m_394 : Cond.code y_Reader_isAccess prog_1_method_11_code 2 (some .boolean) ∈ xtb := x_in (List.mem_of_getElem? (i := 716) (by decide +kernel)) (by decide +kernel)
theorem m_395 : Cond.static y_Reader_isAccess ∈ xtb := x_in (List.mem_of_getElem? (i := 715) (by decide +kernel)) (by decide +kernel)
theorem m_396 : Cond.methodLinkNest "WasmReader$Grammar" 274 y_Reader_numericRow "WasmReader" ∈ xtb := x_in (List.mem_of_getElem? (i := 719) (by decide +kernel)) (by decide +kernel)
theorem m_397 : Cond.code y_Reader_numericRow prog_1_method_12_code 2 (some .int) ∈ xtb := x_in (List.mem_of_getElem? (i := 721) (by decide +kernel)) (by decide +kernel)
theorem m_398 : Cond.static y_Reader_numericRow ∈ xtb := x_in (List.mem_of_getElem? (i := 720) (by decide +kernel)) (by decide +kernel)
theorem m_399 : Cond.methodLink "WasmReader$Grammar" 258 y_Grammar_blockType ∈ xtb := x_in (List.mem_of_getElem? (i := 698) (by decide +kernel)) (by decide +kernel)
theorem m_400 : Cond.code y_Grammar_blockType prog_6_method_25_code 2 none ∈ xtb := x_in (List.mem_of_getElem? (i := 701) (by decide +kernel)) (by decide +kernel)
theorem m_401 : Cond.instanceMethod y_Grammar_blockType ∈ xtb := x_in (List.mem_of_getElem? (i := 700) (by decide +kernel)) (by decide +kernel)
theorem m_402 : Cond.selects "WasmReader$Grammar" y_Grammar_blockType y_Grammar_blockType ∈ xtb := x_in (List.mem_of_getElem? (i := 21) (by decide +kernel)) (by decide +kernel)
theorem m_403 : Cond.methodLink "WasmReader$Grammar" 261 y_Grammar_openBlock ∈ xtb := x_in (List.mem_of_getElem? (i := 702) (by decide +kernel)) (by decide +kernel)
theorem m_404 : Cond.code y_Grammar_openBlock prog_6_method_26_code 3 none ∈ xtb := x_in (List.mem_of_getElem? (i := 705) (by decide +kernel)) (by decide +kernel)
theorem m_405 : Cond.instanceMethod y_Grammar_openBlock ∈ xtb := x_in (List.mem_of_getElem? (i := 704) (by decide +kernel)) (by decide +kernel)
theorem m_406 : Cond.selects "WasmReader$Grammar" y_Grammar_openBlock y_Grammar_openBlock ∈ xtb := x_in (List.mem_of_getElem? (i := 22) (by decide +kernel)) (by decide +kernel)
theorem m_407 : Cond.methodLink "WasmReader$Grammar" 255 y_Grammar_elseOf ∈ xtb := x_in (List.mem_of_getElem? (i := 694) (by decide +kernel)) (by decide +kernel)
theorem m_408 : Cond.code y_Grammar_elseOf prog_6_method_24_code 2 none ∈ xtb := x_in (List.mem_of_getElem? (i := 697) (by decide +kernel)) (by decide +kernel)
theorem m_409 : Cond.instanceMethod y_Grammar_elseOf ∈ xtb := x_in (List.mem_of_getElem? (i := 696) (by decide +kernel)) (by decide +kernel)
theorem m_410 : Cond.selects "WasmReader$Grammar" y_Grammar_elseOf y_Grammar_elseOf ∈ xtb := x_in (List.mem_of_getElem? (i := 20) (by decide +kernel)) (by decide +kernel)
theorem m_411 : Cond.methodLink "WasmReader$Grammar" 267 y_Grammar_operands ∈ xtb := x_in (List.mem_of_getElem? (i := 710) (by decide +kernel)) (by decide +kernel)
theorem m_412 : Cond.code y_Grammar_operands prog_6_method_28_code 2 none ∈ xtb := x_in (List.mem_of_getElem? (i := 713) (by decide +kernel)) (by decide +kernel)
theorem m_413 : Cond.instanceMethod y_Grammar_operands ∈ xtb := x_in (List.mem_of_getElem? (i := 712) (by decide +kernel)) (by decide +kernel)
theorem m_414 : Cond.selects "WasmReader$Grammar" y_Grammar_operands y_Grammar_operands ∈ xtb := x_in (List.mem_of_getElem? (i := 24) (by decide +kernel)) (by decide +kernel)
theorem m_415 : Cond.methodLink "WasmReader$Grammar" 264 y_Grammar_labels ∈ xtb := x_in (List.mem_of_getElem? (i := 706) (by decide +kernel)) (by decide +kernel)
theorem m_416 : Cond.code y_Grammar_labels prog_6_method_27_code 3 none ∈ xtb := x_in (List.mem_of_getElem? (i := 709) (by decide +kernel)) (by decide +kernel)
theorem m_417 : Cond.instanceMethod y_Grammar_labels ∈ xtb := x_in (List.mem_of_getElem? (i := 708) (by decide +kernel)) (by decide +kernel)
theorem m_418 : Cond.selects "WasmReader$Grammar" y_Grammar_labels y_Grammar_labels ∈ xtb := x_in (List.mem_of_getElem? (i := 23) (by decide +kernel)) (by decide +kernel)
theorem m_419 : Cond.constantLong "WasmReader$Grammar" 253 4294967295 ∈ xtb := x_in (List.mem_of_getElem? (i := 689) (by decide +kernel)) (by decide +kernel)
theorem m_420 : Cond.methodLink "WasmReader$Grammar" 249 y_Functions_addLocals ∈ xtb := x_in (List.mem_of_getElem? (i := 681) (by decide +kernel)) (by decide +kernel)
theorem m_421 : Cond.code y_Functions_addLocals prog_4_method_4_code 7 (some .boolean) ∈ xtb := x_in (List.mem_of_getElem? (i := 684) (by decide +kernel)) (by decide +kernel)
theorem m_422 : Cond.instanceMethod y_Functions_addLocals ∈ xtb := x_in (List.mem_of_getElem? (i := 682) (by decide +kernel)) (by decide +kernel)
theorem m_423 : Cond.selects "WasmReader$Functions" y_Functions_addLocals y_Functions_addLocals ∈ xtb := x_in (List.mem_of_getElem? (i := 683) (by decide +kernel)) (by decide +kernel)
theorem m_424 : Cond.methodLink "WasmReader$Grammar" 37 y_Cursor_narrow ∈ xtb := x_in (List.mem_of_getElem? (i := 519) (by decide +kernel)) (by decide +kernel)
theorem m_425 : Cond.code y_Cursor_narrow prog_2_method_14_code 3 (some .int) ∈ xtb := x_in (List.mem_of_getElem? (i := 522) (by decide +kernel)) (by decide +kernel)
theorem m_426 : Cond.instanceMethod y_Cursor_narrow ∈ xtb := x_in (List.mem_of_getElem? (i := 520) (by decide +kernel)) (by decide +kernel)
theorem m_427 : Cond.selects "WasmReader$Cursor" y_Cursor_narrow y_Cursor_narrow ∈ xtb := x_in (List.mem_of_getElem? (i := 521) (by decide +kernel)) (by decide +kernel)
theorem m_428 : Cond.methodLink "WasmReader$Grammar" 236 y_Grammar_locals ∈ xtb := x_in (List.mem_of_getElem? (i := 676) (by decide +kernel)) (by decide +kernel)
theorem m_429 : Cond.code y_Grammar_locals prog_6_method_22_code 8 none ∈ xtb := x_in (List.mem_of_getElem? (i := 679) (by decide +kernel)) (by decide +kernel)
theorem m_430 : Cond.instanceMethod y_Grammar_locals ∈ xtb := x_in (List.mem_of_getElem? (i := 678) (by decide +kernel)) (by decide +kernel)
theorem m_431 : Cond.selects "WasmReader$Grammar" y_Grammar_locals y_Grammar_locals ∈ xtb := x_in (List.mem_of_getElem? (i := 18) (by decide +kernel)) (by decide +kernel)
theorem m_432 : Cond.methodLink "WasmReader$Grammar" 239 y_Grammar_instructions ∈ xtb := x_in (List.mem_of_getElem? (i := 690) (by decide +kernel)) (by decide +kernel)
theorem m_433 : Cond.code y_Grammar_instructions prog_6_method_23_code 4 none ∈ xtb := x_in (List.mem_of_getElem? (i := 693) (by decide +kernel)) (by decide +kernel)
theorem m_434 : Cond.instanceMethod y_Grammar_instructions ∈ xtb := x_in (List.mem_of_getElem? (i := 692) (by decide +kernel)) (by decide +kernel)
theorem m_435 : Cond.selects "WasmReader$Grammar" y_Grammar_instructions y_Grammar_instructions ∈ xtb := x_in (List.mem_of_getElem? (i := 19) (by decide +kernel)) (by decide +kernel)
theorem m_436 : Cond.methodLink "WasmReader$Grammar" 242 y_Functions_setBody ∈ xtb := x_in (List.mem_of_getElem? (i := 724) (by decide +kernel)) (by decide +kernel)
theorem m_437 : Cond.code y_Functions_setBody prog_4_method_5_code 4 none ∈ xtb := x_in (List.mem_of_getElem? (i := 727) (by decide +kernel)) (by decide +kernel)
theorem m_438 : Cond.instanceMethod y_Functions_setBody ∈ xtb := x_in (List.mem_of_getElem? (i := 725) (by decide +kernel)) (by decide +kernel)
theorem m_439 : Cond.selects "WasmReader$Functions" y_Functions_setBody y_Functions_setBody ∈ xtb := x_in (List.mem_of_getElem? (i := 726) (by decide +kernel)) (by decide +kernel)
theorem m_440 : Cond.methodLink "WasmReader$Grammar" 91 y_Cursor_widen ∈ xtb := x_in (List.mem_of_getElem? (i := 728) (by decide +kernel)) (by decide +kernel)
theorem m_441 : Cond.code y_Cursor_widen prog_2_method_15_code 2 none ∈ xtb := x_in (List.mem_of_getElem? (i := 731) (by decide +kernel)) (by decide +kernel)
theorem m_442 : Cond.instanceMethod y_Cursor_widen ∈ xtb := x_in (List.mem_of_getElem? (i := 729) (by decide +kernel)) (by decide +kernel)
theorem m_443 : Cond.selects "WasmReader$Cursor" y_Cursor_widen y_Cursor_widen ∈ xtb := x_in (List.mem_of_getElem? (i := 730) (by decide +kernel)) (by decide +kernel)
theorem d_Reader_isAccess_0 : decode prog_1_method_11_code 0 = .ok (.iload_n 0, 1) := by decide +kernel
theorem d_Reader_isAccess_1 : decode prog_1_method_11_code 1 = .ok (.bipush 40, 2) := by decide +kernel
theorem d_Reader_isAccess_3 : decode prog_1_method_11_code 3 = .ok (.isub, 1) := by decide +kernel
theorem d_Reader_isAccess_4 : decode prog_1_method_11_code 4 = .ok (.istore_n 1, 1) := by decide +kernel
theorem d_Reader_isAccess_5 : decode prog_1_method_11_code 5 = .ok (.iload_n 1, 1) := by decide +kernel
theorem d_Reader_isAccess_6 : decode prog_1_method_11_code 6 = .ok (.ifCond .lt 23, 3) := by decide +kernel
theorem d_Reader_isAccess_29 : decode prog_1_method_11_code 29 = .ok (.iconst 0, 1) := by decide +kernel
theorem d_Reader_isAccess_30 : decode prog_1_method_11_code 30 = .ok (.ireturn, 1) := by decide +kernel
theorem d_Reader_isAccess_9 : decode prog_1_method_11_code 9 = .ok (.iload_n 1, 1) := by decide +kernel
theorem d_Reader_isAccess_10 : decode prog_1_method_11_code 10 = .ok (.getstatic 200, 3) := by decide +kernel
theorem d_Reader_isAccess_13 : decode prog_1_method_11_code 13 = .ok (.arraylength, 1) := by decide +kernel
theorem d_Reader_isAccess_14 : decode prog_1_method_11_code 14 = .ok (.if_icmp .ge 15, 3) := by decide +kernel
theorem d_Reader_isAccess_17 : decode prog_1_method_11_code 17 = .ok (.getstatic 200, 3) := by decide +kernel
theorem d_Reader_isAccess_20 : decode prog_1_method_11_code 20 = .ok (.iload_n 1, 1) := by decide +kernel
theorem d_Reader_isAccess_21 : decode prog_1_method_11_code 21 = .ok (.iaload, 1) := by decide +kernel
theorem d_Reader_isAccess_22 : decode prog_1_method_11_code 22 = .ok (.ifCond .lt 7, 3) := by decide +kernel
theorem d_Reader_isAccess_25 : decode prog_1_method_11_code 25 = .ok (.iconst 1, 1) := by decide +kernel
theorem d_Reader_isAccess_26 : decode prog_1_method_11_code 26 = .ok (.goto 4, 3) := by decide +kernel
theorem d_Reader_numericRow_0 : decode prog_1_method_12_code 0 = .ok (.iconst 0, 1) := by decide +kernel
theorem d_Reader_numericRow_1 : decode prog_1_method_12_code 1 = .ok (.istore_n 1, 1) := by decide +kernel
theorem d_Reader_numericRow_2 : decode prog_1_method_12_code 2 = .ok (.iload_n 1, 1) := by decide +kernel
theorem d_Reader_numericRow_3 : decode prog_1_method_12_code 3 = .ok (.iconst 5, 1) := by decide +kernel
theorem d_Reader_numericRow_4 : decode prog_1_method_12_code 4 = .ok (.iadd, 1) := by decide +kernel
theorem d_Reader_numericRow_5 : decode prog_1_method_12_code 5 = .ok (.getstatic 203, 3) := by decide +kernel
theorem d_Reader_numericRow_8 : decode prog_1_method_12_code 8 = .ok (.arraylength, 1) := by decide +kernel
theorem d_Reader_numericRow_9 : decode prog_1_method_12_code 9 = .ok (.if_icmp .gt 31, 3) := by decide +kernel
theorem d_Reader_numericRow_40 : decode prog_1_method_12_code 40 = .ok (.iconst (-1), 1) := by decide +kernel
theorem d_Reader_numericRow_41 : decode prog_1_method_12_code 41 = .ok (.ireturn, 1) := by decide +kernel
theorem d_Reader_numericRow_12 : decode prog_1_method_12_code 12 = .ok (.iload_n 0, 1) := by decide +kernel
theorem d_Reader_numericRow_13 : decode prog_1_method_12_code 13 = .ok (.getstatic 203, 3) := by decide +kernel
theorem d_Reader_numericRow_16 : decode prog_1_method_12_code 16 = .ok (.iload_n 1, 1) := by decide +kernel
theorem d_Reader_numericRow_17 : decode prog_1_method_12_code 17 = .ok (.iaload, 1) := by decide +kernel
theorem d_Reader_numericRow_18 : decode prog_1_method_12_code 18 = .ok (.if_icmp .lt 16, 3) := by decide +kernel
theorem d_Reader_numericRow_34 : decode prog_1_method_12_code 34 = .ok (.iinc 1 5, 3) := by decide +kernel
theorem d_Reader_numericRow_37 : decode prog_1_method_12_code 37 = .ok (.goto (-35), 3) := by decide +kernel
theorem d_Reader_numericRow_21 : decode prog_1_method_12_code 21 = .ok (.iload_n 0, 1) := by decide +kernel
theorem d_Reader_numericRow_22 : decode prog_1_method_12_code 22 = .ok (.getstatic 203, 3) := by decide +kernel
theorem d_Reader_numericRow_25 : decode prog_1_method_12_code 25 = .ok (.iload_n 1, 1) := by decide +kernel
theorem d_Reader_numericRow_26 : decode prog_1_method_12_code 26 = .ok (.iconst 1, 1) := by decide +kernel
theorem d_Reader_numericRow_27 : decode prog_1_method_12_code 27 = .ok (.iadd, 1) := by decide +kernel
theorem d_Reader_numericRow_28 : decode prog_1_method_12_code 28 = .ok (.iaload, 1) := by decide +kernel
theorem d_Reader_numericRow_29 : decode prog_1_method_12_code 29 = .ok (.if_icmp .gt 5, 3) := by decide +kernel
theorem d_Reader_numericRow_32 : decode prog_1_method_12_code 32 = .ok (.iload_n 1, 1) := by decide +kernel
theorem d_Reader_numericRow_33 : decode prog_1_method_12_code 33 = .ok (.ireturn, 1) := by decide +kernel
theorem d_Grammar_elseOf_0 : decode prog_6_method_24_code 0 = .ok (.iload_n 1, 1) := by decide +kernel
theorem d_Grammar_elseOf_1 : decode prog_6_method_24_code 1 = .ok (.ifCond .lt 21, 3) := by decide +kernel
theorem d_Grammar_elseOf_22 : decode prog_6_method_24_code 22 = .ok (.aload_n 0, 1) := by decide +kernel
theorem d_Grammar_elseOf_23 : decode prog_6_method_24_code 23 = .ok (.getfield 9, 3) := by decide +kernel
theorem d_Grammar_elseOf_26 : decode prog_6_method_24_code 26 = .ok (.invokevirtual 40, 3) := by decide +kernel
theorem d_Grammar_elseOf_29 : decode prog_6_method_24_code 29 = .ok (.goto 10, 3) := by decide +kernel
theorem d_Grammar_elseOf_39 : decode prog_6_method_24_code 39 = .ok (.return_, 1) := by decide +kernel
theorem d_Grammar_elseOf_4 : decode prog_6_method_24_code 4 = .ok (.iload_n 1, 1) := by decide +kernel
theorem d_Grammar_elseOf_5 : decode prog_6_method_24_code 5 = .ok (.aload_n 0, 1) := by decide +kernel
theorem d_Grammar_elseOf_6 : decode prog_6_method_24_code 6 = .ok (.getfield 19, 3) := by decide +kernel
theorem d_Grammar_elseOf_9 : decode prog_6_method_24_code 9 = .ok (.arraylength, 1) := by decide +kernel
theorem d_Grammar_elseOf_10 : decode prog_6_method_24_code 10 = .ok (.if_icmp .ge 12, 3) := by decide +kernel
theorem d_Grammar_elseOf_13 : decode prog_6_method_24_code 13 = .ok (.aload_n 0, 1) := by decide +kernel
theorem d_Grammar_elseOf_14 : decode prog_6_method_24_code 14 = .ok (.getfield 19, 3) := by decide +kernel
theorem d_Grammar_elseOf_17 : decode prog_6_method_24_code 17 = .ok (.iload_n 1, 1) := by decide +kernel
theorem d_Grammar_elseOf_18 : decode prog_6_method_24_code 18 = .ok (.baload, 1) := by decide +kernel
theorem d_Grammar_elseOf_19 : decode prog_6_method_24_code 19 = .ok (.ifCond .ne 13, 3) := by decide +kernel
theorem d_Grammar_elseOf_32 : decode prog_6_method_24_code 32 = .ok (.aload_n 0, 1) := by decide +kernel
theorem d_Grammar_elseOf_33 : decode prog_6_method_24_code 33 = .ok (.getfield 19, 3) := by decide +kernel
theorem d_Grammar_elseOf_36 : decode prog_6_method_24_code 36 = .ok (.iload_n 1, 1) := by decide +kernel
theorem d_Grammar_elseOf_37 : decode prog_6_method_24_code 37 = .ok (.iconst 0, 1) := by decide +kernel
theorem d_Grammar_elseOf_38 : decode prog_6_method_24_code 38 = .ok (.bastore, 1) := by decide +kernel
theorem d_Grammar_openBlock_0 : decode prog_6_method_26_code 0 = .ok (.iload_n 1, 1) := by decide +kernel
theorem d_Grammar_openBlock_1 : decode prog_6_method_26_code 1 = .ok (.bipush 30, 2) := by decide +kernel
theorem d_Grammar_openBlock_3 : decode prog_6_method_26_code 3 = .ok (.if_icmp .lt 11, 3) := by decide +kernel
theorem d_Grammar_openBlock_14 : decode prog_6_method_26_code 14 = .ok (.iload_n 1, 1) := by decide +kernel
theorem d_Grammar_openBlock_15 : decode prog_6_method_26_code 15 = .ok (.ifCond .lt 19, 3) := by decide +kernel
theorem d_Grammar_openBlock_34 : decode prog_6_method_26_code 34 = .ok (.return_, 1) := by decide +kernel
theorem d_Grammar_openBlock_18 : decode prog_6_method_26_code 18 = .ok (.iload_n 1, 1) := by decide +kernel
theorem d_Grammar_openBlock_19 : decode prog_6_method_26_code 19 = .ok (.aload_n 0, 1) := by decide +kernel
theorem d_Grammar_openBlock_20 : decode prog_6_method_26_code 20 = .ok (.getfield 19, 3) := by decide +kernel
theorem d_Grammar_openBlock_23 : decode prog_6_method_26_code 23 = .ok (.arraylength, 1) := by decide +kernel
theorem d_Grammar_openBlock_24 : decode prog_6_method_26_code 24 = .ok (.if_icmp .ge 10, 3) := by decide +kernel
theorem d_Grammar_openBlock_27 : decode prog_6_method_26_code 27 = .ok (.aload_n 0, 1) := by decide +kernel
theorem d_Grammar_openBlock_28 : decode prog_6_method_26_code 28 = .ok (.getfield 19, 3) := by decide +kernel
theorem d_Grammar_openBlock_31 : decode prog_6_method_26_code 31 = .ok (.iload_n 1, 1) := by decide +kernel
theorem d_Grammar_openBlock_32 : decode prog_6_method_26_code 32 = .ok (.iload_n 2, 1) := by decide +kernel
theorem d_Grammar_openBlock_33 : decode prog_6_method_26_code 33 = .ok (.bastore, 1) := by decide +kernel
theorem d_Grammar_openBlock_6 : decode prog_6_method_26_code 6 = .ok (.aload_n 0, 1) := by decide +kernel
theorem d_Grammar_openBlock_7 : decode prog_6_method_26_code 7 = .ok (.getfield 15, 3) := by decide +kernel
theorem d_Grammar_openBlock_10 : decode prog_6_method_26_code 10 = .ok (.iconst 1, 1) := by decide +kernel
theorem d_Grammar_openBlock_11 : decode prog_6_method_26_code 11 = .ok (.putfield 176, 3) := by decide +kernel
theorem d_Grammar_labels_0 : decode prog_6_method_27_code 0 = .ok (.aload_n 0, 1) := by decide +kernel
theorem d_Grammar_labels_1 : decode prog_6_method_27_code 1 = .ok (.getfield 9, 3) := by decide +kernel
theorem d_Grammar_labels_4 : decode prog_6_method_27_code 4 = .ok (.invokevirtual 109, 3) := by decide +kernel
theorem d_Grammar_labels_7 : decode prog_6_method_27_code 7 = .ok (.istore_n 1, 1) := by decide +kernel
theorem d_Grammar_labels_8 : decode prog_6_method_27_code 8 = .ok (.iload_n 1, 1) := by decide +kernel
theorem d_Grammar_labels_9 : decode prog_6_method_27_code 9 = .ok (.bipush 20, 2) := by decide +kernel
theorem d_Grammar_labels_11 : decode prog_6_method_27_code 11 = .ok (.if_icmp .le 11, 3) := by decide +kernel
theorem d_Grammar_labels_22 : decode prog_6_method_27_code 22 = .ok (.iconst 0, 1) := by decide +kernel
theorem d_Grammar_labels_23 : decode prog_6_method_27_code 23 = .ok (.istore_n 2, 1) := by decide +kernel
theorem d_Grammar_labels_24 : decode prog_6_method_27_code 24 = .ok (.iload_n 2, 1) := by decide +kernel
theorem d_Grammar_labels_25 : decode prog_6_method_27_code 25 = .ok (.iload_n 1, 1) := by decide +kernel
theorem d_Grammar_labels_26 : decode prog_6_method_27_code 26 = .ok (.if_icmp .ge 27, 3) := by decide +kernel
theorem d_Grammar_labels_53 : decode prog_6_method_27_code 53 = .ok (.aload_n 0, 1) := by decide +kernel
theorem d_Grammar_labels_54 : decode prog_6_method_27_code 54 = .ok (.getfield 9, 3) := by decide +kernel
theorem d_Grammar_labels_57 : decode prog_6_method_27_code 57 = .ok (.invokevirtual 245, 3) := by decide +kernel
theorem d_Grammar_labels_60 : decode prog_6_method_27_code 60 = .ok (.pop2, 1) := by decide +kernel
theorem d_Grammar_labels_61 : decode prog_6_method_27_code 61 = .ok (.return_, 1) := by decide +kernel
theorem d_Grammar_labels_29 : decode prog_6_method_27_code 29 = .ok (.aload_n 0, 1) := by decide +kernel
theorem d_Grammar_labels_30 : decode prog_6_method_27_code 30 = .ok (.getfield 9, 3) := by decide +kernel
theorem d_Grammar_labels_33 : decode prog_6_method_27_code 33 = .ok (.getfield 121, 3) := by decide +kernel
theorem d_Grammar_labels_36 : decode prog_6_method_27_code 36 = .ok (.ifCond .ne 17, 3) := by decide +kernel
theorem d_Grammar_labels_39 : decode prog_6_method_27_code 39 = .ok (.aload_n 0, 1) := by decide +kernel
theorem d_Grammar_labels_40 : decode prog_6_method_27_code 40 = .ok (.getfield 9, 3) := by decide +kernel
theorem d_Grammar_labels_43 : decode prog_6_method_27_code 43 = .ok (.invokevirtual 245, 3) := by decide +kernel
theorem d_Grammar_labels_46 : decode prog_6_method_27_code 46 = .ok (.pop2, 1) := by decide +kernel
theorem d_Grammar_labels_47 : decode prog_6_method_27_code 47 = .ok (.iinc 2 1, 3) := by decide +kernel
theorem d_Grammar_labels_50 : decode prog_6_method_27_code 50 = .ok (.goto (-26), 3) := by decide +kernel
theorem d_Grammar_labels_14 : decode prog_6_method_27_code 14 = .ok (.aload_n 0, 1) := by decide +kernel
theorem d_Grammar_labels_15 : decode prog_6_method_27_code 15 = .ok (.getfield 15, 3) := by decide +kernel
theorem d_Grammar_labels_18 : decode prog_6_method_27_code 18 = .ok (.iconst 1, 1) := by decide +kernel
theorem d_Grammar_labels_19 : decode prog_6_method_27_code 19 = .ok (.putfield 176, 3) := by decide +kernel
theorem d_Grammar_operands_0 : decode prog_6_method_28_code 0 = .ok (.iload_n 1, 1) := by decide +kernel
theorem d_Grammar_operands_1 : decode prog_6_method_28_code 1 = .ok (.tableswitch 353 0 66 #[283, 283, 353, 353, 353, 353, 353, 353, 353, 353, 353, 353, 286, 286, 353, 283, 286, 297, 353, 353, 353, 353, 353, 353, 353, 353, 283, 283, 353, 353, 353, 353, 286, 286, 286, 286, 286, 353, 353, 353, 353, 353, 353, 353, 353, 353, 353, 353, 353, 353, 353, 353, 353, 353, 353, 353, 353, 353, 353, 353, 353, 353, 353, 316, 316, 327, 340], 283) := by decide +kernel
theorem d_Grammar_operands_284 : decode prog_6_method_28_code 284 = .ok (.goto 110, 3) := by decide +kernel
theorem d_Grammar_operands_394 : decode prog_6_method_28_code 394 = .ok (.return_, 1) := by decide +kernel
theorem d_Grammar_operands_354 : decode prog_6_method_28_code 354 = .ok (.iload_n 1, 1) := by decide +kernel
theorem d_Grammar_operands_355 : decode prog_6_method_28_code 355 = .ok (.invokestatic 270, 3) := by decide +kernel
theorem nm_Reader_isAccess : x_nm y_Reader_isAccess 1 = true := by decide +kernel
theorem d_Grammar_operands_358 : decode prog_6_method_28_code 358 = .ok (.ifCond .eq 22, 3) := by decide +kernel
theorem d_Grammar_operands_380 : decode prog_6_method_28_code 380 = .ok (.iload_n 1, 1) := by decide +kernel
theorem d_Grammar_operands_381 : decode prog_6_method_28_code 381 = .ok (.invokestatic 274, 3) := by decide +kernel
theorem nm_Reader_numericRow : x_nm y_Reader_numericRow 1 = true := by decide +kernel
theorem d_Grammar_operands_384 : decode prog_6_method_28_code 384 = .ok (.ifCond .ge 10, 3) := by decide +kernel
theorem d_Grammar_operands_387 : decode prog_6_method_28_code 387 = .ok (.aload_n 0, 1) := by decide +kernel
theorem d_Grammar_operands_388 : decode prog_6_method_28_code 388 = .ok (.getfield 9, 3) := by decide +kernel
theorem d_Grammar_operands_391 : decode prog_6_method_28_code 391 = .ok (.invokevirtual 40, 3) := by decide +kernel
theorem d_Grammar_operands_361 : decode prog_6_method_28_code 361 = .ok (.aload_n 0, 1) := by decide +kernel
theorem d_Grammar_operands_362 : decode prog_6_method_28_code 362 = .ok (.getfield 9, 3) := by decide +kernel
theorem d_Grammar_operands_365 : decode prog_6_method_28_code 365 = .ok (.invokevirtual 245, 3) := by decide +kernel
theorem d_Grammar_operands_368 : decode prog_6_method_28_code 368 = .ok (.pop2, 1) := by decide +kernel
theorem d_Grammar_operands_369 : decode prog_6_method_28_code 369 = .ok (.aload_n 0, 1) := by decide +kernel
theorem d_Grammar_operands_370 : decode prog_6_method_28_code 370 = .ok (.getfield 9, 3) := by decide +kernel
theorem d_Grammar_operands_373 : decode prog_6_method_28_code 373 = .ok (.invokevirtual 245, 3) := by decide +kernel
theorem d_Grammar_operands_376 : decode prog_6_method_28_code 376 = .ok (.pop2, 1) := by decide +kernel
theorem d_Grammar_operands_377 : decode prog_6_method_28_code 377 = .ok (.goto 17, 3) := by decide +kernel
theorem d_Grammar_operands_287 : decode prog_6_method_28_code 287 = .ok (.aload_n 0, 1) := by decide +kernel
theorem d_Grammar_operands_288 : decode prog_6_method_28_code 288 = .ok (.getfield 9, 3) := by decide +kernel
theorem d_Grammar_operands_291 : decode prog_6_method_28_code 291 = .ok (.invokevirtual 245, 3) := by decide +kernel
theorem d_Grammar_operands_294 : decode prog_6_method_28_code 294 = .ok (.pop2, 1) := by decide +kernel
theorem d_Grammar_operands_295 : decode prog_6_method_28_code 295 = .ok (.goto 99, 3) := by decide +kernel
theorem d_Grammar_operands_298 : decode prog_6_method_28_code 298 = .ok (.aload_n 0, 1) := by decide +kernel
theorem d_Grammar_operands_299 : decode prog_6_method_28_code 299 = .ok (.getfield 9, 3) := by decide +kernel
theorem d_Grammar_operands_302 : decode prog_6_method_28_code 302 = .ok (.invokevirtual 245, 3) := by decide +kernel
theorem d_Grammar_operands_305 : decode prog_6_method_28_code 305 = .ok (.pop2, 1) := by decide +kernel
theorem d_Grammar_operands_306 : decode prog_6_method_28_code 306 = .ok (.aload_n 0, 1) := by decide +kernel
theorem d_Grammar_operands_307 : decode prog_6_method_28_code 307 = .ok (.getfield 9, 3) := by decide +kernel
theorem d_Grammar_operands_310 : decode prog_6_method_28_code 310 = .ok (.iconst 0, 1) := by decide +kernel
theorem d_Grammar_operands_311 : decode prog_6_method_28_code 311 = .ok (.invokevirtual 23, 3) := by decide +kernel
theorem d_Grammar_operands_314 : decode prog_6_method_28_code 314 = .ok (.goto 80, 3) := by decide +kernel
theorem d_Grammar_operands_317 : decode prog_6_method_28_code 317 = .ok (.aload_n 0, 1) := by decide +kernel
theorem d_Grammar_operands_318 : decode prog_6_method_28_code 318 = .ok (.getfield 9, 3) := by decide +kernel
theorem d_Grammar_operands_321 : decode prog_6_method_28_code 321 = .ok (.iconst 0, 1) := by decide +kernel
theorem d_Grammar_operands_322 : decode prog_6_method_28_code 322 = .ok (.invokevirtual 23, 3) := by decide +kernel
theorem d_Grammar_operands_325 : decode prog_6_method_28_code 325 = .ok (.goto 69, 3) := by decide +kernel
theorem d_Grammar_operands_328 : decode prog_6_method_28_code 328 = .ok (.aload_n 0, 1) := by decide +kernel
theorem d_Grammar_operands_329 : decode prog_6_method_28_code 329 = .ok (.getfield 9, 3) := by decide +kernel
theorem d_Grammar_operands_332 : decode prog_6_method_28_code 332 = .ok (.bipush 32, 2) := by decide +kernel
theorem d_Grammar_operands_334 : decode prog_6_method_28_code 334 = .ok (.invokevirtual 201, 3) := by decide +kernel
theorem d_Grammar_operands_337 : decode prog_6_method_28_code 337 = .ok (.pop2, 1) := by decide +kernel
theorem d_Grammar_operands_338 : decode prog_6_method_28_code 338 = .ok (.goto 56, 3) := by decide +kernel
theorem d_Grammar_operands_341 : decode prog_6_method_28_code 341 = .ok (.aload_n 0, 1) := by decide +kernel
theorem d_Grammar_operands_342 : decode prog_6_method_28_code 342 = .ok (.getfield 9, 3) := by decide +kernel
theorem d_Grammar_operands_345 : decode prog_6_method_28_code 345 = .ok (.bipush 64, 2) := by decide +kernel
theorem d_Grammar_operands_347 : decode prog_6_method_28_code 347 = .ok (.invokevirtual 201, 3) := by decide +kernel
theorem d_Grammar_operands_350 : decode prog_6_method_28_code 350 = .ok (.pop2, 1) := by decide +kernel
theorem d_Grammar_operands_351 : decode prog_6_method_28_code 351 = .ok (.goto 43, 3) := by decide +kernel
theorem d_Grammar_instructions_0 : decode prog_6_method_23_code 0 = .ok (.iconst 0, 1) := by decide +kernel
theorem d_Grammar_instructions_1 : decode prog_6_method_23_code 1 = .ok (.istore_n 1, 1) := by decide +kernel
theorem d_Grammar_instructions_2 : decode prog_6_method_23_code 2 = .ok (.iconst 0, 1) := by decide +kernel
theorem d_Grammar_instructions_3 : decode prog_6_method_23_code 3 = .ok (.istore_n 2, 1) := by decide +kernel
theorem d_Grammar_instructions_4 : decode prog_6_method_23_code 4 = .ok (.iload_n 2, 1) := by decide +kernel
theorem d_Grammar_instructions_5 : decode prog_6_method_23_code 5 = .ok (.sipush 4000, 3) := by decide +kernel
theorem d_Grammar_instructions_8 : decode prog_6_method_23_code 8 = .ok (.if_icmp .ge 159, 3) := by decide +kernel
theorem d_Grammar_instructions_167 : decode prog_6_method_23_code 167 = .ok (.aload_n 0, 1) := by decide +kernel
theorem d_Grammar_instructions_168 : decode prog_6_method_23_code 168 = .ok (.getfield 9, 3) := by decide +kernel
theorem d_Grammar_instructions_171 : decode prog_6_method_23_code 171 = .ok (.invokevirtual 40, 3) := by decide +kernel
theorem d_Grammar_instructions_174 : decode prog_6_method_23_code 174 = .ok (.return_, 1) := by decide +kernel
theorem d_Grammar_instructions_11 : decode prog_6_method_23_code 11 = .ok (.aload_n 0, 1) := by decide +kernel
theorem d_Grammar_instructions_12 : decode prog_6_method_23_code 12 = .ok (.getfield 9, 3) := by decide +kernel
theorem d_Grammar_instructions_15 : decode prog_6_method_23_code 15 = .ok (.invokevirtual 29, 3) := by decide +kernel
theorem d_Grammar_instructions_18 : decode prog_6_method_23_code 18 = .ok (.ifCond .eq 149, 3) := by decide +kernel
theorem d_Grammar_instructions_21 : decode prog_6_method_23_code 21 = .ok (.aload_n 0, 1) := by decide +kernel
theorem d_Grammar_instructions_22 : decode prog_6_method_23_code 22 = .ok (.getfield 9, 3) := by decide +kernel
theorem d_Grammar_instructions_25 : decode prog_6_method_23_code 25 = .ok (.invokevirtual 33, 3) := by decide +kernel
theorem d_Grammar_instructions_28 : decode prog_6_method_23_code 28 = .ok (.istore_n 3, 1) := by decide +kernel
theorem d_Grammar_instructions_29 : decode prog_6_method_23_code 29 = .ok (.iload_n 3, 1) := by decide +kernel
theorem d_Grammar_instructions_30 : decode prog_6_method_23_code 30 = .ok (.bipush 11, 2) := by decide +kernel
theorem d_Grammar_instructions_32 : decode prog_6_method_23_code 32 = .ok (.if_icmp .ne 8, 3) := by decide +kernel
theorem d_Grammar_instructions_40 : decode prog_6_method_23_code 40 = .ok (.iload_n 3, 1) := by decide +kernel
theorem d_Grammar_instructions_41 : decode prog_6_method_23_code 41 = .ok (.tableswitch 115 2 14 #[83, 83, 83, 73, 115, 115, 115, 115, 115, 67, 115, 115, 108], 67) := by decide +kernel
theorem d_Grammar_instructions_124 : decode prog_6_method_23_code 124 = .ok (.aload_n 0, 1) := by decide +kernel
theorem d_Grammar_instructions_125 : decode prog_6_method_23_code 125 = .ok (.invokevirtual 258, 3) := by decide +kernel
theorem nm_Grammar_blockType : x_nm y_Grammar_blockType 0 = true := by decide +kernel
theorem d_Grammar_instructions_128 : decode prog_6_method_23_code 128 = .ok (.aload_n 0, 1) := by decide +kernel
theorem d_Grammar_instructions_129 : decode prog_6_method_23_code 129 = .ok (.iload_n 1, 1) := by decide +kernel
theorem d_Grammar_instructions_130 : decode prog_6_method_23_code 130 = .ok (.iload_n 3, 1) := by decide +kernel
theorem d_Grammar_instructions_131 : decode prog_6_method_23_code 131 = .ok (.iconst 4, 1) := by decide +kernel
theorem d_Grammar_instructions_132 : decode prog_6_method_23_code 132 = .ok (.if_icmp .ne 7, 3) := by decide +kernel
theorem d_Grammar_instructions_139 : decode prog_6_method_23_code 139 = .ok (.iconst 0, 1) := by decide +kernel
theorem d_Grammar_instructions_140 : decode prog_6_method_23_code 140 = .ok (.invokevirtual 261, 3) := by decide +kernel
theorem nm_Grammar_openBlock : x_nm y_Grammar_openBlock 2 = true := by decide +kernel
theorem d_Grammar_instructions_143 : decode prog_6_method_23_code 143 = .ok (.iinc 1 1, 3) := by decide +kernel
theorem d_Grammar_instructions_146 : decode prog_6_method_23_code 146 = .ok (.goto 15, 3) := by decide +kernel
theorem d_Grammar_instructions_161 : decode prog_6_method_23_code 161 = .ok (.iinc 2 1, 3) := by decide +kernel
theorem d_Grammar_instructions_164 : decode prog_6_method_23_code 164 = .ok (.goto (-160), 3) := by decide +kernel
theorem d_Grammar_instructions_135 : decode prog_6_method_23_code 135 = .ok (.iconst 1, 1) := by decide +kernel
theorem d_Grammar_instructions_136 : decode prog_6_method_23_code 136 = .ok (.goto 4, 3) := by decide +kernel
theorem d_Grammar_instructions_114 : decode prog_6_method_23_code 114 = .ok (.aload_n 0, 1) := by decide +kernel
theorem d_Grammar_instructions_115 : decode prog_6_method_23_code 115 = .ok (.iload_n 1, 1) := by decide +kernel
theorem d_Grammar_instructions_116 : decode prog_6_method_23_code 116 = .ok (.iconst 1, 1) := by decide +kernel
theorem d_Grammar_instructions_117 : decode prog_6_method_23_code 117 = .ok (.isub, 1) := by decide +kernel
theorem d_Grammar_instructions_118 : decode prog_6_method_23_code 118 = .ok (.invokevirtual 255, 3) := by decide +kernel
theorem nm_Grammar_elseOf : x_nm y_Grammar_elseOf 1 = true := by decide +kernel
theorem d_Grammar_instructions_121 : decode prog_6_method_23_code 121 = .ok (.goto 40, 3) := by decide +kernel
theorem d_Grammar_instructions_156 : decode prog_6_method_23_code 156 = .ok (.aload_n 0, 1) := by decide +kernel
theorem d_Grammar_instructions_157 : decode prog_6_method_23_code 157 = .ok (.iload_n 3, 1) := by decide +kernel
theorem d_Grammar_instructions_158 : decode prog_6_method_23_code 158 = .ok (.invokevirtual 267, 3) := by decide +kernel
theorem nm_Grammar_operands : x_nm y_Grammar_operands 1 = true := by decide +kernel
theorem d_Grammar_instructions_108 : decode prog_6_method_23_code 108 = .ok (.iinc 1 (-1), 3) := by decide +kernel
theorem d_Grammar_instructions_111 : decode prog_6_method_23_code 111 = .ok (.goto 50, 3) := by decide +kernel
theorem d_Grammar_instructions_149 : decode prog_6_method_23_code 149 = .ok (.aload_n 0, 1) := by decide +kernel
theorem d_Grammar_instructions_150 : decode prog_6_method_23_code 150 = .ok (.invokevirtual 264, 3) := by decide +kernel
theorem nm_Grammar_labels : x_nm y_Grammar_labels 0 = true := by decide +kernel
theorem d_Grammar_instructions_153 : decode prog_6_method_23_code 153 = .ok (.goto 8, 3) := by decide +kernel
theorem d_Grammar_instructions_35 : decode prog_6_method_23_code 35 = .ok (.iload_n 1, 1) := by decide +kernel
theorem d_Grammar_instructions_36 : decode prog_6_method_23_code 36 = .ok (.ifCond .ne 4, 3) := by decide +kernel
theorem d_Grammar_instructions_39 : decode prog_6_method_23_code 39 = .ok (.return_, 1) := by decide +kernel
theorem d_Grammar_locals_0 : decode prog_6_method_22_code 0 = .ok (.lconst 0, 1) := by decide +kernel
theorem d_Grammar_locals_1 : decode prog_6_method_22_code 1 = .ok (.lstore_n 2, 1) := by decide +kernel
theorem d_Grammar_locals_2 : decode prog_6_method_22_code 2 = .ok (.aload_n 0, 1) := by decide +kernel
theorem d_Grammar_locals_3 : decode prog_6_method_22_code 3 = .ok (.getfield 9, 3) := by decide +kernel
theorem d_Grammar_locals_6 : decode prog_6_method_22_code 6 = .ok (.invokevirtual 109, 3) := by decide +kernel
theorem d_Grammar_locals_9 : decode prog_6_method_22_code 9 = .ok (.istore 4, 2) := by decide +kernel
theorem d_Grammar_locals_11 : decode prog_6_method_22_code 11 = .ok (.iconst 0, 1) := by decide +kernel
theorem d_Grammar_locals_12 : decode prog_6_method_22_code 12 = .ok (.istore 5, 2) := by decide +kernel
theorem d_Grammar_locals_14 : decode prog_6_method_22_code 14 = .ok (.iload 5, 2) := by decide +kernel
theorem d_Grammar_locals_16 : decode prog_6_method_22_code 16 = .ok (.iload 4, 2) := by decide +kernel
theorem d_Grammar_locals_18 : decode prog_6_method_22_code 18 = .ok (.if_icmp .ge 61, 3) := by decide +kernel
theorem d_Grammar_locals_79 : decode prog_6_method_22_code 79 = .ok (.lload_n 2, 1) := by decide +kernel
theorem d_Grammar_locals_80 : decode prog_6_method_22_code 80 = .ok (.ldc2_w 253, 3) := by decide +kernel
theorem d_Grammar_locals_83 : decode prog_6_method_22_code 83 = .ok (.lcmp, 1) := by decide +kernel
theorem d_Grammar_locals_84 : decode prog_6_method_22_code 84 = .ok (.ifCond .le 10, 3) := by decide +kernel
theorem d_Grammar_locals_94 : decode prog_6_method_22_code 94 = .ok (.return_, 1) := by decide +kernel
theorem d_Grammar_locals_87 : decode prog_6_method_22_code 87 = .ok (.aload_n 0, 1) := by decide +kernel
theorem d_Grammar_locals_88 : decode prog_6_method_22_code 88 = .ok (.getfield 9, 3) := by decide +kernel
theorem d_Grammar_locals_91 : decode prog_6_method_22_code 91 = .ok (.invokevirtual 40, 3) := by decide +kernel
theorem d_Grammar_locals_21 : decode prog_6_method_22_code 21 = .ok (.aload_n 0, 1) := by decide +kernel
theorem d_Grammar_locals_22 : decode prog_6_method_22_code 22 = .ok (.getfield 9, 3) := by decide +kernel
theorem d_Grammar_locals_25 : decode prog_6_method_22_code 25 = .ok (.getfield 121, 3) := by decide +kernel
theorem d_Grammar_locals_28 : decode prog_6_method_22_code 28 = .ok (.ifCond .ne 51, 3) := by decide +kernel
theorem d_Grammar_locals_31 : decode prog_6_method_22_code 31 = .ok (.aload_n 0, 1) := by decide +kernel
theorem d_Grammar_locals_32 : decode prog_6_method_22_code 32 = .ok (.getfield 9, 3) := by decide +kernel
theorem d_Grammar_locals_35 : decode prog_6_method_22_code 35 = .ok (.invokevirtual 245, 3) := by decide +kernel
theorem d_Grammar_locals_38 : decode prog_6_method_22_code 38 = .ok (.lstore 6, 2) := by decide +kernel
theorem d_Grammar_locals_40 : decode prog_6_method_22_code 40 = .ok (.aload_n 0, 1) := by decide +kernel
theorem d_Grammar_locals_41 : decode prog_6_method_22_code 41 = .ok (.getfield 15, 3) := by decide +kernel
theorem d_Grammar_locals_44 : decode prog_6_method_22_code 44 = .ok (.getfield 94, 3) := by decide +kernel
theorem d_Grammar_locals_47 : decode prog_6_method_22_code 47 = .ok (.iload_n 1, 1) := by decide +kernel
theorem d_Grammar_locals_48 : decode prog_6_method_22_code 48 = .ok (.lload 6, 2) := by decide +kernel
theorem d_Grammar_locals_50 : decode prog_6_method_22_code 50 = .ok (.aload_n 0, 1) := by decide +kernel
theorem d_Grammar_locals_51 : decode prog_6_method_22_code 51 = .ok (.invokevirtual 129, 3) := by decide +kernel
theorem d_Grammar_locals_54 : decode prog_6_method_22_code 54 = .ok (.invokevirtual 249, 3) := by decide +kernel
theorem nm_Functions_addLocals : x_nm y_Functions_addLocals 3 = true := by decide +kernel
theorem d_Grammar_locals_57 : decode prog_6_method_22_code 57 = .ok (.ifCond .ne 11, 3) := by decide +kernel
theorem d_Grammar_locals_68 : decode prog_6_method_22_code 68 = .ok (.lload_n 2, 1) := by decide +kernel
theorem d_Grammar_locals_69 : decode prog_6_method_22_code 69 = .ok (.lload 6, 2) := by decide +kernel
theorem d_Grammar_locals_71 : decode prog_6_method_22_code 71 = .ok (.ladd, 1) := by decide +kernel
theorem d_Grammar_locals_72 : decode prog_6_method_22_code 72 = .ok (.lstore_n 2, 1) := by decide +kernel
theorem d_Grammar_locals_73 : decode prog_6_method_22_code 73 = .ok (.iinc 5 1, 3) := by decide +kernel
theorem d_Grammar_locals_76 : decode prog_6_method_22_code 76 = .ok (.goto (-62), 3) := by decide +kernel
theorem d_Grammar_locals_60 : decode prog_6_method_22_code 60 = .ok (.aload_n 0, 1) := by decide +kernel
theorem d_Grammar_locals_61 : decode prog_6_method_22_code 61 = .ok (.getfield 15, 3) := by decide +kernel
theorem d_Grammar_locals_64 : decode prog_6_method_22_code 64 = .ok (.iconst 1, 1) := by decide +kernel
theorem d_Grammar_locals_65 : decode prog_6_method_22_code 65 = .ok (.putfield 176, 3) := by decide +kernel
theorem d_Grammar_codeSection_0 : decode prog_6_method_21_code 0 = .ok (.aload_n 0, 1) := by decide +kernel
theorem d_Grammar_codeSection_1 : decode prog_6_method_21_code 1 = .ok (.getfield 9, 3) := by decide +kernel
theorem d_Grammar_codeSection_4 : decode prog_6_method_21_code 4 = .ok (.invokevirtual 109, 3) := by decide +kernel
theorem d_Grammar_codeSection_7 : decode prog_6_method_21_code 7 = .ok (.istore_n 1, 1) := by decide +kernel
theorem d_Grammar_codeSection_8 : decode prog_6_method_21_code 8 = .ok (.iconst 0, 1) := by decide +kernel
theorem d_Grammar_codeSection_9 : decode prog_6_method_21_code 9 = .ok (.istore_n 2, 1) := by decide +kernel
theorem d_Grammar_codeSection_10 : decode prog_6_method_21_code 10 = .ok (.iload_n 2, 1) := by decide +kernel
theorem d_Grammar_codeSection_11 : decode prog_6_method_21_code 11 = .ok (.iload_n 1, 1) := by decide +kernel
theorem d_Grammar_codeSection_12 : decode prog_6_method_21_code 12 = .ok (.if_icmp .ge 91, 3) := by decide +kernel
theorem d_Grammar_codeSection_103 : decode prog_6_method_21_code 103 = .ok (.aload_n 0, 1) := by decide +kernel
theorem d_Grammar_codeSection_104 : decode prog_6_method_21_code 104 = .ok (.getfield 15, 3) := by decide +kernel
theorem d_Grammar_codeSection_107 : decode prog_6_method_21_code 107 = .ok (.getfield 94, 3) := by decide +kernel
theorem d_Grammar_codeSection_110 : decode prog_6_method_21_code 110 = .ok (.iload_n 1, 1) := by decide +kernel
theorem d_Grammar_codeSection_111 : decode prog_6_method_21_code 111 = .ok (.putfield 98, 3) := by decide +kernel
theorem d_Grammar_codeSection_114 : decode prog_6_method_21_code 114 = .ok (.return_, 1) := by decide +kernel
theorem d_Grammar_codeSection_15 : decode prog_6_method_21_code 15 = .ok (.aload_n 0, 1) := by decide +kernel
theorem d_Grammar_codeSection_16 : decode prog_6_method_21_code 16 = .ok (.getfield 9, 3) := by decide +kernel
theorem d_Grammar_codeSection_19 : decode prog_6_method_21_code 19 = .ok (.getfield 121, 3) := by decide +kernel
theorem d_Grammar_codeSection_22 : decode prog_6_method_21_code 22 = .ok (.ifCond .ne 81, 3) := by decide +kernel
theorem d_Grammar_codeSection_25 : decode prog_6_method_21_code 25 = .ok (.aload_n 0, 1) := by decide +kernel
theorem d_Grammar_codeSection_26 : decode prog_6_method_21_code 26 = .ok (.getfield 15, 3) := by decide +kernel
theorem d_Grammar_codeSection_29 : decode prog_6_method_21_code 29 = .ok (.getfield 94, 3) := by decide +kernel
theorem d_Grammar_codeSection_32 : decode prog_6_method_21_code 32 = .ok (.getfield 106, 3) := by decide +kernel
theorem d_Grammar_codeSection_35 : decode prog_6_method_21_code 35 = .ok (.iload_n 2, 1) := by decide +kernel
theorem d_Grammar_codeSection_36 : decode prog_6_method_21_code 36 = .ok (.iadd, 1) := by decide +kernel
theorem d_Grammar_codeSection_37 : decode prog_6_method_21_code 37 = .ok (.istore_n 3, 1) := by decide +kernel
theorem d_Grammar_codeSection_38 : decode prog_6_method_21_code 38 = .ok (.aload_n 0, 1) := by decide +kernel
theorem d_Grammar_codeSection_39 : decode prog_6_method_21_code 39 = .ok (.getfield 9, 3) := by decide +kernel
theorem d_Grammar_codeSection_42 : decode prog_6_method_21_code 42 = .ok (.invokevirtual 37, 3) := by decide +kernel
theorem nm_Cursor_narrow : x_nm y_Cursor_narrow 0 = true := by decide +kernel
theorem d_Grammar_codeSection_45 : decode prog_6_method_21_code 45 = .ok (.istore 4, 2) := by decide +kernel
theorem d_Grammar_codeSection_47 : decode prog_6_method_21_code 47 = .ok (.aload_n 0, 1) := by decide +kernel
theorem d_Grammar_codeSection_48 : decode prog_6_method_21_code 48 = .ok (.iload_n 3, 1) := by decide +kernel
theorem d_Grammar_codeSection_49 : decode prog_6_method_21_code 49 = .ok (.invokevirtual 236, 3) := by decide +kernel
theorem nm_Grammar_locals : x_nm y_Grammar_locals 1 = true := by decide +kernel
theorem d_Grammar_codeSection_52 : decode prog_6_method_21_code 52 = .ok (.aload_n 0, 1) := by decide +kernel
theorem d_Grammar_codeSection_53 : decode prog_6_method_21_code 53 = .ok (.getfield 9, 3) := by decide +kernel
theorem d_Grammar_codeSection_56 : decode prog_6_method_21_code 56 = .ok (.getfield 118, 3) := by decide +kernel
theorem d_Grammar_codeSection_59 : decode prog_6_method_21_code 59 = .ok (.istore 5, 2) := by decide +kernel
theorem d_Grammar_codeSection_61 : decode prog_6_method_21_code 61 = .ok (.aload_n 0, 1) := by decide +kernel
theorem d_Grammar_codeSection_62 : decode prog_6_method_21_code 62 = .ok (.invokevirtual 239, 3) := by decide +kernel
theorem nm_Grammar_instructions : x_nm y_Grammar_instructions 0 = true := by decide +kernel
theorem d_Grammar_codeSection_65 : decode prog_6_method_21_code 65 = .ok (.aload_n 0, 1) := by decide +kernel
theorem d_Grammar_codeSection_66 : decode prog_6_method_21_code 66 = .ok (.getfield 15, 3) := by decide +kernel
theorem d_Grammar_codeSection_69 : decode prog_6_method_21_code 69 = .ok (.getfield 94, 3) := by decide +kernel
theorem d_Grammar_codeSection_72 : decode prog_6_method_21_code 72 = .ok (.iload_n 3, 1) := by decide +kernel
theorem d_Grammar_codeSection_73 : decode prog_6_method_21_code 73 = .ok (.iload 5, 2) := by decide +kernel
theorem d_Grammar_codeSection_75 : decode prog_6_method_21_code 75 = .ok (.aload_n 0, 1) := by decide +kernel
theorem d_Grammar_codeSection_76 : decode prog_6_method_21_code 76 = .ok (.getfield 9, 3) := by decide +kernel
theorem d_Grammar_codeSection_79 : decode prog_6_method_21_code 79 = .ok (.getfield 118, 3) := by decide +kernel
theorem d_Grammar_codeSection_82 : decode prog_6_method_21_code 82 = .ok (.iload 5, 2) := by decide +kernel
theorem d_Grammar_codeSection_84 : decode prog_6_method_21_code 84 = .ok (.isub, 1) := by decide +kernel
theorem d_Grammar_codeSection_85 : decode prog_6_method_21_code 85 = .ok (.invokevirtual 242, 3) := by decide +kernel
theorem nm_Functions_setBody : x_nm y_Functions_setBody 3 = true := by decide +kernel
theorem d_Grammar_codeSection_88 : decode prog_6_method_21_code 88 = .ok (.aload_n 0, 1) := by decide +kernel
theorem d_Grammar_codeSection_89 : decode prog_6_method_21_code 89 = .ok (.getfield 9, 3) := by decide +kernel
theorem d_Grammar_codeSection_92 : decode prog_6_method_21_code 92 = .ok (.iload 4, 2) := by decide +kernel
theorem d_Grammar_codeSection_94 : decode prog_6_method_21_code 94 = .ok (.invokevirtual 91, 3) := by decide +kernel
theorem nm_Cursor_widen : x_nm y_Cursor_widen 1 = true := by decide +kernel
theorem d_Grammar_codeSection_97 : decode prog_6_method_21_code 97 = .ok (.iinc 2 1, 3) := by decide +kernel
theorem d_Grammar_codeSection_100 : decode prog_6_method_21_code 100 = .ok (.goto (-90), 3) := by decide +kernel
