def y_Functions_addLocals : MethodName := ⟨"WasmReader$Functions", "addLocals", "(IJI)Z"⟩
def y_Functions_setBody : MethodName := ⟨"WasmReader$Functions", "setBody", "(III)V"⟩
def y_Functions_hasLocal : MethodName := ⟨"WasmReader$Functions", "hasLocal", "(II)Z"⟩
def y_Functions_typeOfLocal : MethodName := ⟨"WasmReader$Functions", "typeOfLocal", "(II)I"⟩
def y_Globals_add : MethodName := ⟨"WasmReader$Globals", "add", "(IZ)V"⟩
def y_Globals_has : MethodName := ⟨"WasmReader$Globals", "has", "(I)Z"⟩
def y_Globals_setLastInitial : MethodName := ⟨"WasmReader$Globals", "setLastInitial", "(IJ)V"⟩
def y_Globals_origin : MethodName := ⟨"WasmReader$Globals", "origin", "(I)I"⟩
def y_Exports_add : MethodName := ⟨"WasmReader$Exports", "add", "(II)V"⟩
def y_Exports_has : MethodName := ⟨"WasmReader$Exports", "has", "(I)Z"⟩
def y_Segments_add : MethodName := ⟨"WasmReader$Segments", "add", "(IIJI)V"⟩
def y_Sized_add : MethodName := ⟨"WasmReader$Sized", "add", "(LWasmReader$Cursor;)V"⟩
def y_Sized_holds : MethodName := ⟨"WasmReader$Sized", "holds", "(J)Z"⟩
theorem m_258 : Cond.methodLink "WasmReader$Functions" 46 y_Functions_has ∈ xtb := x_in (List.mem_of_getElem? (i := 685) (by decide +kernel)) (by decide +kernel)
theorem m_259 : Cond.code y_Functions_has prog_4_method_3_code 2 (some .boolean) ∈ xtb := x_in (List.mem_of_getElem? (i := 688) (by decide +kernel)) (by decide +kernel)
theorem m_260 : Cond.instanceMethod y_Functions_has ∈ xtb := x_in (List.mem_of_getElem? (i := 686) (by decide +kernel)) (by decide +kernel)
theorem m_261 : Cond.selects "WasmReader$Functions" y_Functions_has y_Functions_has ∈ xtb := x_in (List.mem_of_getElem? (i := 687) (by decide +kernel)) (by decide +kernel)
theorem m_262 : Cond.methodLink "WasmReader$Functions" 47 y_Functions_hasLocal ∈ xtb := x_in (List.mem_of_getElem? (i := 913) (by decide +kernel)) (by decide +kernel)
theorem m_263 : Cond.code y_Functions_hasLocal prog_4_method_6_code 3 (some .boolean) ∈ xtb := x_in (List.mem_of_getElem? (i := 908) (by decide +kernel)) (by decide +kernel)
theorem m_264 : Cond.instanceMethod y_Functions_hasLocal ∈ xtb := x_in (List.mem_of_getElem? (i := 906) (by decide +kernel)) (by decide +kernel)
theorem m_265 : Cond.selects "WasmReader$Functions" y_Functions_hasLocal y_Functions_hasLocal ∈ xtb := x_in (List.mem_of_getElem? (i := 907) (by decide +kernel)) (by decide +kernel)
theorem m_266 : Cond.fieldLink "WasmReader$Globals" 26 "WasmReader$Globals" "count" "I" ∈ xtb := x_in (List.mem_of_getElem? (i := 242) (by decide +kernel)) (by decide +kernel)
theorem m_267 : Cond.methodLink "WasmReader$Globals" 30 y_Globals_has ∈ xtb := x_in (List.mem_of_getElem? (i := 641) (by decide +kernel)) (by decide +kernel)
theorem m_268 : Cond.code y_Globals_has prog_5_method_4_code 2 (some .boolean) ∈ xtb := x_in (List.mem_of_getElem? (i := 644) (by decide +kernel)) (by decide +kernel)
theorem m_269 : Cond.instanceMethod y_Globals_has ∈ xtb := x_in (List.mem_of_getElem? (i := 642) (by decide +kernel)) (by decide +kernel)
theorem m_270 : Cond.selects "WasmReader$Globals" y_Globals_has y_Globals_has ∈ xtb := x_in (List.mem_of_getElem? (i := 643) (by decide +kernel)) (by decide +kernel)
theorem m_271 : Cond.fieldLink "WasmReader$Globals" 34 "WasmReader$Globals" "imported" "I" ∈ xtb := x_in (List.mem_of_getElem? (i := 248) (by decide +kernel)) (by decide +kernel)
theorem m_272 : Cond.fieldLink "WasmReader$Exports" 25 "WasmReader$Exports" "count" "I" ∈ xtb := x_in (List.mem_of_getElem? (i := 282) (by decide +kernel)) (by decide +kernel)
theorem m_273 : Cond.fieldLink "WasmReader$Segments" 25 "WasmReader$Segments" "count" "I" ∈ xtb := x_in (List.mem_of_getElem? (i := 311) (by decide +kernel)) (by decide +kernel)
theorem m_274 : Cond.methodLink "WasmReader$Sized" 7 y_Cursor_nextByte ∈ xtb := x_in (List.mem_of_getElem? (i := 596) (by decide +kernel)) (by decide +kernel)
theorem m_275 : Cond.methodLink "WasmReader$Sized" 13 y_Cursor_unsigned ∈ xtb := x_in (List.mem_of_getElem? (i := 597) (by decide +kernel)) (by decide +kernel)
theorem m_276 : Cond.fieldLink "WasmReader$Sized" 17 "WasmReader$Sized" "least" "J" ∈ xtb := x_in (List.mem_of_getElem? (i := 344) (by decide +kernel)) (by decide +kernel)
theorem m_277 : Cond.fieldLink "WasmReader$Sized" 23 "WasmReader$Sized" "most" "J" ∈ xtb := x_in (List.mem_of_getElem? (i := 346) (by decide +kernel)) (by decide +kernel)
theorem m_278 : Cond.fieldLink "WasmReader$Sized" 29 "WasmReader$Sized" "count" "I" ∈ xtb := x_in (List.mem_of_getElem? (i := 340) (by decide +kernel)) (by decide +kernel)
theorem m_279 : Cond.methodLink "WasmReader$Sized" 26 y_Cursor_fail ∈ xtb := x_in (List.mem_of_getElem? (i := 598) (by decide +kernel)) (by decide +kernel)
theorem d_Functions_addLocals_0 : decode prog_4_method_4_code 0 = .ok (.aload_n 0, 1) := by decide +kernel
theorem d_Functions_addLocals_1 : decode prog_4_method_4_code 1 = .ok (.iload_n 1, 1) := by decide +kernel
theorem d_Functions_addLocals_2 : decode prog_4_method_4_code 2 = .ok (.invokevirtual 46, 3) := by decide +kernel
theorem nm_Functions_has : x_nm y_Functions_has 1 = true := by decide +kernel
theorem d_Functions_addLocals_5 : decode prog_4_method_4_code 5 = .ok (.ifCond .ne 5, 3) := by decide +kernel
theorem d_Functions_addLocals_8 : decode prog_4_method_4_code 8 = .ok (.iconst 1, 1) := by decide +kernel
theorem d_Functions_addLocals_9 : decode prog_4_method_4_code 9 = .ok (.ireturn, 1) := by decide +kernel
theorem d_Functions_addLocals_10 : decode prog_4_method_4_code 10 = .ok (.aload_n 0, 1) := by decide +kernel
theorem d_Functions_addLocals_11 : decode prog_4_method_4_code 11 = .ok (.getfield 15, 3) := by decide +kernel
theorem d_Functions_addLocals_14 : decode prog_4_method_4_code 14 = .ok (.iload_n 1, 1) := by decide +kernel
theorem d_Functions_addLocals_15 : decode prog_4_method_4_code 15 = .ok (.iaload, 1) := by decide +kernel
theorem d_Functions_addLocals_16 : decode prog_4_method_4_code 16 = .ok (.aload_n 0, 1) := by decide +kernel
theorem d_Functions_addLocals_17 : decode prog_4_method_4_code 17 = .ok (.getfield 21, 3) := by decide +kernel
theorem d_Functions_addLocals_20 : decode prog_4_method_4_code 20 = .ok (.iload_n 1, 1) := by decide +kernel
theorem d_Functions_addLocals_21 : decode prog_4_method_4_code 21 = .ok (.iaload, 1) := by decide +kernel
theorem d_Functions_addLocals_22 : decode prog_4_method_4_code 22 = .ok (.iadd, 1) := by decide +kernel
theorem d_Functions_addLocals_23 : decode prog_4_method_4_code 23 = .ok (.istore 5, 2) := by decide +kernel
theorem d_Functions_addLocals_25 : decode prog_4_method_4_code 25 = .ok (.lload_n 2, 1) := by decide +kernel
theorem d_Functions_addLocals_26 : decode prog_4_method_4_code 26 = .ok (.bipush 30, 2) := by decide +kernel
theorem d_Functions_addLocals_28 : decode prog_4_method_4_code 28 = .ok (.iload 5, 2) := by decide +kernel
theorem d_Functions_addLocals_30 : decode prog_4_method_4_code 30 = .ok (.isub, 1) := by decide +kernel
theorem d_Functions_addLocals_31 : decode prog_4_method_4_code 31 = .ok (.i2l, 1) := by decide +kernel
theorem d_Functions_addLocals_32 : decode prog_4_method_4_code 32 = .ok (.lcmp, 1) := by decide +kernel
theorem d_Functions_addLocals_33 : decode prog_4_method_4_code 33 = .ok (.ifCond .le 5, 3) := by decide +kernel
theorem d_Functions_addLocals_38 : decode prog_4_method_4_code 38 = .ok (.iload 5, 2) := by decide +kernel
theorem d_Functions_addLocals_40 : decode prog_4_method_4_code 40 = .ok (.istore 6, 2) := by decide +kernel
theorem d_Functions_addLocals_42 : decode prog_4_method_4_code 42 = .ok (.iload 6, 2) := by decide +kernel
theorem d_Functions_addLocals_44 : decode prog_4_method_4_code 44 = .ok (.i2l, 1) := by decide +kernel
theorem d_Functions_addLocals_45 : decode prog_4_method_4_code 45 = .ok (.iload 5, 2) := by decide +kernel
theorem d_Functions_addLocals_47 : decode prog_4_method_4_code 47 = .ok (.i2l, 1) := by decide +kernel
theorem d_Functions_addLocals_48 : decode prog_4_method_4_code 48 = .ok (.lload_n 2, 1) := by decide +kernel
theorem d_Functions_addLocals_49 : decode prog_4_method_4_code 49 = .ok (.ladd, 1) := by decide +kernel
theorem d_Functions_addLocals_50 : decode prog_4_method_4_code 50 = .ok (.lcmp, 1) := by decide +kernel
theorem d_Functions_addLocals_51 : decode prog_4_method_4_code 51 = .ok (.ifCond .ge 39, 3) := by decide +kernel
theorem d_Functions_addLocals_90 : decode prog_4_method_4_code 90 = .ok (.aload_n 0, 1) := by decide +kernel
theorem d_Functions_addLocals_91 : decode prog_4_method_4_code 91 = .ok (.getfield 21, 3) := by decide +kernel
theorem d_Functions_addLocals_94 : decode prog_4_method_4_code 94 = .ok (.iload_n 1, 1) := by decide +kernel
theorem d_Functions_addLocals_95 : decode prog_4_method_4_code 95 = .ok (.dup2, 1) := by decide +kernel
theorem d_Functions_addLocals_96 : decode prog_4_method_4_code 96 = .ok (.iaload, 1) := by decide +kernel
theorem d_Functions_addLocals_97 : decode prog_4_method_4_code 97 = .ok (.lload_n 2, 1) := by decide +kernel
theorem d_Functions_addLocals_98 : decode prog_4_method_4_code 98 = .ok (.l2i, 1) := by decide +kernel
theorem d_Functions_addLocals_99 : decode prog_4_method_4_code 99 = .ok (.iadd, 1) := by decide +kernel
theorem d_Functions_addLocals_100 : decode prog_4_method_4_code 100 = .ok (.iastore, 1) := by decide +kernel
theorem d_Functions_addLocals_101 : decode prog_4_method_4_code 101 = .ok (.iconst 1, 1) := by decide +kernel
theorem d_Functions_addLocals_102 : decode prog_4_method_4_code 102 = .ok (.ireturn, 1) := by decide +kernel
theorem d_Functions_addLocals_54 : decode prog_4_method_4_code 54 = .ok (.iload 6, 2) := by decide +kernel
theorem d_Functions_addLocals_56 : decode prog_4_method_4_code 56 = .ok (.bipush 30, 2) := by decide +kernel
theorem d_Functions_addLocals_58 : decode prog_4_method_4_code 58 = .ok (.if_icmp .ge 32, 3) := by decide +kernel
theorem d_Functions_addLocals_61 : decode prog_4_method_4_code 61 = .ok (.aload_n 0, 1) := by decide +kernel
theorem d_Functions_addLocals_62 : decode prog_4_method_4_code 62 = .ok (.getfield 24, 3) := by decide +kernel
theorem d_Functions_addLocals_65 : decode prog_4_method_4_code 65 = .ok (.iload_n 1, 1) := by decide +kernel
theorem d_Functions_addLocals_66 : decode prog_4_method_4_code 66 = .ok (.dup2, 1) := by decide +kernel
theorem d_Functions_addLocals_67 : decode prog_4_method_4_code 67 = .ok (.iaload, 1) := by decide +kernel
theorem d_Functions_addLocals_68 : decode prog_4_method_4_code 68 = .ok (.iload 4, 2) := by decide +kernel
theorem d_Functions_addLocals_70 : decode prog_4_method_4_code 70 = .ok (.iconst 1, 1) := by decide +kernel
theorem d_Functions_addLocals_71 : decode prog_4_method_4_code 71 = .ok (.if_icmp .ne 10, 3) := by decide +kernel
theorem d_Functions_addLocals_81 : decode prog_4_method_4_code 81 = .ok (.iconst 0, 1) := by decide +kernel
theorem d_Functions_addLocals_82 : decode prog_4_method_4_code 82 = .ok (.ior, 1) := by decide +kernel
theorem d_Functions_addLocals_83 : decode prog_4_method_4_code 83 = .ok (.iastore, 1) := by decide +kernel
theorem d_Functions_addLocals_84 : decode prog_4_method_4_code 84 = .ok (.iinc 6 1, 3) := by decide +kernel
theorem d_Functions_addLocals_87 : decode prog_4_method_4_code 87 = .ok (.goto (-45), 3) := by decide +kernel
theorem d_Functions_addLocals_74 : decode prog_4_method_4_code 74 = .ok (.iconst 1, 1) := by decide +kernel
theorem d_Functions_addLocals_75 : decode prog_4_method_4_code 75 = .ok (.iload 6, 2) := by decide +kernel
theorem d_Functions_addLocals_77 : decode prog_4_method_4_code 77 = .ok (.ishl, 1) := by decide +kernel
theorem d_Functions_addLocals_78 : decode prog_4_method_4_code 78 = .ok (.goto 4, 3) := by decide +kernel
theorem d_Functions_addLocals_36 : decode prog_4_method_4_code 36 = .ok (.iconst 0, 1) := by decide +kernel
theorem d_Functions_addLocals_37 : decode prog_4_method_4_code 37 = .ok (.ireturn, 1) := by decide +kernel
theorem d_Functions_setBody_0 : decode prog_4_method_5_code 0 = .ok (.aload_n 0, 1) := by decide +kernel
theorem d_Functions_setBody_1 : decode prog_4_method_5_code 1 = .ok (.iload_n 1, 1) := by decide +kernel
theorem d_Functions_setBody_2 : decode prog_4_method_5_code 2 = .ok (.invokevirtual 46, 3) := by decide +kernel
theorem d_Functions_setBody_5 : decode prog_4_method_5_code 5 = .ok (.ifCond .eq 17, 3) := by decide +kernel
theorem d_Functions_setBody_22 : decode prog_4_method_5_code 22 = .ok (.return_, 1) := by decide +kernel
theorem d_Functions_setBody_8 : decode prog_4_method_5_code 8 = .ok (.aload_n 0, 1) := by decide +kernel
theorem d_Functions_setBody_9 : decode prog_4_method_5_code 9 = .ok (.getfield 27, 3) := by decide +kernel
theorem d_Functions_setBody_12 : decode prog_4_method_5_code 12 = .ok (.iload_n 1, 1) := by decide +kernel
theorem d_Functions_setBody_13 : decode prog_4_method_5_code 13 = .ok (.iload_n 2, 1) := by decide +kernel
theorem d_Functions_setBody_14 : decode prog_4_method_5_code 14 = .ok (.iastore, 1) := by decide +kernel
theorem d_Functions_setBody_15 : decode prog_4_method_5_code 15 = .ok (.aload_n 0, 1) := by decide +kernel
theorem d_Functions_setBody_16 : decode prog_4_method_5_code 16 = .ok (.getfield 30, 3) := by decide +kernel
theorem d_Functions_setBody_19 : decode prog_4_method_5_code 19 = .ok (.iload_n 1, 1) := by decide +kernel
theorem d_Functions_setBody_20 : decode prog_4_method_5_code 20 = .ok (.iload_n 3, 1) := by decide +kernel
theorem d_Functions_setBody_21 : decode prog_4_method_5_code 21 = .ok (.iastore, 1) := by decide +kernel
theorem d_Functions_hasLocal_0 : decode prog_4_method_6_code 0 = .ok (.aload_n 0, 1) := by decide +kernel
theorem d_Functions_hasLocal_1 : decode prog_4_method_6_code 1 = .ok (.iload_n 1, 1) := by decide +kernel
theorem d_Functions_hasLocal_2 : decode prog_4_method_6_code 2 = .ok (.invokevirtual 46, 3) := by decide +kernel
theorem d_Functions_hasLocal_5 : decode prog_4_method_6_code 5 = .ok (.ifCond .eq 28, 3) := by decide +kernel
theorem d_Functions_hasLocal_33 : decode prog_4_method_6_code 33 = .ok (.iconst 0, 1) := by decide +kernel
theorem d_Functions_hasLocal_34 : decode prog_4_method_6_code 34 = .ok (.ireturn, 1) := by decide +kernel
theorem d_Functions_hasLocal_8 : decode prog_4_method_6_code 8 = .ok (.iload_n 2, 1) := by decide +kernel
theorem d_Functions_hasLocal_9 : decode prog_4_method_6_code 9 = .ok (.ifCond .lt 24, 3) := by decide +kernel
theorem d_Functions_hasLocal_12 : decode prog_4_method_6_code 12 = .ok (.iload_n 2, 1) := by decide +kernel
theorem d_Functions_hasLocal_13 : decode prog_4_method_6_code 13 = .ok (.aload_n 0, 1) := by decide +kernel
theorem d_Functions_hasLocal_14 : decode prog_4_method_6_code 14 = .ok (.getfield 15, 3) := by decide +kernel
theorem d_Functions_hasLocal_17 : decode prog_4_method_6_code 17 = .ok (.iload_n 1, 1) := by decide +kernel
theorem d_Functions_hasLocal_18 : decode prog_4_method_6_code 18 = .ok (.iaload, 1) := by decide +kernel
theorem d_Functions_hasLocal_19 : decode prog_4_method_6_code 19 = .ok (.aload_n 0, 1) := by decide +kernel
theorem d_Functions_hasLocal_20 : decode prog_4_method_6_code 20 = .ok (.getfield 21, 3) := by decide +kernel
theorem d_Functions_hasLocal_23 : decode prog_4_method_6_code 23 = .ok (.iload_n 1, 1) := by decide +kernel
theorem d_Functions_hasLocal_24 : decode prog_4_method_6_code 24 = .ok (.iaload, 1) := by decide +kernel
theorem d_Functions_hasLocal_25 : decode prog_4_method_6_code 25 = .ok (.iadd, 1) := by decide +kernel
theorem d_Functions_hasLocal_26 : decode prog_4_method_6_code 26 = .ok (.if_icmp .ge 7, 3) := by decide +kernel
theorem d_Functions_hasLocal_29 : decode prog_4_method_6_code 29 = .ok (.iconst 1, 1) := by decide +kernel
theorem d_Functions_hasLocal_30 : decode prog_4_method_6_code 30 = .ok (.goto 4, 3) := by decide +kernel
theorem d_Functions_typeOfLocal_0 : decode prog_4_method_7_code 0 = .ok (.aload_n 0, 1) := by decide +kernel
theorem d_Functions_typeOfLocal_1 : decode prog_4_method_7_code 1 = .ok (.iload_n 1, 1) := by decide +kernel
theorem d_Functions_typeOfLocal_2 : decode prog_4_method_7_code 2 = .ok (.iload_n 2, 1) := by decide +kernel
theorem d_Functions_typeOfLocal_3 : decode prog_4_method_7_code 3 = .ok (.invokevirtual 47, 3) := by decide +kernel
theorem nm_Functions_hasLocal : x_nm y_Functions_hasLocal 2 = true := by decide +kernel
theorem d_Functions_typeOfLocal_6 : decode prog_4_method_7_code 6 = .ok (.ifCond .ne 5, 3) := by decide +kernel
theorem d_Functions_typeOfLocal_9 : decode prog_4_method_7_code 9 = .ok (.iconst 2, 1) := by decide +kernel
theorem d_Functions_typeOfLocal_10 : decode prog_4_method_7_code 10 = .ok (.ireturn, 1) := by decide +kernel
theorem d_Functions_typeOfLocal_11 : decode prog_4_method_7_code 11 = .ok (.aload_n 0, 1) := by decide +kernel
theorem d_Functions_typeOfLocal_12 : decode prog_4_method_7_code 12 = .ok (.getfield 24, 3) := by decide +kernel
theorem d_Functions_typeOfLocal_15 : decode prog_4_method_7_code 15 = .ok (.iload_n 1, 1) := by decide +kernel
theorem d_Functions_typeOfLocal_16 : decode prog_4_method_7_code 16 = .ok (.iaload, 1) := by decide +kernel
theorem d_Functions_typeOfLocal_17 : decode prog_4_method_7_code 17 = .ok (.iload_n 2, 1) := by decide +kernel
theorem d_Functions_typeOfLocal_18 : decode prog_4_method_7_code 18 = .ok (.ishr, 1) := by decide +kernel
theorem d_Functions_typeOfLocal_19 : decode prog_4_method_7_code 19 = .ok (.iconst 1, 1) := by decide +kernel
theorem d_Functions_typeOfLocal_20 : decode prog_4_method_7_code 20 = .ok (.iand, 1) := by decide +kernel
theorem d_Functions_typeOfLocal_21 : decode prog_4_method_7_code 21 = .ok (.iconst 1, 1) := by decide +kernel
theorem d_Functions_typeOfLocal_22 : decode prog_4_method_7_code 22 = .ok (.if_icmp .ne 7, 3) := by decide +kernel
theorem d_Functions_typeOfLocal_29 : decode prog_4_method_7_code 29 = .ok (.iconst 0, 1) := by decide +kernel
theorem d_Functions_typeOfLocal_30 : decode prog_4_method_7_code 30 = .ok (.ireturn, 1) := by decide +kernel
theorem d_Functions_typeOfLocal_25 : decode prog_4_method_7_code 25 = .ok (.iconst 1, 1) := by decide +kernel
theorem d_Functions_typeOfLocal_26 : decode prog_4_method_7_code 26 = .ok (.goto 4, 3) := by decide +kernel
theorem d_Globals_add_0 : decode prog_5_method_2_code 0 = .ok (.aload_n 0, 1) := by decide +kernel
theorem d_Globals_add_1 : decode prog_5_method_2_code 1 = .ok (.getfield 26, 3) := by decide +kernel
theorem d_Globals_add_4 : decode prog_5_method_2_code 4 = .ok (.bipush 30, 2) := by decide +kernel
theorem d_Globals_add_6 : decode prog_5_method_2_code 6 = .ok (.if_icmp .ge 43, 3) := by decide +kernel
theorem d_Globals_add_49 : decode prog_5_method_2_code 49 = .ok (.aload_n 0, 1) := by decide +kernel
theorem d_Globals_add_50 : decode prog_5_method_2_code 50 = .ok (.dup, 1) := by decide +kernel
theorem d_Globals_add_51 : decode prog_5_method_2_code 51 = .ok (.getfield 26, 3) := by decide +kernel
theorem d_Globals_add_54 : decode prog_5_method_2_code 54 = .ok (.iconst 1, 1) := by decide +kernel
theorem d_Globals_add_55 : decode prog_5_method_2_code 55 = .ok (.iadd, 1) := by decide +kernel
theorem d_Globals_add_56 : decode prog_5_method_2_code 56 = .ok (.putfield 26, 3) := by decide +kernel
theorem d_Globals_add_59 : decode prog_5_method_2_code 59 = .ok (.return_, 1) := by decide +kernel
theorem d_Globals_add_9 : decode prog_5_method_2_code 9 = .ok (.aload_n 0, 1) := by decide +kernel
theorem d_Globals_add_10 : decode prog_5_method_2_code 10 = .ok (.getfield 9, 3) := by decide +kernel
theorem d_Globals_add_13 : decode prog_5_method_2_code 13 = .ok (.aload_n 0, 1) := by decide +kernel
theorem d_Globals_add_14 : decode prog_5_method_2_code 14 = .ok (.getfield 26, 3) := by decide +kernel
theorem d_Globals_add_17 : decode prog_5_method_2_code 17 = .ok (.iload_n 1, 1) := by decide +kernel
theorem d_Globals_add_18 : decode prog_5_method_2_code 18 = .ok (.iastore, 1) := by decide +kernel
theorem d_Globals_add_19 : decode prog_5_method_2_code 19 = .ok (.aload_n 0, 1) := by decide +kernel
theorem d_Globals_add_20 : decode prog_5_method_2_code 20 = .ok (.getfield 15, 3) := by decide +kernel
theorem d_Globals_add_23 : decode prog_5_method_2_code 23 = .ok (.aload_n 0, 1) := by decide +kernel
theorem d_Globals_add_24 : decode prog_5_method_2_code 24 = .ok (.getfield 26, 3) := by decide +kernel
theorem d_Globals_add_27 : decode prog_5_method_2_code 27 = .ok (.iload_n 2, 1) := by decide +kernel
theorem d_Globals_add_28 : decode prog_5_method_2_code 28 = .ok (.bastore, 1) := by decide +kernel
theorem d_Globals_add_29 : decode prog_5_method_2_code 29 = .ok (.aload_n 0, 1) := by decide +kernel
theorem d_Globals_add_30 : decode prog_5_method_2_code 30 = .ok (.getfield 19, 3) := by decide +kernel
theorem d_Globals_add_33 : decode prog_5_method_2_code 33 = .ok (.aload_n 0, 1) := by decide +kernel
theorem d_Globals_add_34 : decode prog_5_method_2_code 34 = .ok (.getfield 26, 3) := by decide +kernel
theorem d_Globals_add_37 : decode prog_5_method_2_code 37 = .ok (.iconst 1, 1) := by decide +kernel
theorem d_Globals_add_38 : decode prog_5_method_2_code 38 = .ok (.iastore, 1) := by decide +kernel
theorem d_Globals_add_39 : decode prog_5_method_2_code 39 = .ok (.aload_n 0, 1) := by decide +kernel
theorem d_Globals_add_40 : decode prog_5_method_2_code 40 = .ok (.getfield 22, 3) := by decide +kernel
theorem d_Globals_add_43 : decode prog_5_method_2_code 43 = .ok (.aload_n 0, 1) := by decide +kernel
theorem d_Globals_add_44 : decode prog_5_method_2_code 44 = .ok (.getfield 26, 3) := by decide +kernel
theorem d_Globals_add_47 : decode prog_5_method_2_code 47 = .ok (.lconst 0, 1) := by decide +kernel
theorem d_Globals_add_48 : decode prog_5_method_2_code 48 = .ok (.lastore, 1) := by decide +kernel
theorem d_Globals_has_0 : decode prog_5_method_4_code 0 = .ok (.iload_n 1, 1) := by decide +kernel
theorem d_Globals_has_1 : decode prog_5_method_4_code 1 = .ok (.ifCond .lt 21, 3) := by decide +kernel
theorem d_Globals_has_4 : decode prog_5_method_4_code 4 = .ok (.iload_n 1, 1) := by decide +kernel
theorem d_Globals_has_5 : decode prog_5_method_4_code 5 = .ok (.aload_n 0, 1) := by decide +kernel
theorem d_Globals_has_6 : decode prog_5_method_4_code 6 = .ok (.getfield 26, 3) := by decide +kernel
theorem d_Globals_has_9 : decode prog_5_method_4_code 9 = .ok (.if_icmp .ge 13, 3) := by decide +kernel
theorem d_Globals_has_22 : decode prog_5_method_4_code 22 = .ok (.iconst 0, 1) := by decide +kernel
theorem d_Globals_has_23 : decode prog_5_method_4_code 23 = .ok (.ireturn, 1) := by decide +kernel
theorem d_Globals_has_12 : decode prog_5_method_4_code 12 = .ok (.iload_n 1, 1) := by decide +kernel
theorem d_Globals_has_13 : decode prog_5_method_4_code 13 = .ok (.bipush 30, 2) := by decide +kernel
theorem d_Globals_has_15 : decode prog_5_method_4_code 15 = .ok (.if_icmp .ge 7, 3) := by decide +kernel
theorem d_Globals_has_18 : decode prog_5_method_4_code 18 = .ok (.iconst 1, 1) := by decide +kernel
theorem d_Globals_has_19 : decode prog_5_method_4_code 19 = .ok (.goto 4, 3) := by decide +kernel
theorem d_Globals_setLastInitial_0 : decode prog_5_method_3_code 0 = .ok (.aload_n 0, 1) := by decide +kernel
theorem d_Globals_setLastInitial_1 : decode prog_5_method_3_code 1 = .ok (.aload_n 0, 1) := by decide +kernel
theorem d_Globals_setLastInitial_2 : decode prog_5_method_3_code 2 = .ok (.getfield 26, 3) := by decide +kernel
theorem d_Globals_setLastInitial_5 : decode prog_5_method_3_code 5 = .ok (.iconst 1, 1) := by decide +kernel
theorem d_Globals_setLastInitial_6 : decode prog_5_method_3_code 6 = .ok (.isub, 1) := by decide +kernel
theorem d_Globals_setLastInitial_7 : decode prog_5_method_3_code 7 = .ok (.invokevirtual 30, 3) := by decide +kernel
theorem nm_Globals_has : x_nm y_Globals_has 1 = true := by decide +kernel
theorem d_Globals_setLastInitial_10 : decode prog_5_method_3_code 10 = .ok (.ifCond .eq 27, 3) := by decide +kernel
theorem d_Globals_setLastInitial_37 : decode prog_5_method_3_code 37 = .ok (.return_, 1) := by decide +kernel
theorem d_Globals_setLastInitial_13 : decode prog_5_method_3_code 13 = .ok (.aload_n 0, 1) := by decide +kernel
theorem d_Globals_setLastInitial_14 : decode prog_5_method_3_code 14 = .ok (.getfield 19, 3) := by decide +kernel
theorem d_Globals_setLastInitial_17 : decode prog_5_method_3_code 17 = .ok (.aload_n 0, 1) := by decide +kernel
theorem d_Globals_setLastInitial_18 : decode prog_5_method_3_code 18 = .ok (.getfield 26, 3) := by decide +kernel
theorem d_Globals_setLastInitial_21 : decode prog_5_method_3_code 21 = .ok (.iconst 1, 1) := by decide +kernel
theorem d_Globals_setLastInitial_22 : decode prog_5_method_3_code 22 = .ok (.isub, 1) := by decide +kernel
theorem d_Globals_setLastInitial_23 : decode prog_5_method_3_code 23 = .ok (.iload_n 1, 1) := by decide +kernel
theorem d_Globals_setLastInitial_24 : decode prog_5_method_3_code 24 = .ok (.iastore, 1) := by decide +kernel
theorem d_Globals_setLastInitial_25 : decode prog_5_method_3_code 25 = .ok (.aload_n 0, 1) := by decide +kernel
theorem d_Globals_setLastInitial_26 : decode prog_5_method_3_code 26 = .ok (.getfield 22, 3) := by decide +kernel
theorem d_Globals_setLastInitial_29 : decode prog_5_method_3_code 29 = .ok (.aload_n 0, 1) := by decide +kernel
theorem d_Globals_setLastInitial_30 : decode prog_5_method_3_code 30 = .ok (.getfield 26, 3) := by decide +kernel
theorem d_Globals_setLastInitial_33 : decode prog_5_method_3_code 33 = .ok (.iconst 1, 1) := by decide +kernel
theorem d_Globals_setLastInitial_34 : decode prog_5_method_3_code 34 = .ok (.isub, 1) := by decide +kernel
theorem d_Globals_setLastInitial_35 : decode prog_5_method_3_code 35 = .ok (.lload_n 2, 1) := by decide +kernel
theorem d_Globals_setLastInitial_36 : decode prog_5_method_3_code 36 = .ok (.lastore, 1) := by decide +kernel
theorem d_Globals_origin_0 : decode prog_5_method_5_code 0 = .ok (.aload_n 0, 1) := by decide +kernel
theorem d_Globals_origin_1 : decode prog_5_method_5_code 1 = .ok (.iload_n 1, 1) := by decide +kernel
theorem d_Globals_origin_2 : decode prog_5_method_5_code 2 = .ok (.invokevirtual 30, 3) := by decide +kernel
theorem d_Globals_origin_5 : decode prog_5_method_5_code 5 = .ok (.ifCond .eq 11, 3) := by decide +kernel
theorem d_Globals_origin_16 : decode prog_5_method_5_code 16 = .ok (.iconst 0, 1) := by decide +kernel
theorem d_Globals_origin_17 : decode prog_5_method_5_code 17 = .ok (.ireturn, 1) := by decide +kernel
theorem d_Globals_origin_8 : decode prog_5_method_5_code 8 = .ok (.iload_n 1, 1) := by decide +kernel
theorem d_Globals_origin_9 : decode prog_5_method_5_code 9 = .ok (.aload_n 0, 1) := by decide +kernel
theorem d_Globals_origin_10 : decode prog_5_method_5_code 10 = .ok (.getfield 34, 3) := by decide +kernel
theorem d_Globals_origin_13 : decode prog_5_method_5_code 13 = .ok (.if_icmp .ge 5, 3) := by decide +kernel
theorem d_Globals_origin_18 : decode prog_5_method_5_code 18 = .ok (.aload_n 0, 1) := by decide +kernel
theorem d_Globals_origin_19 : decode prog_5_method_5_code 19 = .ok (.getfield 19, 3) := by decide +kernel
theorem d_Globals_origin_22 : decode prog_5_method_5_code 22 = .ok (.iload_n 1, 1) := by decide +kernel
theorem d_Globals_origin_23 : decode prog_5_method_5_code 23 = .ok (.iaload, 1) := by decide +kernel
theorem d_Globals_origin_24 : decode prog_5_method_5_code 24 = .ok (.bipush 35, 2) := by decide +kernel
theorem d_Globals_origin_26 : decode prog_5_method_5_code 26 = .ok (.if_icmp .ne 7, 3) := by decide +kernel
theorem d_Globals_origin_33 : decode prog_5_method_5_code 33 = .ok (.iconst 1, 1) := by decide +kernel
theorem d_Globals_origin_34 : decode prog_5_method_5_code 34 = .ok (.ireturn, 1) := by decide +kernel
theorem d_Globals_origin_29 : decode prog_5_method_5_code 29 = .ok (.iconst 2, 1) := by decide +kernel
theorem d_Globals_origin_30 : decode prog_5_method_5_code 30 = .ok (.goto 4, 3) := by decide +kernel
theorem d_Exports_add_0 : decode prog_3_method_3_code 0 = .ok (.aload_n 0, 1) := by decide +kernel
theorem d_Exports_add_1 : decode prog_3_method_3_code 1 = .ok (.getfield 25, 3) := by decide +kernel
theorem d_Exports_add_4 : decode prog_3_method_3_code 4 = .ok (.bipush 40, 2) := by decide +kernel
theorem d_Exports_add_6 : decode prog_3_method_3_code 6 = .ok (.if_icmp .ge 23, 3) := by decide +kernel
theorem d_Exports_add_29 : decode prog_3_method_3_code 29 = .ok (.aload_n 0, 1) := by decide +kernel
theorem d_Exports_add_30 : decode prog_3_method_3_code 30 = .ok (.dup, 1) := by decide +kernel
theorem d_Exports_add_31 : decode prog_3_method_3_code 31 = .ok (.getfield 25, 3) := by decide +kernel
theorem d_Exports_add_34 : decode prog_3_method_3_code 34 = .ok (.iconst 1, 1) := by decide +kernel
theorem d_Exports_add_35 : decode prog_3_method_3_code 35 = .ok (.iadd, 1) := by decide +kernel
theorem d_Exports_add_36 : decode prog_3_method_3_code 36 = .ok (.putfield 25, 3) := by decide +kernel
theorem d_Exports_add_39 : decode prog_3_method_3_code 39 = .ok (.return_, 1) := by decide +kernel
theorem d_Exports_add_9 : decode prog_3_method_3_code 9 = .ok (.aload_n 0, 1) := by decide +kernel
theorem d_Exports_add_10 : decode prog_3_method_3_code 10 = .ok (.getfield 9, 3) := by decide +kernel
theorem d_Exports_add_13 : decode prog_3_method_3_code 13 = .ok (.aload_n 0, 1) := by decide +kernel
theorem d_Exports_add_14 : decode prog_3_method_3_code 14 = .ok (.getfield 25, 3) := by decide +kernel
theorem d_Exports_add_17 : decode prog_3_method_3_code 17 = .ok (.iload_n 1, 1) := by decide +kernel
theorem d_Exports_add_18 : decode prog_3_method_3_code 18 = .ok (.iastore, 1) := by decide +kernel
theorem d_Exports_add_19 : decode prog_3_method_3_code 19 = .ok (.aload_n 0, 1) := by decide +kernel
theorem d_Exports_add_20 : decode prog_3_method_3_code 20 = .ok (.getfield 15, 3) := by decide +kernel
theorem d_Exports_add_23 : decode prog_3_method_3_code 23 = .ok (.aload_n 0, 1) := by decide +kernel
theorem d_Exports_add_24 : decode prog_3_method_3_code 24 = .ok (.getfield 25, 3) := by decide +kernel
theorem d_Exports_add_27 : decode prog_3_method_3_code 27 = .ok (.iload_n 2, 1) := by decide +kernel
theorem d_Exports_add_28 : decode prog_3_method_3_code 28 = .ok (.iastore, 1) := by decide +kernel
theorem d_Exports_has_0 : decode prog_3_method_4_code 0 = .ok (.iload_n 1, 1) := by decide +kernel
theorem d_Exports_has_1 : decode prog_3_method_4_code 1 = .ok (.ifCond .lt 21, 3) := by decide +kernel
theorem d_Exports_has_4 : decode prog_3_method_4_code 4 = .ok (.iload_n 1, 1) := by decide +kernel
theorem d_Exports_has_5 : decode prog_3_method_4_code 5 = .ok (.aload_n 0, 1) := by decide +kernel
theorem d_Exports_has_6 : decode prog_3_method_4_code 6 = .ok (.getfield 25, 3) := by decide +kernel
theorem d_Exports_has_9 : decode prog_3_method_4_code 9 = .ok (.if_icmp .ge 13, 3) := by decide +kernel
theorem d_Exports_has_22 : decode prog_3_method_4_code 22 = .ok (.iconst 0, 1) := by decide +kernel
theorem d_Exports_has_23 : decode prog_3_method_4_code 23 = .ok (.ireturn, 1) := by decide +kernel
theorem d_Exports_has_12 : decode prog_3_method_4_code 12 = .ok (.iload_n 1, 1) := by decide +kernel
theorem d_Exports_has_13 : decode prog_3_method_4_code 13 = .ok (.bipush 40, 2) := by decide +kernel
theorem d_Exports_has_15 : decode prog_3_method_4_code 15 = .ok (.if_icmp .ge 7, 3) := by decide +kernel
theorem d_Exports_has_18 : decode prog_3_method_4_code 18 = .ok (.iconst 1, 1) := by decide +kernel
theorem d_Exports_has_19 : decode prog_3_method_4_code 19 = .ok (.goto 4, 3) := by decide +kernel
theorem d_Segments_add_0 : decode prog_7_method_2_code 0 = .ok (.aload_n 0, 1) := by decide +kernel
theorem d_Segments_add_1 : decode prog_7_method_2_code 1 = .ok (.getfield 25, 3) := by decide +kernel
theorem d_Segments_add_4 : decode prog_7_method_2_code 4 = .ok (.bipush 20, 2) := by decide +kernel
theorem d_Segments_add_6 : decode prog_7_method_2_code 6 = .ok (.if_icmp .ge 44, 3) := by decide +kernel
theorem d_Segments_add_50 : decode prog_7_method_2_code 50 = .ok (.aload_n 0, 1) := by decide +kernel
theorem d_Segments_add_51 : decode prog_7_method_2_code 51 = .ok (.dup, 1) := by decide +kernel
theorem d_Segments_add_52 : decode prog_7_method_2_code 52 = .ok (.getfield 25, 3) := by decide +kernel
theorem d_Segments_add_55 : decode prog_7_method_2_code 55 = .ok (.iconst 1, 1) := by decide +kernel
theorem d_Segments_add_56 : decode prog_7_method_2_code 56 = .ok (.iadd, 1) := by decide +kernel
theorem d_Segments_add_57 : decode prog_7_method_2_code 57 = .ok (.putfield 25, 3) := by decide +kernel
theorem d_Segments_add_60 : decode prog_7_method_2_code 60 = .ok (.return_, 1) := by decide +kernel
theorem d_Segments_add_9 : decode prog_7_method_2_code 9 = .ok (.aload_n 0, 1) := by decide +kernel
theorem d_Segments_add_10 : decode prog_7_method_2_code 10 = .ok (.getfield 9, 3) := by decide +kernel
theorem d_Segments_add_13 : decode prog_7_method_2_code 13 = .ok (.aload_n 0, 1) := by decide +kernel
theorem d_Segments_add_14 : decode prog_7_method_2_code 14 = .ok (.getfield 25, 3) := by decide +kernel
theorem d_Segments_add_17 : decode prog_7_method_2_code 17 = .ok (.iload_n 1, 1) := by decide +kernel
theorem d_Segments_add_18 : decode prog_7_method_2_code 18 = .ok (.iastore, 1) := by decide +kernel
theorem d_Segments_add_19 : decode prog_7_method_2_code 19 = .ok (.aload_n 0, 1) := by decide +kernel
theorem d_Segments_add_20 : decode prog_7_method_2_code 20 = .ok (.getfield 15, 3) := by decide +kernel
theorem d_Segments_add_23 : decode prog_7_method_2_code 23 = .ok (.aload_n 0, 1) := by decide +kernel
theorem d_Segments_add_24 : decode prog_7_method_2_code 24 = .ok (.getfield 25, 3) := by decide +kernel
theorem d_Segments_add_27 : decode prog_7_method_2_code 27 = .ok (.iload_n 2, 1) := by decide +kernel
theorem d_Segments_add_28 : decode prog_7_method_2_code 28 = .ok (.iastore, 1) := by decide +kernel
theorem d_Segments_add_29 : decode prog_7_method_2_code 29 = .ok (.aload_n 0, 1) := by decide +kernel
theorem d_Segments_add_30 : decode prog_7_method_2_code 30 = .ok (.getfield 18, 3) := by decide +kernel
theorem d_Segments_add_33 : decode prog_7_method_2_code 33 = .ok (.aload_n 0, 1) := by decide +kernel
theorem d_Segments_add_34 : decode prog_7_method_2_code 34 = .ok (.getfield 25, 3) := by decide +kernel
theorem d_Segments_add_37 : decode prog_7_method_2_code 37 = .ok (.lload_n 3, 1) := by decide +kernel
theorem d_Segments_add_38 : decode prog_7_method_2_code 38 = .ok (.lastore, 1) := by decide +kernel
theorem d_Segments_add_39 : decode prog_7_method_2_code 39 = .ok (.aload_n 0, 1) := by decide +kernel
theorem d_Segments_add_40 : decode prog_7_method_2_code 40 = .ok (.getfield 22, 3) := by decide +kernel
theorem d_Segments_add_43 : decode prog_7_method_2_code 43 = .ok (.aload_n 0, 1) := by decide +kernel
theorem d_Segments_add_44 : decode prog_7_method_2_code 44 = .ok (.getfield 25, 3) := by decide +kernel
theorem d_Segments_add_47 : decode prog_7_method_2_code 47 = .ok (.iload 5, 2) := by decide +kernel
theorem d_Segments_add_49 : decode prog_7_method_2_code 49 = .ok (.iastore, 1) := by decide +kernel
theorem d_Sized_add_0 : decode prog_8_method_2_code 0 = .ok (.aload_n 1, 1) := by decide +kernel
theorem d_Sized_add_1 : decode prog_8_method_2_code 1 = .ok (.invokevirtual 7, 3) := by decide +kernel
theorem d_Sized_add_4 : decode prog_8_method_2_code 4 = .ok (.istore_n 2, 1) := by decide +kernel
theorem d_Sized_add_5 : decode prog_8_method_2_code 5 = .ok (.aload_n 0, 1) := by decide +kernel
theorem d_Sized_add_6 : decode prog_8_method_2_code 6 = .ok (.aload_n 1, 1) := by decide +kernel
theorem d_Sized_add_7 : decode prog_8_method_2_code 7 = .ok (.invokevirtual 13, 3) := by decide +kernel
theorem d_Sized_add_10 : decode prog_8_method_2_code 10 = .ok (.putfield 17, 3) := by decide +kernel
theorem d_Sized_add_13 : decode prog_8_method_2_code 13 = .ok (.aload_n 0, 1) := by decide +kernel
theorem d_Sized_add_14 : decode prog_8_method_2_code 14 = .ok (.iload_n 2, 1) := by decide +kernel
theorem d_Sized_add_15 : decode prog_8_method_2_code 15 = .ok (.ifCond .ne 10, 3) := by decide +kernel
theorem d_Sized_add_25 : decode prog_8_method_2_code 25 = .ok (.aload_n 1, 1) := by decide +kernel
theorem d_Sized_add_26 : decode prog_8_method_2_code 26 = .ok (.invokevirtual 13, 3) := by decide +kernel
theorem d_Sized_add_29 : decode prog_8_method_2_code 29 = .ok (.putfield 23, 3) := by decide +kernel
theorem d_Sized_add_32 : decode prog_8_method_2_code 32 = .ok (.iload_n 2, 1) := by decide +kernel
theorem d_Sized_add_33 : decode prog_8_method_2_code 33 = .ok (.iconst 1, 1) := by decide +kernel
theorem d_Sized_add_34 : decode prog_8_method_2_code 34 = .ok (.if_icmp .le 7, 3) := by decide +kernel
theorem d_Sized_add_41 : decode prog_8_method_2_code 41 = .ok (.aload_n 0, 1) := by decide +kernel
theorem d_Sized_add_42 : decode prog_8_method_2_code 42 = .ok (.dup, 1) := by decide +kernel
theorem d_Sized_add_43 : decode prog_8_method_2_code 43 = .ok (.getfield 29, 3) := by decide +kernel
theorem d_Sized_add_46 : decode prog_8_method_2_code 46 = .ok (.iconst 1, 1) := by decide +kernel
theorem d_Sized_add_47 : decode prog_8_method_2_code 47 = .ok (.iadd, 1) := by decide +kernel
theorem d_Sized_add_48 : decode prog_8_method_2_code 48 = .ok (.putfield 29, 3) := by decide +kernel
theorem d_Sized_add_51 : decode prog_8_method_2_code 51 = .ok (.return_, 1) := by decide +kernel
theorem d_Sized_add_37 : decode prog_8_method_2_code 37 = .ok (.aload_n 1, 1) := by decide +kernel
theorem d_Sized_add_38 : decode prog_8_method_2_code 38 = .ok (.invokevirtual 26, 3) := by decide +kernel
theorem d_Sized_add_18 : decode prog_8_method_2_code 18 = .ok (.aload_n 0, 1) := by decide +kernel
theorem d_Sized_add_19 : decode prog_8_method_2_code 19 = .ok (.getfield 17, 3) := by decide +kernel
theorem d_Sized_add_22 : decode prog_8_method_2_code 22 = .ok (.goto 7, 3) := by decide +kernel
theorem d_Sized_holds_0 : decode prog_8_method_3_code 0 = .ok (.aload_n 0, 1) := by decide +kernel
theorem d_Sized_holds_1 : decode prog_8_method_3_code 1 = .ok (.getfield 29, 3) := by decide +kernel
theorem d_Sized_holds_4 : decode prog_8_method_3_code 4 = .ok (.ifCond .eq 32, 3) := by decide +kernel
theorem d_Sized_holds_36 : decode prog_8_method_3_code 36 = .ok (.iconst 1, 1) := by decide +kernel
theorem d_Sized_holds_37 : decode prog_8_method_3_code 37 = .ok (.goto 4, 3) := by decide +kernel
theorem d_Sized_holds_41 : decode prog_8_method_3_code 41 = .ok (.ireturn, 1) := by decide +kernel
theorem d_Sized_holds_7 : decode prog_8_method_3_code 7 = .ok (.aload_n 0, 1) := by decide +kernel
theorem d_Sized_holds_8 : decode prog_8_method_3_code 8 = .ok (.getfield 29, 3) := by decide +kernel
theorem d_Sized_holds_11 : decode prog_8_method_3_code 11 = .ok (.iconst 1, 1) := by decide +kernel
theorem d_Sized_holds_12 : decode prog_8_method_3_code 12 = .ok (.if_icmp .ne 28, 3) := by decide +kernel
theorem d_Sized_holds_40 : decode prog_8_method_3_code 40 = .ok (.iconst 0, 1) := by decide +kernel
theorem d_Sized_holds_15 : decode prog_8_method_3_code 15 = .ok (.aload_n 0, 1) := by decide +kernel
theorem d_Sized_holds_16 : decode prog_8_method_3_code 16 = .ok (.getfield 17, 3) := by decide +kernel
theorem d_Sized_holds_19 : decode prog_8_method_3_code 19 = .ok (.aload_n 0, 1) := by decide +kernel
theorem d_Sized_holds_20 : decode prog_8_method_3_code 20 = .ok (.getfield 23, 3) := by decide +kernel
theorem d_Sized_holds_23 : decode prog_8_method_3_code 23 = .ok (.lcmp, 1) := by decide +kernel
theorem d_Sized_holds_24 : decode prog_8_method_3_code 24 = .ok (.ifCond .gt 16, 3) := by decide +kernel
theorem d_Sized_holds_27 : decode prog_8_method_3_code 27 = .ok (.aload_n 0, 1) := by decide +kernel
theorem d_Sized_holds_28 : decode prog_8_method_3_code 28 = .ok (.getfield 23, 3) := by decide +kernel
theorem d_Sized_holds_31 : decode prog_8_method_3_code 31 = .ok (.lload_n 1, 1) := by decide +kernel
theorem d_Sized_holds_32 : decode prog_8_method_3_code 32 = .ok (.lcmp, 1) := by decide +kernel
theorem d_Sized_holds_33 : decode prog_8_method_3_code 33 = .ok (.ifCond .gt 7, 3) := by decide +kernel
