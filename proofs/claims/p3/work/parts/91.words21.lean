def y_Validity_init : MethodName := ⟨"WasmReader$Validity", "<init>", "(LWasmReader$Cursor;LWasmReader$WasmModule;LWasmReader$TypeStack;)V"⟩
def y_Reader_feed : MethodName := ⟨"WasmReader", "feed", "(IIIII)I"⟩
def y_Reader_end : MethodName := ⟨"WasmReader", "end", "(I)I"⟩
def y_Reader_count : MethodName := ⟨"WasmReader", "count", "(I)I"⟩
def y_Reader_function : MethodName := ⟨"WasmReader", "function", "(II)I"⟩
def y_Reader_export : MethodName := ⟨"WasmReader", "export", "(II)I"⟩
def y_Reader_global : MethodName := ⟨"WasmReader", "global", "(II)I"⟩
def y_Reader_initial : MethodName := ⟨"WasmReader", "initial", "(I)J"⟩
theorem m_971 : Cond.methodLink "WasmReader$Validity" 3 objectInit ∈ xtb := x_in (List.mem_of_getElem? (i := 745) (by decide +kernel)) (by decide +kernel)
theorem m_972 : Cond.methodLink "WasmReader" 70 y_WasmModule_isTooLarge ∈ xtb := x_in (List.mem_of_getElem? (i := 736) (by decide +kernel)) (by decide +kernel)
theorem m_973 : Cond.code y_WasmModule_isTooLarge prog_12_method_3_code 1 (some .boolean) ∈ xtb := x_in (List.mem_of_getElem? (i := 739) (by decide +kernel)) (by decide +kernel)
theorem m_974 : Cond.instanceMethod y_WasmModule_isTooLarge ∈ xtb := x_in (List.mem_of_getElem? (i := 737) (by decide +kernel)) (by decide +kernel)
theorem m_975 : Cond.selects "WasmReader$WasmModule" y_WasmModule_isTooLarge y_WasmModule_isTooLarge ∈ xtb := x_in (List.mem_of_getElem? (i := 738) (by decide +kernel)) (by decide +kernel)
theorem m_976 : Cond.classLink "WasmReader" 74 "WasmReader$Validity" ∈ xtb := x_in (List.mem_of_getElem? (i := 740) (by decide +kernel)) (by decide +kernel)
theorem m_977 : Cond.instantiable "WasmReader$Validity" 3 ∈ xtb := x_in (List.mem_of_getElem? (i := 741) (by decide +kernel)) (by decide +kernel)
theorem m_978 : Cond.methodLink "WasmReader" 76 y_Validity_init ∈ xtb := x_in (List.mem_of_getElem? (i := 742) (by decide +kernel)) (by decide +kernel)
theorem m_979 : Cond.code y_Validity_init prog_11_method_1_code 4 none ∈ xtb := x_in (List.mem_of_getElem? (i := 744) (by decide +kernel)) (by decide +kernel)
theorem m_980 : Cond.instanceMethod y_Validity_init ∈ xtb := x_in (List.mem_of_getElem? (i := 743) (by decide +kernel)) (by decide +kernel)
theorem m_981 : Cond.methodLink "WasmReader" 79 y_Validity_holds ∈ xtb := x_in (List.mem_of_getElem? (i := 756) (by decide +kernel)) (by decide +kernel)
theorem m_982 : Cond.code y_Validity_holds prog_11_method_2_code 1 (some .boolean) ∈ xtb := x_in (List.mem_of_getElem? (i := 759) (by decide +kernel)) (by decide +kernel)
theorem m_983 : Cond.instanceMethod y_Validity_holds ∈ xtb := x_in (List.mem_of_getElem? (i := 757) (by decide +kernel)) (by decide +kernel)
theorem m_984 : Cond.selects "WasmReader$Validity" y_Validity_holds y_Validity_holds ∈ xtb := x_in (List.mem_of_getElem? (i := 758) (by decide +kernel)) (by decide +kernel)
theorem m_985 : Cond.methodLink "WasmReader" 41 y_Cursor_append ∈ xtb := x_in (List.mem_of_getElem? (i := 1011) (by decide +kernel)) (by decide +kernel)
theorem m_986 : Cond.code y_Cursor_append prog_2_method_2_code 3 none ∈ xtb := x_in (List.mem_of_getElem? (i := 1014) (by decide +kernel)) (by decide +kernel)
theorem m_987 : Cond.instanceMethod y_Cursor_append ∈ xtb := x_in (List.mem_of_getElem? (i := 1012) (by decide +kernel)) (by decide +kernel)
theorem m_988 : Cond.selects "WasmReader$Cursor" y_Cursor_append y_Cursor_append ∈ xtb := x_in (List.mem_of_getElem? (i := 1013) (by decide +kernel)) (by decide +kernel)
theorem m_989 : Cond.classLink "WasmReader" 38 "java/lang/IllegalStateException" ∈ xtb := x_in (List.mem_of_getElem? (i := 946) (by decide +kernel)) (by decide +kernel)
theorem m_990 : Cond.initialized "java/lang/IllegalStateException" ∈ xtb := x_in (List.mem_of_getElem? (i := 103) (by decide +kernel)) (by decide +kernel)
theorem m_991 : Cond.instantiable "java/lang/IllegalStateException" 6 ∈ xtb := x_in (List.mem_of_getElem? (i := 947) (by decide +kernel)) (by decide +kernel)
theorem m_992 : Cond.classLink "WasmReader" 45 "java/lang/IllegalArgumentException" ∈ xtb := x_in (List.mem_of_getElem? (i := 1023) (by decide +kernel)) (by decide +kernel)
theorem m_993 : Cond.initialized "java/lang/IllegalArgumentException" ∈ xtb := x_in (List.mem_of_getElem? (i := 104) (by decide +kernel)) (by decide +kernel)
theorem m_994 : Cond.instantiable "java/lang/IllegalArgumentException" 6 ∈ xtb := x_in (List.mem_of_getElem? (i := 1024) (by decide +kernel)) (by decide +kernel)
theorem m_995 : Cond.fieldLink "WasmReader" 85 "WasmReader$WasmModule" "types" "LWasmReader$Types;" ∈ xtb := x_in (List.mem_of_getElem? (i := 356) (by decide +kernel)) (by decide +kernel)
theorem m_996 : Cond.fieldLink "WasmReader" 89 "WasmReader$Types" "count" "I" ∈ xtb := x_in (List.mem_of_getElem? (i := 162) (by decide +kernel)) (by decide +kernel)
theorem m_997 : Cond.fieldLink "WasmReader" 94 "WasmReader$WasmModule" "imports" "I" ∈ xtb := x_in (List.mem_of_getElem? (i := 387) (by decide +kernel)) (by decide +kernel)
theorem m_998 : Cond.fieldLink "WasmReader" 97 "WasmReader$WasmModule" "functions" "LWasmReader$Functions;" ∈ xtb := x_in (List.mem_of_getElem? (i := 361) (by decide +kernel)) (by decide +kernel)
theorem m_999 : Cond.fieldLink "WasmReader" 101 "WasmReader$Functions" "count" "I" ∈ xtb := x_in (List.mem_of_getElem? (i := 191) (by decide +kernel)) (by decide +kernel)
theorem m_1000 : Cond.fieldLink "WasmReader" 104 "WasmReader$Functions" "imported" "I" ∈ xtb := x_in (List.mem_of_getElem? (i := 195) (by decide +kernel)) (by decide +kernel)
theorem m_1001 : Cond.fieldLink "WasmReader" 107 "WasmReader$WasmModule" "globals" "LWasmReader$Globals;" ∈ xtb := x_in (List.mem_of_getElem? (i := 364) (by decide +kernel)) (by decide +kernel)
theorem m_1002 : Cond.fieldLink "WasmReader" 111 "WasmReader$Globals" "count" "I" ∈ xtb := x_in (List.mem_of_getElem? (i := 244) (by decide +kernel)) (by decide +kernel)
theorem m_1003 : Cond.fieldLink "WasmReader" 114 "WasmReader$WasmModule" "exports" "LWasmReader$Exports;" ∈ xtb := x_in (List.mem_of_getElem? (i := 367) (by decide +kernel)) (by decide +kernel)
theorem m_1004 : Cond.fieldLink "WasmReader" 118 "WasmReader$Exports" "count" "I" ∈ xtb := x_in (List.mem_of_getElem? (i := 284) (by decide +kernel)) (by decide +kernel)
theorem m_1005 : Cond.fieldLink "WasmReader" 121 "WasmReader$WasmModule" "elements" "LWasmReader$Segments;" ∈ xtb := x_in (List.mem_of_getElem? (i := 372) (by decide +kernel)) (by decide +kernel)
theorem m_1006 : Cond.fieldLink "WasmReader" 125 "WasmReader$Segments" "count" "I" ∈ xtb := x_in (List.mem_of_getElem? (i := 313) (by decide +kernel)) (by decide +kernel)
theorem m_1007 : Cond.fieldLink "WasmReader" 128 "WasmReader$WasmModule" "data" "LWasmReader$Segments;" ∈ xtb := x_in (List.mem_of_getElem? (i := 376) (by decide +kernel)) (by decide +kernel)
theorem m_1008 : Cond.fieldLink "WasmReader" 131 "WasmReader$WasmModule" "tables" "LWasmReader$Sized;" ∈ xtb := x_in (List.mem_of_getElem? (i := 380) (by decide +kernel)) (by decide +kernel)
theorem m_1009 : Cond.fieldLink "WasmReader" 135 "WasmReader$Sized" "count" "I" ∈ xtb := x_in (List.mem_of_getElem? (i := 343) (by decide +kernel)) (by decide +kernel)
theorem m_1010 : Cond.fieldLink "WasmReader" 138 "WasmReader$WasmModule" "memories" "LWasmReader$Sized;" ∈ xtb := x_in (List.mem_of_getElem? (i := 384) (by decide +kernel)) (by decide +kernel)
theorem m_1011 : Cond.fieldLink "WasmReader" 141 "WasmReader$WasmModule" "start" "I" ∈ xtb := x_in (List.mem_of_getElem? (i := 391) (by decide +kernel)) (by decide +kernel)
theorem m_1012 : Cond.methodLink "WasmReader" 144 y_Functions_has ∈ xtb := x_in (List.mem_of_getElem? (i := 1053) (by decide +kernel)) (by decide +kernel)
theorem m_1013 : Cond.classLink "WasmReader" 148 "java/lang/IndexOutOfBoundsException" ∈ xtb := x_in (List.mem_of_getElem? (i := 1054) (by decide +kernel)) (by decide +kernel)
theorem m_1014 : Cond.initialized "java/lang/IndexOutOfBoundsException" ∈ xtb := x_in (List.mem_of_getElem? (i := 110) (by decide +kernel)) (by decide +kernel)
theorem m_1015 : Cond.instantiable "java/lang/IndexOutOfBoundsException" 6 ∈ xtb := x_in (List.mem_of_getElem? (i := 1055) (by decide +kernel)) (by decide +kernel)
theorem m_1016 : Cond.fieldLink "WasmReader" 151 "WasmReader$Functions" "parameters" "[I" ∈ xtb := x_in (List.mem_of_getElem? (i := 202) (by decide +kernel)) (by decide +kernel)
theorem m_1017 : Cond.fieldLink "WasmReader" 155 "WasmReader$Functions" "result" "[I" ∈ xtb := x_in (List.mem_of_getElem? (i := 205) (by decide +kernel)) (by decide +kernel)
theorem m_1018 : Cond.fieldLink "WasmReader" 158 "WasmReader$Functions" "locals" "[I" ∈ xtb := x_in (List.mem_of_getElem? (i := 208) (by decide +kernel)) (by decide +kernel)
theorem m_1019 : Cond.fieldLink "WasmReader" 161 "WasmReader$Functions" "bodyBytes" "[I" ∈ xtb := x_in (List.mem_of_getElem? (i := 213) (by decide +kernel)) (by decide +kernel)
theorem m_1020 : Cond.methodLink "WasmReader" 164 y_Functions_hasLocal ∈ xtb := x_in (List.mem_of_getElem? (i := 1069) (by decide +kernel)) (by decide +kernel)
theorem m_1021 : Cond.methodLink "WasmReader" 168 y_Functions_typeOfLocal ∈ xtb := x_in (List.mem_of_getElem? (i := 1070) (by decide +kernel)) (by decide +kernel)
theorem m_1022 : Cond.methodLink "WasmReader" 172 y_Exports_has ∈ xtb := x_in (List.mem_of_getElem? (i := 1078) (by decide +kernel)) (by decide +kernel)
theorem m_1023 : Cond.fieldLink "WasmReader" 173 "WasmReader$Exports" "sort" "[I" ∈ xtb := x_in (List.mem_of_getElem? (i := 287) (by decide +kernel)) (by decide +kernel)
theorem m_1024 : Cond.fieldLink "WasmReader" 176 "WasmReader$Exports" "number" "[I" ∈ xtb := x_in (List.mem_of_getElem? (i := 290) (by decide +kernel)) (by decide +kernel)
theorem m_1025 : Cond.fieldLink "WasmReader" 179 "WasmReader$Exports" "nameLength" "[I" ∈ xtb := x_in (List.mem_of_getElem? (i := 292) (by decide +kernel)) (by decide +kernel)
theorem m_1026 : Cond.methodLink "WasmReader" 182 y_Exports_nameByte ∈ xtb := x_in (List.mem_of_getElem? (i := 1079) (by decide +kernel)) (by decide +kernel)
theorem m_1027 : Cond.methodLink "WasmReader" 185 y_Globals_has ∈ xtb := x_in (List.mem_of_getElem? (i := 1087) (by decide +kernel)) (by decide +kernel)
theorem m_1028 : Cond.fieldLink "WasmReader" 186 "WasmReader$Globals" "type" "[I" ∈ xtb := x_in (List.mem_of_getElem? (i := 252) (by decide +kernel)) (by decide +kernel)
theorem m_1029 : Cond.fieldLink "WasmReader" 189 "WasmReader$Globals" "mutable" "[Z" ∈ xtb := x_in (List.mem_of_getElem? (i := 255) (by decide +kernel)) (by decide +kernel)
theorem m_1030 : Cond.methodLink "WasmReader" 192 y_Globals_origin ∈ xtb := x_in (List.mem_of_getElem? (i := 1088) (by decide +kernel)) (by decide +kernel)
theorem m_1031 : Cond.code y_Globals_origin prog_5_method_5_code 2 (some .int) ∈ xtb := x_in (List.mem_of_getElem? (i := 1091) (by decide +kernel)) (by decide +kernel)
theorem m_1032 : Cond.instanceMethod y_Globals_origin ∈ xtb := x_in (List.mem_of_getElem? (i := 1089) (by decide +kernel)) (by decide +kernel)
theorem m_1033 : Cond.selects "WasmReader$Globals" y_Globals_origin y_Globals_origin ∈ xtb := x_in (List.mem_of_getElem? (i := 1090) (by decide +kernel)) (by decide +kernel)
theorem m_1034 : Cond.fieldLink "WasmReader" 196 "WasmReader$Globals" "initialValue" "[J" ∈ xtb := x_in (List.mem_of_getElem? (i := 260) (by decide +kernel)) (by decide +kernel)
theorem d_Validity_init_0 : decode prog_11_method_1_code 0 = .ok (.aload_n 0, 1) := by decide +kernel
theorem d_Validity_init_1 : decode prog_11_method_1_code 1 = .ok (.invokespecial 3, 3) := by decide +kernel
theorem d_Validity_init_4 : decode prog_11_method_1_code 4 = .ok (.aload_n 0, 1) := by decide +kernel
theorem d_Validity_init_5 : decode prog_11_method_1_code 5 = .ok (.aload_n 1, 1) := by decide +kernel
theorem d_Validity_init_6 : decode prog_11_method_1_code 6 = .ok (.putfield 9, 3) := by decide +kernel
theorem d_Validity_init_9 : decode prog_11_method_1_code 9 = .ok (.aload_n 0, 1) := by decide +kernel
theorem d_Validity_init_10 : decode prog_11_method_1_code 10 = .ok (.aload_n 2, 1) := by decide +kernel
theorem d_Validity_init_11 : decode prog_11_method_1_code 11 = .ok (.putfield 15, 3) := by decide +kernel
theorem d_Validity_init_14 : decode prog_11_method_1_code 14 = .ok (.aload_n 0, 1) := by decide +kernel
theorem d_Validity_init_15 : decode prog_11_method_1_code 15 = .ok (.aload_n 3, 1) := by decide +kernel
theorem d_Validity_init_16 : decode prog_11_method_1_code 16 = .ok (.putfield 19, 3) := by decide +kernel
theorem d_Validity_init_19 : decode prog_11_method_1_code 19 = .ok (.return_, 1) := by decide +kernel
theorem d_Reader_read_75 : decode prog_1_method_4_code 75 = .ok (.aload_n 0, 1) := by decide +kernel
theorem d_Reader_read_76 : decode prog_1_method_4_code 76 = .ok (.getfield 19, 3) := by decide +kernel
theorem d_Reader_read_79 : decode prog_1_method_4_code 79 = .ok (.invokevirtual 70, 3) := by decide +kernel
theorem nm_WasmModule_isTooLarge : x_nm y_WasmModule_isTooLarge 0 = true := by decide +kernel
theorem d_Reader_read_82 : decode prog_1_method_4_code 82 = .ok (.ifCond .eq 8, 3) := by decide +kernel
theorem d_Reader_read_90 : decode prog_1_method_4_code 90 = .ok (.new 74, 3) := by decide +kernel
theorem d_Reader_read_93 : decode prog_1_method_4_code 93 = .ok (.dup, 1) := by decide +kernel
theorem d_Reader_read_94 : decode prog_1_method_4_code 94 = .ok (.aload_n 0, 1) := by decide +kernel
theorem d_Reader_read_95 : decode prog_1_method_4_code 95 = .ok (.getfield 10, 3) := by decide +kernel
theorem d_Reader_read_98 : decode prog_1_method_4_code 98 = .ok (.aload_n 0, 1) := by decide +kernel
theorem d_Reader_read_99 : decode prog_1_method_4_code 99 = .ok (.getfield 19, 3) := by decide +kernel
theorem d_Reader_read_102 : decode prog_1_method_4_code 102 = .ok (.aload_n 0, 1) := by decide +kernel
theorem d_Reader_read_103 : decode prog_1_method_4_code 103 = .ok (.getfield 30, 3) := by decide +kernel
theorem d_Reader_read_106 : decode prog_1_method_4_code 106 = .ok (.invokespecial 76, 3) := by decide +kernel
theorem nm_Validity_init : x_nm y_Validity_init 3 = true := by decide +kernel
theorem d_Reader_read_109 : decode prog_1_method_4_code 109 = .ok (.invokevirtual 79, 3) := by decide +kernel
theorem nm_Validity_holds : x_nm y_Validity_holds 0 = true := by decide +kernel
theorem d_Reader_read_112 : decode prog_1_method_4_code 112 = .ok (.ifCond .ne 5, 3) := by decide +kernel
theorem d_Reader_read_130 : decode prog_1_method_4_code 130 = .ok (.iconst 1, 1) := by decide +kernel
theorem d_Reader_read_131 : decode prog_1_method_4_code 131 = .ok (.goto 4, 3) := by decide +kernel
theorem d_Reader_read_115 : decode prog_1_method_4_code 115 = .ok (.iconst 2, 1) := by decide +kernel
theorem d_Reader_read_116 : decode prog_1_method_4_code 116 = .ok (.istore_n 2, 1) := by decide +kernel
theorem d_Reader_read_85 : decode prog_1_method_4_code 85 = .ok (.iconst 3, 1) := by decide +kernel
theorem d_Reader_read_86 : decode prog_1_method_4_code 86 = .ok (.istore_n 2, 1) := by decide +kernel
theorem d_Reader_read_87 : decode prog_1_method_4_code 87 = .ok (.goto 30, 3) := by decide +kernel
theorem d_Reader_feed_0 : decode prog_1_method_2_code 0 = .ok (.aload_n 0, 1) := by decide +kernel
theorem d_Reader_feed_1 : decode prog_1_method_2_code 1 = .ok (.getfield 10, 3) := by decide +kernel
theorem d_Reader_feed_4 : decode prog_1_method_2_code 4 = .ok (.getfield 34, 3) := by decide +kernel
theorem d_Reader_feed_7 : decode prog_1_method_2_code 7 = .ok (.sipush 3980, 3) := by decide +kernel
theorem d_Reader_feed_10 : decode prog_1_method_2_code 10 = .ok (.if_icmp .le 11, 3) := by decide +kernel
theorem d_Reader_feed_21 : decode prog_1_method_2_code 21 = .ok (.aload_n 0, 1) := by decide +kernel
theorem d_Reader_feed_22 : decode prog_1_method_2_code 22 = .ok (.getfield 10, 3) := by decide +kernel
theorem d_Reader_feed_25 : decode prog_1_method_2_code 25 = .ok (.iload_n 1, 1) := by decide +kernel
theorem d_Reader_feed_26 : decode prog_1_method_2_code 26 = .ok (.invokevirtual 41, 3) := by decide +kernel
theorem nm_Cursor_append : x_nm y_Cursor_append 1 = true := by decide +kernel
theorem d_Reader_feed_29 : decode prog_1_method_2_code 29 = .ok (.aload_n 0, 1) := by decide +kernel
theorem d_Reader_feed_30 : decode prog_1_method_2_code 30 = .ok (.getfield 10, 3) := by decide +kernel
theorem d_Reader_feed_33 : decode prog_1_method_2_code 33 = .ok (.iload_n 2, 1) := by decide +kernel
theorem d_Reader_feed_34 : decode prog_1_method_2_code 34 = .ok (.invokevirtual 41, 3) := by decide +kernel
theorem d_Reader_feed_37 : decode prog_1_method_2_code 37 = .ok (.aload_n 0, 1) := by decide +kernel
theorem d_Reader_feed_38 : decode prog_1_method_2_code 38 = .ok (.getfield 10, 3) := by decide +kernel
theorem d_Reader_feed_41 : decode prog_1_method_2_code 41 = .ok (.iload_n 3, 1) := by decide +kernel
theorem d_Reader_feed_42 : decode prog_1_method_2_code 42 = .ok (.invokevirtual 41, 3) := by decide +kernel
theorem d_Reader_feed_45 : decode prog_1_method_2_code 45 = .ok (.aload_n 0, 1) := by decide +kernel
theorem d_Reader_feed_46 : decode prog_1_method_2_code 46 = .ok (.getfield 10, 3) := by decide +kernel
theorem d_Reader_feed_49 : decode prog_1_method_2_code 49 = .ok (.iload 4, 2) := by decide +kernel
theorem d_Reader_feed_51 : decode prog_1_method_2_code 51 = .ok (.invokevirtual 41, 3) := by decide +kernel
theorem d_Reader_feed_54 : decode prog_1_method_2_code 54 = .ok (.aload_n 0, 1) := by decide +kernel
theorem d_Reader_feed_55 : decode prog_1_method_2_code 55 = .ok (.getfield 10, 3) := by decide +kernel
theorem d_Reader_feed_58 : decode prog_1_method_2_code 58 = .ok (.iload 5, 2) := by decide +kernel
theorem d_Reader_feed_60 : decode prog_1_method_2_code 60 = .ok (.invokevirtual 41, 3) := by decide +kernel
theorem d_Reader_feed_63 : decode prog_1_method_2_code 63 = .ok (.aload_n 0, 1) := by decide +kernel
theorem d_Reader_feed_64 : decode prog_1_method_2_code 64 = .ok (.getfield 10, 3) := by decide +kernel
theorem d_Reader_feed_67 : decode prog_1_method_2_code 67 = .ok (.getfield 34, 3) := by decide +kernel
theorem d_Reader_feed_70 : decode prog_1_method_2_code 70 = .ok (.ireturn, 1) := by decide +kernel
set_option maxRecDepth 100000 in
theorem own_ISE_40 : (Bundle.ownAtoms0 "WasmReader" 40 "java/lang/IllegalStateException" ["java/lang/RuntimeException", "java/lang/Exception"]).all (fun w => decide (w ∈ xtb) || decide (w ∈ xbad)) = true := by decide +kernel
theorem d_Reader_feed_13 : decode prog_1_method_2_code 13 = .ok (.new 38, 3) := by decide +kernel
theorem d_Reader_feed_16 : decode prog_1_method_2_code 16 = .ok (.dup, 1) := by decide +kernel
theorem d_Reader_feed_17 : decode prog_1_method_2_code 17 = .ok (.invokespecial 40, 3) := by decide +kernel
theorem d_Reader_feed_20 : decode prog_1_method_2_code 20 = .ok (.athrow, 1) := by decide +kernel
theorem d_Reader_end_0 : decode prog_1_method_3_code 0 = .ok (.iload_n 1, 1) := by decide +kernel
theorem d_Reader_end_1 : decode prog_1_method_3_code 1 = .ok (.ifCond .lt 14, 3) := by decide +kernel
theorem d_Reader_end_4 : decode prog_1_method_3_code 4 = .ok (.iload_n 1, 1) := by decide +kernel
theorem d_Reader_end_5 : decode prog_1_method_3_code 5 = .ok (.aload_n 0, 1) := by decide +kernel
theorem d_Reader_end_6 : decode prog_1_method_3_code 6 = .ok (.getfield 10, 3) := by decide +kernel
theorem d_Reader_end_9 : decode prog_1_method_3_code 9 = .ok (.getfield 34, 3) := by decide +kernel
theorem d_Reader_end_12 : decode prog_1_method_3_code 12 = .ok (.if_icmp .le 11, 3) := by decide +kernel
theorem d_Reader_end_23 : decode prog_1_method_3_code 23 = .ok (.aload_n 0, 1) := by decide +kernel
theorem d_Reader_end_24 : decode prog_1_method_3_code 24 = .ok (.getfield 10, 3) := by decide +kernel
theorem d_Reader_end_27 : decode prog_1_method_3_code 27 = .ok (.iload_n 1, 1) := by decide +kernel
theorem d_Reader_end_28 : decode prog_1_method_3_code 28 = .ok (.putfield 34, 3) := by decide +kernel
theorem d_Reader_end_31 : decode prog_1_method_3_code 31 = .ok (.iload_n 1, 1) := by decide +kernel
theorem d_Reader_end_32 : decode prog_1_method_3_code 32 = .ok (.ireturn, 1) := by decide +kernel
set_option maxRecDepth 100000 in
theorem own_IAE_47 : (Bundle.ownAtoms0 "WasmReader" 47 "java/lang/IllegalArgumentException" ["java/lang/RuntimeException", "java/lang/Exception"]).all (fun w => decide (w ∈ xtb) || decide (w ∈ xbad)) = true := by decide +kernel
theorem d_Reader_end_15 : decode prog_1_method_3_code 15 = .ok (.new 45, 3) := by decide +kernel
theorem d_Reader_end_18 : decode prog_1_method_3_code 18 = .ok (.dup, 1) := by decide +kernel
theorem d_Reader_end_19 : decode prog_1_method_3_code 19 = .ok (.invokespecial 47, 3) := by decide +kernel
theorem d_Reader_end_22 : decode prog_1_method_3_code 22 = .ok (.athrow, 1) := by decide +kernel
theorem d_Reader_count_0 : decode prog_1_method_5_code 0 = .ok (.aload_n 0, 1) := by decide +kernel
theorem d_Reader_count_1 : decode prog_1_method_5_code 1 = .ok (.getfield 82, 3) := by decide +kernel
theorem d_Reader_count_4 : decode prog_1_method_5_code 4 = .ok (.ifCond .ne 11, 3) := by decide +kernel
theorem d_Reader_count_15 : decode prog_1_method_5_code 15 = .ok (.iload_n 1, 1) := by decide +kernel
theorem d_Reader_count_16 : decode prog_1_method_5_code 16 = .ok (.tableswitch 175 0 10 #[60, 71, 79, 90, 101, 112, 123, 134, 145, 156, 167], 60) := by decide +kernel
theorem d_Reader_count_76 : decode prog_1_method_5_code 76 = .ok (.aload_n 0, 1) := by decide +kernel
theorem d_Reader_count_77 : decode prog_1_method_5_code 77 = .ok (.getfield 19, 3) := by decide +kernel
theorem d_Reader_count_80 : decode prog_1_method_5_code 80 = .ok (.getfield 85, 3) := by decide +kernel
theorem d_Reader_count_83 : decode prog_1_method_5_code 83 = .ok (.getfield 89, 3) := by decide +kernel
theorem d_Reader_count_86 : decode prog_1_method_5_code 86 = .ok (.ireturn, 1) := by decide +kernel
theorem d_Reader_count_87 : decode prog_1_method_5_code 87 = .ok (.aload_n 0, 1) := by decide +kernel
theorem d_Reader_count_88 : decode prog_1_method_5_code 88 = .ok (.getfield 19, 3) := by decide +kernel
theorem d_Reader_count_91 : decode prog_1_method_5_code 91 = .ok (.getfield 94, 3) := by decide +kernel
theorem d_Reader_count_94 : decode prog_1_method_5_code 94 = .ok (.ireturn, 1) := by decide +kernel
theorem d_Reader_count_95 : decode prog_1_method_5_code 95 = .ok (.aload_n 0, 1) := by decide +kernel
theorem d_Reader_count_96 : decode prog_1_method_5_code 96 = .ok (.getfield 19, 3) := by decide +kernel
theorem d_Reader_count_99 : decode prog_1_method_5_code 99 = .ok (.getfield 97, 3) := by decide +kernel
theorem d_Reader_count_102 : decode prog_1_method_5_code 102 = .ok (.getfield 101, 3) := by decide +kernel
theorem d_Reader_count_105 : decode prog_1_method_5_code 105 = .ok (.ireturn, 1) := by decide +kernel
theorem d_Reader_count_106 : decode prog_1_method_5_code 106 = .ok (.aload_n 0, 1) := by decide +kernel
theorem d_Reader_count_107 : decode prog_1_method_5_code 107 = .ok (.getfield 19, 3) := by decide +kernel
theorem d_Reader_count_110 : decode prog_1_method_5_code 110 = .ok (.getfield 97, 3) := by decide +kernel
theorem d_Reader_count_113 : decode prog_1_method_5_code 113 = .ok (.getfield 104, 3) := by decide +kernel
theorem d_Reader_count_116 : decode prog_1_method_5_code 116 = .ok (.ireturn, 1) := by decide +kernel
theorem d_Reader_count_117 : decode prog_1_method_5_code 117 = .ok (.aload_n 0, 1) := by decide +kernel
theorem d_Reader_count_118 : decode prog_1_method_5_code 118 = .ok (.getfield 19, 3) := by decide +kernel
theorem d_Reader_count_121 : decode prog_1_method_5_code 121 = .ok (.getfield 107, 3) := by decide +kernel
theorem d_Reader_count_124 : decode prog_1_method_5_code 124 = .ok (.getfield 111, 3) := by decide +kernel
theorem d_Reader_count_127 : decode prog_1_method_5_code 127 = .ok (.ireturn, 1) := by decide +kernel
theorem d_Reader_count_128 : decode prog_1_method_5_code 128 = .ok (.aload_n 0, 1) := by decide +kernel
theorem d_Reader_count_129 : decode prog_1_method_5_code 129 = .ok (.getfield 19, 3) := by decide +kernel
theorem d_Reader_count_132 : decode prog_1_method_5_code 132 = .ok (.getfield 114, 3) := by decide +kernel
theorem d_Reader_count_135 : decode prog_1_method_5_code 135 = .ok (.getfield 118, 3) := by decide +kernel
theorem d_Reader_count_138 : decode prog_1_method_5_code 138 = .ok (.ireturn, 1) := by decide +kernel
theorem d_Reader_count_139 : decode prog_1_method_5_code 139 = .ok (.aload_n 0, 1) := by decide +kernel
theorem d_Reader_count_140 : decode prog_1_method_5_code 140 = .ok (.getfield 19, 3) := by decide +kernel
theorem d_Reader_count_143 : decode prog_1_method_5_code 143 = .ok (.getfield 121, 3) := by decide +kernel
theorem d_Reader_count_146 : decode prog_1_method_5_code 146 = .ok (.getfield 125, 3) := by decide +kernel
theorem d_Reader_count_149 : decode prog_1_method_5_code 149 = .ok (.ireturn, 1) := by decide +kernel
theorem d_Reader_count_150 : decode prog_1_method_5_code 150 = .ok (.aload_n 0, 1) := by decide +kernel
theorem d_Reader_count_151 : decode prog_1_method_5_code 151 = .ok (.getfield 19, 3) := by decide +kernel
theorem d_Reader_count_154 : decode prog_1_method_5_code 154 = .ok (.getfield 128, 3) := by decide +kernel
theorem d_Reader_count_157 : decode prog_1_method_5_code 157 = .ok (.getfield 125, 3) := by decide +kernel
theorem d_Reader_count_160 : decode prog_1_method_5_code 160 = .ok (.ireturn, 1) := by decide +kernel
theorem d_Reader_count_161 : decode prog_1_method_5_code 161 = .ok (.aload_n 0, 1) := by decide +kernel
theorem d_Reader_count_162 : decode prog_1_method_5_code 162 = .ok (.getfield 19, 3) := by decide +kernel
theorem d_Reader_count_165 : decode prog_1_method_5_code 165 = .ok (.getfield 131, 3) := by decide +kernel
theorem d_Reader_count_168 : decode prog_1_method_5_code 168 = .ok (.getfield 135, 3) := by decide +kernel
theorem d_Reader_count_171 : decode prog_1_method_5_code 171 = .ok (.ireturn, 1) := by decide +kernel
theorem d_Reader_count_172 : decode prog_1_method_5_code 172 = .ok (.aload_n 0, 1) := by decide +kernel
theorem d_Reader_count_173 : decode prog_1_method_5_code 173 = .ok (.getfield 19, 3) := by decide +kernel
theorem d_Reader_count_176 : decode prog_1_method_5_code 176 = .ok (.getfield 138, 3) := by decide +kernel
theorem d_Reader_count_179 : decode prog_1_method_5_code 179 = .ok (.getfield 135, 3) := by decide +kernel
theorem d_Reader_count_182 : decode prog_1_method_5_code 182 = .ok (.ireturn, 1) := by decide +kernel
theorem d_Reader_count_183 : decode prog_1_method_5_code 183 = .ok (.aload_n 0, 1) := by decide +kernel
theorem d_Reader_count_184 : decode prog_1_method_5_code 184 = .ok (.getfield 19, 3) := by decide +kernel
theorem d_Reader_count_187 : decode prog_1_method_5_code 187 = .ok (.getfield 141, 3) := by decide +kernel
theorem d_Reader_count_190 : decode prog_1_method_5_code 190 = .ok (.ireturn, 1) := by decide +kernel
theorem d_Reader_count_191 : decode prog_1_method_5_code 191 = .ok (.new 45, 3) := by decide +kernel
theorem d_Reader_count_194 : decode prog_1_method_5_code 194 = .ok (.dup, 1) := by decide +kernel
theorem d_Reader_count_195 : decode prog_1_method_5_code 195 = .ok (.invokespecial 47, 3) := by decide +kernel
theorem d_Reader_count_198 : decode prog_1_method_5_code 198 = .ok (.athrow, 1) := by decide +kernel
theorem d_Reader_count_7 : decode prog_1_method_5_code 7 = .ok (.new 38, 3) := by decide +kernel
theorem d_Reader_count_10 : decode prog_1_method_5_code 10 = .ok (.dup, 1) := by decide +kernel
theorem d_Reader_count_11 : decode prog_1_method_5_code 11 = .ok (.invokespecial 40, 3) := by decide +kernel
theorem d_Reader_count_14 : decode prog_1_method_5_code 14 = .ok (.athrow, 1) := by decide +kernel
theorem d_Reader_function_0 : decode prog_1_method_6_code 0 = .ok (.aload_n 0, 1) := by decide +kernel
theorem d_Reader_function_1 : decode prog_1_method_6_code 1 = .ok (.getfield 82, 3) := by decide +kernel
theorem d_Reader_function_4 : decode prog_1_method_6_code 4 = .ok (.ifCond .ne 11, 3) := by decide +kernel
theorem d_Reader_function_15 : decode prog_1_method_6_code 15 = .ok (.aload_n 0, 1) := by decide +kernel
theorem d_Reader_function_16 : decode prog_1_method_6_code 16 = .ok (.getfield 19, 3) := by decide +kernel
theorem d_Reader_function_19 : decode prog_1_method_6_code 19 = .ok (.getfield 97, 3) := by decide +kernel
theorem d_Reader_function_22 : decode prog_1_method_6_code 22 = .ok (.astore_n 3, 1) := by decide +kernel
theorem d_Reader_function_23 : decode prog_1_method_6_code 23 = .ok (.aload_n 3, 1) := by decide +kernel
theorem d_Reader_function_24 : decode prog_1_method_6_code 24 = .ok (.iload_n 1, 1) := by decide +kernel
theorem d_Reader_function_25 : decode prog_1_method_6_code 25 = .ok (.invokevirtual 144, 3) := by decide +kernel
theorem d_Reader_function_28 : decode prog_1_method_6_code 28 = .ok (.ifCond .ne 11, 3) := by decide +kernel
set_option maxRecDepth 100000 in
theorem own_IOOBE_150 : (Bundle.ownAtoms0 "WasmReader" 150 "java/lang/IndexOutOfBoundsException" ["java/lang/RuntimeException", "java/lang/Exception"]).all (fun w => decide (w ∈ xtb) || decide (w ∈ xbad)) = true := by decide +kernel
theorem d_Reader_function_31 : decode prog_1_method_6_code 31 = .ok (.new 148, 3) := by decide +kernel
theorem d_Reader_function_34 : decode prog_1_method_6_code 34 = .ok (.dup, 1) := by decide +kernel
theorem d_Reader_function_35 : decode prog_1_method_6_code 35 = .ok (.invokespecial 150, 3) := by decide +kernel
theorem d_Reader_function_38 : decode prog_1_method_6_code 38 = .ok (.athrow, 1) := by decide +kernel
theorem d_Reader_function_39 : decode prog_1_method_6_code 39 = .ok (.iload_n 2, 1) := by decide +kernel
theorem d_Reader_function_40 : decode prog_1_method_6_code 40 = .ok (.tableswitch 69 0 3 #[32, 39, 55, 62], 32) := by decide +kernel
theorem d_Reader_function_72 : decode prog_1_method_6_code 72 = .ok (.aload_n 3, 1) := by decide +kernel
theorem d_Reader_function_73 : decode prog_1_method_6_code 73 = .ok (.getfield 151, 3) := by decide +kernel
theorem d_Reader_function_76 : decode prog_1_method_6_code 76 = .ok (.iload_n 1, 1) := by decide +kernel
theorem d_Reader_function_77 : decode prog_1_method_6_code 77 = .ok (.iaload, 1) := by decide +kernel
theorem d_Reader_function_78 : decode prog_1_method_6_code 78 = .ok (.ireturn, 1) := by decide +kernel
theorem d_Reader_function_79 : decode prog_1_method_6_code 79 = .ok (.aload_n 3, 1) := by decide +kernel
theorem d_Reader_function_80 : decode prog_1_method_6_code 80 = .ok (.getfield 155, 3) := by decide +kernel
theorem d_Reader_function_83 : decode prog_1_method_6_code 83 = .ok (.iload_n 1, 1) := by decide +kernel
theorem d_Reader_function_84 : decode prog_1_method_6_code 84 = .ok (.iaload, 1) := by decide +kernel
theorem d_Reader_function_85 : decode prog_1_method_6_code 85 = .ok (.iconst (-1), 1) := by decide +kernel
theorem d_Reader_function_86 : decode prog_1_method_6_code 86 = .ok (.if_icmp .ne 7, 3) := by decide +kernel
theorem d_Reader_function_93 : decode prog_1_method_6_code 93 = .ok (.iconst 1, 1) := by decide +kernel
theorem d_Reader_function_94 : decode prog_1_method_6_code 94 = .ok (.ireturn, 1) := by decide +kernel
theorem d_Reader_function_89 : decode prog_1_method_6_code 89 = .ok (.iconst 0, 1) := by decide +kernel
theorem d_Reader_function_90 : decode prog_1_method_6_code 90 = .ok (.goto 4, 3) := by decide +kernel
theorem d_Reader_function_95 : decode prog_1_method_6_code 95 = .ok (.aload_n 3, 1) := by decide +kernel
theorem d_Reader_function_96 : decode prog_1_method_6_code 96 = .ok (.getfield 158, 3) := by decide +kernel
theorem d_Reader_function_99 : decode prog_1_method_6_code 99 = .ok (.iload_n 1, 1) := by decide +kernel
theorem d_Reader_function_100 : decode prog_1_method_6_code 100 = .ok (.iaload, 1) := by decide +kernel
theorem d_Reader_function_101 : decode prog_1_method_6_code 101 = .ok (.ireturn, 1) := by decide +kernel
theorem d_Reader_function_102 : decode prog_1_method_6_code 102 = .ok (.aload_n 3, 1) := by decide +kernel
theorem d_Reader_function_103 : decode prog_1_method_6_code 103 = .ok (.getfield 161, 3) := by decide +kernel
theorem d_Reader_function_106 : decode prog_1_method_6_code 106 = .ok (.iload_n 1, 1) := by decide +kernel
theorem d_Reader_function_107 : decode prog_1_method_6_code 107 = .ok (.iaload, 1) := by decide +kernel
theorem d_Reader_function_108 : decode prog_1_method_6_code 108 = .ok (.ireturn, 1) := by decide +kernel
theorem d_Reader_function_109 : decode prog_1_method_6_code 109 = .ok (.iload_n 2, 1) := by decide +kernel
theorem d_Reader_function_110 : decode prog_1_method_6_code 110 = .ok (.bipush 10, 2) := by decide +kernel
theorem d_Reader_function_112 : decode prog_1_method_6_code 112 = .ok (.if_icmp .lt 15, 3) := by decide +kernel
theorem d_Reader_function_127 : decode prog_1_method_6_code 127 = .ok (.new 45, 3) := by decide +kernel
theorem d_Reader_function_130 : decode prog_1_method_6_code 130 = .ok (.dup, 1) := by decide +kernel
theorem d_Reader_function_131 : decode prog_1_method_6_code 131 = .ok (.invokespecial 47, 3) := by decide +kernel
theorem d_Reader_function_134 : decode prog_1_method_6_code 134 = .ok (.athrow, 1) := by decide +kernel
theorem d_Reader_function_115 : decode prog_1_method_6_code 115 = .ok (.aload_n 3, 1) := by decide +kernel
theorem d_Reader_function_116 : decode prog_1_method_6_code 116 = .ok (.iload_n 1, 1) := by decide +kernel
theorem d_Reader_function_117 : decode prog_1_method_6_code 117 = .ok (.iload_n 2, 1) := by decide +kernel
theorem d_Reader_function_118 : decode prog_1_method_6_code 118 = .ok (.bipush 10, 2) := by decide +kernel
theorem d_Reader_function_120 : decode prog_1_method_6_code 120 = .ok (.isub, 1) := by decide +kernel
theorem d_Reader_function_121 : decode prog_1_method_6_code 121 = .ok (.invokevirtual 164, 3) := by decide +kernel
theorem d_Reader_function_124 : decode prog_1_method_6_code 124 = .ok (.ifCond .ne 11, 3) := by decide +kernel
theorem d_Reader_function_135 : decode prog_1_method_6_code 135 = .ok (.aload_n 3, 1) := by decide +kernel
theorem d_Reader_function_136 : decode prog_1_method_6_code 136 = .ok (.iload_n 1, 1) := by decide +kernel
theorem d_Reader_function_137 : decode prog_1_method_6_code 137 = .ok (.iload_n 2, 1) := by decide +kernel
theorem d_Reader_function_138 : decode prog_1_method_6_code 138 = .ok (.bipush 10, 2) := by decide +kernel
theorem d_Reader_function_140 : decode prog_1_method_6_code 140 = .ok (.isub, 1) := by decide +kernel
theorem d_Reader_function_141 : decode prog_1_method_6_code 141 = .ok (.invokevirtual 168, 3) := by decide +kernel
theorem d_Reader_function_144 : decode prog_1_method_6_code 144 = .ok (.ireturn, 1) := by decide +kernel
theorem d_Reader_function_7 : decode prog_1_method_6_code 7 = .ok (.new 38, 3) := by decide +kernel
theorem d_Reader_function_10 : decode prog_1_method_6_code 10 = .ok (.dup, 1) := by decide +kernel
theorem d_Reader_function_11 : decode prog_1_method_6_code 11 = .ok (.invokespecial 40, 3) := by decide +kernel
theorem d_Reader_function_14 : decode prog_1_method_6_code 14 = .ok (.athrow, 1) := by decide +kernel
theorem d_Reader_export_0 : decode prog_1_method_7_code 0 = .ok (.aload_n 0, 1) := by decide +kernel
theorem d_Reader_export_1 : decode prog_1_method_7_code 1 = .ok (.getfield 82, 3) := by decide +kernel
theorem d_Reader_export_4 : decode prog_1_method_7_code 4 = .ok (.ifCond .ne 11, 3) := by decide +kernel
theorem d_Reader_export_15 : decode prog_1_method_7_code 15 = .ok (.aload_n 0, 1) := by decide +kernel
theorem d_Reader_export_16 : decode prog_1_method_7_code 16 = .ok (.getfield 19, 3) := by decide +kernel
theorem d_Reader_export_19 : decode prog_1_method_7_code 19 = .ok (.getfield 114, 3) := by decide +kernel
theorem d_Reader_export_22 : decode prog_1_method_7_code 22 = .ok (.astore_n 3, 1) := by decide +kernel
theorem d_Reader_export_23 : decode prog_1_method_7_code 23 = .ok (.aload_n 3, 1) := by decide +kernel
theorem d_Reader_export_24 : decode prog_1_method_7_code 24 = .ok (.iload_n 1, 1) := by decide +kernel
theorem d_Reader_export_25 : decode prog_1_method_7_code 25 = .ok (.invokevirtual 172, 3) := by decide +kernel
theorem d_Reader_export_28 : decode prog_1_method_7_code 28 = .ok (.ifCond .ne 11, 3) := by decide +kernel
theorem d_Reader_export_31 : decode prog_1_method_7_code 31 = .ok (.new 148, 3) := by decide +kernel
theorem d_Reader_export_34 : decode prog_1_method_7_code 34 = .ok (.dup, 1) := by decide +kernel
theorem d_Reader_export_35 : decode prog_1_method_7_code 35 = .ok (.invokespecial 150, 3) := by decide +kernel
theorem d_Reader_export_38 : decode prog_1_method_7_code 38 = .ok (.athrow, 1) := by decide +kernel
theorem d_Reader_export_39 : decode prog_1_method_7_code 39 = .ok (.iload_n 2, 1) := by decide +kernel
theorem d_Reader_export_40 : decode prog_1_method_7_code 40 = .ok (.tableswitch 49 0 2 #[28, 35, 42], 28) := by decide +kernel
theorem d_Reader_export_68 : decode prog_1_method_7_code 68 = .ok (.aload_n 3, 1) := by decide +kernel
theorem d_Reader_export_69 : decode prog_1_method_7_code 69 = .ok (.getfield 173, 3) := by decide +kernel
theorem d_Reader_export_72 : decode prog_1_method_7_code 72 = .ok (.iload_n 1, 1) := by decide +kernel
theorem d_Reader_export_73 : decode prog_1_method_7_code 73 = .ok (.iaload, 1) := by decide +kernel
theorem d_Reader_export_74 : decode prog_1_method_7_code 74 = .ok (.ireturn, 1) := by decide +kernel
theorem d_Reader_export_75 : decode prog_1_method_7_code 75 = .ok (.aload_n 3, 1) := by decide +kernel
theorem d_Reader_export_76 : decode prog_1_method_7_code 76 = .ok (.getfield 176, 3) := by decide +kernel
theorem d_Reader_export_79 : decode prog_1_method_7_code 79 = .ok (.iload_n 1, 1) := by decide +kernel
theorem d_Reader_export_80 : decode prog_1_method_7_code 80 = .ok (.iaload, 1) := by decide +kernel
theorem d_Reader_export_81 : decode prog_1_method_7_code 81 = .ok (.ireturn, 1) := by decide +kernel
theorem d_Reader_export_82 : decode prog_1_method_7_code 82 = .ok (.aload_n 3, 1) := by decide +kernel
theorem d_Reader_export_83 : decode prog_1_method_7_code 83 = .ok (.getfield 179, 3) := by decide +kernel
theorem d_Reader_export_86 : decode prog_1_method_7_code 86 = .ok (.iload_n 1, 1) := by decide +kernel
theorem d_Reader_export_87 : decode prog_1_method_7_code 87 = .ok (.iaload, 1) := by decide +kernel
theorem d_Reader_export_88 : decode prog_1_method_7_code 88 = .ok (.ireturn, 1) := by decide +kernel
theorem d_Reader_export_89 : decode prog_1_method_7_code 89 = .ok (.iload_n 2, 1) := by decide +kernel
theorem d_Reader_export_90 : decode prog_1_method_7_code 90 = .ok (.bipush 10, 2) := by decide +kernel
theorem d_Reader_export_92 : decode prog_1_method_7_code 92 = .ok (.if_icmp .lt 16, 3) := by decide +kernel
theorem d_Reader_export_108 : decode prog_1_method_7_code 108 = .ok (.new 45, 3) := by decide +kernel
theorem d_Reader_export_111 : decode prog_1_method_7_code 111 = .ok (.dup, 1) := by decide +kernel
theorem d_Reader_export_112 : decode prog_1_method_7_code 112 = .ok (.invokespecial 47, 3) := by decide +kernel
theorem d_Reader_export_115 : decode prog_1_method_7_code 115 = .ok (.athrow, 1) := by decide +kernel
theorem d_Reader_export_95 : decode prog_1_method_7_code 95 = .ok (.iload_n 2, 1) := by decide +kernel
theorem d_Reader_export_96 : decode prog_1_method_7_code 96 = .ok (.bipush 10, 2) := by decide +kernel
theorem d_Reader_export_98 : decode prog_1_method_7_code 98 = .ok (.isub, 1) := by decide +kernel
theorem d_Reader_export_99 : decode prog_1_method_7_code 99 = .ok (.aload_n 3, 1) := by decide +kernel
theorem d_Reader_export_100 : decode prog_1_method_7_code 100 = .ok (.getfield 179, 3) := by decide +kernel
theorem d_Reader_export_103 : decode prog_1_method_7_code 103 = .ok (.iload_n 1, 1) := by decide +kernel
theorem d_Reader_export_104 : decode prog_1_method_7_code 104 = .ok (.iaload, 1) := by decide +kernel
theorem d_Reader_export_105 : decode prog_1_method_7_code 105 = .ok (.if_icmp .lt 11, 3) := by decide +kernel
theorem d_Reader_export_116 : decode prog_1_method_7_code 116 = .ok (.aload_n 3, 1) := by decide +kernel
theorem d_Reader_export_117 : decode prog_1_method_7_code 117 = .ok (.iload_n 1, 1) := by decide +kernel
theorem d_Reader_export_118 : decode prog_1_method_7_code 118 = .ok (.iload_n 2, 1) := by decide +kernel
theorem d_Reader_export_119 : decode prog_1_method_7_code 119 = .ok (.bipush 10, 2) := by decide +kernel
theorem d_Reader_export_121 : decode prog_1_method_7_code 121 = .ok (.isub, 1) := by decide +kernel
theorem d_Reader_export_122 : decode prog_1_method_7_code 122 = .ok (.invokevirtual 182, 3) := by decide +kernel
theorem d_Reader_export_125 : decode prog_1_method_7_code 125 = .ok (.ireturn, 1) := by decide +kernel
theorem d_Reader_export_7 : decode prog_1_method_7_code 7 = .ok (.new 38, 3) := by decide +kernel
theorem d_Reader_export_10 : decode prog_1_method_7_code 10 = .ok (.dup, 1) := by decide +kernel
theorem d_Reader_export_11 : decode prog_1_method_7_code 11 = .ok (.invokespecial 40, 3) := by decide +kernel
theorem d_Reader_export_14 : decode prog_1_method_7_code 14 = .ok (.athrow, 1) := by decide +kernel
theorem d_Reader_global_0 : decode prog_1_method_8_code 0 = .ok (.aload_n 0, 1) := by decide +kernel
theorem d_Reader_global_1 : decode prog_1_method_8_code 1 = .ok (.getfield 82, 3) := by decide +kernel
theorem d_Reader_global_4 : decode prog_1_method_8_code 4 = .ok (.ifCond .ne 11, 3) := by decide +kernel
theorem d_Reader_global_15 : decode prog_1_method_8_code 15 = .ok (.aload_n 0, 1) := by decide +kernel
theorem d_Reader_global_16 : decode prog_1_method_8_code 16 = .ok (.getfield 19, 3) := by decide +kernel
theorem d_Reader_global_19 : decode prog_1_method_8_code 19 = .ok (.getfield 107, 3) := by decide +kernel
theorem d_Reader_global_22 : decode prog_1_method_8_code 22 = .ok (.astore_n 3, 1) := by decide +kernel
theorem d_Reader_global_23 : decode prog_1_method_8_code 23 = .ok (.aload_n 3, 1) := by decide +kernel
theorem d_Reader_global_24 : decode prog_1_method_8_code 24 = .ok (.iload_n 1, 1) := by decide +kernel
theorem d_Reader_global_25 : decode prog_1_method_8_code 25 = .ok (.invokevirtual 185, 3) := by decide +kernel
theorem d_Reader_global_28 : decode prog_1_method_8_code 28 = .ok (.ifCond .ne 11, 3) := by decide +kernel
theorem d_Reader_global_31 : decode prog_1_method_8_code 31 = .ok (.new 148, 3) := by decide +kernel
theorem d_Reader_global_34 : decode prog_1_method_8_code 34 = .ok (.dup, 1) := by decide +kernel
theorem d_Reader_global_35 : decode prog_1_method_8_code 35 = .ok (.invokespecial 150, 3) := by decide +kernel
theorem d_Reader_global_38 : decode prog_1_method_8_code 38 = .ok (.athrow, 1) := by decide +kernel
theorem d_Reader_global_39 : decode prog_1_method_8_code 39 = .ok (.iload_n 2, 1) := by decide +kernel
theorem d_Reader_global_40 : decode prog_1_method_8_code 40 = .ok (.tableswitch 56 0 2 #[28, 35, 50], 28) := by decide +kernel
theorem d_Reader_global_68 : decode prog_1_method_8_code 68 = .ok (.aload_n 3, 1) := by decide +kernel
theorem d_Reader_global_69 : decode prog_1_method_8_code 69 = .ok (.getfield 186, 3) := by decide +kernel
theorem d_Reader_global_72 : decode prog_1_method_8_code 72 = .ok (.iload_n 1, 1) := by decide +kernel
theorem d_Reader_global_73 : decode prog_1_method_8_code 73 = .ok (.iaload, 1) := by decide +kernel
theorem d_Reader_global_74 : decode prog_1_method_8_code 74 = .ok (.ireturn, 1) := by decide +kernel
theorem d_Reader_global_75 : decode prog_1_method_8_code 75 = .ok (.aload_n 3, 1) := by decide +kernel
theorem d_Reader_global_76 : decode prog_1_method_8_code 76 = .ok (.getfield 189, 3) := by decide +kernel
theorem d_Reader_global_79 : decode prog_1_method_8_code 79 = .ok (.iload_n 1, 1) := by decide +kernel
theorem d_Reader_global_80 : decode prog_1_method_8_code 80 = .ok (.baload, 1) := by decide +kernel
theorem d_Reader_global_81 : decode prog_1_method_8_code 81 = .ok (.ifCond .eq 7, 3) := by decide +kernel
theorem d_Reader_global_88 : decode prog_1_method_8_code 88 = .ok (.iconst 0, 1) := by decide +kernel
theorem d_Reader_global_89 : decode prog_1_method_8_code 89 = .ok (.ireturn, 1) := by decide +kernel
theorem d_Reader_global_84 : decode prog_1_method_8_code 84 = .ok (.iconst 1, 1) := by decide +kernel
theorem d_Reader_global_85 : decode prog_1_method_8_code 85 = .ok (.goto 4, 3) := by decide +kernel
theorem d_Reader_global_90 : decode prog_1_method_8_code 90 = .ok (.aload_n 3, 1) := by decide +kernel
theorem d_Reader_global_91 : decode prog_1_method_8_code 91 = .ok (.iload_n 1, 1) := by decide +kernel
theorem d_Reader_global_92 : decode prog_1_method_8_code 92 = .ok (.invokevirtual 192, 3) := by decide +kernel
theorem nm_Globals_origin : x_nm y_Globals_origin 1 = true := by decide +kernel
theorem d_Reader_global_95 : decode prog_1_method_8_code 95 = .ok (.ireturn, 1) := by decide +kernel
theorem d_Reader_global_96 : decode prog_1_method_8_code 96 = .ok (.new 45, 3) := by decide +kernel
theorem d_Reader_global_99 : decode prog_1_method_8_code 99 = .ok (.dup, 1) := by decide +kernel
theorem d_Reader_global_100 : decode prog_1_method_8_code 100 = .ok (.invokespecial 47, 3) := by decide +kernel
theorem d_Reader_global_103 : decode prog_1_method_8_code 103 = .ok (.athrow, 1) := by decide +kernel
theorem d_Reader_global_7 : decode prog_1_method_8_code 7 = .ok (.new 38, 3) := by decide +kernel
theorem d_Reader_global_10 : decode prog_1_method_8_code 10 = .ok (.dup, 1) := by decide +kernel
theorem d_Reader_global_11 : decode prog_1_method_8_code 11 = .ok (.invokespecial 40, 3) := by decide +kernel
theorem d_Reader_global_14 : decode prog_1_method_8_code 14 = .ok (.athrow, 1) := by decide +kernel
theorem d_Reader_initial_0 : decode prog_1_method_9_code 0 = .ok (.aload_n 0, 1) := by decide +kernel
theorem d_Reader_initial_1 : decode prog_1_method_9_code 1 = .ok (.getfield 82, 3) := by decide +kernel
theorem d_Reader_initial_4 : decode prog_1_method_9_code 4 = .ok (.ifCond .ne 11, 3) := by decide +kernel
theorem d_Reader_initial_15 : decode prog_1_method_9_code 15 = .ok (.aload_n 0, 1) := by decide +kernel
theorem d_Reader_initial_16 : decode prog_1_method_9_code 16 = .ok (.getfield 19, 3) := by decide +kernel
theorem d_Reader_initial_19 : decode prog_1_method_9_code 19 = .ok (.getfield 107, 3) := by decide +kernel
theorem d_Reader_initial_22 : decode prog_1_method_9_code 22 = .ok (.iload_n 1, 1) := by decide +kernel
theorem d_Reader_initial_23 : decode prog_1_method_9_code 23 = .ok (.invokevirtual 185, 3) := by decide +kernel
theorem d_Reader_initial_26 : decode prog_1_method_9_code 26 = .ok (.ifCond .ne 11, 3) := by decide +kernel
theorem d_Reader_initial_29 : decode prog_1_method_9_code 29 = .ok (.new 148, 3) := by decide +kernel
theorem d_Reader_initial_32 : decode prog_1_method_9_code 32 = .ok (.dup, 1) := by decide +kernel
theorem d_Reader_initial_33 : decode prog_1_method_9_code 33 = .ok (.invokespecial 150, 3) := by decide +kernel
theorem d_Reader_initial_36 : decode prog_1_method_9_code 36 = .ok (.athrow, 1) := by decide +kernel
theorem d_Reader_initial_37 : decode prog_1_method_9_code 37 = .ok (.aload_n 0, 1) := by decide +kernel
theorem d_Reader_initial_38 : decode prog_1_method_9_code 38 = .ok (.getfield 19, 3) := by decide +kernel
theorem d_Reader_initial_41 : decode prog_1_method_9_code 41 = .ok (.getfield 107, 3) := by decide +kernel
theorem d_Reader_initial_44 : decode prog_1_method_9_code 44 = .ok (.getfield 196, 3) := by decide +kernel
theorem d_Reader_initial_47 : decode prog_1_method_9_code 47 = .ok (.iload_n 1, 1) := by decide +kernel
theorem d_Reader_initial_48 : decode prog_1_method_9_code 48 = .ok (.laload, 1) := by decide +kernel
theorem d_Reader_initial_49 : decode prog_1_method_9_code 49 = .ok (.lreturn, 1) := by decide +kernel
theorem d_Reader_initial_7 : decode prog_1_method_9_code 7 = .ok (.new 38, 3) := by decide +kernel
theorem d_Reader_initial_10 : decode prog_1_method_9_code 10 = .ok (.dup, 1) := by decide +kernel
theorem d_Reader_initial_11 : decode prog_1_method_9_code 11 = .ok (.invokespecial 40, 3) := by decide +kernel
theorem d_Reader_initial_14 : decode prog_1_method_9_code 14 = .ok (.athrow, 1) := by decide +kernel
