def y_Cursor_init : MethodName := ⟨"WasmReader$Cursor", "<init>", "()V"⟩
def y_Types_init : MethodName := ⟨"WasmReader$Types", "<init>", "()V"⟩
def y_Functions_init : MethodName := ⟨"WasmReader$Functions", "<init>", "()V"⟩
def y_Globals_init : MethodName := ⟨"WasmReader$Globals", "<init>", "()V"⟩
def y_Exports_init : MethodName := ⟨"WasmReader$Exports", "<init>", "()V"⟩
def y_Segments_init : MethodName := ⟨"WasmReader$Segments", "<init>", "()V"⟩
def y_Sized_init : MethodName := ⟨"WasmReader$Sized", "<init>", "()V"⟩
def y_TypeStack_init : MethodName := ⟨"WasmReader$TypeStack", "<init>", "()V"⟩
def y_WasmModule_init : MethodName := ⟨"WasmReader$WasmModule", "<init>", "()V"⟩
def y_Reader_init : MethodName := ⟨"WasmReader", "<init>", "()V"⟩
def y_Unit_init : MethodName := ⟨"WasmReaderModel$Unit", "<init>", "()V"⟩
def y_Model_init : MethodName := ⟨"WasmReaderModel", "<init>", "()V"⟩
theorem m_0 : Cond.fieldLink "WasmReader$Cursor" 9 "WasmReader$Cursor" "bytes" "[B" ∈ xtb := x_in (List.mem_of_getElem? (i := 125) (by decide +kernel)) (by decide +kernel)
theorem m_1 : Cond.methodLink "WasmReader$Cursor" 3 objectInit ∈ xtb := x_in (List.mem_of_getElem? (i := 124) (by decide +kernel)) (by decide +kernel)
theorem m_2 : Cond.instanceMethod objectInit ∈ xtb := x_in (List.mem_of_getElem? (i := 117) (by decide +kernel)) (by decide +kernel)
theorem m_3 : Cond.code objectInit ⟨#[0xb1]⟩ 1 none ∈ xtb := x_in (List.mem_of_getElem? (i := 118) (by decide +kernel)) (by decide +kernel)
theorem m_4 : Cond.arrayClass .byte ∈ xtb := x_in (List.mem_of_getElem? (i := 147) (by decide +kernel)) (by decide +kernel)
theorem m_5 : Cond.fieldLink "WasmReader$Types" 9 "WasmReader$Types" "parameters" "[I" ∈ xtb := x_in (List.mem_of_getElem? (i := 163) (by decide +kernel)) (by decide +kernel)
theorem m_6 : Cond.fieldLink "WasmReader$Types" 15 "WasmReader$Types" "longs" "[I" ∈ xtb := x_in (List.mem_of_getElem? (i := 166) (by decide +kernel)) (by decide +kernel)
theorem m_7 : Cond.fieldLink "WasmReader$Types" 18 "WasmReader$Types" "result" "[I" ∈ xtb := x_in (List.mem_of_getElem? (i := 169) (by decide +kernel)) (by decide +kernel)
theorem m_8 : Cond.methodLink "WasmReader$Types" 3 objectInit ∈ xtb := x_in (List.mem_of_getElem? (i := 159) (by decide +kernel)) (by decide +kernel)
theorem m_9 : Cond.arrayClass .int ∈ xtb := x_in (List.mem_of_getElem? (i := 181) (by decide +kernel)) (by decide +kernel)
theorem m_10 : Cond.fieldLink "WasmReader$Functions" 9 "WasmReader$Functions" "type" "[I" ∈ xtb := x_in (List.mem_of_getElem? (i := 199) (by decide +kernel)) (by decide +kernel)
theorem m_11 : Cond.fieldLink "WasmReader$Functions" 15 "WasmReader$Functions" "parameters" "[I" ∈ xtb := x_in (List.mem_of_getElem? (i := 201) (by decide +kernel)) (by decide +kernel)
theorem m_12 : Cond.fieldLink "WasmReader$Functions" 18 "WasmReader$Functions" "result" "[I" ∈ xtb := x_in (List.mem_of_getElem? (i := 204) (by decide +kernel)) (by decide +kernel)
theorem m_13 : Cond.fieldLink "WasmReader$Functions" 21 "WasmReader$Functions" "locals" "[I" ∈ xtb := x_in (List.mem_of_getElem? (i := 207) (by decide +kernel)) (by decide +kernel)
theorem m_14 : Cond.fieldLink "WasmReader$Functions" 24 "WasmReader$Functions" "longs" "[I" ∈ xtb := x_in (List.mem_of_getElem? (i := 209) (by decide +kernel)) (by decide +kernel)
theorem m_15 : Cond.fieldLink "WasmReader$Functions" 27 "WasmReader$Functions" "bodyStart" "[I" ∈ xtb := x_in (List.mem_of_getElem? (i := 210) (by decide +kernel)) (by decide +kernel)
theorem m_16 : Cond.fieldLink "WasmReader$Functions" 30 "WasmReader$Functions" "bodyBytes" "[I" ∈ xtb := x_in (List.mem_of_getElem? (i := 212) (by decide +kernel)) (by decide +kernel)
theorem m_17 : Cond.methodLink "WasmReader$Functions" 3 objectInit ∈ xtb := x_in (List.mem_of_getElem? (i := 187) (by decide +kernel)) (by decide +kernel)
theorem m_18 : Cond.fieldLink "WasmReader$Globals" 9 "WasmReader$Globals" "type" "[I" ∈ xtb := x_in (List.mem_of_getElem? (i := 250) (by decide +kernel)) (by decide +kernel)
theorem m_19 : Cond.fieldLink "WasmReader$Globals" 15 "WasmReader$Globals" "mutable" "[Z" ∈ xtb := x_in (List.mem_of_getElem? (i := 253) (by decide +kernel)) (by decide +kernel)
theorem m_20 : Cond.fieldLink "WasmReader$Globals" 19 "WasmReader$Globals" "initialOpcode" "[I" ∈ xtb := x_in (List.mem_of_getElem? (i := 256) (by decide +kernel)) (by decide +kernel)
theorem m_21 : Cond.fieldLink "WasmReader$Globals" 22 "WasmReader$Globals" "initialValue" "[J" ∈ xtb := x_in (List.mem_of_getElem? (i := 258) (by decide +kernel)) (by decide +kernel)
theorem m_22 : Cond.methodLink "WasmReader$Globals" 3 objectInit ∈ xtb := x_in (List.mem_of_getElem? (i := 241) (by decide +kernel)) (by decide +kernel)
theorem m_23 : Cond.arrayClass .boolean ∈ xtb := x_in (List.mem_of_getElem? (i := 274) (by decide +kernel)) (by decide +kernel)
theorem m_24 : Cond.arrayClass .long ∈ xtb := x_in (List.mem_of_getElem? (i := 275) (by decide +kernel)) (by decide +kernel)
theorem m_25 : Cond.fieldLink "WasmReader$Exports" 9 "WasmReader$Exports" "sort" "[I" ∈ xtb := x_in (List.mem_of_getElem? (i := 285) (by decide +kernel)) (by decide +kernel)
theorem m_26 : Cond.fieldLink "WasmReader$Exports" 15 "WasmReader$Exports" "number" "[I" ∈ xtb := x_in (List.mem_of_getElem? (i := 288) (by decide +kernel)) (by decide +kernel)
theorem m_27 : Cond.fieldLink "WasmReader$Exports" 18 "WasmReader$Exports" "nameLength" "[I" ∈ xtb := x_in (List.mem_of_getElem? (i := 291) (by decide +kernel)) (by decide +kernel)
theorem m_28 : Cond.fieldLink "WasmReader$Exports" 21 "WasmReader$Exports" "names" "[B" ∈ xtb := x_in (List.mem_of_getElem? (i := 293) (by decide +kernel)) (by decide +kernel)
theorem m_29 : Cond.methodLink "WasmReader$Exports" 3 objectInit ∈ xtb := x_in (List.mem_of_getElem? (i := 281) (by decide +kernel)) (by decide +kernel)
theorem m_30 : Cond.fieldLink "WasmReader$Segments" 9 "WasmReader$Segments" "target" "[I" ∈ xtb := x_in (List.mem_of_getElem? (i := 315) (by decide +kernel)) (by decide +kernel)
theorem m_31 : Cond.fieldLink "WasmReader$Segments" 15 "WasmReader$Segments" "offsetOpcode" "[I" ∈ xtb := x_in (List.mem_of_getElem? (i := 317) (by decide +kernel)) (by decide +kernel)
theorem m_32 : Cond.fieldLink "WasmReader$Segments" 18 "WasmReader$Segments" "offsetValue" "[J" ∈ xtb := x_in (List.mem_of_getElem? (i := 319) (by decide +kernel)) (by decide +kernel)
theorem m_33 : Cond.fieldLink "WasmReader$Segments" 22 "WasmReader$Segments" "highest" "[I" ∈ xtb := x_in (List.mem_of_getElem? (i := 321) (by decide +kernel)) (by decide +kernel)
theorem m_34 : Cond.methodLink "WasmReader$Segments" 3 objectInit ∈ xtb := x_in (List.mem_of_getElem? (i := 310) (by decide +kernel)) (by decide +kernel)
theorem m_35 : Cond.methodLink "WasmReader$Sized" 1 objectInit ∈ xtb := x_in (List.mem_of_getElem? (i := 339) (by decide +kernel)) (by decide +kernel)
theorem m_36 : Cond.fieldLink "WasmReader$TypeStack" 9 "WasmReader$TypeStack" "operands" "[B" ∈ xtb := x_in (List.mem_of_getElem? (i := 424) (by decide +kernel)) (by decide +kernel)
theorem m_37 : Cond.fieldLink "WasmReader$TypeStack" 15 "WasmReader$TypeStack" "opener" "[I" ∈ xtb := x_in (List.mem_of_getElem? (i := 425) (by decide +kernel)) (by decide +kernel)
theorem m_38 : Cond.fieldLink "WasmReader$TypeStack" 19 "WasmReader$TypeStack" "result" "[I" ∈ xtb := x_in (List.mem_of_getElem? (i := 426) (by decide +kernel)) (by decide +kernel)
theorem m_39 : Cond.fieldLink "WasmReader$TypeStack" 22 "WasmReader$TypeStack" "floor" "[I" ∈ xtb := x_in (List.mem_of_getElem? (i := 427) (by decide +kernel)) (by decide +kernel)
theorem m_40 : Cond.fieldLink "WasmReader$TypeStack" 25 "WasmReader$TypeStack" "unreachable" "[Z" ∈ xtb := x_in (List.mem_of_getElem? (i := 428) (by decide +kernel)) (by decide +kernel)
theorem m_41 : Cond.methodLink "WasmReader$TypeStack" 3 objectInit ∈ xtb := x_in (List.mem_of_getElem? (i := 423) (by decide +kernel)) (by decide +kernel)
theorem m_42 : Cond.fieldLink "WasmReader$WasmModule" 12 "WasmReader$WasmModule" "types" "LWasmReader$Types;" ∈ xtb := x_in (List.mem_of_getElem? (i := 354) (by decide +kernel)) (by decide +kernel)
theorem m_43 : Cond.fieldLink "WasmReader$WasmModule" 21 "WasmReader$WasmModule" "functions" "LWasmReader$Functions;" ∈ xtb := x_in (List.mem_of_getElem? (i := 358) (by decide +kernel)) (by decide +kernel)
theorem m_44 : Cond.fieldLink "WasmReader$WasmModule" 28 "WasmReader$WasmModule" "globals" "LWasmReader$Globals;" ∈ xtb := x_in (List.mem_of_getElem? (i := 362) (by decide +kernel)) (by decide +kernel)
theorem m_45 : Cond.fieldLink "WasmReader$WasmModule" 35 "WasmReader$WasmModule" "exports" "LWasmReader$Exports;" ∈ xtb := x_in (List.mem_of_getElem? (i := 366) (by decide +kernel)) (by decide +kernel)
theorem m_46 : Cond.fieldLink "WasmReader$WasmModule" 42 "WasmReader$WasmModule" "elements" "LWasmReader$Segments;" ∈ xtb := x_in (List.mem_of_getElem? (i := 370) (by decide +kernel)) (by decide +kernel)
theorem m_47 : Cond.fieldLink "WasmReader$WasmModule" 46 "WasmReader$WasmModule" "data" "LWasmReader$Segments;" ∈ xtb := x_in (List.mem_of_getElem? (i := 374) (by decide +kernel)) (by decide +kernel)
theorem m_48 : Cond.fieldLink "WasmReader$WasmModule" 52 "WasmReader$WasmModule" "tables" "LWasmReader$Sized;" ∈ xtb := x_in (List.mem_of_getElem? (i := 378) (by decide +kernel)) (by decide +kernel)
theorem m_49 : Cond.fieldLink "WasmReader$WasmModule" 56 "WasmReader$WasmModule" "memories" "LWasmReader$Sized;" ∈ xtb := x_in (List.mem_of_getElem? (i := 382) (by decide +kernel)) (by decide +kernel)
theorem m_50 : Cond.methodLink "WasmReader$WasmModule" 3 objectInit ∈ xtb := x_in (List.mem_of_getElem? (i := 153) (by decide +kernel)) (by decide +kernel)
theorem m_51 : Cond.classLink "WasmReader$WasmModule" 9 "WasmReader$Types" ∈ xtb := x_in (List.mem_of_getElem? (i := 154) (by decide +kernel)) (by decide +kernel)
theorem m_52 : Cond.instantiable "WasmReader$Types" 4 ∈ xtb := x_in (List.mem_of_getElem? (i := 155) (by decide +kernel)) (by decide +kernel)
theorem m_53 : Cond.initialized "WasmReader$Types" ∈ xtb := x_in (List.mem_of_getElem? (i := 91) (by decide +kernel)) (by decide +kernel)
theorem m_54 : Cond.methodLinkNest "WasmReader$WasmModule" 11 y_Types_init "WasmReader" ∈ xtb := x_in (List.mem_of_getElem? (i := 156) (by decide +kernel)) (by decide +kernel)
theorem m_55 : Cond.code y_Types_init prog_10_method_1_code 1 none ∈ xtb := x_in (List.mem_of_getElem? (i := 158) (by decide +kernel)) (by decide +kernel)
theorem m_56 : Cond.instanceMethod y_Types_init ∈ xtb := x_in (List.mem_of_getElem? (i := 157) (by decide +kernel)) (by decide +kernel)
theorem m_57 : Cond.classLink "WasmReader$WasmModule" 18 "WasmReader$Functions" ∈ xtb := x_in (List.mem_of_getElem? (i := 182) (by decide +kernel)) (by decide +kernel)
theorem m_58 : Cond.instantiable "WasmReader$Functions" 10 ∈ xtb := x_in (List.mem_of_getElem? (i := 183) (by decide +kernel)) (by decide +kernel)
theorem m_59 : Cond.initialized "WasmReader$Functions" ∈ xtb := x_in (List.mem_of_getElem? (i := 92) (by decide +kernel)) (by decide +kernel)
theorem m_60 : Cond.methodLinkNest "WasmReader$WasmModule" 20 y_Functions_init "WasmReader" ∈ xtb := x_in (List.mem_of_getElem? (i := 184) (by decide +kernel)) (by decide +kernel)
theorem m_61 : Cond.code y_Functions_init prog_4_method_1_code 1 none ∈ xtb := x_in (List.mem_of_getElem? (i := 186) (by decide +kernel)) (by decide +kernel)
theorem m_62 : Cond.instanceMethod y_Functions_init ∈ xtb := x_in (List.mem_of_getElem? (i := 185) (by decide +kernel)) (by decide +kernel)
theorem m_63 : Cond.classLink "WasmReader$WasmModule" 25 "WasmReader$Globals" ∈ xtb := x_in (List.mem_of_getElem? (i := 236) (by decide +kernel)) (by decide +kernel)
theorem m_64 : Cond.instantiable "WasmReader$Globals" 6 ∈ xtb := x_in (List.mem_of_getElem? (i := 237) (by decide +kernel)) (by decide +kernel)
theorem m_65 : Cond.initialized "WasmReader$Globals" ∈ xtb := x_in (List.mem_of_getElem? (i := 93) (by decide +kernel)) (by decide +kernel)
theorem m_66 : Cond.methodLinkNest "WasmReader$WasmModule" 27 y_Globals_init "WasmReader" ∈ xtb := x_in (List.mem_of_getElem? (i := 238) (by decide +kernel)) (by decide +kernel)
theorem m_67 : Cond.code y_Globals_init prog_5_method_1_code 1 none ∈ xtb := x_in (List.mem_of_getElem? (i := 240) (by decide +kernel)) (by decide +kernel)
theorem m_68 : Cond.instanceMethod y_Globals_init ∈ xtb := x_in (List.mem_of_getElem? (i := 239) (by decide +kernel)) (by decide +kernel)
theorem m_69 : Cond.classLink "WasmReader$WasmModule" 32 "WasmReader$Exports" ∈ xtb := x_in (List.mem_of_getElem? (i := 276) (by decide +kernel)) (by decide +kernel)
theorem m_70 : Cond.instantiable "WasmReader$Exports" 5 ∈ xtb := x_in (List.mem_of_getElem? (i := 277) (by decide +kernel)) (by decide +kernel)
theorem m_71 : Cond.initialized "WasmReader$Exports" ∈ xtb := x_in (List.mem_of_getElem? (i := 94) (by decide +kernel)) (by decide +kernel)
theorem m_72 : Cond.methodLinkNest "WasmReader$WasmModule" 34 y_Exports_init "WasmReader" ∈ xtb := x_in (List.mem_of_getElem? (i := 278) (by decide +kernel)) (by decide +kernel)
theorem m_73 : Cond.code y_Exports_init prog_3_method_1_code 1 none ∈ xtb := x_in (List.mem_of_getElem? (i := 280) (by decide +kernel)) (by decide +kernel)
theorem m_74 : Cond.instanceMethod y_Exports_init ∈ xtb := x_in (List.mem_of_getElem? (i := 279) (by decide +kernel)) (by decide +kernel)
theorem m_75 : Cond.classLink "WasmReader$WasmModule" 39 "WasmReader$Segments" ∈ xtb := x_in (List.mem_of_getElem? (i := 305) (by decide +kernel)) (by decide +kernel)
theorem m_76 : Cond.instantiable "WasmReader$Segments" 5 ∈ xtb := x_in (List.mem_of_getElem? (i := 306) (by decide +kernel)) (by decide +kernel)
theorem m_77 : Cond.initialized "WasmReader$Segments" ∈ xtb := x_in (List.mem_of_getElem? (i := 95) (by decide +kernel)) (by decide +kernel)
theorem m_78 : Cond.methodLinkNest "WasmReader$WasmModule" 41 y_Segments_init "WasmReader" ∈ xtb := x_in (List.mem_of_getElem? (i := 307) (by decide +kernel)) (by decide +kernel)
theorem m_79 : Cond.code y_Segments_init prog_7_method_1_code 1 none ∈ xtb := x_in (List.mem_of_getElem? (i := 309) (by decide +kernel)) (by decide +kernel)
theorem m_80 : Cond.instanceMethod y_Segments_init ∈ xtb := x_in (List.mem_of_getElem? (i := 308) (by decide +kernel)) (by decide +kernel)
theorem m_81 : Cond.classLink "WasmReader$WasmModule" 49 "WasmReader$Sized" ∈ xtb := x_in (List.mem_of_getElem? (i := 334) (by decide +kernel)) (by decide +kernel)
theorem m_82 : Cond.instantiable "WasmReader$Sized" 3 ∈ xtb := x_in (List.mem_of_getElem? (i := 335) (by decide +kernel)) (by decide +kernel)
theorem m_83 : Cond.initialized "WasmReader$Sized" ∈ xtb := x_in (List.mem_of_getElem? (i := 96) (by decide +kernel)) (by decide +kernel)
theorem m_84 : Cond.methodLinkNest "WasmReader$WasmModule" 51 y_Sized_init "WasmReader" ∈ xtb := x_in (List.mem_of_getElem? (i := 336) (by decide +kernel)) (by decide +kernel)
theorem m_85 : Cond.code y_Sized_init prog_8_method_1_code 1 none ∈ xtb := x_in (List.mem_of_getElem? (i := 338) (by decide +kernel)) (by decide +kernel)
theorem m_86 : Cond.instanceMethod y_Sized_init ∈ xtb := x_in (List.mem_of_getElem? (i := 337) (by decide +kernel)) (by decide +kernel)
theorem m_87 : Cond.fieldLink "WasmReader" 10 "WasmReader" "cursor" "LWasmReader$Cursor;" ∈ xtb := x_in (List.mem_of_getElem? (i := 450) (by decide +kernel)) (by decide +kernel)
theorem m_88 : Cond.fieldLink "WasmReader" 19 "WasmReader" "module" "LWasmReader$WasmModule;" ∈ xtb := x_in (List.mem_of_getElem? (i := 451) (by decide +kernel)) (by decide +kernel)
theorem m_89 : Cond.fieldLink "WasmReader" 23 "WasmReader" "elseMayCome" "[Z" ∈ xtb := x_in (List.mem_of_getElem? (i := 452) (by decide +kernel)) (by decide +kernel)
theorem m_90 : Cond.fieldLink "WasmReader" 30 "WasmReader" "stack" "LWasmReader$TypeStack;" ∈ xtb := x_in (List.mem_of_getElem? (i := 453) (by decide +kernel)) (by decide +kernel)
theorem m_91 : Cond.methodLink "WasmReader" 1 objectInit ∈ xtb := x_in (List.mem_of_getElem? (i := 116) (by decide +kernel)) (by decide +kernel)
theorem m_92 : Cond.classLink "WasmReader" 7 "WasmReader$Cursor" ∈ xtb := x_in (List.mem_of_getElem? (i := 119) (by decide +kernel)) (by decide +kernel)
theorem m_93 : Cond.instantiable "WasmReader$Cursor" 5 ∈ xtb := x_in (List.mem_of_getElem? (i := 120) (by decide +kernel)) (by decide +kernel)
theorem m_94 : Cond.initialized "WasmReader$Cursor" ∈ xtb := x_in (List.mem_of_getElem? (i := 89) (by decide +kernel)) (by decide +kernel)
theorem m_95 : Cond.methodLinkNest "WasmReader" 9 y_Cursor_init "WasmReader" ∈ xtb := x_in (List.mem_of_getElem? (i := 121) (by decide +kernel)) (by decide +kernel)
theorem m_96 : Cond.code y_Cursor_init prog_2_method_1_code 1 none ∈ xtb := x_in (List.mem_of_getElem? (i := 123) (by decide +kernel)) (by decide +kernel)
theorem m_97 : Cond.instanceMethod y_Cursor_init ∈ xtb := x_in (List.mem_of_getElem? (i := 122) (by decide +kernel)) (by decide +kernel)
theorem m_98 : Cond.classLink "WasmReader" 16 "WasmReader$WasmModule" ∈ xtb := x_in (List.mem_of_getElem? (i := 148) (by decide +kernel)) (by decide +kernel)
theorem m_99 : Cond.instantiable "WasmReader$WasmModule" 11 ∈ xtb := x_in (List.mem_of_getElem? (i := 149) (by decide +kernel)) (by decide +kernel)
theorem m_100 : Cond.initialized "WasmReader$WasmModule" ∈ xtb := x_in (List.mem_of_getElem? (i := 90) (by decide +kernel)) (by decide +kernel)
theorem m_101 : Cond.methodLinkNest "WasmReader" 18 y_WasmModule_init "WasmReader" ∈ xtb := x_in (List.mem_of_getElem? (i := 150) (by decide +kernel)) (by decide +kernel)
theorem m_102 : Cond.code y_WasmModule_init prog_12_method_1_code 1 none ∈ xtb := x_in (List.mem_of_getElem? (i := 152) (by decide +kernel)) (by decide +kernel)
theorem m_103 : Cond.instanceMethod y_WasmModule_init ∈ xtb := x_in (List.mem_of_getElem? (i := 151) (by decide +kernel)) (by decide +kernel)
theorem m_104 : Cond.classLink "WasmReader" 27 "WasmReader$TypeStack" ∈ xtb := x_in (List.mem_of_getElem? (i := 418) (by decide +kernel)) (by decide +kernel)
theorem m_105 : Cond.instantiable "WasmReader$TypeStack" 8 ∈ xtb := x_in (List.mem_of_getElem? (i := 419) (by decide +kernel)) (by decide +kernel)
theorem m_106 : Cond.initialized "WasmReader$TypeStack" ∈ xtb := x_in (List.mem_of_getElem? (i := 97) (by decide +kernel)) (by decide +kernel)
theorem m_107 : Cond.methodLinkNest "WasmReader" 29 y_TypeStack_init "WasmReader" ∈ xtb := x_in (List.mem_of_getElem? (i := 420) (by decide +kernel)) (by decide +kernel)
theorem m_108 : Cond.code y_TypeStack_init prog_9_method_1_code 1 none ∈ xtb := x_in (List.mem_of_getElem? (i := 422) (by decide +kernel)) (by decide +kernel)
theorem m_109 : Cond.instanceMethod y_TypeStack_init ∈ xtb := x_in (List.mem_of_getElem? (i := 421) (by decide +kernel)) (by decide +kernel)
theorem m_110 : Cond.fieldLink "WasmReaderModel$Unit" 9 "WasmReaderModel$Unit" "b" "[B" ∈ xtb := x_in (List.mem_of_getElem? (i := 1111) (by decide +kernel)) (by decide +kernel)
theorem m_111 : Cond.fieldLink "WasmReaderModel$Unit" 15 "WasmReaderModel$Unit" "params" "[I" ∈ xtb := x_in (List.mem_of_getElem? (i := 1126) (by decide +kernel)) (by decide +kernel)
theorem m_112 : Cond.fieldLink "WasmReaderModel$Unit" 19 "WasmReaderModel$Unit" "param" "[I" ∈ xtb := x_in (List.mem_of_getElem? (i := 1128) (by decide +kernel)) (by decide +kernel)
theorem m_113 : Cond.fieldLink "WasmReaderModel$Unit" 22 "WasmReaderModel$Unit" "result" "[I" ∈ xtb := x_in (List.mem_of_getElem? (i := 1130) (by decide +kernel)) (by decide +kernel)
theorem m_114 : Cond.fieldLink "WasmReaderModel$Unit" 25 "WasmReaderModel$Unit" "iModule" "[I" ∈ xtb := x_in (List.mem_of_getElem? (i := 1132) (by decide +kernel)) (by decide +kernel)
theorem m_115 : Cond.fieldLink "WasmReaderModel$Unit" 28 "WasmReaderModel$Unit" "iModuleLong" "[I" ∈ xtb := x_in (List.mem_of_getElem? (i := 1134) (by decide +kernel)) (by decide +kernel)
theorem m_116 : Cond.fieldLink "WasmReaderModel$Unit" 31 "WasmReaderModel$Unit" "iName" "[I" ∈ xtb := x_in (List.mem_of_getElem? (i := 1136) (by decide +kernel)) (by decide +kernel)
theorem m_117 : Cond.fieldLink "WasmReaderModel$Unit" 34 "WasmReaderModel$Unit" "iNameLong" "[I" ∈ xtb := x_in (List.mem_of_getElem? (i := 1138) (by decide +kernel)) (by decide +kernel)
theorem m_118 : Cond.fieldLink "WasmReaderModel$Unit" 37 "WasmReaderModel$Unit" "iSort" "[I" ∈ xtb := x_in (List.mem_of_getElem? (i := 1140) (by decide +kernel)) (by decide +kernel)
theorem m_119 : Cond.fieldLink "WasmReaderModel$Unit" 40 "WasmReaderModel$Unit" "iFirst" "[I" ∈ xtb := x_in (List.mem_of_getElem? (i := 1142) (by decide +kernel)) (by decide +kernel)
theorem m_120 : Cond.fieldLink "WasmReaderModel$Unit" 43 "WasmReaderModel$Unit" "iSecond" "[J" ∈ xtb := x_in (List.mem_of_getElem? (i := 1144) (by decide +kernel)) (by decide +kernel)
theorem m_121 : Cond.fieldLink "WasmReaderModel$Unit" 47 "WasmReaderModel$Unit" "fType" "[I" ∈ xtb := x_in (List.mem_of_getElem? (i := 1146) (by decide +kernel)) (by decide +kernel)
theorem m_122 : Cond.fieldLink "WasmReaderModel$Unit" 50 "WasmReaderModel$Unit" "fImport" "[I" ∈ xtb := x_in (List.mem_of_getElem? (i := 1148) (by decide +kernel)) (by decide +kernel)
theorem m_123 : Cond.fieldLink "WasmReaderModel$Unit" 53 "WasmReaderModel$Unit" "gType" "[I" ∈ xtb := x_in (List.mem_of_getElem? (i := 1150) (by decide +kernel)) (by decide +kernel)
theorem m_124 : Cond.fieldLink "WasmReaderModel$Unit" 56 "WasmReaderModel$Unit" "gImport" "[I" ∈ xtb := x_in (List.mem_of_getElem? (i := 1152) (by decide +kernel)) (by decide +kernel)
theorem m_125 : Cond.fieldLink "WasmReaderModel$Unit" 59 "WasmReaderModel$Unit" "gOp" "[I" ∈ xtb := x_in (List.mem_of_getElem? (i := 1154) (by decide +kernel)) (by decide +kernel)
theorem m_126 : Cond.fieldLink "WasmReaderModel$Unit" 62 "WasmReaderModel$Unit" "gMutable" "[Z" ∈ xtb := x_in (List.mem_of_getElem? (i := 1156) (by decide +kernel)) (by decide +kernel)
theorem m_127 : Cond.fieldLink "WasmReaderModel$Unit" 66 "WasmReaderModel$Unit" "gValue" "[J" ∈ xtb := x_in (List.mem_of_getElem? (i := 1158) (by decide +kernel)) (by decide +kernel)
theorem m_128 : Cond.fieldLink "WasmReaderModel$Unit" 69 "WasmReaderModel$Unit" "eName" "[I" ∈ xtb := x_in (List.mem_of_getElem? (i := 1166) (by decide +kernel)) (by decide +kernel)
theorem m_129 : Cond.fieldLink "WasmReaderModel$Unit" 72 "WasmReaderModel$Unit" "eNameLong" "[I" ∈ xtb := x_in (List.mem_of_getElem? (i := 1168) (by decide +kernel)) (by decide +kernel)
theorem m_130 : Cond.fieldLink "WasmReaderModel$Unit" 75 "WasmReaderModel$Unit" "eSort" "[I" ∈ xtb := x_in (List.mem_of_getElem? (i := 1170) (by decide +kernel)) (by decide +kernel)
theorem m_131 : Cond.fieldLink "WasmReaderModel$Unit" 78 "WasmReaderModel$Unit" "eIndex" "[I" ∈ xtb := x_in (List.mem_of_getElem? (i := 1172) (by decide +kernel)) (by decide +kernel)
theorem m_132 : Cond.fieldLink "WasmReaderModel$Unit" 81 "WasmReaderModel$Unit" "sOp" "[I" ∈ xtb := x_in (List.mem_of_getElem? (i := 1174) (by decide +kernel)) (by decide +kernel)
theorem m_133 : Cond.fieldLink "WasmReaderModel$Unit" 84 "WasmReaderModel$Unit" "sMany" "[I" ∈ xtb := x_in (List.mem_of_getElem? (i := 1176) (by decide +kernel)) (by decide +kernel)
theorem m_134 : Cond.fieldLink "WasmReaderModel$Unit" 87 "WasmReaderModel$Unit" "sAt" "[I" ∈ xtb := x_in (List.mem_of_getElem? (i := 1178) (by decide +kernel)) (by decide +kernel)
theorem m_135 : Cond.fieldLink "WasmReaderModel$Unit" 90 "WasmReaderModel$Unit" "sIndex" "[I" ∈ xtb := x_in (List.mem_of_getElem? (i := 1180) (by decide +kernel)) (by decide +kernel)
theorem m_136 : Cond.fieldLink "WasmReaderModel$Unit" 93 "WasmReaderModel$Unit" "dOp" "[I" ∈ xtb := x_in (List.mem_of_getElem? (i := 1182) (by decide +kernel)) (by decide +kernel)
theorem m_137 : Cond.fieldLink "WasmReaderModel$Unit" 96 "WasmReaderModel$Unit" "dMany" "[I" ∈ xtb := x_in (List.mem_of_getElem? (i := 1184) (by decide +kernel)) (by decide +kernel)
theorem m_138 : Cond.fieldLink "WasmReaderModel$Unit" 99 "WasmReaderModel$Unit" "dAt" "[I" ∈ xtb := x_in (List.mem_of_getElem? (i := 1186) (by decide +kernel)) (by decide +kernel)
theorem m_139 : Cond.fieldLink "WasmReaderModel$Unit" 102 "WasmReaderModel$Unit" "dIndex" "[I" ∈ xtb := x_in (List.mem_of_getElem? (i := 1188) (by decide +kernel)) (by decide +kernel)
theorem m_140 : Cond.fieldLink "WasmReaderModel$Unit" 105 "WasmReaderModel$Unit" "sValue" "[J" ∈ xtb := x_in (List.mem_of_getElem? (i := 1190) (by decide +kernel)) (by decide +kernel)
theorem m_141 : Cond.fieldLink "WasmReaderModel$Unit" 108 "WasmReaderModel$Unit" "dValue" "[J" ∈ xtb := x_in (List.mem_of_getElem? (i := 1192) (by decide +kernel)) (by decide +kernel)
theorem m_142 : Cond.fieldLink "WasmReaderModel$Unit" 111 "WasmReaderModel$Unit" "bAt" "[I" ∈ xtb := x_in (List.mem_of_getElem? (i := 1194) (by decide +kernel)) (by decide +kernel)
theorem m_143 : Cond.fieldLink "WasmReaderModel$Unit" 114 "WasmReaderModel$Unit" "bEnd" "[I" ∈ xtb := x_in (List.mem_of_getElem? (i := 1196) (by decide +kernel)) (by decide +kernel)
theorem m_144 : Cond.fieldLink "WasmReaderModel$Unit" 117 "WasmReaderModel$Unit" "bLocals" "[I" ∈ xtb := x_in (List.mem_of_getElem? (i := 1198) (by decide +kernel)) (by decide +kernel)
theorem m_145 : Cond.fieldLink "WasmReaderModel$Unit" 120 "WasmReaderModel$Unit" "local" "[I" ∈ xtb := x_in (List.mem_of_getElem? (i := 1200) (by decide +kernel)) (by decide +kernel)
theorem m_146 : Cond.fieldLink "WasmReaderModel$Unit" 123 "WasmReaderModel$Unit" "otherwise" "[I" ∈ xtb := x_in (List.mem_of_getElem? (i := 1202) (by decide +kernel)) (by decide +kernel)
theorem m_147 : Cond.fieldLink "WasmReaderModel$Unit" 126 "WasmReaderModel$Unit" "ends" "[I" ∈ xtb := x_in (List.mem_of_getElem? (i := 1204) (by decide +kernel)) (by decide +kernel)
theorem m_148 : Cond.methodLink "WasmReaderModel$Unit" 3 objectInit ∈ xtb := x_in (List.mem_of_getElem? (i := 1110) (by decide +kernel)) (by decide +kernel)
theorem m_149 : Cond.fieldLink "WasmReaderModel" 9 "WasmReaderModel" "row" "[B" ∈ xtb := x_in (List.mem_of_getElem? (i := 1321) (by decide +kernel)) (by decide +kernel)
theorem m_150 : Cond.fieldLink "WasmReaderModel" 16 "WasmReaderModel" "u" "LWasmReaderModel$Unit;" ∈ xtb := x_in (List.mem_of_getElem? (i := 1325) (by decide +kernel)) (by decide +kernel)
theorem m_151 : Cond.fieldLink "WasmReaderModel" 20 "WasmReaderModel" "blockAt" "[I" ∈ xtb := x_in (List.mem_of_getElem? (i := 1335) (by decide +kernel)) (by decide +kernel)
theorem m_152 : Cond.fieldLink "WasmReaderModel" 24 "WasmReaderModel" "blockKind" "[I" ∈ xtb := x_in (List.mem_of_getElem? (i := 1336) (by decide +kernel)) (by decide +kernel)
theorem m_153 : Cond.fieldLink "WasmReaderModel" 27 "WasmReaderModel" "vt" "[I" ∈ xtb := x_in (List.mem_of_getElem? (i := 1337) (by decide +kernel)) (by decide +kernel)
theorem m_154 : Cond.fieldLink "WasmReaderModel" 30 "WasmReaderModel" "bTakes" "[I" ∈ xtb := x_in (List.mem_of_getElem? (i := 1338) (by decide +kernel)) (by decide +kernel)
theorem m_155 : Cond.fieldLink "WasmReaderModel" 33 "WasmReaderModel" "bLeaves" "[I" ∈ xtb := x_in (List.mem_of_getElem? (i := 1339) (by decide +kernel)) (by decide +kernel)
theorem m_156 : Cond.fieldLink "WasmReaderModel" 36 "WasmReaderModel" "bHeight" "[I" ∈ xtb := x_in (List.mem_of_getElem? (i := 1340) (by decide +kernel)) (by decide +kernel)
theorem m_157 : Cond.fieldLink "WasmReaderModel" 39 "WasmReaderModel" "bOp" "[I" ∈ xtb := x_in (List.mem_of_getElem? (i := 1341) (by decide +kernel)) (by decide +kernel)
theorem m_158 : Cond.fieldLink "WasmReaderModel" 42 "WasmReaderModel" "bDead" "[Z" ∈ xtb := x_in (List.mem_of_getElem? (i := 1342) (by decide +kernel)) (by decide +kernel)
theorem m_159 : Cond.methodLink "WasmReaderModel" 1 objectInit ∈ xtb := x_in (List.mem_of_getElem? (i := 1104) (by decide +kernel)) (by decide +kernel)
theorem m_160 : Cond.classLink "WasmReaderModel" 13 "WasmReaderModel$Unit" ∈ xtb := x_in (List.mem_of_getElem? (i := 1105) (by decide +kernel)) (by decide +kernel)
theorem m_161 : Cond.instantiable "WasmReaderModel$Unit" 57 ∈ xtb := x_in (List.mem_of_getElem? (i := 1106) (by decide +kernel)) (by decide +kernel)
theorem m_162 : Cond.initialized "WasmReaderModel$Unit" ∈ xtb := x_in (List.mem_of_getElem? (i := 99) (by decide +kernel)) (by decide +kernel)
theorem m_163 : Cond.methodLinkNest "WasmReaderModel" 15 y_Unit_init "WasmReaderModel" ∈ xtb := x_in (List.mem_of_getElem? (i := 1107) (by decide +kernel)) (by decide +kernel)
theorem m_164 : Cond.code y_Unit_init prog_16_method_1_code 1 none ∈ xtb := x_in (List.mem_of_getElem? (i := 1109) (by decide +kernel)) (by decide +kernel)
theorem m_165 : Cond.instanceMethod y_Unit_init ∈ xtb := x_in (List.mem_of_getElem? (i := 1108) (by decide +kernel)) (by decide +kernel)
theorem d_Cursor_init_0 : decode prog_2_method_1_code 0 = .ok (.aload_n 0, 1) := by decide +kernel
theorem d_Cursor_init_1 : decode prog_2_method_1_code 1 = .ok (.invokespecial 3, 3) := by decide +kernel
theorem d_Cursor_init_4 : decode prog_2_method_1_code 4 = .ok (.aload_n 0, 1) := by decide +kernel
theorem d_Cursor_init_5 : decode prog_2_method_1_code 5 = .ok (.sipush 4000, 3) := by decide +kernel
theorem d_Cursor_init_8 : decode prog_2_method_1_code 8 = .ok (.newarray .byte, 2) := by decide +kernel
theorem d_Cursor_init_10 : decode prog_2_method_1_code 10 = .ok (.putfield 9, 3) := by decide +kernel
theorem d_Cursor_init_13 : decode prog_2_method_1_code 13 = .ok (.return_, 1) := by decide +kernel
theorem d_Types_init_0 : decode prog_10_method_1_code 0 = .ok (.aload_n 0, 1) := by decide +kernel
theorem d_Types_init_1 : decode prog_10_method_1_code 1 = .ok (.invokespecial 3, 3) := by decide +kernel
theorem d_Types_init_4 : decode prog_10_method_1_code 4 = .ok (.aload_n 0, 1) := by decide +kernel
theorem d_Types_init_5 : decode prog_10_method_1_code 5 = .ok (.bipush 40, 2) := by decide +kernel
theorem d_Types_init_7 : decode prog_10_method_1_code 7 = .ok (.newarray .int, 2) := by decide +kernel
theorem d_Types_init_9 : decode prog_10_method_1_code 9 = .ok (.putfield 9, 3) := by decide +kernel
theorem d_Types_init_12 : decode prog_10_method_1_code 12 = .ok (.aload_n 0, 1) := by decide +kernel
theorem d_Types_init_13 : decode prog_10_method_1_code 13 = .ok (.bipush 40, 2) := by decide +kernel
theorem d_Types_init_15 : decode prog_10_method_1_code 15 = .ok (.newarray .int, 2) := by decide +kernel
theorem d_Types_init_17 : decode prog_10_method_1_code 17 = .ok (.putfield 15, 3) := by decide +kernel
theorem d_Types_init_20 : decode prog_10_method_1_code 20 = .ok (.aload_n 0, 1) := by decide +kernel
theorem d_Types_init_21 : decode prog_10_method_1_code 21 = .ok (.bipush 40, 2) := by decide +kernel
theorem d_Types_init_23 : decode prog_10_method_1_code 23 = .ok (.newarray .int, 2) := by decide +kernel
theorem d_Types_init_25 : decode prog_10_method_1_code 25 = .ok (.putfield 18, 3) := by decide +kernel
theorem d_Types_init_28 : decode prog_10_method_1_code 28 = .ok (.return_, 1) := by decide +kernel
theorem d_Functions_init_0 : decode prog_4_method_1_code 0 = .ok (.aload_n 0, 1) := by decide +kernel
theorem d_Functions_init_1 : decode prog_4_method_1_code 1 = .ok (.invokespecial 3, 3) := by decide +kernel
theorem d_Functions_init_4 : decode prog_4_method_1_code 4 = .ok (.aload_n 0, 1) := by decide +kernel
theorem d_Functions_init_5 : decode prog_4_method_1_code 5 = .ok (.bipush 60, 2) := by decide +kernel
theorem d_Functions_init_7 : decode prog_4_method_1_code 7 = .ok (.newarray .int, 2) := by decide +kernel
theorem d_Functions_init_9 : decode prog_4_method_1_code 9 = .ok (.putfield 9, 3) := by decide +kernel
theorem d_Functions_init_12 : decode prog_4_method_1_code 12 = .ok (.aload_n 0, 1) := by decide +kernel
theorem d_Functions_init_13 : decode prog_4_method_1_code 13 = .ok (.bipush 60, 2) := by decide +kernel
theorem d_Functions_init_15 : decode prog_4_method_1_code 15 = .ok (.newarray .int, 2) := by decide +kernel
theorem d_Functions_init_17 : decode prog_4_method_1_code 17 = .ok (.putfield 15, 3) := by decide +kernel
theorem d_Functions_init_20 : decode prog_4_method_1_code 20 = .ok (.aload_n 0, 1) := by decide +kernel
theorem d_Functions_init_21 : decode prog_4_method_1_code 21 = .ok (.bipush 60, 2) := by decide +kernel
theorem d_Functions_init_23 : decode prog_4_method_1_code 23 = .ok (.newarray .int, 2) := by decide +kernel
theorem d_Functions_init_25 : decode prog_4_method_1_code 25 = .ok (.putfield 18, 3) := by decide +kernel
theorem d_Functions_init_28 : decode prog_4_method_1_code 28 = .ok (.aload_n 0, 1) := by decide +kernel
theorem d_Functions_init_29 : decode prog_4_method_1_code 29 = .ok (.bipush 60, 2) := by decide +kernel
theorem d_Functions_init_31 : decode prog_4_method_1_code 31 = .ok (.newarray .int, 2) := by decide +kernel
theorem d_Functions_init_33 : decode prog_4_method_1_code 33 = .ok (.putfield 21, 3) := by decide +kernel
theorem d_Functions_init_36 : decode prog_4_method_1_code 36 = .ok (.aload_n 0, 1) := by decide +kernel
theorem d_Functions_init_37 : decode prog_4_method_1_code 37 = .ok (.bipush 60, 2) := by decide +kernel
theorem d_Functions_init_39 : decode prog_4_method_1_code 39 = .ok (.newarray .int, 2) := by decide +kernel
theorem d_Functions_init_41 : decode prog_4_method_1_code 41 = .ok (.putfield 24, 3) := by decide +kernel
theorem d_Functions_init_44 : decode prog_4_method_1_code 44 = .ok (.aload_n 0, 1) := by decide +kernel
theorem d_Functions_init_45 : decode prog_4_method_1_code 45 = .ok (.bipush 60, 2) := by decide +kernel
theorem d_Functions_init_47 : decode prog_4_method_1_code 47 = .ok (.newarray .int, 2) := by decide +kernel
theorem d_Functions_init_49 : decode prog_4_method_1_code 49 = .ok (.putfield 27, 3) := by decide +kernel
theorem d_Functions_init_52 : decode prog_4_method_1_code 52 = .ok (.aload_n 0, 1) := by decide +kernel
theorem d_Functions_init_53 : decode prog_4_method_1_code 53 = .ok (.bipush 60, 2) := by decide +kernel
theorem d_Functions_init_55 : decode prog_4_method_1_code 55 = .ok (.newarray .int, 2) := by decide +kernel
theorem d_Functions_init_57 : decode prog_4_method_1_code 57 = .ok (.putfield 30, 3) := by decide +kernel
theorem d_Functions_init_60 : decode prog_4_method_1_code 60 = .ok (.return_, 1) := by decide +kernel
theorem d_Globals_init_0 : decode prog_5_method_1_code 0 = .ok (.aload_n 0, 1) := by decide +kernel
theorem d_Globals_init_1 : decode prog_5_method_1_code 1 = .ok (.invokespecial 3, 3) := by decide +kernel
theorem d_Globals_init_4 : decode prog_5_method_1_code 4 = .ok (.aload_n 0, 1) := by decide +kernel
theorem d_Globals_init_5 : decode prog_5_method_1_code 5 = .ok (.bipush 30, 2) := by decide +kernel
theorem d_Globals_init_7 : decode prog_5_method_1_code 7 = .ok (.newarray .int, 2) := by decide +kernel
theorem d_Globals_init_9 : decode prog_5_method_1_code 9 = .ok (.putfield 9, 3) := by decide +kernel
theorem d_Globals_init_12 : decode prog_5_method_1_code 12 = .ok (.aload_n 0, 1) := by decide +kernel
theorem d_Globals_init_13 : decode prog_5_method_1_code 13 = .ok (.bipush 30, 2) := by decide +kernel
theorem d_Globals_init_15 : decode prog_5_method_1_code 15 = .ok (.newarray .boolean, 2) := by decide +kernel
theorem d_Globals_init_17 : decode prog_5_method_1_code 17 = .ok (.putfield 15, 3) := by decide +kernel
theorem d_Globals_init_20 : decode prog_5_method_1_code 20 = .ok (.aload_n 0, 1) := by decide +kernel
theorem d_Globals_init_21 : decode prog_5_method_1_code 21 = .ok (.bipush 30, 2) := by decide +kernel
theorem d_Globals_init_23 : decode prog_5_method_1_code 23 = .ok (.newarray .int, 2) := by decide +kernel
theorem d_Globals_init_25 : decode prog_5_method_1_code 25 = .ok (.putfield 19, 3) := by decide +kernel
theorem d_Globals_init_28 : decode prog_5_method_1_code 28 = .ok (.aload_n 0, 1) := by decide +kernel
theorem d_Globals_init_29 : decode prog_5_method_1_code 29 = .ok (.bipush 30, 2) := by decide +kernel
theorem d_Globals_init_31 : decode prog_5_method_1_code 31 = .ok (.newarray .long, 2) := by decide +kernel
theorem d_Globals_init_33 : decode prog_5_method_1_code 33 = .ok (.putfield 22, 3) := by decide +kernel
theorem d_Globals_init_36 : decode prog_5_method_1_code 36 = .ok (.return_, 1) := by decide +kernel
theorem d_Exports_init_0 : decode prog_3_method_1_code 0 = .ok (.aload_n 0, 1) := by decide +kernel
theorem d_Exports_init_1 : decode prog_3_method_1_code 1 = .ok (.invokespecial 3, 3) := by decide +kernel
theorem d_Exports_init_4 : decode prog_3_method_1_code 4 = .ok (.aload_n 0, 1) := by decide +kernel
theorem d_Exports_init_5 : decode prog_3_method_1_code 5 = .ok (.bipush 40, 2) := by decide +kernel
theorem d_Exports_init_7 : decode prog_3_method_1_code 7 = .ok (.newarray .int, 2) := by decide +kernel
theorem d_Exports_init_9 : decode prog_3_method_1_code 9 = .ok (.putfield 9, 3) := by decide +kernel
theorem d_Exports_init_12 : decode prog_3_method_1_code 12 = .ok (.aload_n 0, 1) := by decide +kernel
theorem d_Exports_init_13 : decode prog_3_method_1_code 13 = .ok (.bipush 40, 2) := by decide +kernel
theorem d_Exports_init_15 : decode prog_3_method_1_code 15 = .ok (.newarray .int, 2) := by decide +kernel
theorem d_Exports_init_17 : decode prog_3_method_1_code 17 = .ok (.putfield 15, 3) := by decide +kernel
theorem d_Exports_init_20 : decode prog_3_method_1_code 20 = .ok (.aload_n 0, 1) := by decide +kernel
theorem d_Exports_init_21 : decode prog_3_method_1_code 21 = .ok (.bipush 40, 2) := by decide +kernel
theorem d_Exports_init_23 : decode prog_3_method_1_code 23 = .ok (.newarray .int, 2) := by decide +kernel
theorem d_Exports_init_25 : decode prog_3_method_1_code 25 = .ok (.putfield 18, 3) := by decide +kernel
theorem d_Exports_init_28 : decode prog_3_method_1_code 28 = .ok (.aload_n 0, 1) := by decide +kernel
theorem d_Exports_init_29 : decode prog_3_method_1_code 29 = .ok (.sipush 800, 3) := by decide +kernel
theorem d_Exports_init_32 : decode prog_3_method_1_code 32 = .ok (.newarray .byte, 2) := by decide +kernel
theorem d_Exports_init_34 : decode prog_3_method_1_code 34 = .ok (.putfield 21, 3) := by decide +kernel
theorem d_Exports_init_37 : decode prog_3_method_1_code 37 = .ok (.return_, 1) := by decide +kernel
theorem d_Segments_init_0 : decode prog_7_method_1_code 0 = .ok (.aload_n 0, 1) := by decide +kernel
theorem d_Segments_init_1 : decode prog_7_method_1_code 1 = .ok (.invokespecial 3, 3) := by decide +kernel
theorem d_Segments_init_4 : decode prog_7_method_1_code 4 = .ok (.aload_n 0, 1) := by decide +kernel
theorem d_Segments_init_5 : decode prog_7_method_1_code 5 = .ok (.bipush 20, 2) := by decide +kernel
theorem d_Segments_init_7 : decode prog_7_method_1_code 7 = .ok (.newarray .int, 2) := by decide +kernel
theorem d_Segments_init_9 : decode prog_7_method_1_code 9 = .ok (.putfield 9, 3) := by decide +kernel
theorem d_Segments_init_12 : decode prog_7_method_1_code 12 = .ok (.aload_n 0, 1) := by decide +kernel
theorem d_Segments_init_13 : decode prog_7_method_1_code 13 = .ok (.bipush 20, 2) := by decide +kernel
theorem d_Segments_init_15 : decode prog_7_method_1_code 15 = .ok (.newarray .int, 2) := by decide +kernel
theorem d_Segments_init_17 : decode prog_7_method_1_code 17 = .ok (.putfield 15, 3) := by decide +kernel
theorem d_Segments_init_20 : decode prog_7_method_1_code 20 = .ok (.aload_n 0, 1) := by decide +kernel
theorem d_Segments_init_21 : decode prog_7_method_1_code 21 = .ok (.bipush 20, 2) := by decide +kernel
theorem d_Segments_init_23 : decode prog_7_method_1_code 23 = .ok (.newarray .long, 2) := by decide +kernel
theorem d_Segments_init_25 : decode prog_7_method_1_code 25 = .ok (.putfield 18, 3) := by decide +kernel
theorem d_Segments_init_28 : decode prog_7_method_1_code 28 = .ok (.aload_n 0, 1) := by decide +kernel
theorem d_Segments_init_29 : decode prog_7_method_1_code 29 = .ok (.bipush 20, 2) := by decide +kernel
theorem d_Segments_init_31 : decode prog_7_method_1_code 31 = .ok (.newarray .int, 2) := by decide +kernel
theorem d_Segments_init_33 : decode prog_7_method_1_code 33 = .ok (.putfield 22, 3) := by decide +kernel
theorem d_Segments_init_36 : decode prog_7_method_1_code 36 = .ok (.return_, 1) := by decide +kernel
theorem d_Sized_init_0 : decode prog_8_method_1_code 0 = .ok (.aload_n 0, 1) := by decide +kernel
theorem d_Sized_init_1 : decode prog_8_method_1_code 1 = .ok (.invokespecial 1, 3) := by decide +kernel
theorem d_Sized_init_4 : decode prog_8_method_1_code 4 = .ok (.return_, 1) := by decide +kernel
theorem d_TypeStack_init_0 : decode prog_9_method_1_code 0 = .ok (.aload_n 0, 1) := by decide +kernel
theorem d_TypeStack_init_1 : decode prog_9_method_1_code 1 = .ok (.invokespecial 3, 3) := by decide +kernel
theorem d_TypeStack_init_4 : decode prog_9_method_1_code 4 = .ok (.aload_n 0, 1) := by decide +kernel
theorem d_TypeStack_init_5 : decode prog_9_method_1_code 5 = .ok (.sipush 4000, 3) := by decide +kernel
theorem d_TypeStack_init_8 : decode prog_9_method_1_code 8 = .ok (.newarray .byte, 2) := by decide +kernel
theorem d_TypeStack_init_10 : decode prog_9_method_1_code 10 = .ok (.putfield 9, 3) := by decide +kernel
theorem d_TypeStack_init_13 : decode prog_9_method_1_code 13 = .ok (.aload_n 0, 1) := by decide +kernel
theorem d_TypeStack_init_14 : decode prog_9_method_1_code 14 = .ok (.bipush 31, 2) := by decide +kernel
theorem d_TypeStack_init_16 : decode prog_9_method_1_code 16 = .ok (.newarray .int, 2) := by decide +kernel
theorem d_TypeStack_init_18 : decode prog_9_method_1_code 18 = .ok (.putfield 15, 3) := by decide +kernel
theorem d_TypeStack_init_21 : decode prog_9_method_1_code 21 = .ok (.aload_n 0, 1) := by decide +kernel
theorem d_TypeStack_init_22 : decode prog_9_method_1_code 22 = .ok (.bipush 31, 2) := by decide +kernel
theorem d_TypeStack_init_24 : decode prog_9_method_1_code 24 = .ok (.newarray .int, 2) := by decide +kernel
theorem d_TypeStack_init_26 : decode prog_9_method_1_code 26 = .ok (.putfield 19, 3) := by decide +kernel
theorem d_TypeStack_init_29 : decode prog_9_method_1_code 29 = .ok (.aload_n 0, 1) := by decide +kernel
theorem d_TypeStack_init_30 : decode prog_9_method_1_code 30 = .ok (.bipush 31, 2) := by decide +kernel
theorem d_TypeStack_init_32 : decode prog_9_method_1_code 32 = .ok (.newarray .int, 2) := by decide +kernel
theorem d_TypeStack_init_34 : decode prog_9_method_1_code 34 = .ok (.putfield 22, 3) := by decide +kernel
theorem d_TypeStack_init_37 : decode prog_9_method_1_code 37 = .ok (.aload_n 0, 1) := by decide +kernel
theorem d_TypeStack_init_38 : decode prog_9_method_1_code 38 = .ok (.bipush 31, 2) := by decide +kernel
theorem d_TypeStack_init_40 : decode prog_9_method_1_code 40 = .ok (.newarray .boolean, 2) := by decide +kernel
theorem d_TypeStack_init_42 : decode prog_9_method_1_code 42 = .ok (.putfield 25, 3) := by decide +kernel
theorem d_TypeStack_init_45 : decode prog_9_method_1_code 45 = .ok (.return_, 1) := by decide +kernel
theorem d_WasmModule_init_0 : decode prog_12_method_1_code 0 = .ok (.aload_n 0, 1) := by decide +kernel
theorem d_WasmModule_init_1 : decode prog_12_method_1_code 1 = .ok (.invokespecial 3, 3) := by decide +kernel
theorem d_WasmModule_init_4 : decode prog_12_method_1_code 4 = .ok (.aload_n 0, 1) := by decide +kernel
theorem d_WasmModule_init_5 : decode prog_12_method_1_code 5 = .ok (.new 9, 3) := by decide +kernel
theorem d_WasmModule_init_8 : decode prog_12_method_1_code 8 = .ok (.dup, 1) := by decide +kernel
theorem d_WasmModule_init_9 : decode prog_12_method_1_code 9 = .ok (.invokespecial 11, 3) := by decide +kernel
theorem nm_Types_init : x_nm y_Types_init 0 = true := by decide +kernel
theorem d_WasmModule_init_12 : decode prog_12_method_1_code 12 = .ok (.putfield 12, 3) := by decide +kernel
theorem d_WasmModule_init_15 : decode prog_12_method_1_code 15 = .ok (.aload_n 0, 1) := by decide +kernel
theorem d_WasmModule_init_16 : decode prog_12_method_1_code 16 = .ok (.new 18, 3) := by decide +kernel
theorem d_WasmModule_init_19 : decode prog_12_method_1_code 19 = .ok (.dup, 1) := by decide +kernel
theorem d_WasmModule_init_20 : decode prog_12_method_1_code 20 = .ok (.invokespecial 20, 3) := by decide +kernel
theorem nm_Functions_init : x_nm y_Functions_init 0 = true := by decide +kernel
theorem d_WasmModule_init_23 : decode prog_12_method_1_code 23 = .ok (.putfield 21, 3) := by decide +kernel
theorem d_WasmModule_init_26 : decode prog_12_method_1_code 26 = .ok (.aload_n 0, 1) := by decide +kernel
theorem d_WasmModule_init_27 : decode prog_12_method_1_code 27 = .ok (.new 25, 3) := by decide +kernel
theorem d_WasmModule_init_30 : decode prog_12_method_1_code 30 = .ok (.dup, 1) := by decide +kernel
theorem d_WasmModule_init_31 : decode prog_12_method_1_code 31 = .ok (.invokespecial 27, 3) := by decide +kernel
theorem nm_Globals_init : x_nm y_Globals_init 0 = true := by decide +kernel
theorem d_WasmModule_init_34 : decode prog_12_method_1_code 34 = .ok (.putfield 28, 3) := by decide +kernel
theorem d_WasmModule_init_37 : decode prog_12_method_1_code 37 = .ok (.aload_n 0, 1) := by decide +kernel
theorem d_WasmModule_init_38 : decode prog_12_method_1_code 38 = .ok (.new 32, 3) := by decide +kernel
theorem d_WasmModule_init_41 : decode prog_12_method_1_code 41 = .ok (.dup, 1) := by decide +kernel
theorem d_WasmModule_init_42 : decode prog_12_method_1_code 42 = .ok (.invokespecial 34, 3) := by decide +kernel
theorem nm_Exports_init : x_nm y_Exports_init 0 = true := by decide +kernel
theorem d_WasmModule_init_45 : decode prog_12_method_1_code 45 = .ok (.putfield 35, 3) := by decide +kernel
theorem d_WasmModule_init_48 : decode prog_12_method_1_code 48 = .ok (.aload_n 0, 1) := by decide +kernel
theorem d_WasmModule_init_49 : decode prog_12_method_1_code 49 = .ok (.new 39, 3) := by decide +kernel
theorem d_WasmModule_init_52 : decode prog_12_method_1_code 52 = .ok (.dup, 1) := by decide +kernel
theorem d_WasmModule_init_53 : decode prog_12_method_1_code 53 = .ok (.invokespecial 41, 3) := by decide +kernel
theorem nm_Segments_init : x_nm y_Segments_init 0 = true := by decide +kernel
theorem d_WasmModule_init_56 : decode prog_12_method_1_code 56 = .ok (.putfield 42, 3) := by decide +kernel
theorem d_WasmModule_init_59 : decode prog_12_method_1_code 59 = .ok (.aload_n 0, 1) := by decide +kernel
theorem d_WasmModule_init_60 : decode prog_12_method_1_code 60 = .ok (.new 39, 3) := by decide +kernel
theorem d_WasmModule_init_63 : decode prog_12_method_1_code 63 = .ok (.dup, 1) := by decide +kernel
theorem d_WasmModule_init_64 : decode prog_12_method_1_code 64 = .ok (.invokespecial 41, 3) := by decide +kernel
theorem d_WasmModule_init_67 : decode prog_12_method_1_code 67 = .ok (.putfield 46, 3) := by decide +kernel
theorem d_WasmModule_init_70 : decode prog_12_method_1_code 70 = .ok (.aload_n 0, 1) := by decide +kernel
theorem d_WasmModule_init_71 : decode prog_12_method_1_code 71 = .ok (.new 49, 3) := by decide +kernel
theorem d_WasmModule_init_74 : decode prog_12_method_1_code 74 = .ok (.dup, 1) := by decide +kernel
theorem d_WasmModule_init_75 : decode prog_12_method_1_code 75 = .ok (.invokespecial 51, 3) := by decide +kernel
theorem nm_Sized_init : x_nm y_Sized_init 0 = true := by decide +kernel
theorem d_WasmModule_init_78 : decode prog_12_method_1_code 78 = .ok (.putfield 52, 3) := by decide +kernel
theorem d_WasmModule_init_81 : decode prog_12_method_1_code 81 = .ok (.aload_n 0, 1) := by decide +kernel
theorem d_WasmModule_init_82 : decode prog_12_method_1_code 82 = .ok (.new 49, 3) := by decide +kernel
theorem d_WasmModule_init_85 : decode prog_12_method_1_code 85 = .ok (.dup, 1) := by decide +kernel
theorem d_WasmModule_init_86 : decode prog_12_method_1_code 86 = .ok (.invokespecial 51, 3) := by decide +kernel
theorem d_WasmModule_init_89 : decode prog_12_method_1_code 89 = .ok (.putfield 56, 3) := by decide +kernel
theorem d_WasmModule_init_92 : decode prog_12_method_1_code 92 = .ok (.return_, 1) := by decide +kernel
theorem d_Reader_init_0 : decode prog_1_method_1_code 0 = .ok (.aload_n 0, 1) := by decide +kernel
theorem d_Reader_init_1 : decode prog_1_method_1_code 1 = .ok (.invokespecial 1, 3) := by decide +kernel
theorem d_Reader_init_4 : decode prog_1_method_1_code 4 = .ok (.aload_n 0, 1) := by decide +kernel
theorem d_Reader_init_5 : decode prog_1_method_1_code 5 = .ok (.new 7, 3) := by decide +kernel
theorem d_Reader_init_8 : decode prog_1_method_1_code 8 = .ok (.dup, 1) := by decide +kernel
theorem d_Reader_init_9 : decode prog_1_method_1_code 9 = .ok (.invokespecial 9, 3) := by decide +kernel
theorem nm_Cursor_init : x_nm y_Cursor_init 0 = true := by decide +kernel
theorem d_Reader_init_12 : decode prog_1_method_1_code 12 = .ok (.putfield 10, 3) := by decide +kernel
theorem d_Reader_init_15 : decode prog_1_method_1_code 15 = .ok (.aload_n 0, 1) := by decide +kernel
theorem d_Reader_init_16 : decode prog_1_method_1_code 16 = .ok (.new 16, 3) := by decide +kernel
theorem d_Reader_init_19 : decode prog_1_method_1_code 19 = .ok (.dup, 1) := by decide +kernel
theorem d_Reader_init_20 : decode prog_1_method_1_code 20 = .ok (.invokespecial 18, 3) := by decide +kernel
theorem nm_WasmModule_init : x_nm y_WasmModule_init 0 = true := by decide +kernel
theorem d_Reader_init_23 : decode prog_1_method_1_code 23 = .ok (.putfield 19, 3) := by decide +kernel
theorem d_Reader_init_26 : decode prog_1_method_1_code 26 = .ok (.aload_n 0, 1) := by decide +kernel
theorem d_Reader_init_27 : decode prog_1_method_1_code 27 = .ok (.sipush 2000, 3) := by decide +kernel
theorem d_Reader_init_30 : decode prog_1_method_1_code 30 = .ok (.newarray .boolean, 2) := by decide +kernel
theorem d_Reader_init_32 : decode prog_1_method_1_code 32 = .ok (.putfield 23, 3) := by decide +kernel
theorem d_Reader_init_35 : decode prog_1_method_1_code 35 = .ok (.aload_n 0, 1) := by decide +kernel
theorem d_Reader_init_36 : decode prog_1_method_1_code 36 = .ok (.new 27, 3) := by decide +kernel
theorem d_Reader_init_39 : decode prog_1_method_1_code 39 = .ok (.dup, 1) := by decide +kernel
theorem d_Reader_init_40 : decode prog_1_method_1_code 40 = .ok (.invokespecial 29, 3) := by decide +kernel
theorem nm_TypeStack_init : x_nm y_TypeStack_init 0 = true := by decide +kernel
theorem d_Reader_init_43 : decode prog_1_method_1_code 43 = .ok (.putfield 30, 3) := by decide +kernel
theorem d_Reader_init_46 : decode prog_1_method_1_code 46 = .ok (.return_, 1) := by decide +kernel
theorem d_Unit_init_0 : decode prog_16_method_1_code 0 = .ok (.aload_n 0, 1) := by decide +kernel
theorem d_Unit_init_1 : decode prog_16_method_1_code 1 = .ok (.invokespecial 3, 3) := by decide +kernel
theorem d_Unit_init_4 : decode prog_16_method_1_code 4 = .ok (.aload_n 0, 1) := by decide +kernel
theorem d_Unit_init_5 : decode prog_16_method_1_code 5 = .ok (.sipush 4000, 3) := by decide +kernel
theorem d_Unit_init_8 : decode prog_16_method_1_code 8 = .ok (.newarray .byte, 2) := by decide +kernel
theorem d_Unit_init_10 : decode prog_16_method_1_code 10 = .ok (.putfield 9, 3) := by decide +kernel
theorem d_Unit_init_13 : decode prog_16_method_1_code 13 = .ok (.aload_n 0, 1) := by decide +kernel
theorem d_Unit_init_14 : decode prog_16_method_1_code 14 = .ok (.bipush 40, 2) := by decide +kernel
theorem d_Unit_init_16 : decode prog_16_method_1_code 16 = .ok (.newarray .int, 2) := by decide +kernel
theorem d_Unit_init_18 : decode prog_16_method_1_code 18 = .ok (.putfield 15, 3) := by decide +kernel
theorem d_Unit_init_21 : decode prog_16_method_1_code 21 = .ok (.aload_n 0, 1) := by decide +kernel
theorem d_Unit_init_22 : decode prog_16_method_1_code 22 = .ok (.sipush 240, 3) := by decide +kernel
theorem d_Unit_init_25 : decode prog_16_method_1_code 25 = .ok (.newarray .int, 2) := by decide +kernel
theorem d_Unit_init_27 : decode prog_16_method_1_code 27 = .ok (.putfield 19, 3) := by decide +kernel
theorem d_Unit_init_30 : decode prog_16_method_1_code 30 = .ok (.aload_n 0, 1) := by decide +kernel
theorem d_Unit_init_31 : decode prog_16_method_1_code 31 = .ok (.bipush 40, 2) := by decide +kernel
theorem d_Unit_init_33 : decode prog_16_method_1_code 33 = .ok (.newarray .int, 2) := by decide +kernel
theorem d_Unit_init_35 : decode prog_16_method_1_code 35 = .ok (.putfield 22, 3) := by decide +kernel
theorem d_Unit_init_38 : decode prog_16_method_1_code 38 = .ok (.aload_n 0, 1) := by decide +kernel
theorem d_Unit_init_39 : decode prog_16_method_1_code 39 = .ok (.bipush 30, 2) := by decide +kernel
theorem d_Unit_init_41 : decode prog_16_method_1_code 41 = .ok (.newarray .int, 2) := by decide +kernel
theorem d_Unit_init_43 : decode prog_16_method_1_code 43 = .ok (.putfield 25, 3) := by decide +kernel
theorem d_Unit_init_46 : decode prog_16_method_1_code 46 = .ok (.aload_n 0, 1) := by decide +kernel
theorem d_Unit_init_47 : decode prog_16_method_1_code 47 = .ok (.bipush 30, 2) := by decide +kernel
theorem d_Unit_init_49 : decode prog_16_method_1_code 49 = .ok (.newarray .int, 2) := by decide +kernel
theorem d_Unit_init_51 : decode prog_16_method_1_code 51 = .ok (.putfield 28, 3) := by decide +kernel
theorem d_Unit_init_54 : decode prog_16_method_1_code 54 = .ok (.aload_n 0, 1) := by decide +kernel
theorem d_Unit_init_55 : decode prog_16_method_1_code 55 = .ok (.bipush 30, 2) := by decide +kernel
theorem d_Unit_init_57 : decode prog_16_method_1_code 57 = .ok (.newarray .int, 2) := by decide +kernel
theorem d_Unit_init_59 : decode prog_16_method_1_code 59 = .ok (.putfield 31, 3) := by decide +kernel
theorem d_Unit_init_62 : decode prog_16_method_1_code 62 = .ok (.aload_n 0, 1) := by decide +kernel
theorem d_Unit_init_63 : decode prog_16_method_1_code 63 = .ok (.bipush 30, 2) := by decide +kernel
theorem d_Unit_init_65 : decode prog_16_method_1_code 65 = .ok (.newarray .int, 2) := by decide +kernel
theorem d_Unit_init_67 : decode prog_16_method_1_code 67 = .ok (.putfield 34, 3) := by decide +kernel
theorem d_Unit_init_70 : decode prog_16_method_1_code 70 = .ok (.aload_n 0, 1) := by decide +kernel
theorem d_Unit_init_71 : decode prog_16_method_1_code 71 = .ok (.bipush 30, 2) := by decide +kernel
theorem d_Unit_init_73 : decode prog_16_method_1_code 73 = .ok (.newarray .int, 2) := by decide +kernel
theorem d_Unit_init_75 : decode prog_16_method_1_code 75 = .ok (.putfield 37, 3) := by decide +kernel
theorem d_Unit_init_78 : decode prog_16_method_1_code 78 = .ok (.aload_n 0, 1) := by decide +kernel
theorem d_Unit_init_79 : decode prog_16_method_1_code 79 = .ok (.bipush 30, 2) := by decide +kernel
theorem d_Unit_init_81 : decode prog_16_method_1_code 81 = .ok (.newarray .int, 2) := by decide +kernel
theorem d_Unit_init_83 : decode prog_16_method_1_code 83 = .ok (.putfield 40, 3) := by decide +kernel
theorem d_Unit_init_86 : decode prog_16_method_1_code 86 = .ok (.aload_n 0, 1) := by decide +kernel
theorem d_Unit_init_87 : decode prog_16_method_1_code 87 = .ok (.bipush 30, 2) := by decide +kernel
theorem d_Unit_init_89 : decode prog_16_method_1_code 89 = .ok (.newarray .long, 2) := by decide +kernel
theorem d_Unit_init_91 : decode prog_16_method_1_code 91 = .ok (.putfield 43, 3) := by decide +kernel
theorem d_Unit_init_94 : decode prog_16_method_1_code 94 = .ok (.aload_n 0, 1) := by decide +kernel
theorem d_Unit_init_95 : decode prog_16_method_1_code 95 = .ok (.bipush 60, 2) := by decide +kernel
theorem d_Unit_init_97 : decode prog_16_method_1_code 97 = .ok (.newarray .int, 2) := by decide +kernel
theorem d_Unit_init_99 : decode prog_16_method_1_code 99 = .ok (.putfield 47, 3) := by decide +kernel
theorem d_Unit_init_102 : decode prog_16_method_1_code 102 = .ok (.aload_n 0, 1) := by decide +kernel
theorem d_Unit_init_103 : decode prog_16_method_1_code 103 = .ok (.bipush 60, 2) := by decide +kernel
theorem d_Unit_init_105 : decode prog_16_method_1_code 105 = .ok (.newarray .int, 2) := by decide +kernel
theorem d_Unit_init_107 : decode prog_16_method_1_code 107 = .ok (.putfield 50, 3) := by decide +kernel
theorem d_Unit_init_110 : decode prog_16_method_1_code 110 = .ok (.aload_n 0, 1) := by decide +kernel
theorem d_Unit_init_111 : decode prog_16_method_1_code 111 = .ok (.bipush 30, 2) := by decide +kernel
theorem d_Unit_init_113 : decode prog_16_method_1_code 113 = .ok (.newarray .int, 2) := by decide +kernel
theorem d_Unit_init_115 : decode prog_16_method_1_code 115 = .ok (.putfield 53, 3) := by decide +kernel
theorem d_Unit_init_118 : decode prog_16_method_1_code 118 = .ok (.aload_n 0, 1) := by decide +kernel
theorem d_Unit_init_119 : decode prog_16_method_1_code 119 = .ok (.bipush 30, 2) := by decide +kernel
theorem d_Unit_init_121 : decode prog_16_method_1_code 121 = .ok (.newarray .int, 2) := by decide +kernel
theorem d_Unit_init_123 : decode prog_16_method_1_code 123 = .ok (.putfield 56, 3) := by decide +kernel
theorem d_Unit_init_126 : decode prog_16_method_1_code 126 = .ok (.aload_n 0, 1) := by decide +kernel
theorem d_Unit_init_127 : decode prog_16_method_1_code 127 = .ok (.bipush 30, 2) := by decide +kernel
theorem d_Unit_init_129 : decode prog_16_method_1_code 129 = .ok (.newarray .int, 2) := by decide +kernel
theorem d_Unit_init_131 : decode prog_16_method_1_code 131 = .ok (.putfield 59, 3) := by decide +kernel
theorem d_Unit_init_134 : decode prog_16_method_1_code 134 = .ok (.aload_n 0, 1) := by decide +kernel
theorem d_Unit_init_135 : decode prog_16_method_1_code 135 = .ok (.bipush 30, 2) := by decide +kernel
theorem d_Unit_init_137 : decode prog_16_method_1_code 137 = .ok (.newarray .boolean, 2) := by decide +kernel
theorem d_Unit_init_139 : decode prog_16_method_1_code 139 = .ok (.putfield 62, 3) := by decide +kernel
theorem d_Unit_init_142 : decode prog_16_method_1_code 142 = .ok (.aload_n 0, 1) := by decide +kernel
theorem d_Unit_init_143 : decode prog_16_method_1_code 143 = .ok (.bipush 30, 2) := by decide +kernel
theorem d_Unit_init_145 : decode prog_16_method_1_code 145 = .ok (.newarray .long, 2) := by decide +kernel
theorem d_Unit_init_147 : decode prog_16_method_1_code 147 = .ok (.putfield 66, 3) := by decide +kernel
theorem d_Unit_init_150 : decode prog_16_method_1_code 150 = .ok (.aload_n 0, 1) := by decide +kernel
theorem d_Unit_init_151 : decode prog_16_method_1_code 151 = .ok (.bipush 40, 2) := by decide +kernel
theorem d_Unit_init_153 : decode prog_16_method_1_code 153 = .ok (.newarray .int, 2) := by decide +kernel
theorem d_Unit_init_155 : decode prog_16_method_1_code 155 = .ok (.putfield 69, 3) := by decide +kernel
theorem d_Unit_init_158 : decode prog_16_method_1_code 158 = .ok (.aload_n 0, 1) := by decide +kernel
theorem d_Unit_init_159 : decode prog_16_method_1_code 159 = .ok (.bipush 40, 2) := by decide +kernel
theorem d_Unit_init_161 : decode prog_16_method_1_code 161 = .ok (.newarray .int, 2) := by decide +kernel
theorem d_Unit_init_163 : decode prog_16_method_1_code 163 = .ok (.putfield 72, 3) := by decide +kernel
theorem d_Unit_init_166 : decode prog_16_method_1_code 166 = .ok (.aload_n 0, 1) := by decide +kernel
theorem d_Unit_init_167 : decode prog_16_method_1_code 167 = .ok (.bipush 40, 2) := by decide +kernel
theorem d_Unit_init_169 : decode prog_16_method_1_code 169 = .ok (.newarray .int, 2) := by decide +kernel
theorem d_Unit_init_171 : decode prog_16_method_1_code 171 = .ok (.putfield 75, 3) := by decide +kernel
theorem d_Unit_init_174 : decode prog_16_method_1_code 174 = .ok (.aload_n 0, 1) := by decide +kernel
theorem d_Unit_init_175 : decode prog_16_method_1_code 175 = .ok (.bipush 40, 2) := by decide +kernel
theorem d_Unit_init_177 : decode prog_16_method_1_code 177 = .ok (.newarray .int, 2) := by decide +kernel
theorem d_Unit_init_179 : decode prog_16_method_1_code 179 = .ok (.putfield 78, 3) := by decide +kernel
theorem d_Unit_init_182 : decode prog_16_method_1_code 182 = .ok (.aload_n 0, 1) := by decide +kernel
theorem d_Unit_init_183 : decode prog_16_method_1_code 183 = .ok (.bipush 20, 2) := by decide +kernel
theorem d_Unit_init_185 : decode prog_16_method_1_code 185 = .ok (.newarray .int, 2) := by decide +kernel
theorem d_Unit_init_187 : decode prog_16_method_1_code 187 = .ok (.putfield 81, 3) := by decide +kernel
theorem d_Unit_init_190 : decode prog_16_method_1_code 190 = .ok (.aload_n 0, 1) := by decide +kernel
theorem d_Unit_init_191 : decode prog_16_method_1_code 191 = .ok (.bipush 20, 2) := by decide +kernel
theorem d_Unit_init_193 : decode prog_16_method_1_code 193 = .ok (.newarray .int, 2) := by decide +kernel
theorem d_Unit_init_195 : decode prog_16_method_1_code 195 = .ok (.putfield 84, 3) := by decide +kernel
theorem d_Unit_init_198 : decode prog_16_method_1_code 198 = .ok (.aload_n 0, 1) := by decide +kernel
theorem d_Unit_init_199 : decode prog_16_method_1_code 199 = .ok (.bipush 20, 2) := by decide +kernel
theorem d_Unit_init_201 : decode prog_16_method_1_code 201 = .ok (.newarray .int, 2) := by decide +kernel
theorem d_Unit_init_203 : decode prog_16_method_1_code 203 = .ok (.putfield 87, 3) := by decide +kernel
theorem d_Unit_init_206 : decode prog_16_method_1_code 206 = .ok (.aload_n 0, 1) := by decide +kernel
theorem d_Unit_init_207 : decode prog_16_method_1_code 207 = .ok (.bipush 20, 2) := by decide +kernel
theorem d_Unit_init_209 : decode prog_16_method_1_code 209 = .ok (.newarray .int, 2) := by decide +kernel
theorem d_Unit_init_211 : decode prog_16_method_1_code 211 = .ok (.putfield 90, 3) := by decide +kernel
theorem d_Unit_init_214 : decode prog_16_method_1_code 214 = .ok (.aload_n 0, 1) := by decide +kernel
theorem d_Unit_init_215 : decode prog_16_method_1_code 215 = .ok (.bipush 20, 2) := by decide +kernel
theorem d_Unit_init_217 : decode prog_16_method_1_code 217 = .ok (.newarray .int, 2) := by decide +kernel
theorem d_Unit_init_219 : decode prog_16_method_1_code 219 = .ok (.putfield 93, 3) := by decide +kernel
theorem d_Unit_init_222 : decode prog_16_method_1_code 222 = .ok (.aload_n 0, 1) := by decide +kernel
theorem d_Unit_init_223 : decode prog_16_method_1_code 223 = .ok (.bipush 20, 2) := by decide +kernel
theorem d_Unit_init_225 : decode prog_16_method_1_code 225 = .ok (.newarray .int, 2) := by decide +kernel
theorem d_Unit_init_227 : decode prog_16_method_1_code 227 = .ok (.putfield 96, 3) := by decide +kernel
theorem d_Unit_init_230 : decode prog_16_method_1_code 230 = .ok (.aload_n 0, 1) := by decide +kernel
theorem d_Unit_init_231 : decode prog_16_method_1_code 231 = .ok (.bipush 20, 2) := by decide +kernel
theorem d_Unit_init_233 : decode prog_16_method_1_code 233 = .ok (.newarray .int, 2) := by decide +kernel
theorem d_Unit_init_235 : decode prog_16_method_1_code 235 = .ok (.putfield 99, 3) := by decide +kernel
theorem d_Unit_init_238 : decode prog_16_method_1_code 238 = .ok (.aload_n 0, 1) := by decide +kernel
theorem d_Unit_init_239 : decode prog_16_method_1_code 239 = .ok (.bipush 20, 2) := by decide +kernel
theorem d_Unit_init_241 : decode prog_16_method_1_code 241 = .ok (.newarray .int, 2) := by decide +kernel
theorem d_Unit_init_243 : decode prog_16_method_1_code 243 = .ok (.putfield 102, 3) := by decide +kernel
theorem d_Unit_init_246 : decode prog_16_method_1_code 246 = .ok (.aload_n 0, 1) := by decide +kernel
theorem d_Unit_init_247 : decode prog_16_method_1_code 247 = .ok (.bipush 20, 2) := by decide +kernel
theorem d_Unit_init_249 : decode prog_16_method_1_code 249 = .ok (.newarray .long, 2) := by decide +kernel
theorem d_Unit_init_251 : decode prog_16_method_1_code 251 = .ok (.putfield 105, 3) := by decide +kernel
theorem d_Unit_init_254 : decode prog_16_method_1_code 254 = .ok (.aload_n 0, 1) := by decide +kernel
theorem d_Unit_init_255 : decode prog_16_method_1_code 255 = .ok (.bipush 20, 2) := by decide +kernel
theorem d_Unit_init_257 : decode prog_16_method_1_code 257 = .ok (.newarray .long, 2) := by decide +kernel
theorem d_Unit_init_259 : decode prog_16_method_1_code 259 = .ok (.putfield 108, 3) := by decide +kernel
theorem d_Unit_init_262 : decode prog_16_method_1_code 262 = .ok (.aload_n 0, 1) := by decide +kernel
theorem d_Unit_init_263 : decode prog_16_method_1_code 263 = .ok (.bipush 60, 2) := by decide +kernel
theorem d_Unit_init_265 : decode prog_16_method_1_code 265 = .ok (.newarray .int, 2) := by decide +kernel
theorem d_Unit_init_267 : decode prog_16_method_1_code 267 = .ok (.putfield 111, 3) := by decide +kernel
theorem d_Unit_init_270 : decode prog_16_method_1_code 270 = .ok (.aload_n 0, 1) := by decide +kernel
theorem d_Unit_init_271 : decode prog_16_method_1_code 271 = .ok (.bipush 60, 2) := by decide +kernel
theorem d_Unit_init_273 : decode prog_16_method_1_code 273 = .ok (.newarray .int, 2) := by decide +kernel
theorem d_Unit_init_275 : decode prog_16_method_1_code 275 = .ok (.putfield 114, 3) := by decide +kernel
theorem d_Unit_init_278 : decode prog_16_method_1_code 278 = .ok (.aload_n 0, 1) := by decide +kernel
theorem d_Unit_init_279 : decode prog_16_method_1_code 279 = .ok (.bipush 60, 2) := by decide +kernel
theorem d_Unit_init_281 : decode prog_16_method_1_code 281 = .ok (.newarray .int, 2) := by decide +kernel
theorem d_Unit_init_283 : decode prog_16_method_1_code 283 = .ok (.putfield 117, 3) := by decide +kernel
theorem d_Unit_init_286 : decode prog_16_method_1_code 286 = .ok (.aload_n 0, 1) := by decide +kernel
theorem d_Unit_init_287 : decode prog_16_method_1_code 287 = .ok (.sipush 1800, 3) := by decide +kernel
theorem d_Unit_init_290 : decode prog_16_method_1_code 290 = .ok (.newarray .int, 2) := by decide +kernel
theorem d_Unit_init_292 : decode prog_16_method_1_code 292 = .ok (.putfield 120, 3) := by decide +kernel
theorem d_Unit_init_295 : decode prog_16_method_1_code 295 = .ok (.aload_n 0, 1) := by decide +kernel
theorem d_Unit_init_296 : decode prog_16_method_1_code 296 = .ok (.sipush 4000, 3) := by decide +kernel
theorem d_Unit_init_299 : decode prog_16_method_1_code 299 = .ok (.newarray .int, 2) := by decide +kernel
theorem d_Unit_init_301 : decode prog_16_method_1_code 301 = .ok (.putfield 123, 3) := by decide +kernel
theorem d_Unit_init_304 : decode prog_16_method_1_code 304 = .ok (.aload_n 0, 1) := by decide +kernel
theorem d_Unit_init_305 : decode prog_16_method_1_code 305 = .ok (.sipush 4000, 3) := by decide +kernel
theorem d_Unit_init_308 : decode prog_16_method_1_code 308 = .ok (.newarray .int, 2) := by decide +kernel
theorem d_Unit_init_310 : decode prog_16_method_1_code 310 = .ok (.putfield 126, 3) := by decide +kernel
theorem d_Unit_init_313 : decode prog_16_method_1_code 313 = .ok (.return_, 1) := by decide +kernel
theorem d_Model_init_0 : decode prog_14_method_1_code 0 = .ok (.aload_n 0, 1) := by decide +kernel
theorem d_Model_init_1 : decode prog_14_method_1_code 1 = .ok (.invokespecial 1, 3) := by decide +kernel
theorem d_Model_init_4 : decode prog_14_method_1_code 4 = .ok (.aload_n 0, 1) := by decide +kernel
theorem d_Model_init_5 : decode prog_14_method_1_code 5 = .ok (.sipush 4000, 3) := by decide +kernel
theorem d_Model_init_8 : decode prog_14_method_1_code 8 = .ok (.newarray .byte, 2) := by decide +kernel
theorem d_Model_init_10 : decode prog_14_method_1_code 10 = .ok (.putfield 9, 3) := by decide +kernel
theorem d_Model_init_13 : decode prog_14_method_1_code 13 = .ok (.aload_n 0, 1) := by decide +kernel
theorem d_Model_init_14 : decode prog_14_method_1_code 14 = .ok (.new 13, 3) := by decide +kernel
theorem d_Model_init_17 : decode prog_14_method_1_code 17 = .ok (.dup, 1) := by decide +kernel
theorem d_Model_init_18 : decode prog_14_method_1_code 18 = .ok (.invokespecial 15, 3) := by decide +kernel
theorem nm_Unit_init : x_nm y_Unit_init 0 = true := by decide +kernel
theorem d_Model_init_21 : decode prog_14_method_1_code 21 = .ok (.putfield 16, 3) := by decide +kernel
theorem d_Model_init_24 : decode prog_14_method_1_code 24 = .ok (.aload_n 0, 1) := by decide +kernel
theorem d_Model_init_25 : decode prog_14_method_1_code 25 = .ok (.sipush 4001, 3) := by decide +kernel
theorem d_Model_init_28 : decode prog_14_method_1_code 28 = .ok (.newarray .int, 2) := by decide +kernel
theorem d_Model_init_30 : decode prog_14_method_1_code 30 = .ok (.putfield 20, 3) := by decide +kernel
theorem d_Model_init_33 : decode prog_14_method_1_code 33 = .ok (.aload_n 0, 1) := by decide +kernel
theorem d_Model_init_34 : decode prog_14_method_1_code 34 = .ok (.sipush 4001, 3) := by decide +kernel
theorem d_Model_init_37 : decode prog_14_method_1_code 37 = .ok (.newarray .int, 2) := by decide +kernel
theorem d_Model_init_39 : decode prog_14_method_1_code 39 = .ok (.putfield 24, 3) := by decide +kernel
theorem d_Model_init_42 : decode prog_14_method_1_code 42 = .ok (.aload_n 0, 1) := by decide +kernel
theorem d_Model_init_43 : decode prog_14_method_1_code 43 = .ok (.sipush 28000, 3) := by decide +kernel
theorem d_Model_init_46 : decode prog_14_method_1_code 46 = .ok (.newarray .int, 2) := by decide +kernel
theorem d_Model_init_48 : decode prog_14_method_1_code 48 = .ok (.putfield 27, 3) := by decide +kernel
theorem d_Model_init_51 : decode prog_14_method_1_code 51 = .ok (.aload_n 0, 1) := by decide +kernel
theorem d_Model_init_52 : decode prog_14_method_1_code 52 = .ok (.bipush 32, 2) := by decide +kernel
theorem d_Model_init_54 : decode prog_14_method_1_code 54 = .ok (.newarray .int, 2) := by decide +kernel
theorem d_Model_init_56 : decode prog_14_method_1_code 56 = .ok (.putfield 30, 3) := by decide +kernel
theorem d_Model_init_59 : decode prog_14_method_1_code 59 = .ok (.aload_n 0, 1) := by decide +kernel
theorem d_Model_init_60 : decode prog_14_method_1_code 60 = .ok (.bipush 32, 2) := by decide +kernel
theorem d_Model_init_62 : decode prog_14_method_1_code 62 = .ok (.newarray .int, 2) := by decide +kernel
theorem d_Model_init_64 : decode prog_14_method_1_code 64 = .ok (.putfield 33, 3) := by decide +kernel
theorem d_Model_init_67 : decode prog_14_method_1_code 67 = .ok (.aload_n 0, 1) := by decide +kernel
theorem d_Model_init_68 : decode prog_14_method_1_code 68 = .ok (.bipush 32, 2) := by decide +kernel
theorem d_Model_init_70 : decode prog_14_method_1_code 70 = .ok (.newarray .int, 2) := by decide +kernel
theorem d_Model_init_72 : decode prog_14_method_1_code 72 = .ok (.putfield 36, 3) := by decide +kernel
theorem d_Model_init_75 : decode prog_14_method_1_code 75 = .ok (.aload_n 0, 1) := by decide +kernel
theorem d_Model_init_76 : decode prog_14_method_1_code 76 = .ok (.bipush 32, 2) := by decide +kernel
theorem d_Model_init_78 : decode prog_14_method_1_code 78 = .ok (.newarray .int, 2) := by decide +kernel
theorem d_Model_init_80 : decode prog_14_method_1_code 80 = .ok (.putfield 39, 3) := by decide +kernel
theorem d_Model_init_83 : decode prog_14_method_1_code 83 = .ok (.aload_n 0, 1) := by decide +kernel
theorem d_Model_init_84 : decode prog_14_method_1_code 84 = .ok (.bipush 32, 2) := by decide +kernel
theorem d_Model_init_86 : decode prog_14_method_1_code 86 = .ok (.newarray .boolean, 2) := by decide +kernel
theorem d_Model_init_88 : decode prog_14_method_1_code 88 = .ok (.putfield 42, 3) := by decide +kernel
theorem d_Model_init_91 : decode prog_14_method_1_code 91 = .ok (.return_, 1) := by decide +kernel
