def y_Validity_typesHold : MethodName := ⟨"WasmReader$Validity", "typesHold", "()Z"⟩
def y_Validity_initialHolds : MethodName := ⟨"WasmReader$Validity", "initialHolds", "(IJII)Z"⟩
def y_Validity_globalsHold : MethodName := ⟨"WasmReader$Validity", "globalsHold", "()Z"⟩
def y_Validity_countOfSort : MethodName := ⟨"WasmReader$Validity", "countOfSort", "(I)I"⟩
def y_Validity_exportsHold : MethodName := ⟨"WasmReader$Validity", "exportsHold", "()Z"⟩
def y_Validity_startHolds : MethodName := ⟨"WasmReader$Validity", "startHolds", "()Z"⟩
def y_Validity_segmentsHold : MethodName := ⟨"WasmReader$Validity", "segmentsHold", "(LWasmReader$Segments;I)Z"⟩
def y_Validity_ifBlock : MethodName := ⟨"WasmReader$Validity", "ifBlock", "()V"⟩
def y_Validity_branch : MethodName := ⟨"WasmReader$Validity", "branch", "(I)V"⟩
def y_Validity_branchIf : MethodName := ⟨"WasmReader$Validity", "branchIf", "(I)V"⟩
def y_Validity_branchTable : MethodName := ⟨"WasmReader$Validity", "branchTable", "()V"⟩
def y_Validity_callOfType : MethodName := ⟨"WasmReader$Validity", "callOfType", "(I)V"⟩
def y_Validity_call : MethodName := ⟨"WasmReader$Validity", "call", "(I)V"⟩
def y_Validity_callIndirect : MethodName := ⟨"WasmReader$Validity", "callIndirect", "()V"⟩
def y_Validity_select : MethodName := ⟨"WasmReader$Validity", "select", "()V"⟩
def y_Validity_local : MethodName := ⟨"WasmReader$Validity", "local", "(III)V"⟩
def y_Validity_globalAccess : MethodName := ⟨"WasmReader$Validity", "globalAccess", "(II)V"⟩
def y_Validity_memorySize : MethodName := ⟨"WasmReader$Validity", "memorySize", "(I)V"⟩
def y_Validity_numeric : MethodName := ⟨"WasmReader$Validity", "numeric", "(I)V"⟩
def y_Validity_access : MethodName := ⟨"WasmReader$Validity", "access", "(II)V"⟩
def y_Validity_instruction : MethodName := ⟨"WasmReader$Validity", "instruction", "(II)V"⟩
def y_Validity_bodiesHold : MethodName := ⟨"WasmReader$Validity", "bodiesHold", "()Z"⟩
def y_Validity_holds : MethodName := ⟨"WasmReader$Validity", "holds", "()Z"⟩
theorem m_512 : Cond.fieldLink "WasmReader$Validity" 15 "WasmReader$Validity" "module" "LWasmReader$WasmModule;" ∈ xtb := x_in (List.mem_of_getElem? (i := 747) (by decide +kernel)) (by decide +kernel)
theorem m_513 : Cond.fieldLink "WasmReader$Validity" 73 "WasmReader$WasmModule" "functions" "LWasmReader$Functions;" ∈ xtb := x_in (List.mem_of_getElem? (i := 359) (by decide +kernel)) (by decide +kernel)
theorem m_514 : Cond.methodLink "WasmReader$Validity" 77 y_Functions_has ∈ xtb := x_in (List.mem_of_getElem? (i := 770) (by decide +kernel)) (by decide +kernel)
theorem m_515 : Cond.fieldLink "WasmReader$Validity" 83 "WasmReader$WasmModule" "types" "LWasmReader$Types;" ∈ xtb := x_in (List.mem_of_getElem? (i := 355) (by decide +kernel)) (by decide +kernel)
theorem m_516 : Cond.fieldLink "WasmReader$Validity" 87 "WasmReader$Functions" "type" "[I" ∈ xtb := x_in (List.mem_of_getElem? (i := 200) (by decide +kernel)) (by decide +kernel)
theorem m_517 : Cond.methodLink "WasmReader$Validity" 91 y_Types_has ∈ xtb := x_in (List.mem_of_getElem? (i := 771) (by decide +kernel)) (by decide +kernel)
theorem m_518 : Cond.fieldLink "WasmReader$Validity" 94 "WasmReader$WasmModule" "globals" "LWasmReader$Globals;" ∈ xtb := x_in (List.mem_of_getElem? (i := 363) (by decide +kernel)) (by decide +kernel)
theorem m_519 : Cond.methodLink "WasmReader$Validity" 103 y_Globals_has ∈ xtb := x_in (List.mem_of_getElem? (i := 776) (by decide +kernel)) (by decide +kernel)
theorem m_520 : Cond.fieldLink "WasmReader$Validity" 116 "WasmReader$Globals" "mutable" "[Z" ∈ xtb := x_in (List.mem_of_getElem? (i := 254) (by decide +kernel)) (by decide +kernel)
theorem m_521 : Cond.fieldLink "WasmReader$Validity" 111 "WasmReader$Globals" "type" "[I" ∈ xtb := x_in (List.mem_of_getElem? (i := 251) (by decide +kernel)) (by decide +kernel)
theorem m_522 : Cond.fieldLink "WasmReader$Validity" 98 "WasmReader$Globals" "imported" "I" ∈ xtb := x_in (List.mem_of_getElem? (i := 247) (by decide +kernel)) (by decide +kernel)
theorem m_523 : Cond.fieldLink "WasmReader$Validity" 104 "WasmReader$Globals" "initialOpcode" "[I" ∈ xtb := x_in (List.mem_of_getElem? (i := 257) (by decide +kernel)) (by decide +kernel)
theorem m_524 : Cond.fieldLink "WasmReader$Validity" 107 "WasmReader$Globals" "initialValue" "[J" ∈ xtb := x_in (List.mem_of_getElem? (i := 259) (by decide +kernel)) (by decide +kernel)
theorem m_525 : Cond.methodLink "WasmReader$Validity" 112 y_Validity_initialHolds ∈ xtb := x_in (List.mem_of_getElem? (i := 777) (by decide +kernel)) (by decide +kernel)
theorem m_526 : Cond.code y_Validity_initialHolds prog_11_method_5_code 7 (some .boolean) ∈ xtb := x_in (List.mem_of_getElem? (i := 780) (by decide +kernel)) (by decide +kernel)
theorem m_527 : Cond.initialized "WasmReader$Validity" ∈ xtb := x_in (List.mem_of_getElem? (i := 107) (by decide +kernel)) (by decide +kernel)
theorem m_528 : Cond.instanceMethod y_Validity_initialHolds ∈ xtb := x_in (List.mem_of_getElem? (i := 779) (by decide +kernel)) (by decide +kernel)
theorem m_529 : Cond.selects "WasmReader$Validity" y_Validity_initialHolds y_Validity_initialHolds ∈ xtb := x_in (List.mem_of_getElem? (i := 28) (by decide +kernel)) (by decide +kernel)
theorem m_530 : Cond.fieldLink "WasmReader$Validity" 141 "WasmReader$Functions" "count" "I" ∈ xtb := x_in (List.mem_of_getElem? (i := 192) (by decide +kernel)) (by decide +kernel)
theorem m_531 : Cond.fieldLink "WasmReader$Validity" 23 "WasmReader$WasmModule" "tables" "LWasmReader$Sized;" ∈ xtb := x_in (List.mem_of_getElem? (i := 379) (by decide +kernel)) (by decide +kernel)
theorem m_532 : Cond.fieldLink "WasmReader$Validity" 59 "WasmReader$Sized" "count" "I" ∈ xtb := x_in (List.mem_of_getElem? (i := 341) (by decide +kernel)) (by decide +kernel)
theorem m_533 : Cond.fieldLink "WasmReader$Validity" 37 "WasmReader$WasmModule" "memories" "LWasmReader$Sized;" ∈ xtb := x_in (List.mem_of_getElem? (i := 383) (by decide +kernel)) (by decide +kernel)
theorem m_534 : Cond.fieldLink "WasmReader$Validity" 142 "WasmReader$Globals" "count" "I" ∈ xtb := x_in (List.mem_of_getElem? (i := 245) (by decide +kernel)) (by decide +kernel)
theorem m_535 : Cond.fieldLink "WasmReader$Validity" 120 "WasmReader$WasmModule" "exports" "LWasmReader$Exports;" ∈ xtb := x_in (List.mem_of_getElem? (i := 368) (by decide +kernel)) (by decide +kernel)
theorem m_536 : Cond.methodLink "WasmReader$Validity" 124 y_Exports_has ∈ xtb := x_in (List.mem_of_getElem? (i := 785) (by decide +kernel)) (by decide +kernel)
theorem m_537 : Cond.fieldLink "WasmReader$Validity" 127 "WasmReader$Exports" "number" "[I" ∈ xtb := x_in (List.mem_of_getElem? (i := 289) (by decide +kernel)) (by decide +kernel)
theorem m_538 : Cond.fieldLink "WasmReader$Validity" 130 "WasmReader$Exports" "sort" "[I" ∈ xtb := x_in (List.mem_of_getElem? (i := 286) (by decide +kernel)) (by decide +kernel)
theorem m_539 : Cond.methodLink "WasmReader$Validity" 133 y_Validity_countOfSort ∈ xtb := x_in (List.mem_of_getElem? (i := 789) (by decide +kernel)) (by decide +kernel)
theorem m_540 : Cond.code y_Validity_countOfSort prog_11_method_7_code 2 (some .int) ∈ xtb := x_in (List.mem_of_getElem? (i := 792) (by decide +kernel)) (by decide +kernel)
theorem m_541 : Cond.instanceMethod y_Validity_countOfSort ∈ xtb := x_in (List.mem_of_getElem? (i := 791) (by decide +kernel)) (by decide +kernel)
theorem m_542 : Cond.selects "WasmReader$Validity" y_Validity_countOfSort y_Validity_countOfSort ∈ xtb := x_in (List.mem_of_getElem? (i := 30) (by decide +kernel)) (by decide +kernel)
theorem m_543 : Cond.methodLink "WasmReader$Validity" 137 y_Exports_sameName ∈ xtb := x_in (List.mem_of_getElem? (i := 793) (by decide +kernel)) (by decide +kernel)
theorem m_544 : Cond.code y_Exports_sameName prog_3_method_6_code 4 (some .boolean) ∈ xtb := x_in (List.mem_of_getElem? (i := 796) (by decide +kernel)) (by decide +kernel)
theorem m_545 : Cond.instanceMethod y_Exports_sameName ∈ xtb := x_in (List.mem_of_getElem? (i := 794) (by decide +kernel)) (by decide +kernel)
theorem m_546 : Cond.selects "WasmReader$Exports" y_Exports_sameName y_Exports_sameName ∈ xtb := x_in (List.mem_of_getElem? (i := 795) (by decide +kernel)) (by decide +kernel)
theorem m_547 : Cond.fieldLink "WasmReader$Validity" 143 "WasmReader$WasmModule" "start" "I" ∈ xtb := x_in (List.mem_of_getElem? (i := 392) (by decide +kernel)) (by decide +kernel)
theorem m_548 : Cond.fieldLink "WasmReader$Validity" 146 "WasmReader$Functions" "parameters" "[I" ∈ xtb := x_in (List.mem_of_getElem? (i := 203) (by decide +kernel)) (by decide +kernel)
theorem m_549 : Cond.fieldLink "WasmReader$Validity" 149 "WasmReader$Functions" "result" "[I" ∈ xtb := x_in (List.mem_of_getElem? (i := 206) (by decide +kernel)) (by decide +kernel)
theorem m_550 : Cond.fieldLink "WasmReader$Validity" 152 "WasmReader$Segments" "count" "I" ∈ xtb := x_in (List.mem_of_getElem? (i := 314) (by decide +kernel)) (by decide +kernel)
theorem m_551 : Cond.fieldLink "WasmReader$Validity" 155 "WasmReader$Segments" "target" "[I" ∈ xtb := x_in (List.mem_of_getElem? (i := 316) (by decide +kernel)) (by decide +kernel)
theorem m_552 : Cond.fieldLink "WasmReader$Validity" 158 "WasmReader$Segments" "highest" "[I" ∈ xtb := x_in (List.mem_of_getElem? (i := 322) (by decide +kernel)) (by decide +kernel)
theorem m_553 : Cond.fieldLink "WasmReader$Validity" 161 "WasmReader$Segments" "offsetOpcode" "[I" ∈ xtb := x_in (List.mem_of_getElem? (i := 318) (by decide +kernel)) (by decide +kernel)
theorem m_554 : Cond.fieldLink "WasmReader$Validity" 164 "WasmReader$Segments" "offsetValue" "[J" ∈ xtb := x_in (List.mem_of_getElem? (i := 320) (by decide +kernel)) (by decide +kernel)
theorem m_555 : Cond.fieldLink "WasmReader$Validity" 19 "WasmReader$Validity" "stack" "LWasmReader$TypeStack;" ∈ xtb := x_in (List.mem_of_getElem? (i := 748) (by decide +kernel)) (by decide +kernel)
theorem m_556 : Cond.methodLink "WasmReader$Validity" 239 y_TypeStack_pop ∈ xtb := x_in (List.mem_of_getElem? (i := 839) (by decide +kernel)) (by decide +kernel)
theorem m_557 : Cond.fieldLink "WasmReader$Validity" 9 "WasmReader$Validity" "cursor" "LWasmReader$Cursor;" ∈ xtb := x_in (List.mem_of_getElem? (i := 746) (by decide +kernel)) (by decide +kernel)
theorem m_558 : Cond.methodLink "WasmReader$Validity" 193 y_Cursor_nextByte ∈ xtb := x_in (List.mem_of_getElem? (i := 824) (by decide +kernel)) (by decide +kernel)
theorem m_559 : Cond.methodLinkNest "WasmReader$Validity" 203 y_Reader_typeOfCode "WasmReader" ∈ xtb := x_in (List.mem_of_getElem? (i := 833) (by decide +kernel)) (by decide +kernel)
theorem m_560 : Cond.methodLink "WasmReader$Validity" 206 y_TypeStack_open ∈ xtb := x_in (List.mem_of_getElem? (i := 834) (by decide +kernel)) (by decide +kernel)
theorem m_561 : Cond.methodLink "WasmReader$Validity" 200 y_TypeStack_leave ∈ xtb := x_in (List.mem_of_getElem? (i := 829) (by decide +kernel)) (by decide +kernel)
theorem m_562 : Cond.code y_TypeStack_leave prog_9_method_7_code 1 none ∈ xtb := x_in (List.mem_of_getElem? (i := 832) (by decide +kernel)) (by decide +kernel)
theorem m_563 : Cond.instanceMethod y_TypeStack_leave ∈ xtb := x_in (List.mem_of_getElem? (i := 830) (by decide +kernel)) (by decide +kernel)
theorem m_564 : Cond.selects "WasmReader$TypeStack" y_TypeStack_leave y_TypeStack_leave ∈ xtb := x_in (List.mem_of_getElem? (i := 831) (by decide +kernel)) (by decide +kernel)
theorem m_565 : Cond.methodLink "WasmReader$Validity" 259 y_TypeStack_push ∈ xtb := x_in (List.mem_of_getElem? (i := 877) (by decide +kernel)) (by decide +kernel)
theorem m_566 : Cond.methodLink "WasmReader$Validity" 274 y_Cursor_vector ∈ xtb := x_in (List.mem_of_getElem? (i := 882) (by decide +kernel)) (by decide +kernel)
theorem m_567 : Cond.methodLink "WasmReader$Validity" 218 y_Cursor_index ∈ xtb := x_in (List.mem_of_getElem? (i := 864) (by decide +kernel)) (by decide +kernel)
theorem m_568 : Cond.methodLink "WasmReader$Validity" 221 y_TypeStack_typeOfLabel ∈ xtb := x_in (List.mem_of_getElem? (i := 865) (by decide +kernel)) (by decide +kernel)
theorem m_569 : Cond.code y_TypeStack_typeOfLabel prog_9_method_11_code 2 (some .int) ∈ xtb := x_in (List.mem_of_getElem? (i := 868) (by decide +kernel)) (by decide +kernel)
theorem m_570 : Cond.instanceMethod y_TypeStack_typeOfLabel ∈ xtb := x_in (List.mem_of_getElem? (i := 866) (by decide +kernel)) (by decide +kernel)
theorem m_571 : Cond.selects "WasmReader$TypeStack" y_TypeStack_typeOfLabel y_TypeStack_typeOfLabel ∈ xtb := x_in (List.mem_of_getElem? (i := 867) (by decide +kernel)) (by decide +kernel)
theorem m_572 : Cond.methodLink "WasmReader$Validity" 224 y_Validity_branch ∈ xtb := x_in (List.mem_of_getElem? (i := 869) (by decide +kernel)) (by decide +kernel)
theorem m_573 : Cond.code y_Validity_branch prog_11_method_13_code 2 none ∈ xtb := x_in (List.mem_of_getElem? (i := 872) (by decide +kernel)) (by decide +kernel)
theorem m_574 : Cond.instanceMethod y_Validity_branch ∈ xtb := x_in (List.mem_of_getElem? (i := 871) (by decide +kernel)) (by decide +kernel)
theorem m_575 : Cond.selects "WasmReader$Validity" y_Validity_branch y_Validity_branch ∈ xtb := x_in (List.mem_of_getElem? (i := 37) (by decide +kernel)) (by decide +kernel)
theorem m_576 : Cond.methodLink "WasmReader$Validity" 277 y_TypeStack_require ∈ xtb := x_in (List.mem_of_getElem? (i := 883) (by decide +kernel)) (by decide +kernel)
theorem m_577 : Cond.fieldLink "WasmReader$Validity" 189 "WasmReader$TypeStack" "wrong" "Z" ∈ xtb := x_in (List.mem_of_getElem? (i := 432) (by decide +kernel)) (by decide +kernel)
theorem m_578 : Cond.fieldLink "WasmReader$Validity" 287 "WasmReader$Types" "parameters" "[I" ∈ xtb := x_in (List.mem_of_getElem? (i := 165) (by decide +kernel)) (by decide +kernel)
theorem m_579 : Cond.fieldLink "WasmReader$Validity" 291 "WasmReader$Types" "result" "[I" ∈ xtb := x_in (List.mem_of_getElem? (i := 171) (by decide +kernel)) (by decide +kernel)
theorem m_580 : Cond.fieldLink "WasmReader$Validity" 288 "WasmReader$Types" "longs" "[I" ∈ xtb := x_in (List.mem_of_getElem? (i := 168) (by decide +kernel)) (by decide +kernel)
theorem m_581 : Cond.methodLink "WasmReader$Validity" 281 y_Validity_callOfType ∈ xtb := x_in (List.mem_of_getElem? (i := 888) (by decide +kernel)) (by decide +kernel)
theorem m_582 : Cond.code y_Validity_callOfType prog_11_method_18_code 4 none ∈ xtb := x_in (List.mem_of_getElem? (i := 891) (by decide +kernel)) (by decide +kernel)
theorem m_583 : Cond.instanceMethod y_Validity_callOfType ∈ xtb := x_in (List.mem_of_getElem? (i := 890) (by decide +kernel)) (by decide +kernel)
theorem m_584 : Cond.selects "WasmReader$Validity" y_Validity_callOfType y_Validity_callOfType ∈ xtb := x_in (List.mem_of_getElem? (i := 41) (by decide +kernel)) (by decide +kernel)
theorem m_585 : Cond.methodLink "WasmReader$Validity" 284 y_Cursor_expect ∈ xtb := x_in (List.mem_of_getElem? (i := 896) (by decide +kernel)) (by decide +kernel)
theorem m_586 : Cond.methodLink "WasmReader$Validity" 292 y_Functions_hasLocal ∈ xtb := x_in (List.mem_of_getElem? (i := 905) (by decide +kernel)) (by decide +kernel)
theorem m_587 : Cond.methodLink "WasmReader$Validity" 295 y_Functions_typeOfLocal ∈ xtb := x_in (List.mem_of_getElem? (i := 909) (by decide +kernel)) (by decide +kernel)
theorem m_588 : Cond.code y_Functions_typeOfLocal prog_4_method_7_code 3 (some .int) ∈ xtb := x_in (List.mem_of_getElem? (i := 912) (by decide +kernel)) (by decide +kernel)
theorem m_589 : Cond.instanceMethod y_Functions_typeOfLocal ∈ xtb := x_in (List.mem_of_getElem? (i := 910) (by decide +kernel)) (by decide +kernel)
theorem m_590 : Cond.selects "WasmReader$Functions" y_Functions_typeOfLocal y_Functions_typeOfLocal ∈ xtb := x_in (List.mem_of_getElem? (i := 911) (by decide +kernel)) (by decide +kernel)
theorem m_591 : Cond.fieldLinkNest "WasmReader$Validity" 299 "WasmReader" "NUMERIC" "[I" "WasmReader" ∈ xtb := x_in (List.mem_of_getElem? (i := 937) (by decide +kernel)) (by decide +kernel)
theorem m_592 : Cond.methodLink "WasmReader$Validity" 302 y_Cursor_unsigned ∈ xtb := x_in (List.mem_of_getElem? (i := 928) (by decide +kernel)) (by decide +kernel)
theorem m_593 : Cond.fieldLinkNest "WasmReader$Validity" 309 "WasmReader" "ACCESS_TYPE" "[I" "WasmReader" ∈ xtb := x_in (List.mem_of_getElem? (i := 930) (by decide +kernel)) (by decide +kernel)
theorem m_594 : Cond.fieldLinkNest "WasmReader$Validity" 306 "WasmReader" "ACCESS_ALIGNMENT" "[I" "WasmReader" ∈ xtb := x_in (List.mem_of_getElem? (i := 929) (by decide +kernel)) (by decide +kernel)
theorem m_595 : Cond.methodLink "WasmReader$Validity" 209 y_Validity_ifBlock ∈ xtb := x_in (List.mem_of_getElem? (i := 835) (by decide +kernel)) (by decide +kernel)
theorem m_596 : Cond.code y_Validity_ifBlock prog_11_method_12_code 1 none ∈ xtb := x_in (List.mem_of_getElem? (i := 838) (by decide +kernel)) (by decide +kernel)
theorem m_597 : Cond.instanceMethod y_Validity_ifBlock ∈ xtb := x_in (List.mem_of_getElem? (i := 837) (by decide +kernel)) (by decide +kernel)
theorem m_598 : Cond.selects "WasmReader$Validity" y_Validity_ifBlock y_Validity_ifBlock ∈ xtb := x_in (List.mem_of_getElem? (i := 35) (by decide +kernel)) (by decide +kernel)
theorem m_599 : Cond.methodLink "WasmReader$Validity" 212 y_TypeStack_turnToElse ∈ xtb := x_in (List.mem_of_getElem? (i := 847) (by decide +kernel)) (by decide +kernel)
theorem m_600 : Cond.code y_TypeStack_turnToElse prog_9_method_9_code 1 none ∈ xtb := x_in (List.mem_of_getElem? (i := 850) (by decide +kernel)) (by decide +kernel)
theorem m_601 : Cond.instanceMethod y_TypeStack_turnToElse ∈ xtb := x_in (List.mem_of_getElem? (i := 848) (by decide +kernel)) (by decide +kernel)
theorem m_602 : Cond.selects "WasmReader$TypeStack" y_TypeStack_turnToElse y_TypeStack_turnToElse ∈ xtb := x_in (List.mem_of_getElem? (i := 849) (by decide +kernel)) (by decide +kernel)
theorem m_603 : Cond.methodLinkNest "WasmReader$Validity" 262 y_Reader_isAccess "WasmReader" ∈ xtb := x_in (List.mem_of_getElem? (i := 923) (by decide +kernel)) (by decide +kernel)
theorem m_604 : Cond.methodLinkNest "WasmReader$Validity" 268 y_Reader_numericRow "WasmReader" ∈ xtb := x_in (List.mem_of_getElem? (i := 932) (by decide +kernel)) (by decide +kernel)
theorem m_605 : Cond.methodLink "WasmReader$Validity" 271 y_Validity_numeric ∈ xtb := x_in (List.mem_of_getElem? (i := 933) (by decide +kernel)) (by decide +kernel)
theorem m_606 : Cond.code y_Validity_numeric prog_11_method_23_code 3 none ∈ xtb := x_in (List.mem_of_getElem? (i := 936) (by decide +kernel)) (by decide +kernel)
theorem m_607 : Cond.instanceMethod y_Validity_numeric ∈ xtb := x_in (List.mem_of_getElem? (i := 935) (by decide +kernel)) (by decide +kernel)
theorem m_608 : Cond.selects "WasmReader$Validity" y_Validity_numeric y_Validity_numeric ∈ xtb := x_in (List.mem_of_getElem? (i := 48) (by decide +kernel)) (by decide +kernel)
theorem m_609 : Cond.methodLink "WasmReader$Validity" 265 y_Validity_access ∈ xtb := x_in (List.mem_of_getElem? (i := 924) (by decide +kernel)) (by decide +kernel)
theorem m_610 : Cond.code y_Validity_access prog_11_method_24_code 4 none ∈ xtb := x_in (List.mem_of_getElem? (i := 927) (by decide +kernel)) (by decide +kernel)
theorem m_611 : Cond.instanceMethod y_Validity_access ∈ xtb := x_in (List.mem_of_getElem? (i := 926) (by decide +kernel)) (by decide +kernel)
theorem m_612 : Cond.selects "WasmReader$Validity" y_Validity_access y_Validity_access ∈ xtb := x_in (List.mem_of_getElem? (i := 47) (by decide +kernel)) (by decide +kernel)
theorem m_613 : Cond.methodLink "WasmReader$Validity" 215 y_TypeStack_close ∈ xtb := x_in (List.mem_of_getElem? (i := 856) (by decide +kernel)) (by decide +kernel)
theorem m_614 : Cond.code y_TypeStack_close prog_9_method_10_code 2 none ∈ xtb := x_in (List.mem_of_getElem? (i := 859) (by decide +kernel)) (by decide +kernel)
theorem m_615 : Cond.instanceMethod y_TypeStack_close ∈ xtb := x_in (List.mem_of_getElem? (i := 857) (by decide +kernel)) (by decide +kernel)
theorem m_616 : Cond.selects "WasmReader$TypeStack" y_TypeStack_close y_TypeStack_close ∈ xtb := x_in (List.mem_of_getElem? (i := 858) (by decide +kernel)) (by decide +kernel)
theorem m_617 : Cond.methodLink "WasmReader$Validity" 227 y_Validity_branchIf ∈ xtb := x_in (List.mem_of_getElem? (i := 873) (by decide +kernel)) (by decide +kernel)
theorem m_618 : Cond.code y_Validity_branchIf prog_11_method_14_code 2 none ∈ xtb := x_in (List.mem_of_getElem? (i := 876) (by decide +kernel)) (by decide +kernel)
theorem m_619 : Cond.instanceMethod y_Validity_branchIf ∈ xtb := x_in (List.mem_of_getElem? (i := 875) (by decide +kernel)) (by decide +kernel)
theorem m_620 : Cond.selects "WasmReader$Validity" y_Validity_branchIf y_Validity_branchIf ∈ xtb := x_in (List.mem_of_getElem? (i := 38) (by decide +kernel)) (by decide +kernel)
theorem m_621 : Cond.methodLink "WasmReader$Validity" 230 y_Validity_branchTable ∈ xtb := x_in (List.mem_of_getElem? (i := 878) (by decide +kernel)) (by decide +kernel)
theorem m_622 : Cond.code y_Validity_branchTable prog_11_method_15_code 4 none ∈ xtb := x_in (List.mem_of_getElem? (i := 881) (by decide +kernel)) (by decide +kernel)
theorem m_623 : Cond.instanceMethod y_Validity_branchTable ∈ xtb := x_in (List.mem_of_getElem? (i := 880) (by decide +kernel)) (by decide +kernel)
theorem m_624 : Cond.selects "WasmReader$Validity" y_Validity_branchTable y_Validity_branchTable ∈ xtb := x_in (List.mem_of_getElem? (i := 39) (by decide +kernel)) (by decide +kernel)
theorem m_625 : Cond.methodLink "WasmReader$Validity" 233 y_Validity_call ∈ xtb := x_in (List.mem_of_getElem? (i := 884) (by decide +kernel)) (by decide +kernel)
theorem m_626 : Cond.code y_Validity_call prog_11_method_16_code 3 none ∈ xtb := x_in (List.mem_of_getElem? (i := 887) (by decide +kernel)) (by decide +kernel)
theorem m_627 : Cond.instanceMethod y_Validity_call ∈ xtb := x_in (List.mem_of_getElem? (i := 886) (by decide +kernel)) (by decide +kernel)
theorem m_628 : Cond.selects "WasmReader$Validity" y_Validity_call y_Validity_call ∈ xtb := x_in (List.mem_of_getElem? (i := 40) (by decide +kernel)) (by decide +kernel)
theorem m_629 : Cond.methodLink "WasmReader$Validity" 236 y_Validity_callIndirect ∈ xtb := x_in (List.mem_of_getElem? (i := 892) (by decide +kernel)) (by decide +kernel)
theorem m_630 : Cond.code y_Validity_callIndirect prog_11_method_17_code 2 none ∈ xtb := x_in (List.mem_of_getElem? (i := 895) (by decide +kernel)) (by decide +kernel)
theorem m_631 : Cond.instanceMethod y_Validity_callIndirect ∈ xtb := x_in (List.mem_of_getElem? (i := 894) (by decide +kernel)) (by decide +kernel)
theorem m_632 : Cond.selects "WasmReader$Validity" y_Validity_callIndirect y_Validity_callIndirect ∈ xtb := x_in (List.mem_of_getElem? (i := 42) (by decide +kernel)) (by decide +kernel)
theorem m_633 : Cond.methodLink "WasmReader$Validity" 242 y_Validity_select ∈ xtb := x_in (List.mem_of_getElem? (i := 897) (by decide +kernel)) (by decide +kernel)
theorem m_634 : Cond.code y_Validity_select prog_11_method_19_code 2 none ∈ xtb := x_in (List.mem_of_getElem? (i := 900) (by decide +kernel)) (by decide +kernel)
theorem m_635 : Cond.instanceMethod y_Validity_select ∈ xtb := x_in (List.mem_of_getElem? (i := 899) (by decide +kernel)) (by decide +kernel)
theorem m_636 : Cond.selects "WasmReader$Validity" y_Validity_select y_Validity_select ∈ xtb := x_in (List.mem_of_getElem? (i := 43) (by decide +kernel)) (by decide +kernel)
theorem m_637 : Cond.methodLink "WasmReader$Validity" 245 y_Validity_local ∈ xtb := x_in (List.mem_of_getElem? (i := 901) (by decide +kernel)) (by decide +kernel)
theorem m_638 : Cond.code y_Validity_local prog_11_method_20_code 5 none ∈ xtb := x_in (List.mem_of_getElem? (i := 904) (by decide +kernel)) (by decide +kernel)
theorem m_639 : Cond.instanceMethod y_Validity_local ∈ xtb := x_in (List.mem_of_getElem? (i := 903) (by decide +kernel)) (by decide +kernel)
theorem m_640 : Cond.selects "WasmReader$Validity" y_Validity_local y_Validity_local ∈ xtb := x_in (List.mem_of_getElem? (i := 44) (by decide +kernel)) (by decide +kernel)
theorem m_641 : Cond.methodLink "WasmReader$Validity" 249 y_Validity_globalAccess ∈ xtb := x_in (List.mem_of_getElem? (i := 914) (by decide +kernel)) (by decide +kernel)
theorem m_642 : Cond.code y_Validity_globalAccess prog_11_method_21_code 4 none ∈ xtb := x_in (List.mem_of_getElem? (i := 917) (by decide +kernel)) (by decide +kernel)
theorem m_643 : Cond.instanceMethod y_Validity_globalAccess ∈ xtb := x_in (List.mem_of_getElem? (i := 916) (by decide +kernel)) (by decide +kernel)
theorem m_644 : Cond.selects "WasmReader$Validity" y_Validity_globalAccess y_Validity_globalAccess ∈ xtb := x_in (List.mem_of_getElem? (i := 45) (by decide +kernel)) (by decide +kernel)
theorem m_645 : Cond.methodLink "WasmReader$Validity" 252 y_Validity_memorySize ∈ xtb := x_in (List.mem_of_getElem? (i := 918) (by decide +kernel)) (by decide +kernel)
theorem m_646 : Cond.code y_Validity_memorySize prog_11_method_22_code 2 none ∈ xtb := x_in (List.mem_of_getElem? (i := 921) (by decide +kernel)) (by decide +kernel)
theorem m_647 : Cond.instanceMethod y_Validity_memorySize ∈ xtb := x_in (List.mem_of_getElem? (i := 920) (by decide +kernel)) (by decide +kernel)
theorem m_648 : Cond.selects "WasmReader$Validity" y_Validity_memorySize y_Validity_memorySize ∈ xtb := x_in (List.mem_of_getElem? (i := 46) (by decide +kernel)) (by decide +kernel)
theorem m_649 : Cond.methodLink "WasmReader$Validity" 255 y_Cursor_signed ∈ xtb := x_in (List.mem_of_getElem? (i := 922) (by decide +kernel)) (by decide +kernel)
theorem m_650 : Cond.fieldLink "WasmReader$Validity" 167 "WasmReader$Functions" "imported" "I" ∈ xtb := x_in (List.mem_of_getElem? (i := 196) (by decide +kernel)) (by decide +kernel)
theorem m_651 : Cond.methodLink "WasmReader$Validity" 168 y_TypeStack_begin ∈ xtb := x_in (List.mem_of_getElem? (i := 814) (by decide +kernel)) (by decide +kernel)
theorem m_652 : Cond.code y_TypeStack_begin prog_9_method_2_code 2 none ∈ xtb := x_in (List.mem_of_getElem? (i := 817) (by decide +kernel)) (by decide +kernel)
theorem m_653 : Cond.instanceMethod y_TypeStack_begin ∈ xtb := x_in (List.mem_of_getElem? (i := 815) (by decide +kernel)) (by decide +kernel)
theorem m_654 : Cond.selects "WasmReader$TypeStack" y_TypeStack_begin y_TypeStack_begin ∈ xtb := x_in (List.mem_of_getElem? (i := 816) (by decide +kernel)) (by decide +kernel)
theorem m_655 : Cond.fieldLink "WasmReader$Validity" 174 "WasmReader$Functions" "bodyStart" "[I" ∈ xtb := x_in (List.mem_of_getElem? (i := 211) (by decide +kernel)) (by decide +kernel)
theorem m_656 : Cond.fieldLink "WasmReader$Validity" 177 "WasmReader$Functions" "bodyBytes" "[I" ∈ xtb := x_in (List.mem_of_getElem? (i := 214) (by decide +kernel)) (by decide +kernel)
theorem m_657 : Cond.methodLink "WasmReader$Validity" 180 y_Cursor_span ∈ xtb := x_in (List.mem_of_getElem? (i := 822) (by decide +kernel)) (by decide +kernel)
theorem m_658 : Cond.methodLink "WasmReader$Validity" 186 y_Cursor_more ∈ xtb := x_in (List.mem_of_getElem? (i := 823) (by decide +kernel)) (by decide +kernel)
theorem m_659 : Cond.methodLink "WasmReader$Validity" 197 y_Validity_instruction ∈ xtb := x_in (List.mem_of_getElem? (i := 825) (by decide +kernel)) (by decide +kernel)
theorem m_660 : Cond.code y_Validity_instruction prog_11_method_11_code 3 none ∈ xtb := x_in (List.mem_of_getElem? (i := 828) (by decide +kernel)) (by decide +kernel)
theorem m_661 : Cond.instanceMethod y_Validity_instruction ∈ xtb := x_in (List.mem_of_getElem? (i := 827) (by decide +kernel)) (by decide +kernel)
theorem m_662 : Cond.selects "WasmReader$Validity" y_Validity_instruction y_Validity_instruction ∈ xtb := x_in (List.mem_of_getElem? (i := 34) (by decide +kernel)) (by decide +kernel)
theorem m_663 : Cond.constantLong "WasmReader$Validity" 29 4294967295 ∈ xtb := x_in (List.mem_of_getElem? (i := 760) (by decide +kernel)) (by decide +kernel)
theorem m_664 : Cond.methodLink "WasmReader$Validity" 31 y_Sized_holds ∈ xtb := x_in (List.mem_of_getElem? (i := 761) (by decide +kernel)) (by decide +kernel)
theorem m_665 : Cond.code y_Sized_holds prog_8_method_3_code 3 (some .boolean) ∈ xtb := x_in (List.mem_of_getElem? (i := 764) (by decide +kernel)) (by decide +kernel)
theorem m_666 : Cond.instanceMethod y_Sized_holds ∈ xtb := x_in (List.mem_of_getElem? (i := 762) (by decide +kernel)) (by decide +kernel)
theorem m_667 : Cond.selects "WasmReader$Sized" y_Sized_holds y_Sized_holds ∈ xtb := x_in (List.mem_of_getElem? (i := 763) (by decide +kernel)) (by decide +kernel)
theorem m_668 : Cond.constantLong "WasmReader$Validity" 40 65536 ∈ xtb := x_in (List.mem_of_getElem? (i := 765) (by decide +kernel)) (by decide +kernel)
theorem m_669 : Cond.methodLink "WasmReader$Validity" 42 y_Validity_typesHold ∈ xtb := x_in (List.mem_of_getElem? (i := 766) (by decide +kernel)) (by decide +kernel)
theorem m_670 : Cond.code y_Validity_typesHold prog_11_method_3_code 2 (some .boolean) ∈ xtb := x_in (List.mem_of_getElem? (i := 769) (by decide +kernel)) (by decide +kernel)
theorem m_671 : Cond.instanceMethod y_Validity_typesHold ∈ xtb := x_in (List.mem_of_getElem? (i := 768) (by decide +kernel)) (by decide +kernel)
theorem m_672 : Cond.selects "WasmReader$Validity" y_Validity_typesHold y_Validity_typesHold ∈ xtb := x_in (List.mem_of_getElem? (i := 26) (by decide +kernel)) (by decide +kernel)
theorem m_673 : Cond.methodLink "WasmReader$Validity" 46 y_Validity_globalsHold ∈ xtb := x_in (List.mem_of_getElem? (i := 772) (by decide +kernel)) (by decide +kernel)
theorem m_674 : Cond.code y_Validity_globalsHold prog_11_method_4_code 4 (some .boolean) ∈ xtb := x_in (List.mem_of_getElem? (i := 775) (by decide +kernel)) (by decide +kernel)
theorem m_675 : Cond.instanceMethod y_Validity_globalsHold ∈ xtb := x_in (List.mem_of_getElem? (i := 774) (by decide +kernel)) (by decide +kernel)
theorem m_676 : Cond.selects "WasmReader$Validity" y_Validity_globalsHold y_Validity_globalsHold ∈ xtb := x_in (List.mem_of_getElem? (i := 27) (by decide +kernel)) (by decide +kernel)
theorem m_677 : Cond.methodLink "WasmReader$Validity" 49 y_Validity_exportsHold ∈ xtb := x_in (List.mem_of_getElem? (i := 781) (by decide +kernel)) (by decide +kernel)
theorem m_678 : Cond.code y_Validity_exportsHold prog_11_method_6_code 4 (some .boolean) ∈ xtb := x_in (List.mem_of_getElem? (i := 784) (by decide +kernel)) (by decide +kernel)
theorem m_679 : Cond.instanceMethod y_Validity_exportsHold ∈ xtb := x_in (List.mem_of_getElem? (i := 783) (by decide +kernel)) (by decide +kernel)
theorem m_680 : Cond.selects "WasmReader$Validity" y_Validity_exportsHold y_Validity_exportsHold ∈ xtb := x_in (List.mem_of_getElem? (i := 29) (by decide +kernel)) (by decide +kernel)
theorem m_681 : Cond.methodLink "WasmReader$Validity" 52 y_Validity_startHolds ∈ xtb := x_in (List.mem_of_getElem? (i := 802) (by decide +kernel)) (by decide +kernel)
theorem m_682 : Cond.code y_Validity_startHolds prog_11_method_8_code 3 (some .boolean) ∈ xtb := x_in (List.mem_of_getElem? (i := 805) (by decide +kernel)) (by decide +kernel)
theorem m_683 : Cond.instanceMethod y_Validity_startHolds ∈ xtb := x_in (List.mem_of_getElem? (i := 804) (by decide +kernel)) (by decide +kernel)
theorem m_684 : Cond.selects "WasmReader$Validity" y_Validity_startHolds y_Validity_startHolds ∈ xtb := x_in (List.mem_of_getElem? (i := 31) (by decide +kernel)) (by decide +kernel)
theorem m_685 : Cond.fieldLink "WasmReader$Validity" 55 "WasmReader$WasmModule" "elements" "LWasmReader$Segments;" ∈ xtb := x_in (List.mem_of_getElem? (i := 371) (by decide +kernel)) (by decide +kernel)
theorem m_686 : Cond.methodLink "WasmReader$Validity" 63 y_Validity_segmentsHold ∈ xtb := x_in (List.mem_of_getElem? (i := 806) (by decide +kernel)) (by decide +kernel)
theorem m_687 : Cond.code y_Validity_segmentsHold prog_11_method_9_code 4 (some .boolean) ∈ xtb := x_in (List.mem_of_getElem? (i := 809) (by decide +kernel)) (by decide +kernel)
theorem m_688 : Cond.instanceMethod y_Validity_segmentsHold ∈ xtb := x_in (List.mem_of_getElem? (i := 808) (by decide +kernel)) (by decide +kernel)
theorem m_689 : Cond.selects "WasmReader$Validity" y_Validity_segmentsHold y_Validity_segmentsHold ∈ xtb := x_in (List.mem_of_getElem? (i := 32) (by decide +kernel)) (by decide +kernel)
theorem m_690 : Cond.fieldLink "WasmReader$Validity" 67 "WasmReader$WasmModule" "data" "LWasmReader$Segments;" ∈ xtb := x_in (List.mem_of_getElem? (i := 375) (by decide +kernel)) (by decide +kernel)
theorem m_691 : Cond.methodLink "WasmReader$Validity" 70 y_Validity_bodiesHold ∈ xtb := x_in (List.mem_of_getElem? (i := 810) (by decide +kernel)) (by decide +kernel)
theorem m_692 : Cond.code y_Validity_bodiesHold prog_11_method_10_code 4 (some .boolean) ∈ xtb := x_in (List.mem_of_getElem? (i := 813) (by decide +kernel)) (by decide +kernel)
theorem m_693 : Cond.instanceMethod y_Validity_bodiesHold ∈ xtb := x_in (List.mem_of_getElem? (i := 812) (by decide +kernel)) (by decide +kernel)
theorem m_694 : Cond.selects "WasmReader$Validity" y_Validity_bodiesHold y_Validity_bodiesHold ∈ xtb := x_in (List.mem_of_getElem? (i := 33) (by decide +kernel)) (by decide +kernel)
theorem d_Validity_typesHold_0 : decode prog_11_method_3_code 0 = .ok (.iconst 0, 1) := by decide +kernel
theorem d_Validity_typesHold_1 : decode prog_11_method_3_code 1 = .ok (.istore_n 1, 1) := by decide +kernel
theorem d_Validity_typesHold_2 : decode prog_11_method_3_code 2 = .ok (.aload_n 0, 1) := by decide +kernel
theorem d_Validity_typesHold_3 : decode prog_11_method_3_code 3 = .ok (.getfield 15, 3) := by decide +kernel
theorem d_Validity_typesHold_6 : decode prog_11_method_3_code 6 = .ok (.getfield 73, 3) := by decide +kernel
theorem d_Validity_typesHold_9 : decode prog_11_method_3_code 9 = .ok (.iload_n 1, 1) := by decide +kernel
theorem d_Validity_typesHold_10 : decode prog_11_method_3_code 10 = .ok (.invokevirtual 77, 3) := by decide +kernel
theorem d_Validity_typesHold_13 : decode prog_11_method_3_code 13 = .ok (.ifCond .eq 42, 3) := by decide +kernel
theorem d_Validity_typesHold_55 : decode prog_11_method_3_code 55 = .ok (.iconst 1, 1) := by decide +kernel
theorem d_Validity_typesHold_56 : decode prog_11_method_3_code 56 = .ok (.ireturn, 1) := by decide +kernel
theorem d_Validity_typesHold_16 : decode prog_11_method_3_code 16 = .ok (.iload_n 1, 1) := by decide +kernel
theorem d_Validity_typesHold_17 : decode prog_11_method_3_code 17 = .ok (.bipush 60, 2) := by decide +kernel
theorem d_Validity_typesHold_19 : decode prog_11_method_3_code 19 = .ok (.if_icmp .ge 36, 3) := by decide +kernel
theorem d_Validity_typesHold_22 : decode prog_11_method_3_code 22 = .ok (.aload_n 0, 1) := by decide +kernel
theorem d_Validity_typesHold_23 : decode prog_11_method_3_code 23 = .ok (.getfield 15, 3) := by decide +kernel
theorem d_Validity_typesHold_26 : decode prog_11_method_3_code 26 = .ok (.getfield 83, 3) := by decide +kernel
theorem d_Validity_typesHold_29 : decode prog_11_method_3_code 29 = .ok (.aload_n 0, 1) := by decide +kernel
theorem d_Validity_typesHold_30 : decode prog_11_method_3_code 30 = .ok (.getfield 15, 3) := by decide +kernel
theorem d_Validity_typesHold_33 : decode prog_11_method_3_code 33 = .ok (.getfield 73, 3) := by decide +kernel
theorem d_Validity_typesHold_36 : decode prog_11_method_3_code 36 = .ok (.getfield 87, 3) := by decide +kernel
theorem d_Validity_typesHold_39 : decode prog_11_method_3_code 39 = .ok (.iload_n 1, 1) := by decide +kernel
theorem d_Validity_typesHold_40 : decode prog_11_method_3_code 40 = .ok (.iaload, 1) := by decide +kernel
theorem d_Validity_typesHold_41 : decode prog_11_method_3_code 41 = .ok (.invokevirtual 91, 3) := by decide +kernel
theorem d_Validity_typesHold_44 : decode prog_11_method_3_code 44 = .ok (.ifCond .ne 5, 3) := by decide +kernel
theorem d_Validity_typesHold_47 : decode prog_11_method_3_code 47 = .ok (.iconst 0, 1) := by decide +kernel
theorem d_Validity_typesHold_48 : decode prog_11_method_3_code 48 = .ok (.ireturn, 1) := by decide +kernel
theorem d_Validity_typesHold_49 : decode prog_11_method_3_code 49 = .ok (.iinc 1 1, 3) := by decide +kernel
theorem d_Validity_typesHold_52 : decode prog_11_method_3_code 52 = .ok (.goto (-50), 3) := by decide +kernel
theorem d_Validity_initialHolds_0 : decode prog_11_method_5_code 0 = .ok (.iload_n 1, 1) := by decide +kernel
theorem d_Validity_initialHolds_1 : decode prog_11_method_5_code 1 = .ok (.bipush 35, 2) := by decide +kernel
theorem d_Validity_initialHolds_3 : decode prog_11_method_5_code 3 = .ok (.if_icmp .eq 25, 3) := by decide +kernel
theorem d_Validity_initialHolds_28 : decode prog_11_method_5_code 28 = .ok (.lload_n 2, 1) := by decide +kernel
theorem d_Validity_initialHolds_29 : decode prog_11_method_5_code 29 = .ok (.l2i, 1) := by decide +kernel
theorem d_Validity_initialHolds_30 : decode prog_11_method_5_code 30 = .ok (.istore 6, 2) := by decide +kernel
theorem d_Validity_initialHolds_32 : decode prog_11_method_5_code 32 = .ok (.iload 6, 2) := by decide +kernel
theorem d_Validity_initialHolds_34 : decode prog_11_method_5_code 34 = .ok (.iload 5, 2) := by decide +kernel
theorem d_Validity_initialHolds_36 : decode prog_11_method_5_code 36 = .ok (.if_icmp .ge 56, 3) := by decide +kernel
theorem d_Validity_initialHolds_92 : decode prog_11_method_5_code 92 = .ok (.iconst 0, 1) := by decide +kernel
theorem d_Validity_initialHolds_93 : decode prog_11_method_5_code 93 = .ok (.ireturn, 1) := by decide +kernel
theorem d_Validity_initialHolds_39 : decode prog_11_method_5_code 39 = .ok (.aload_n 0, 1) := by decide +kernel
theorem d_Validity_initialHolds_40 : decode prog_11_method_5_code 40 = .ok (.getfield 15, 3) := by decide +kernel
theorem d_Validity_initialHolds_43 : decode prog_11_method_5_code 43 = .ok (.getfield 94, 3) := by decide +kernel
theorem d_Validity_initialHolds_46 : decode prog_11_method_5_code 46 = .ok (.iload 6, 2) := by decide +kernel
theorem d_Validity_initialHolds_48 : decode prog_11_method_5_code 48 = .ok (.invokevirtual 103, 3) := by decide +kernel
theorem d_Validity_initialHolds_51 : decode prog_11_method_5_code 51 = .ok (.ifCond .eq 41, 3) := by decide +kernel
theorem d_Validity_initialHolds_54 : decode prog_11_method_5_code 54 = .ok (.aload_n 0, 1) := by decide +kernel
theorem d_Validity_initialHolds_55 : decode prog_11_method_5_code 55 = .ok (.getfield 15, 3) := by decide +kernel
theorem d_Validity_initialHolds_58 : decode prog_11_method_5_code 58 = .ok (.getfield 94, 3) := by decide +kernel
theorem d_Validity_initialHolds_61 : decode prog_11_method_5_code 61 = .ok (.getfield 116, 3) := by decide +kernel
theorem d_Validity_initialHolds_64 : decode prog_11_method_5_code 64 = .ok (.iload 6, 2) := by decide +kernel
theorem d_Validity_initialHolds_66 : decode prog_11_method_5_code 66 = .ok (.baload, 1) := by decide +kernel
theorem d_Validity_initialHolds_67 : decode prog_11_method_5_code 67 = .ok (.ifCond .ne 25, 3) := by decide +kernel
theorem d_Validity_initialHolds_70 : decode prog_11_method_5_code 70 = .ok (.aload_n 0, 1) := by decide +kernel
theorem d_Validity_initialHolds_71 : decode prog_11_method_5_code 71 = .ok (.getfield 15, 3) := by decide +kernel
theorem d_Validity_initialHolds_74 : decode prog_11_method_5_code 74 = .ok (.getfield 94, 3) := by decide +kernel
theorem d_Validity_initialHolds_77 : decode prog_11_method_5_code 77 = .ok (.getfield 111, 3) := by decide +kernel
theorem d_Validity_initialHolds_80 : decode prog_11_method_5_code 80 = .ok (.iload 6, 2) := by decide +kernel
theorem d_Validity_initialHolds_82 : decode prog_11_method_5_code 82 = .ok (.iaload, 1) := by decide +kernel
theorem d_Validity_initialHolds_83 : decode prog_11_method_5_code 83 = .ok (.iload 4, 2) := by decide +kernel
theorem d_Validity_initialHolds_85 : decode prog_11_method_5_code 85 = .ok (.if_icmp .ne 7, 3) := by decide +kernel
theorem d_Validity_initialHolds_88 : decode prog_11_method_5_code 88 = .ok (.iconst 1, 1) := by decide +kernel
theorem d_Validity_initialHolds_89 : decode prog_11_method_5_code 89 = .ok (.goto 4, 3) := by decide +kernel
theorem d_Validity_initialHolds_6 : decode prog_11_method_5_code 6 = .ok (.iload 4, 2) := by decide +kernel
theorem d_Validity_initialHolds_8 : decode prog_11_method_5_code 8 = .ok (.iload_n 1, 1) := by decide +kernel
theorem d_Validity_initialHolds_9 : decode prog_11_method_5_code 9 = .ok (.bipush 66, 2) := by decide +kernel
theorem d_Validity_initialHolds_11 : decode prog_11_method_5_code 11 = .ok (.if_icmp .ne 7, 3) := by decide +kernel
theorem d_Validity_initialHolds_18 : decode prog_11_method_5_code 18 = .ok (.iconst 0, 1) := by decide +kernel
theorem d_Validity_initialHolds_19 : decode prog_11_method_5_code 19 = .ok (.if_icmp .ne 7, 3) := by decide +kernel
theorem d_Validity_initialHolds_26 : decode prog_11_method_5_code 26 = .ok (.iconst 0, 1) := by decide +kernel
theorem d_Validity_initialHolds_27 : decode prog_11_method_5_code 27 = .ok (.ireturn, 1) := by decide +kernel
theorem d_Validity_initialHolds_22 : decode prog_11_method_5_code 22 = .ok (.iconst 1, 1) := by decide +kernel
theorem d_Validity_initialHolds_23 : decode prog_11_method_5_code 23 = .ok (.goto 4, 3) := by decide +kernel
theorem d_Validity_initialHolds_14 : decode prog_11_method_5_code 14 = .ok (.iconst 1, 1) := by decide +kernel
theorem d_Validity_initialHolds_15 : decode prog_11_method_5_code 15 = .ok (.goto 4, 3) := by decide +kernel
theorem d_Validity_globalsHold_0 : decode prog_11_method_4_code 0 = .ok (.aload_n 0, 1) := by decide +kernel
theorem d_Validity_globalsHold_1 : decode prog_11_method_4_code 1 = .ok (.getfield 15, 3) := by decide +kernel
theorem d_Validity_globalsHold_4 : decode prog_11_method_4_code 4 = .ok (.getfield 94, 3) := by decide +kernel
theorem d_Validity_globalsHold_7 : decode prog_11_method_4_code 7 = .ok (.astore_n 1, 1) := by decide +kernel
theorem d_Validity_globalsHold_8 : decode prog_11_method_4_code 8 = .ok (.aload_n 1, 1) := by decide +kernel
theorem d_Validity_globalsHold_9 : decode prog_11_method_4_code 9 = .ok (.getfield 98, 3) := by decide +kernel
theorem d_Validity_globalsHold_12 : decode prog_11_method_4_code 12 = .ok (.istore_n 2, 1) := by decide +kernel
theorem d_Validity_globalsHold_13 : decode prog_11_method_4_code 13 = .ok (.aload_n 1, 1) := by decide +kernel
theorem d_Validity_globalsHold_14 : decode prog_11_method_4_code 14 = .ok (.iload_n 2, 1) := by decide +kernel
theorem d_Validity_globalsHold_15 : decode prog_11_method_4_code 15 = .ok (.invokevirtual 103, 3) := by decide +kernel
theorem d_Validity_globalsHold_18 : decode prog_11_method_4_code 18 = .ok (.ifCond .eq 48, 3) := by decide +kernel
theorem d_Validity_globalsHold_66 : decode prog_11_method_4_code 66 = .ok (.iconst 1, 1) := by decide +kernel
theorem d_Validity_globalsHold_67 : decode prog_11_method_4_code 67 = .ok (.ireturn, 1) := by decide +kernel
theorem d_Validity_globalsHold_21 : decode prog_11_method_4_code 21 = .ok (.iload_n 2, 1) := by decide +kernel
theorem d_Validity_globalsHold_22 : decode prog_11_method_4_code 22 = .ok (.bipush 30, 2) := by decide +kernel
theorem d_Validity_globalsHold_24 : decode prog_11_method_4_code 24 = .ok (.if_icmp .ge 42, 3) := by decide +kernel
theorem d_Validity_globalsHold_27 : decode prog_11_method_4_code 27 = .ok (.aload_n 1, 1) := by decide +kernel
theorem d_Validity_globalsHold_28 : decode prog_11_method_4_code 28 = .ok (.getfield 104, 3) := by decide +kernel
theorem d_Validity_globalsHold_31 : decode prog_11_method_4_code 31 = .ok (.iload_n 2, 1) := by decide +kernel
theorem d_Validity_globalsHold_32 : decode prog_11_method_4_code 32 = .ok (.iaload, 1) := by decide +kernel
theorem d_Validity_globalsHold_33 : decode prog_11_method_4_code 33 = .ok (.istore_n 3, 1) := by decide +kernel
theorem d_Validity_globalsHold_34 : decode prog_11_method_4_code 34 = .ok (.aload_n 0, 1) := by decide +kernel
theorem d_Validity_globalsHold_35 : decode prog_11_method_4_code 35 = .ok (.iload_n 3, 1) := by decide +kernel
theorem d_Validity_globalsHold_36 : decode prog_11_method_4_code 36 = .ok (.aload_n 1, 1) := by decide +kernel
theorem d_Validity_globalsHold_37 : decode prog_11_method_4_code 37 = .ok (.getfield 107, 3) := by decide +kernel
theorem d_Validity_globalsHold_40 : decode prog_11_method_4_code 40 = .ok (.iload_n 2, 1) := by decide +kernel
theorem d_Validity_globalsHold_41 : decode prog_11_method_4_code 41 = .ok (.laload, 1) := by decide +kernel
theorem d_Validity_globalsHold_42 : decode prog_11_method_4_code 42 = .ok (.aload_n 1, 1) := by decide +kernel
theorem d_Validity_globalsHold_43 : decode prog_11_method_4_code 43 = .ok (.getfield 111, 3) := by decide +kernel
theorem d_Validity_globalsHold_46 : decode prog_11_method_4_code 46 = .ok (.iload_n 2, 1) := by decide +kernel
theorem d_Validity_globalsHold_47 : decode prog_11_method_4_code 47 = .ok (.iaload, 1) := by decide +kernel
theorem d_Validity_globalsHold_48 : decode prog_11_method_4_code 48 = .ok (.aload_n 1, 1) := by decide +kernel
theorem d_Validity_globalsHold_49 : decode prog_11_method_4_code 49 = .ok (.getfield 98, 3) := by decide +kernel
theorem d_Validity_globalsHold_52 : decode prog_11_method_4_code 52 = .ok (.invokevirtual 112, 3) := by decide +kernel
theorem nm_Validity_initialHolds : x_nm y_Validity_initialHolds 4 = true := by decide +kernel
theorem d_Validity_globalsHold_55 : decode prog_11_method_4_code 55 = .ok (.ifCond .ne 5, 3) := by decide +kernel
theorem d_Validity_globalsHold_60 : decode prog_11_method_4_code 60 = .ok (.iinc 2 1, 3) := by decide +kernel
theorem d_Validity_globalsHold_63 : decode prog_11_method_4_code 63 = .ok (.goto (-50), 3) := by decide +kernel
theorem d_Validity_globalsHold_58 : decode prog_11_method_4_code 58 = .ok (.iconst 0, 1) := by decide +kernel
theorem d_Validity_globalsHold_59 : decode prog_11_method_4_code 59 = .ok (.ireturn, 1) := by decide +kernel
theorem d_Validity_countOfSort_0 : decode prog_11_method_7_code 0 = .ok (.iload_n 1, 1) := by decide +kernel
theorem d_Validity_countOfSort_1 : decode prog_11_method_7_code 1 = .ok (.tableswitch 60 0 2 #[27, 38, 49], 27) := by decide +kernel
theorem d_Validity_countOfSort_28 : decode prog_11_method_7_code 28 = .ok (.aload_n 0, 1) := by decide +kernel
theorem d_Validity_countOfSort_29 : decode prog_11_method_7_code 29 = .ok (.getfield 15, 3) := by decide +kernel
theorem d_Validity_countOfSort_32 : decode prog_11_method_7_code 32 = .ok (.getfield 73, 3) := by decide +kernel
theorem d_Validity_countOfSort_35 : decode prog_11_method_7_code 35 = .ok (.getfield 141, 3) := by decide +kernel
theorem d_Validity_countOfSort_38 : decode prog_11_method_7_code 38 = .ok (.ireturn, 1) := by decide +kernel
theorem d_Validity_countOfSort_39 : decode prog_11_method_7_code 39 = .ok (.aload_n 0, 1) := by decide +kernel
theorem d_Validity_countOfSort_40 : decode prog_11_method_7_code 40 = .ok (.getfield 15, 3) := by decide +kernel
theorem d_Validity_countOfSort_43 : decode prog_11_method_7_code 43 = .ok (.getfield 23, 3) := by decide +kernel
theorem d_Validity_countOfSort_46 : decode prog_11_method_7_code 46 = .ok (.getfield 59, 3) := by decide +kernel
theorem d_Validity_countOfSort_49 : decode prog_11_method_7_code 49 = .ok (.ireturn, 1) := by decide +kernel
theorem d_Validity_countOfSort_50 : decode prog_11_method_7_code 50 = .ok (.aload_n 0, 1) := by decide +kernel
theorem d_Validity_countOfSort_51 : decode prog_11_method_7_code 51 = .ok (.getfield 15, 3) := by decide +kernel
theorem d_Validity_countOfSort_54 : decode prog_11_method_7_code 54 = .ok (.getfield 37, 3) := by decide +kernel
theorem d_Validity_countOfSort_57 : decode prog_11_method_7_code 57 = .ok (.getfield 59, 3) := by decide +kernel
theorem d_Validity_countOfSort_60 : decode prog_11_method_7_code 60 = .ok (.ireturn, 1) := by decide +kernel
theorem d_Validity_countOfSort_61 : decode prog_11_method_7_code 61 = .ok (.aload_n 0, 1) := by decide +kernel
theorem d_Validity_countOfSort_62 : decode prog_11_method_7_code 62 = .ok (.getfield 15, 3) := by decide +kernel
theorem d_Validity_countOfSort_65 : decode prog_11_method_7_code 65 = .ok (.getfield 94, 3) := by decide +kernel
theorem d_Validity_countOfSort_68 : decode prog_11_method_7_code 68 = .ok (.getfield 142, 3) := by decide +kernel
theorem d_Validity_countOfSort_71 : decode prog_11_method_7_code 71 = .ok (.ireturn, 1) := by decide +kernel
theorem d_Validity_exportsHold_0 : decode prog_11_method_6_code 0 = .ok (.aload_n 0, 1) := by decide +kernel
theorem d_Validity_exportsHold_1 : decode prog_11_method_6_code 1 = .ok (.getfield 15, 3) := by decide +kernel
theorem d_Validity_exportsHold_4 : decode prog_11_method_6_code 4 = .ok (.getfield 120, 3) := by decide +kernel
theorem d_Validity_exportsHold_7 : decode prog_11_method_6_code 7 = .ok (.astore_n 1, 1) := by decide +kernel
theorem d_Validity_exportsHold_8 : decode prog_11_method_6_code 8 = .ok (.iconst 0, 1) := by decide +kernel
theorem d_Validity_exportsHold_9 : decode prog_11_method_6_code 9 = .ok (.istore_n 2, 1) := by decide +kernel
theorem d_Validity_exportsHold_10 : decode prog_11_method_6_code 10 = .ok (.aload_n 1, 1) := by decide +kernel
theorem d_Validity_exportsHold_11 : decode prog_11_method_6_code 11 = .ok (.iload_n 2, 1) := by decide +kernel
theorem d_Validity_exportsHold_12 : decode prog_11_method_6_code 12 = .ok (.invokevirtual 124, 3) := by decide +kernel
theorem d_Validity_exportsHold_15 : decode prog_11_method_6_code 15 = .ok (.ifCond .eq 60, 3) := by decide +kernel
theorem d_Validity_exportsHold_75 : decode prog_11_method_6_code 75 = .ok (.iconst 1, 1) := by decide +kernel
theorem d_Validity_exportsHold_76 : decode prog_11_method_6_code 76 = .ok (.ireturn, 1) := by decide +kernel
theorem d_Validity_exportsHold_18 : decode prog_11_method_6_code 18 = .ok (.iload_n 2, 1) := by decide +kernel
theorem d_Validity_exportsHold_19 : decode prog_11_method_6_code 19 = .ok (.bipush 40, 2) := by decide +kernel
theorem d_Validity_exportsHold_21 : decode prog_11_method_6_code 21 = .ok (.if_icmp .ge 54, 3) := by decide +kernel
theorem d_Validity_exportsHold_24 : decode prog_11_method_6_code 24 = .ok (.aload_n 1, 1) := by decide +kernel
theorem d_Validity_exportsHold_25 : decode prog_11_method_6_code 25 = .ok (.getfield 127, 3) := by decide +kernel
theorem d_Validity_exportsHold_28 : decode prog_11_method_6_code 28 = .ok (.iload_n 2, 1) := by decide +kernel
theorem d_Validity_exportsHold_29 : decode prog_11_method_6_code 29 = .ok (.iaload, 1) := by decide +kernel
theorem d_Validity_exportsHold_30 : decode prog_11_method_6_code 30 = .ok (.aload_n 0, 1) := by decide +kernel
theorem d_Validity_exportsHold_31 : decode prog_11_method_6_code 31 = .ok (.aload_n 1, 1) := by decide +kernel
theorem d_Validity_exportsHold_32 : decode prog_11_method_6_code 32 = .ok (.getfield 130, 3) := by decide +kernel
theorem d_Validity_exportsHold_35 : decode prog_11_method_6_code 35 = .ok (.iload_n 2, 1) := by decide +kernel
theorem d_Validity_exportsHold_36 : decode prog_11_method_6_code 36 = .ok (.iaload, 1) := by decide +kernel
theorem d_Validity_exportsHold_37 : decode prog_11_method_6_code 37 = .ok (.invokevirtual 133, 3) := by decide +kernel
theorem nm_Validity_countOfSort : x_nm y_Validity_countOfSort 1 = true := by decide +kernel
theorem d_Validity_exportsHold_40 : decode prog_11_method_6_code 40 = .ok (.if_icmp .lt 5, 3) := by decide +kernel
theorem d_Validity_exportsHold_45 : decode prog_11_method_6_code 45 = .ok (.iconst 0, 1) := by decide +kernel
theorem d_Validity_exportsHold_46 : decode prog_11_method_6_code 46 = .ok (.istore_n 3, 1) := by decide +kernel
theorem d_Validity_exportsHold_47 : decode prog_11_method_6_code 47 = .ok (.iload_n 3, 1) := by decide +kernel
theorem d_Validity_exportsHold_48 : decode prog_11_method_6_code 48 = .ok (.iload_n 2, 1) := by decide +kernel
theorem d_Validity_exportsHold_49 : decode prog_11_method_6_code 49 = .ok (.if_icmp .ge 20, 3) := by decide +kernel
theorem d_Validity_exportsHold_69 : decode prog_11_method_6_code 69 = .ok (.iinc 2 1, 3) := by decide +kernel
theorem d_Validity_exportsHold_72 : decode prog_11_method_6_code 72 = .ok (.goto (-62), 3) := by decide +kernel
theorem d_Validity_exportsHold_52 : decode prog_11_method_6_code 52 = .ok (.aload_n 1, 1) := by decide +kernel
theorem d_Validity_exportsHold_53 : decode prog_11_method_6_code 53 = .ok (.iload_n 2, 1) := by decide +kernel
theorem d_Validity_exportsHold_54 : decode prog_11_method_6_code 54 = .ok (.iload_n 3, 1) := by decide +kernel
theorem d_Validity_exportsHold_55 : decode prog_11_method_6_code 55 = .ok (.invokevirtual 137, 3) := by decide +kernel
theorem nm_Exports_sameName : x_nm y_Exports_sameName 2 = true := by decide +kernel
theorem d_Validity_exportsHold_58 : decode prog_11_method_6_code 58 = .ok (.ifCond .eq 5, 3) := by decide +kernel
theorem d_Validity_exportsHold_63 : decode prog_11_method_6_code 63 = .ok (.iinc 3 1, 3) := by decide +kernel
theorem d_Validity_exportsHold_66 : decode prog_11_method_6_code 66 = .ok (.goto (-19), 3) := by decide +kernel
theorem d_Validity_exportsHold_61 : decode prog_11_method_6_code 61 = .ok (.iconst 0, 1) := by decide +kernel
theorem d_Validity_exportsHold_62 : decode prog_11_method_6_code 62 = .ok (.ireturn, 1) := by decide +kernel
theorem d_Validity_exportsHold_43 : decode prog_11_method_6_code 43 = .ok (.iconst 0, 1) := by decide +kernel
theorem d_Validity_exportsHold_44 : decode prog_11_method_6_code 44 = .ok (.ireturn, 1) := by decide +kernel
theorem d_Validity_startHolds_0 : decode prog_11_method_8_code 0 = .ok (.aload_n 0, 1) := by decide +kernel
theorem d_Validity_startHolds_1 : decode prog_11_method_8_code 1 = .ok (.getfield 15, 3) := by decide +kernel
theorem d_Validity_startHolds_4 : decode prog_11_method_8_code 4 = .ok (.getfield 143, 3) := by decide +kernel
theorem d_Validity_startHolds_7 : decode prog_11_method_8_code 7 = .ok (.istore_n 1, 1) := by decide +kernel
theorem d_Validity_startHolds_8 : decode prog_11_method_8_code 8 = .ok (.aload_n 0, 1) := by decide +kernel
theorem d_Validity_startHolds_9 : decode prog_11_method_8_code 9 = .ok (.getfield 15, 3) := by decide +kernel
theorem d_Validity_startHolds_12 : decode prog_11_method_8_code 12 = .ok (.getfield 73, 3) := by decide +kernel
theorem d_Validity_startHolds_15 : decode prog_11_method_8_code 15 = .ok (.astore_n 2, 1) := by decide +kernel
theorem d_Validity_startHolds_16 : decode prog_11_method_8_code 16 = .ok (.iload_n 1, 1) := by decide +kernel
theorem d_Validity_startHolds_17 : decode prog_11_method_8_code 17 = .ok (.iconst (-1), 1) := by decide +kernel
theorem d_Validity_startHolds_18 : decode prog_11_method_8_code 18 = .ok (.if_icmp .eq 30, 3) := by decide +kernel
theorem d_Validity_startHolds_48 : decode prog_11_method_8_code 48 = .ok (.iconst 1, 1) := by decide +kernel
theorem d_Validity_startHolds_49 : decode prog_11_method_8_code 49 = .ok (.goto 4, 3) := by decide +kernel
theorem d_Validity_startHolds_53 : decode prog_11_method_8_code 53 = .ok (.ireturn, 1) := by decide +kernel
theorem d_Validity_startHolds_21 : decode prog_11_method_8_code 21 = .ok (.aload_n 2, 1) := by decide +kernel
theorem d_Validity_startHolds_22 : decode prog_11_method_8_code 22 = .ok (.iload_n 1, 1) := by decide +kernel
theorem d_Validity_startHolds_23 : decode prog_11_method_8_code 23 = .ok (.invokevirtual 77, 3) := by decide +kernel
theorem d_Validity_startHolds_26 : decode prog_11_method_8_code 26 = .ok (.ifCond .eq 26, 3) := by decide +kernel
theorem d_Validity_startHolds_52 : decode prog_11_method_8_code 52 = .ok (.iconst 0, 1) := by decide +kernel
theorem d_Validity_startHolds_29 : decode prog_11_method_8_code 29 = .ok (.aload_n 2, 1) := by decide +kernel
theorem d_Validity_startHolds_30 : decode prog_11_method_8_code 30 = .ok (.getfield 146, 3) := by decide +kernel
theorem d_Validity_startHolds_33 : decode prog_11_method_8_code 33 = .ok (.iload_n 1, 1) := by decide +kernel
theorem d_Validity_startHolds_34 : decode prog_11_method_8_code 34 = .ok (.iaload, 1) := by decide +kernel
theorem d_Validity_startHolds_35 : decode prog_11_method_8_code 35 = .ok (.ifCond .ne 17, 3) := by decide +kernel
theorem d_Validity_startHolds_38 : decode prog_11_method_8_code 38 = .ok (.aload_n 2, 1) := by decide +kernel
theorem d_Validity_startHolds_39 : decode prog_11_method_8_code 39 = .ok (.getfield 149, 3) := by decide +kernel
theorem d_Validity_startHolds_42 : decode prog_11_method_8_code 42 = .ok (.iload_n 1, 1) := by decide +kernel
theorem d_Validity_startHolds_43 : decode prog_11_method_8_code 43 = .ok (.iaload, 1) := by decide +kernel
theorem d_Validity_startHolds_44 : decode prog_11_method_8_code 44 = .ok (.iconst (-1), 1) := by decide +kernel
theorem d_Validity_startHolds_45 : decode prog_11_method_8_code 45 = .ok (.if_icmp .ne 7, 3) := by decide +kernel
theorem d_Validity_segmentsHold_0 : decode prog_11_method_9_code 0 = .ok (.iconst 0, 1) := by decide +kernel
theorem d_Validity_segmentsHold_1 : decode prog_11_method_9_code 1 = .ok (.istore_n 3, 1) := by decide +kernel
theorem d_Validity_segmentsHold_2 : decode prog_11_method_9_code 2 = .ok (.iload_n 3, 1) := by decide +kernel
theorem d_Validity_segmentsHold_3 : decode prog_11_method_9_code 3 = .ok (.aload_n 1, 1) := by decide +kernel
theorem d_Validity_segmentsHold_4 : decode prog_11_method_9_code 4 = .ok (.getfield 152, 3) := by decide +kernel
theorem d_Validity_segmentsHold_7 : decode prog_11_method_9_code 7 = .ok (.if_icmp .ge 68, 3) := by decide +kernel
theorem d_Validity_segmentsHold_75 : decode prog_11_method_9_code 75 = .ok (.iconst 1, 1) := by decide +kernel
theorem d_Validity_segmentsHold_76 : decode prog_11_method_9_code 76 = .ok (.ireturn, 1) := by decide +kernel
theorem d_Validity_segmentsHold_10 : decode prog_11_method_9_code 10 = .ok (.iload_n 3, 1) := by decide +kernel
theorem d_Validity_segmentsHold_11 : decode prog_11_method_9_code 11 = .ok (.bipush 20, 2) := by decide +kernel
theorem d_Validity_segmentsHold_13 : decode prog_11_method_9_code 13 = .ok (.if_icmp .ge 62, 3) := by decide +kernel
theorem d_Validity_segmentsHold_16 : decode prog_11_method_9_code 16 = .ok (.aload_n 1, 1) := by decide +kernel
theorem d_Validity_segmentsHold_17 : decode prog_11_method_9_code 17 = .ok (.getfield 155, 3) := by decide +kernel
theorem d_Validity_segmentsHold_20 : decode prog_11_method_9_code 20 = .ok (.iload_n 3, 1) := by decide +kernel
theorem d_Validity_segmentsHold_21 : decode prog_11_method_9_code 21 = .ok (.iaload, 1) := by decide +kernel
theorem d_Validity_segmentsHold_22 : decode prog_11_method_9_code 22 = .ok (.iload_n 2, 1) := by decide +kernel
theorem d_Validity_segmentsHold_23 : decode prog_11_method_9_code 23 = .ok (.if_icmp .ge 44, 3) := by decide +kernel
theorem d_Validity_segmentsHold_67 : decode prog_11_method_9_code 67 = .ok (.iconst 0, 1) := by decide +kernel
theorem d_Validity_segmentsHold_68 : decode prog_11_method_9_code 68 = .ok (.ireturn, 1) := by decide +kernel
theorem d_Validity_segmentsHold_26 : decode prog_11_method_9_code 26 = .ok (.aload_n 1, 1) := by decide +kernel
theorem d_Validity_segmentsHold_27 : decode prog_11_method_9_code 27 = .ok (.getfield 158, 3) := by decide +kernel
theorem d_Validity_segmentsHold_30 : decode prog_11_method_9_code 30 = .ok (.iload_n 3, 1) := by decide +kernel
theorem d_Validity_segmentsHold_31 : decode prog_11_method_9_code 31 = .ok (.iaload, 1) := by decide +kernel
theorem d_Validity_segmentsHold_32 : decode prog_11_method_9_code 32 = .ok (.aload_n 0, 1) := by decide +kernel
theorem d_Validity_segmentsHold_33 : decode prog_11_method_9_code 33 = .ok (.getfield 15, 3) := by decide +kernel
theorem d_Validity_segmentsHold_36 : decode prog_11_method_9_code 36 = .ok (.getfield 73, 3) := by decide +kernel
theorem d_Validity_segmentsHold_39 : decode prog_11_method_9_code 39 = .ok (.getfield 141, 3) := by decide +kernel
theorem d_Validity_segmentsHold_42 : decode prog_11_method_9_code 42 = .ok (.if_icmp .ge 25, 3) := by decide +kernel
theorem d_Validity_segmentsHold_45 : decode prog_11_method_9_code 45 = .ok (.aload_n 0, 1) := by decide +kernel
theorem d_Validity_segmentsHold_46 : decode prog_11_method_9_code 46 = .ok (.aload_n 1, 1) := by decide +kernel
theorem d_Validity_segmentsHold_47 : decode prog_11_method_9_code 47 = .ok (.getfield 161, 3) := by decide +kernel
theorem d_Validity_segmentsHold_50 : decode prog_11_method_9_code 50 = .ok (.iload_n 3, 1) := by decide +kernel
theorem d_Validity_segmentsHold_51 : decode prog_11_method_9_code 51 = .ok (.iaload, 1) := by decide +kernel
theorem d_Validity_segmentsHold_52 : decode prog_11_method_9_code 52 = .ok (.aload_n 1, 1) := by decide +kernel
theorem d_Validity_segmentsHold_53 : decode prog_11_method_9_code 53 = .ok (.getfield 164, 3) := by decide +kernel
theorem d_Validity_segmentsHold_56 : decode prog_11_method_9_code 56 = .ok (.iload_n 3, 1) := by decide +kernel
theorem d_Validity_segmentsHold_57 : decode prog_11_method_9_code 57 = .ok (.laload, 1) := by decide +kernel
theorem d_Validity_segmentsHold_58 : decode prog_11_method_9_code 58 = .ok (.iconst 0, 1) := by decide +kernel
theorem d_Validity_segmentsHold_59 : decode prog_11_method_9_code 59 = .ok (.bipush 30, 2) := by decide +kernel
theorem d_Validity_segmentsHold_61 : decode prog_11_method_9_code 61 = .ok (.invokevirtual 112, 3) := by decide +kernel
theorem d_Validity_segmentsHold_64 : decode prog_11_method_9_code 64 = .ok (.ifCond .ne 5, 3) := by decide +kernel
theorem d_Validity_segmentsHold_69 : decode prog_11_method_9_code 69 = .ok (.iinc 3 1, 3) := by decide +kernel
theorem d_Validity_segmentsHold_72 : decode prog_11_method_9_code 72 = .ok (.goto (-70), 3) := by decide +kernel
theorem d_Validity_ifBlock_0 : decode prog_11_method_12_code 0 = .ok (.aload_n 0, 1) := by decide +kernel
theorem d_Validity_ifBlock_1 : decode prog_11_method_12_code 1 = .ok (.getfield 19, 3) := by decide +kernel
theorem d_Validity_ifBlock_4 : decode prog_11_method_12_code 4 = .ok (.iconst 0, 1) := by decide +kernel
theorem d_Validity_ifBlock_5 : decode prog_11_method_12_code 5 = .ok (.invokevirtual 239, 3) := by decide +kernel
theorem d_Validity_ifBlock_8 : decode prog_11_method_12_code 8 = .ok (.pop, 1) := by decide +kernel
theorem d_Validity_ifBlock_9 : decode prog_11_method_12_code 9 = .ok (.aload_n 0, 1) := by decide +kernel
theorem d_Validity_ifBlock_10 : decode prog_11_method_12_code 10 = .ok (.getfield 19, 3) := by decide +kernel
theorem d_Validity_ifBlock_13 : decode prog_11_method_12_code 13 = .ok (.iconst 4, 1) := by decide +kernel
theorem d_Validity_ifBlock_14 : decode prog_11_method_12_code 14 = .ok (.aload_n 0, 1) := by decide +kernel
theorem d_Validity_ifBlock_15 : decode prog_11_method_12_code 15 = .ok (.getfield 9, 3) := by decide +kernel
theorem d_Validity_ifBlock_18 : decode prog_11_method_12_code 18 = .ok (.invokevirtual 193, 3) := by decide +kernel
theorem d_Validity_ifBlock_21 : decode prog_11_method_12_code 21 = .ok (.invokestatic 203, 3) := by decide +kernel
theorem d_Validity_ifBlock_24 : decode prog_11_method_12_code 24 = .ok (.invokevirtual 206, 3) := by decide +kernel
theorem d_Validity_ifBlock_27 : decode prog_11_method_12_code 27 = .ok (.return_, 1) := by decide +kernel
theorem d_Validity_branch_0 : decode prog_11_method_13_code 0 = .ok (.aload_n 0, 1) := by decide +kernel
theorem d_Validity_branch_1 : decode prog_11_method_13_code 1 = .ok (.getfield 19, 3) := by decide +kernel
theorem d_Validity_branch_4 : decode prog_11_method_13_code 4 = .ok (.iload_n 1, 1) := by decide +kernel
theorem d_Validity_branch_5 : decode prog_11_method_13_code 5 = .ok (.invokevirtual 239, 3) := by decide +kernel
theorem d_Validity_branch_8 : decode prog_11_method_13_code 8 = .ok (.pop, 1) := by decide +kernel
theorem d_Validity_branch_9 : decode prog_11_method_13_code 9 = .ok (.aload_n 0, 1) := by decide +kernel
theorem d_Validity_branch_10 : decode prog_11_method_13_code 10 = .ok (.getfield 19, 3) := by decide +kernel
theorem d_Validity_branch_13 : decode prog_11_method_13_code 13 = .ok (.invokevirtual 200, 3) := by decide +kernel
theorem nm_TypeStack_leave : x_nm y_TypeStack_leave 0 = true := by decide +kernel
theorem d_Validity_branch_16 : decode prog_11_method_13_code 16 = .ok (.return_, 1) := by decide +kernel
theorem d_Validity_branchIf_0 : decode prog_11_method_14_code 0 = .ok (.aload_n 0, 1) := by decide +kernel
theorem d_Validity_branchIf_1 : decode prog_11_method_14_code 1 = .ok (.getfield 19, 3) := by decide +kernel
theorem d_Validity_branchIf_4 : decode prog_11_method_14_code 4 = .ok (.iconst 0, 1) := by decide +kernel
theorem d_Validity_branchIf_5 : decode prog_11_method_14_code 5 = .ok (.invokevirtual 239, 3) := by decide +kernel
theorem d_Validity_branchIf_8 : decode prog_11_method_14_code 8 = .ok (.pop, 1) := by decide +kernel
theorem d_Validity_branchIf_9 : decode prog_11_method_14_code 9 = .ok (.aload_n 0, 1) := by decide +kernel
theorem d_Validity_branchIf_10 : decode prog_11_method_14_code 10 = .ok (.getfield 19, 3) := by decide +kernel
theorem d_Validity_branchIf_13 : decode prog_11_method_14_code 13 = .ok (.iload_n 1, 1) := by decide +kernel
theorem d_Validity_branchIf_14 : decode prog_11_method_14_code 14 = .ok (.invokevirtual 239, 3) := by decide +kernel
theorem d_Validity_branchIf_17 : decode prog_11_method_14_code 17 = .ok (.pop, 1) := by decide +kernel
theorem d_Validity_branchIf_18 : decode prog_11_method_14_code 18 = .ok (.aload_n 0, 1) := by decide +kernel
theorem d_Validity_branchIf_19 : decode prog_11_method_14_code 19 = .ok (.getfield 19, 3) := by decide +kernel
theorem d_Validity_branchIf_22 : decode prog_11_method_14_code 22 = .ok (.iload_n 1, 1) := by decide +kernel
theorem d_Validity_branchIf_23 : decode prog_11_method_14_code 23 = .ok (.invokevirtual 259, 3) := by decide +kernel
theorem d_Validity_branchIf_26 : decode prog_11_method_14_code 26 = .ok (.return_, 1) := by decide +kernel
theorem d_Validity_branchTable_0 : decode prog_11_method_15_code 0 = .ok (.aload_n 0, 1) := by decide +kernel
theorem d_Validity_branchTable_1 : decode prog_11_method_15_code 1 = .ok (.getfield 19, 3) := by decide +kernel
theorem d_Validity_branchTable_4 : decode prog_11_method_15_code 4 = .ok (.iconst 0, 1) := by decide +kernel
theorem d_Validity_branchTable_5 : decode prog_11_method_15_code 5 = .ok (.invokevirtual 239, 3) := by decide +kernel
theorem d_Validity_branchTable_8 : decode prog_11_method_15_code 8 = .ok (.pop, 1) := by decide +kernel
theorem d_Validity_branchTable_9 : decode prog_11_method_15_code 9 = .ok (.aload_n 0, 1) := by decide +kernel
theorem d_Validity_branchTable_10 : decode prog_11_method_15_code 10 = .ok (.getfield 9, 3) := by decide +kernel
theorem d_Validity_branchTable_13 : decode prog_11_method_15_code 13 = .ok (.invokevirtual 274, 3) := by decide +kernel
theorem d_Validity_branchTable_16 : decode prog_11_method_15_code 16 = .ok (.istore_n 1, 1) := by decide +kernel
theorem d_Validity_branchTable_17 : decode prog_11_method_15_code 17 = .ok (.aload_n 0, 1) := by decide +kernel
theorem d_Validity_branchTable_18 : decode prog_11_method_15_code 18 = .ok (.getfield 19, 3) := by decide +kernel
theorem d_Validity_branchTable_21 : decode prog_11_method_15_code 21 = .ok (.aload_n 0, 1) := by decide +kernel
theorem d_Validity_branchTable_22 : decode prog_11_method_15_code 22 = .ok (.getfield 9, 3) := by decide +kernel
theorem d_Validity_branchTable_25 : decode prog_11_method_15_code 25 = .ok (.invokevirtual 218, 3) := by decide +kernel
theorem d_Validity_branchTable_28 : decode prog_11_method_15_code 28 = .ok (.invokevirtual 221, 3) := by decide +kernel
theorem nm_TypeStack_typeOfLabel : x_nm y_TypeStack_typeOfLabel 1 = true := by decide +kernel
theorem d_Validity_branchTable_31 : decode prog_11_method_15_code 31 = .ok (.istore_n 2, 1) := by decide +kernel
theorem d_Validity_branchTable_32 : decode prog_11_method_15_code 32 = .ok (.iconst 0, 1) := by decide +kernel
theorem d_Validity_branchTable_33 : decode prog_11_method_15_code 33 = .ok (.istore_n 3, 1) := by decide +kernel
theorem d_Validity_branchTable_34 : decode prog_11_method_15_code 34 = .ok (.iload_n 3, 1) := by decide +kernel
theorem d_Validity_branchTable_35 : decode prog_11_method_15_code 35 = .ok (.iload_n 1, 1) := by decide +kernel
theorem d_Validity_branchTable_36 : decode prog_11_method_15_code 36 = .ok (.if_icmp .ge 45, 3) := by decide +kernel
theorem d_Validity_branchTable_81 : decode prog_11_method_15_code 81 = .ok (.aload_n 0, 1) := by decide +kernel
theorem d_Validity_branchTable_82 : decode prog_11_method_15_code 82 = .ok (.iload_n 2, 1) := by decide +kernel
theorem d_Validity_branchTable_83 : decode prog_11_method_15_code 83 = .ok (.invokevirtual 224, 3) := by decide +kernel
theorem nm_Validity_branch : x_nm y_Validity_branch 1 = true := by decide +kernel
theorem d_Validity_branchTable_86 : decode prog_11_method_15_code 86 = .ok (.return_, 1) := by decide +kernel
theorem d_Validity_branchTable_39 : decode prog_11_method_15_code 39 = .ok (.iload_n 3, 1) := by decide +kernel
theorem d_Validity_branchTable_40 : decode prog_11_method_15_code 40 = .ok (.bipush 20, 2) := by decide +kernel
theorem d_Validity_branchTable_42 : decode prog_11_method_15_code 42 = .ok (.if_icmp .ge 39, 3) := by decide +kernel
theorem d_Validity_branchTable_45 : decode prog_11_method_15_code 45 = .ok (.aload_n 0, 1) := by decide +kernel
theorem d_Validity_branchTable_46 : decode prog_11_method_15_code 46 = .ok (.getfield 19, 3) := by decide +kernel
theorem d_Validity_branchTable_49 : decode prog_11_method_15_code 49 = .ok (.aload_n 0, 1) := by decide +kernel
theorem d_Validity_branchTable_50 : decode prog_11_method_15_code 50 = .ok (.getfield 19, 3) := by decide +kernel
theorem d_Validity_branchTable_53 : decode prog_11_method_15_code 53 = .ok (.aload_n 0, 1) := by decide +kernel
theorem d_Validity_branchTable_54 : decode prog_11_method_15_code 54 = .ok (.getfield 9, 3) := by decide +kernel
theorem d_Validity_branchTable_57 : decode prog_11_method_15_code 57 = .ok (.invokevirtual 218, 3) := by decide +kernel
theorem d_Validity_branchTable_60 : decode prog_11_method_15_code 60 = .ok (.invokevirtual 221, 3) := by decide +kernel
theorem d_Validity_branchTable_63 : decode prog_11_method_15_code 63 = .ok (.iload_n 2, 1) := by decide +kernel
theorem d_Validity_branchTable_64 : decode prog_11_method_15_code 64 = .ok (.if_icmp .ne 7, 3) := by decide +kernel
theorem d_Validity_branchTable_71 : decode prog_11_method_15_code 71 = .ok (.iconst 0, 1) := by decide +kernel
theorem d_Validity_branchTable_72 : decode prog_11_method_15_code 72 = .ok (.invokevirtual 277, 3) := by decide +kernel
theorem d_Validity_branchTable_75 : decode prog_11_method_15_code 75 = .ok (.iinc 3 1, 3) := by decide +kernel
theorem d_Validity_branchTable_78 : decode prog_11_method_15_code 78 = .ok (.goto (-44), 3) := by decide +kernel
theorem d_Validity_branchTable_67 : decode prog_11_method_15_code 67 = .ok (.iconst 1, 1) := by decide +kernel
theorem d_Validity_branchTable_68 : decode prog_11_method_15_code 68 = .ok (.goto 4, 3) := by decide +kernel
theorem d_Validity_callOfType_0 : decode prog_11_method_18_code 0 = .ok (.aload_n 0, 1) := by decide +kernel
theorem d_Validity_callOfType_1 : decode prog_11_method_18_code 1 = .ok (.getfield 15, 3) := by decide +kernel
theorem d_Validity_callOfType_4 : decode prog_11_method_18_code 4 = .ok (.getfield 83, 3) := by decide +kernel
theorem d_Validity_callOfType_7 : decode prog_11_method_18_code 7 = .ok (.astore_n 2, 1) := by decide +kernel
theorem d_Validity_callOfType_8 : decode prog_11_method_18_code 8 = .ok (.aload_n 2, 1) := by decide +kernel
theorem d_Validity_callOfType_9 : decode prog_11_method_18_code 9 = .ok (.iload_n 1, 1) := by decide +kernel
theorem d_Validity_callOfType_10 : decode prog_11_method_18_code 10 = .ok (.invokevirtual 91, 3) := by decide +kernel
theorem d_Validity_callOfType_13 : decode prog_11_method_18_code 13 = .ok (.ifCond .ne 12, 3) := by decide +kernel
theorem d_Validity_callOfType_16 : decode prog_11_method_18_code 16 = .ok (.aload_n 0, 1) := by decide +kernel
theorem d_Validity_callOfType_17 : decode prog_11_method_18_code 17 = .ok (.getfield 19, 3) := by decide +kernel
theorem d_Validity_callOfType_20 : decode prog_11_method_18_code 20 = .ok (.iconst 1, 1) := by decide +kernel
theorem d_Validity_callOfType_21 : decode prog_11_method_18_code 21 = .ok (.putfield 189, 3) := by decide +kernel
theorem d_Validity_callOfType_24 : decode prog_11_method_18_code 24 = .ok (.return_, 1) := by decide +kernel
theorem d_Validity_callOfType_25 : decode prog_11_method_18_code 25 = .ok (.aload_n 2, 1) := by decide +kernel
theorem d_Validity_callOfType_26 : decode prog_11_method_18_code 26 = .ok (.getfield 287, 3) := by decide +kernel
theorem d_Validity_callOfType_29 : decode prog_11_method_18_code 29 = .ok (.iload_n 1, 1) := by decide +kernel
theorem d_Validity_callOfType_30 : decode prog_11_method_18_code 30 = .ok (.iaload, 1) := by decide +kernel
theorem d_Validity_callOfType_31 : decode prog_11_method_18_code 31 = .ok (.iconst 1, 1) := by decide +kernel
theorem d_Validity_callOfType_32 : decode prog_11_method_18_code 32 = .ok (.isub, 1) := by decide +kernel
theorem d_Validity_callOfType_33 : decode prog_11_method_18_code 33 = .ok (.istore_n 3, 1) := by decide +kernel
theorem d_Validity_callOfType_34 : decode prog_11_method_18_code 34 = .ok (.iload_n 3, 1) := by decide +kernel
theorem d_Validity_callOfType_35 : decode prog_11_method_18_code 35 = .ok (.ifCond .lt 36, 3) := by decide +kernel
theorem d_Validity_callOfType_71 : decode prog_11_method_18_code 71 = .ok (.aload_n 0, 1) := by decide +kernel
theorem d_Validity_callOfType_72 : decode prog_11_method_18_code 72 = .ok (.getfield 19, 3) := by decide +kernel
theorem d_Validity_callOfType_75 : decode prog_11_method_18_code 75 = .ok (.aload_n 2, 1) := by decide +kernel
theorem d_Validity_callOfType_76 : decode prog_11_method_18_code 76 = .ok (.getfield 291, 3) := by decide +kernel
theorem d_Validity_callOfType_79 : decode prog_11_method_18_code 79 = .ok (.iload_n 1, 1) := by decide +kernel
theorem d_Validity_callOfType_80 : decode prog_11_method_18_code 80 = .ok (.iaload, 1) := by decide +kernel
theorem d_Validity_callOfType_81 : decode prog_11_method_18_code 81 = .ok (.invokevirtual 259, 3) := by decide +kernel
theorem d_Validity_callOfType_84 : decode prog_11_method_18_code 84 = .ok (.return_, 1) := by decide +kernel
theorem d_Validity_callOfType_38 : decode prog_11_method_18_code 38 = .ok (.aload_n 0, 1) := by decide +kernel
theorem d_Validity_callOfType_39 : decode prog_11_method_18_code 39 = .ok (.getfield 19, 3) := by decide +kernel
theorem d_Validity_callOfType_42 : decode prog_11_method_18_code 42 = .ok (.aload_n 2, 1) := by decide +kernel
theorem d_Validity_callOfType_43 : decode prog_11_method_18_code 43 = .ok (.getfield 288, 3) := by decide +kernel
theorem d_Validity_callOfType_46 : decode prog_11_method_18_code 46 = .ok (.iload_n 1, 1) := by decide +kernel
theorem d_Validity_callOfType_47 : decode prog_11_method_18_code 47 = .ok (.iaload, 1) := by decide +kernel
theorem d_Validity_callOfType_48 : decode prog_11_method_18_code 48 = .ok (.iload_n 3, 1) := by decide +kernel
theorem d_Validity_callOfType_49 : decode prog_11_method_18_code 49 = .ok (.ishr, 1) := by decide +kernel
theorem d_Validity_callOfType_50 : decode prog_11_method_18_code 50 = .ok (.iconst 1, 1) := by decide +kernel
theorem d_Validity_callOfType_51 : decode prog_11_method_18_code 51 = .ok (.iand, 1) := by decide +kernel
theorem d_Validity_callOfType_52 : decode prog_11_method_18_code 52 = .ok (.iconst 1, 1) := by decide +kernel
theorem d_Validity_callOfType_53 : decode prog_11_method_18_code 53 = .ok (.if_icmp .ne 7, 3) := by decide +kernel
theorem d_Validity_callOfType_60 : decode prog_11_method_18_code 60 = .ok (.iconst 0, 1) := by decide +kernel
theorem d_Validity_callOfType_61 : decode prog_11_method_18_code 61 = .ok (.invokevirtual 239, 3) := by decide +kernel
theorem d_Validity_callOfType_64 : decode prog_11_method_18_code 64 = .ok (.pop, 1) := by decide +kernel
theorem d_Validity_callOfType_65 : decode prog_11_method_18_code 65 = .ok (.iinc 3 (-1), 3) := by decide +kernel
theorem d_Validity_callOfType_68 : decode prog_11_method_18_code 68 = .ok (.goto (-34), 3) := by decide +kernel
theorem d_Validity_callOfType_56 : decode prog_11_method_18_code 56 = .ok (.iconst 1, 1) := by decide +kernel
theorem d_Validity_callOfType_57 : decode prog_11_method_18_code 57 = .ok (.goto 4, 3) := by decide +kernel
theorem d_Validity_call_0 : decode prog_11_method_16_code 0 = .ok (.aload_n 0, 1) := by decide +kernel
theorem d_Validity_call_1 : decode prog_11_method_16_code 1 = .ok (.getfield 15, 3) := by decide +kernel
theorem d_Validity_call_4 : decode prog_11_method_16_code 4 = .ok (.getfield 73, 3) := by decide +kernel
theorem d_Validity_call_7 : decode prog_11_method_16_code 7 = .ok (.astore_n 2, 1) := by decide +kernel
theorem d_Validity_call_8 : decode prog_11_method_16_code 8 = .ok (.aload_n 2, 1) := by decide +kernel
theorem d_Validity_call_9 : decode prog_11_method_16_code 9 = .ok (.iload_n 1, 1) := by decide +kernel
theorem d_Validity_call_10 : decode prog_11_method_16_code 10 = .ok (.invokevirtual 77, 3) := by decide +kernel
theorem d_Validity_call_13 : decode prog_11_method_16_code 13 = .ok (.ifCond .ne 12, 3) := by decide +kernel
theorem d_Validity_call_16 : decode prog_11_method_16_code 16 = .ok (.aload_n 0, 1) := by decide +kernel
theorem d_Validity_call_17 : decode prog_11_method_16_code 17 = .ok (.getfield 19, 3) := by decide +kernel
theorem d_Validity_call_20 : decode prog_11_method_16_code 20 = .ok (.iconst 1, 1) := by decide +kernel
theorem d_Validity_call_21 : decode prog_11_method_16_code 21 = .ok (.putfield 189, 3) := by decide +kernel
theorem d_Validity_call_24 : decode prog_11_method_16_code 24 = .ok (.return_, 1) := by decide +kernel
theorem d_Validity_call_25 : decode prog_11_method_16_code 25 = .ok (.aload_n 0, 1) := by decide +kernel
theorem d_Validity_call_26 : decode prog_11_method_16_code 26 = .ok (.aload_n 2, 1) := by decide +kernel
theorem d_Validity_call_27 : decode prog_11_method_16_code 27 = .ok (.getfield 87, 3) := by decide +kernel
theorem d_Validity_call_30 : decode prog_11_method_16_code 30 = .ok (.iload_n 1, 1) := by decide +kernel
theorem d_Validity_call_31 : decode prog_11_method_16_code 31 = .ok (.iaload, 1) := by decide +kernel
theorem d_Validity_call_32 : decode prog_11_method_16_code 32 = .ok (.invokevirtual 281, 3) := by decide +kernel
theorem nm_Validity_callOfType : x_nm y_Validity_callOfType 1 = true := by decide +kernel
theorem d_Validity_call_35 : decode prog_11_method_16_code 35 = .ok (.return_, 1) := by decide +kernel
theorem d_Validity_callIndirect_0 : decode prog_11_method_17_code 0 = .ok (.aload_n 0, 1) := by decide +kernel
theorem d_Validity_callIndirect_1 : decode prog_11_method_17_code 1 = .ok (.getfield 9, 3) := by decide +kernel
theorem d_Validity_callIndirect_4 : decode prog_11_method_17_code 4 = .ok (.invokevirtual 218, 3) := by decide +kernel
theorem d_Validity_callIndirect_7 : decode prog_11_method_17_code 7 = .ok (.istore_n 1, 1) := by decide +kernel
theorem d_Validity_callIndirect_8 : decode prog_11_method_17_code 8 = .ok (.aload_n 0, 1) := by decide +kernel
theorem d_Validity_callIndirect_9 : decode prog_11_method_17_code 9 = .ok (.getfield 9, 3) := by decide +kernel
theorem d_Validity_callIndirect_12 : decode prog_11_method_17_code 12 = .ok (.iconst 0, 1) := by decide +kernel
theorem d_Validity_callIndirect_13 : decode prog_11_method_17_code 13 = .ok (.invokevirtual 284, 3) := by decide +kernel
theorem d_Validity_callIndirect_16 : decode prog_11_method_17_code 16 = .ok (.aload_n 0, 1) := by decide +kernel
theorem d_Validity_callIndirect_17 : decode prog_11_method_17_code 17 = .ok (.getfield 19, 3) := by decide +kernel
theorem d_Validity_callIndirect_20 : decode prog_11_method_17_code 20 = .ok (.aload_n 0, 1) := by decide +kernel
theorem d_Validity_callIndirect_21 : decode prog_11_method_17_code 21 = .ok (.getfield 15, 3) := by decide +kernel
theorem d_Validity_callIndirect_24 : decode prog_11_method_17_code 24 = .ok (.getfield 23, 3) := by decide +kernel
theorem d_Validity_callIndirect_27 : decode prog_11_method_17_code 27 = .ok (.getfield 59, 3) := by decide +kernel
theorem d_Validity_callIndirect_30 : decode prog_11_method_17_code 30 = .ok (.ifCond .le 7, 3) := by decide +kernel
theorem d_Validity_callIndirect_37 : decode prog_11_method_17_code 37 = .ok (.iconst 0, 1) := by decide +kernel
theorem d_Validity_callIndirect_38 : decode prog_11_method_17_code 38 = .ok (.invokevirtual 277, 3) := by decide +kernel
theorem d_Validity_callIndirect_41 : decode prog_11_method_17_code 41 = .ok (.aload_n 0, 1) := by decide +kernel
theorem d_Validity_callIndirect_42 : decode prog_11_method_17_code 42 = .ok (.getfield 19, 3) := by decide +kernel
theorem d_Validity_callIndirect_45 : decode prog_11_method_17_code 45 = .ok (.iconst 0, 1) := by decide +kernel
theorem d_Validity_callIndirect_46 : decode prog_11_method_17_code 46 = .ok (.invokevirtual 239, 3) := by decide +kernel
theorem d_Validity_callIndirect_49 : decode prog_11_method_17_code 49 = .ok (.pop, 1) := by decide +kernel
theorem d_Validity_callIndirect_50 : decode prog_11_method_17_code 50 = .ok (.aload_n 0, 1) := by decide +kernel
theorem d_Validity_callIndirect_51 : decode prog_11_method_17_code 51 = .ok (.iload_n 1, 1) := by decide +kernel
theorem d_Validity_callIndirect_52 : decode prog_11_method_17_code 52 = .ok (.invokevirtual 281, 3) := by decide +kernel
theorem d_Validity_callIndirect_55 : decode prog_11_method_17_code 55 = .ok (.return_, 1) := by decide +kernel
theorem d_Validity_callIndirect_33 : decode prog_11_method_17_code 33 = .ok (.iconst 1, 1) := by decide +kernel
theorem d_Validity_callIndirect_34 : decode prog_11_method_17_code 34 = .ok (.goto 4, 3) := by decide +kernel
theorem d_Validity_select_0 : decode prog_11_method_19_code 0 = .ok (.aload_n 0, 1) := by decide +kernel
theorem d_Validity_select_1 : decode prog_11_method_19_code 1 = .ok (.getfield 19, 3) := by decide +kernel
theorem d_Validity_select_4 : decode prog_11_method_19_code 4 = .ok (.iconst 0, 1) := by decide +kernel
theorem d_Validity_select_5 : decode prog_11_method_19_code 5 = .ok (.invokevirtual 239, 3) := by decide +kernel
theorem d_Validity_select_8 : decode prog_11_method_19_code 8 = .ok (.pop, 1) := by decide +kernel
theorem d_Validity_select_9 : decode prog_11_method_19_code 9 = .ok (.aload_n 0, 1) := by decide +kernel
theorem d_Validity_select_10 : decode prog_11_method_19_code 10 = .ok (.getfield 19, 3) := by decide +kernel
theorem d_Validity_select_13 : decode prog_11_method_19_code 13 = .ok (.iconst 2, 1) := by decide +kernel
theorem d_Validity_select_14 : decode prog_11_method_19_code 14 = .ok (.invokevirtual 239, 3) := by decide +kernel
theorem d_Validity_select_17 : decode prog_11_method_19_code 17 = .ok (.istore_n 1, 1) := by decide +kernel
theorem d_Validity_select_18 : decode prog_11_method_19_code 18 = .ok (.aload_n 0, 1) := by decide +kernel
theorem d_Validity_select_19 : decode prog_11_method_19_code 19 = .ok (.getfield 19, 3) := by decide +kernel
theorem d_Validity_select_22 : decode prog_11_method_19_code 22 = .ok (.aload_n 0, 1) := by decide +kernel
theorem d_Validity_select_23 : decode prog_11_method_19_code 23 = .ok (.getfield 19, 3) := by decide +kernel
theorem d_Validity_select_26 : decode prog_11_method_19_code 26 = .ok (.iload_n 1, 1) := by decide +kernel
theorem d_Validity_select_27 : decode prog_11_method_19_code 27 = .ok (.invokevirtual 239, 3) := by decide +kernel
theorem d_Validity_select_30 : decode prog_11_method_19_code 30 = .ok (.invokevirtual 259, 3) := by decide +kernel
theorem d_Validity_select_33 : decode prog_11_method_19_code 33 = .ok (.return_, 1) := by decide +kernel
theorem d_Validity_local_0 : decode prog_11_method_20_code 0 = .ok (.aload_n 0, 1) := by decide +kernel
theorem d_Validity_local_1 : decode prog_11_method_20_code 1 = .ok (.getfield 19, 3) := by decide +kernel
theorem d_Validity_local_4 : decode prog_11_method_20_code 4 = .ok (.aload_n 0, 1) := by decide +kernel
theorem d_Validity_local_5 : decode prog_11_method_20_code 5 = .ok (.getfield 15, 3) := by decide +kernel
theorem d_Validity_local_8 : decode prog_11_method_20_code 8 = .ok (.getfield 73, 3) := by decide +kernel
theorem d_Validity_local_11 : decode prog_11_method_20_code 11 = .ok (.iload_n 2, 1) := by decide +kernel
theorem d_Validity_local_12 : decode prog_11_method_20_code 12 = .ok (.iload_n 3, 1) := by decide +kernel
theorem d_Validity_local_13 : decode prog_11_method_20_code 13 = .ok (.invokevirtual 292, 3) := by decide +kernel
theorem d_Validity_local_16 : decode prog_11_method_20_code 16 = .ok (.invokevirtual 277, 3) := by decide +kernel
theorem d_Validity_local_19 : decode prog_11_method_20_code 19 = .ok (.aload_n 0, 1) := by decide +kernel
theorem d_Validity_local_20 : decode prog_11_method_20_code 20 = .ok (.getfield 15, 3) := by decide +kernel
theorem d_Validity_local_23 : decode prog_11_method_20_code 23 = .ok (.getfield 73, 3) := by decide +kernel
theorem d_Validity_local_26 : decode prog_11_method_20_code 26 = .ok (.iload_n 2, 1) := by decide +kernel
theorem d_Validity_local_27 : decode prog_11_method_20_code 27 = .ok (.iload_n 3, 1) := by decide +kernel
theorem d_Validity_local_28 : decode prog_11_method_20_code 28 = .ok (.invokevirtual 295, 3) := by decide +kernel
theorem nm_Functions_typeOfLocal : x_nm y_Functions_typeOfLocal 2 = true := by decide +kernel
theorem d_Validity_local_31 : decode prog_11_method_20_code 31 = .ok (.istore 4, 2) := by decide +kernel
theorem d_Validity_local_33 : decode prog_11_method_20_code 33 = .ok (.iload_n 1, 1) := by decide +kernel
theorem d_Validity_local_34 : decode prog_11_method_20_code 34 = .ok (.bipush 32, 2) := by decide +kernel
theorem d_Validity_local_36 : decode prog_11_method_20_code 36 = .ok (.if_icmp .eq 13, 3) := by decide +kernel
theorem d_Validity_local_49 : decode prog_11_method_20_code 49 = .ok (.iload_n 1, 1) := by decide +kernel
theorem d_Validity_local_50 : decode prog_11_method_20_code 50 = .ok (.bipush 33, 2) := by decide +kernel
theorem d_Validity_local_52 : decode prog_11_method_20_code 52 = .ok (.if_icmp .eq 12, 3) := by decide +kernel
theorem d_Validity_local_64 : decode prog_11_method_20_code 64 = .ok (.return_, 1) := by decide +kernel
theorem d_Validity_local_55 : decode prog_11_method_20_code 55 = .ok (.aload_n 0, 1) := by decide +kernel
theorem d_Validity_local_56 : decode prog_11_method_20_code 56 = .ok (.getfield 19, 3) := by decide +kernel
theorem d_Validity_local_59 : decode prog_11_method_20_code 59 = .ok (.iload 4, 2) := by decide +kernel
theorem d_Validity_local_61 : decode prog_11_method_20_code 61 = .ok (.invokevirtual 259, 3) := by decide +kernel
theorem d_Validity_local_39 : decode prog_11_method_20_code 39 = .ok (.aload_n 0, 1) := by decide +kernel
theorem d_Validity_local_40 : decode prog_11_method_20_code 40 = .ok (.getfield 19, 3) := by decide +kernel
theorem d_Validity_local_43 : decode prog_11_method_20_code 43 = .ok (.iload 4, 2) := by decide +kernel
theorem d_Validity_local_45 : decode prog_11_method_20_code 45 = .ok (.invokevirtual 239, 3) := by decide +kernel
theorem d_Validity_local_48 : decode prog_11_method_20_code 48 = .ok (.pop, 1) := by decide +kernel
theorem d_Validity_globalAccess_0 : decode prog_11_method_21_code 0 = .ok (.aload_n 0, 1) := by decide +kernel
theorem d_Validity_globalAccess_1 : decode prog_11_method_21_code 1 = .ok (.getfield 15, 3) := by decide +kernel
theorem d_Validity_globalAccess_4 : decode prog_11_method_21_code 4 = .ok (.getfield 94, 3) := by decide +kernel
theorem d_Validity_globalAccess_7 : decode prog_11_method_21_code 7 = .ok (.astore_n 3, 1) := by decide +kernel
theorem d_Validity_globalAccess_8 : decode prog_11_method_21_code 8 = .ok (.aload_n 3, 1) := by decide +kernel
theorem d_Validity_globalAccess_9 : decode prog_11_method_21_code 9 = .ok (.iload_n 2, 1) := by decide +kernel
theorem d_Validity_globalAccess_10 : decode prog_11_method_21_code 10 = .ok (.invokevirtual 103, 3) := by decide +kernel
theorem d_Validity_globalAccess_13 : decode prog_11_method_21_code 13 = .ok (.ifCond .ne 14, 3) := by decide +kernel
theorem d_Validity_globalAccess_16 : decode prog_11_method_21_code 16 = .ok (.aload_n 0, 1) := by decide +kernel
theorem d_Validity_globalAccess_17 : decode prog_11_method_21_code 17 = .ok (.getfield 19, 3) := by decide +kernel
theorem d_Validity_globalAccess_20 : decode prog_11_method_21_code 20 = .ok (.iconst 1, 1) := by decide +kernel
theorem d_Validity_globalAccess_21 : decode prog_11_method_21_code 21 = .ok (.putfield 189, 3) := by decide +kernel
theorem d_Validity_globalAccess_24 : decode prog_11_method_21_code 24 = .ok (.goto 52, 3) := by decide +kernel
theorem d_Validity_globalAccess_76 : decode prog_11_method_21_code 76 = .ok (.return_, 1) := by decide +kernel
theorem d_Validity_globalAccess_27 : decode prog_11_method_21_code 27 = .ok (.iload_n 1, 1) := by decide +kernel
theorem d_Validity_globalAccess_28 : decode prog_11_method_21_code 28 = .ok (.bipush 35, 2) := by decide +kernel
theorem d_Validity_globalAccess_30 : decode prog_11_method_21_code 30 = .ok (.if_icmp .ne 19, 3) := by decide +kernel
theorem d_Validity_globalAccess_49 : decode prog_11_method_21_code 49 = .ok (.aload_n 0, 1) := by decide +kernel
theorem d_Validity_globalAccess_50 : decode prog_11_method_21_code 50 = .ok (.getfield 19, 3) := by decide +kernel
theorem d_Validity_globalAccess_53 : decode prog_11_method_21_code 53 = .ok (.aload_n 3, 1) := by decide +kernel
theorem d_Validity_globalAccess_54 : decode prog_11_method_21_code 54 = .ok (.getfield 116, 3) := by decide +kernel
theorem d_Validity_globalAccess_57 : decode prog_11_method_21_code 57 = .ok (.iload_n 2, 1) := by decide +kernel
theorem d_Validity_globalAccess_58 : decode prog_11_method_21_code 58 = .ok (.baload, 1) := by decide +kernel
theorem d_Validity_globalAccess_59 : decode prog_11_method_21_code 59 = .ok (.invokevirtual 277, 3) := by decide +kernel
theorem d_Validity_globalAccess_62 : decode prog_11_method_21_code 62 = .ok (.aload_n 0, 1) := by decide +kernel
theorem d_Validity_globalAccess_63 : decode prog_11_method_21_code 63 = .ok (.getfield 19, 3) := by decide +kernel
theorem d_Validity_globalAccess_66 : decode prog_11_method_21_code 66 = .ok (.aload_n 3, 1) := by decide +kernel
theorem d_Validity_globalAccess_67 : decode prog_11_method_21_code 67 = .ok (.getfield 111, 3) := by decide +kernel
theorem d_Validity_globalAccess_70 : decode prog_11_method_21_code 70 = .ok (.iload_n 2, 1) := by decide +kernel
theorem d_Validity_globalAccess_71 : decode prog_11_method_21_code 71 = .ok (.iaload, 1) := by decide +kernel
theorem d_Validity_globalAccess_72 : decode prog_11_method_21_code 72 = .ok (.invokevirtual 239, 3) := by decide +kernel
theorem d_Validity_globalAccess_75 : decode prog_11_method_21_code 75 = .ok (.pop, 1) := by decide +kernel
theorem d_Validity_globalAccess_33 : decode prog_11_method_21_code 33 = .ok (.aload_n 0, 1) := by decide +kernel
theorem d_Validity_globalAccess_34 : decode prog_11_method_21_code 34 = .ok (.getfield 19, 3) := by decide +kernel
theorem d_Validity_globalAccess_37 : decode prog_11_method_21_code 37 = .ok (.aload_n 3, 1) := by decide +kernel
theorem d_Validity_globalAccess_38 : decode prog_11_method_21_code 38 = .ok (.getfield 111, 3) := by decide +kernel
theorem d_Validity_globalAccess_41 : decode prog_11_method_21_code 41 = .ok (.iload_n 2, 1) := by decide +kernel
theorem d_Validity_globalAccess_42 : decode prog_11_method_21_code 42 = .ok (.iaload, 1) := by decide +kernel
theorem d_Validity_globalAccess_43 : decode prog_11_method_21_code 43 = .ok (.invokevirtual 259, 3) := by decide +kernel
theorem d_Validity_globalAccess_46 : decode prog_11_method_21_code 46 = .ok (.goto 30, 3) := by decide +kernel
theorem d_Validity_memorySize_0 : decode prog_11_method_22_code 0 = .ok (.aload_n 0, 1) := by decide +kernel
theorem d_Validity_memorySize_1 : decode prog_11_method_22_code 1 = .ok (.getfield 9, 3) := by decide +kernel
theorem d_Validity_memorySize_4 : decode prog_11_method_22_code 4 = .ok (.iconst 0, 1) := by decide +kernel
theorem d_Validity_memorySize_5 : decode prog_11_method_22_code 5 = .ok (.invokevirtual 284, 3) := by decide +kernel
theorem d_Validity_memorySize_8 : decode prog_11_method_22_code 8 = .ok (.aload_n 0, 1) := by decide +kernel
theorem d_Validity_memorySize_9 : decode prog_11_method_22_code 9 = .ok (.getfield 19, 3) := by decide +kernel
theorem d_Validity_memorySize_12 : decode prog_11_method_22_code 12 = .ok (.aload_n 0, 1) := by decide +kernel
theorem d_Validity_memorySize_13 : decode prog_11_method_22_code 13 = .ok (.getfield 15, 3) := by decide +kernel
theorem d_Validity_memorySize_16 : decode prog_11_method_22_code 16 = .ok (.getfield 37, 3) := by decide +kernel
theorem d_Validity_memorySize_19 : decode prog_11_method_22_code 19 = .ok (.getfield 59, 3) := by decide +kernel
theorem d_Validity_memorySize_22 : decode prog_11_method_22_code 22 = .ok (.ifCond .le 7, 3) := by decide +kernel
theorem d_Validity_memorySize_29 : decode prog_11_method_22_code 29 = .ok (.iconst 0, 1) := by decide +kernel
theorem d_Validity_memorySize_30 : decode prog_11_method_22_code 30 = .ok (.invokevirtual 277, 3) := by decide +kernel
theorem d_Validity_memorySize_33 : decode prog_11_method_22_code 33 = .ok (.iload_n 1, 1) := by decide +kernel
theorem d_Validity_memorySize_34 : decode prog_11_method_22_code 34 = .ok (.bipush 64, 2) := by decide +kernel
theorem d_Validity_memorySize_36 : decode prog_11_method_22_code 36 = .ok (.if_icmp .ne 12, 3) := by decide +kernel
theorem d_Validity_memorySize_48 : decode prog_11_method_22_code 48 = .ok (.aload_n 0, 1) := by decide +kernel
theorem d_Validity_memorySize_49 : decode prog_11_method_22_code 49 = .ok (.getfield 19, 3) := by decide +kernel
theorem d_Validity_memorySize_52 : decode prog_11_method_22_code 52 = .ok (.iconst 0, 1) := by decide +kernel
theorem d_Validity_memorySize_53 : decode prog_11_method_22_code 53 = .ok (.invokevirtual 259, 3) := by decide +kernel
theorem d_Validity_memorySize_56 : decode prog_11_method_22_code 56 = .ok (.return_, 1) := by decide +kernel
theorem d_Validity_memorySize_39 : decode prog_11_method_22_code 39 = .ok (.aload_n 0, 1) := by decide +kernel
theorem d_Validity_memorySize_40 : decode prog_11_method_22_code 40 = .ok (.getfield 19, 3) := by decide +kernel
theorem d_Validity_memorySize_43 : decode prog_11_method_22_code 43 = .ok (.iconst 0, 1) := by decide +kernel
theorem d_Validity_memorySize_44 : decode prog_11_method_22_code 44 = .ok (.invokevirtual 239, 3) := by decide +kernel
theorem d_Validity_memorySize_47 : decode prog_11_method_22_code 47 = .ok (.pop, 1) := by decide +kernel
theorem d_Validity_memorySize_25 : decode prog_11_method_22_code 25 = .ok (.iconst 1, 1) := by decide +kernel
theorem d_Validity_memorySize_26 : decode prog_11_method_22_code 26 = .ok (.goto 4, 3) := by decide +kernel
theorem d_Validity_numeric_0 : decode prog_11_method_23_code 0 = .ok (.iload_n 1, 1) := by decide +kernel
theorem d_Validity_numeric_1 : decode prog_11_method_23_code 1 = .ok (.ifCond .ge 12, 3) := by decide +kernel
theorem d_Validity_numeric_4 : decode prog_11_method_23_code 4 = .ok (.aload_n 0, 1) := by decide +kernel
theorem d_Validity_numeric_5 : decode prog_11_method_23_code 5 = .ok (.getfield 19, 3) := by decide +kernel
theorem d_Validity_numeric_8 : decode prog_11_method_23_code 8 = .ok (.iconst 1, 1) := by decide +kernel
theorem d_Validity_numeric_9 : decode prog_11_method_23_code 9 = .ok (.putfield 189, 3) := by decide +kernel
theorem d_Validity_numeric_12 : decode prog_11_method_23_code 12 = .ok (.return_, 1) := by decide +kernel
theorem d_Validity_numeric_13 : decode prog_11_method_23_code 13 = .ok (.iconst 0, 1) := by decide +kernel
theorem d_Validity_numeric_14 : decode prog_11_method_23_code 14 = .ok (.istore_n 2, 1) := by decide +kernel
theorem d_Validity_numeric_15 : decode prog_11_method_23_code 15 = .ok (.iload_n 2, 1) := by decide +kernel
theorem d_Validity_numeric_16 : decode prog_11_method_23_code 16 = .ok (.getstatic 299, 3) := by decide +kernel
theorem d_Validity_numeric_19 : decode prog_11_method_23_code 19 = .ok (.iload_n 1, 1) := by decide +kernel
theorem d_Validity_numeric_20 : decode prog_11_method_23_code 20 = .ok (.iconst 2, 1) := by decide +kernel
theorem d_Validity_numeric_21 : decode prog_11_method_23_code 21 = .ok (.iadd, 1) := by decide +kernel
theorem d_Validity_numeric_22 : decode prog_11_method_23_code 22 = .ok (.iaload, 1) := by decide +kernel
theorem d_Validity_numeric_23 : decode prog_11_method_23_code 23 = .ok (.if_icmp .ge 24, 3) := by decide +kernel
theorem d_Validity_numeric_47 : decode prog_11_method_23_code 47 = .ok (.aload_n 0, 1) := by decide +kernel
theorem d_Validity_numeric_48 : decode prog_11_method_23_code 48 = .ok (.getfield 19, 3) := by decide +kernel
theorem d_Validity_numeric_51 : decode prog_11_method_23_code 51 = .ok (.getstatic 299, 3) := by decide +kernel
theorem d_Validity_numeric_54 : decode prog_11_method_23_code 54 = .ok (.iload_n 1, 1) := by decide +kernel
theorem d_Validity_numeric_55 : decode prog_11_method_23_code 55 = .ok (.iconst 4, 1) := by decide +kernel
theorem d_Validity_numeric_56 : decode prog_11_method_23_code 56 = .ok (.iadd, 1) := by decide +kernel
theorem d_Validity_numeric_57 : decode prog_11_method_23_code 57 = .ok (.iaload, 1) := by decide +kernel
theorem d_Validity_numeric_58 : decode prog_11_method_23_code 58 = .ok (.invokevirtual 259, 3) := by decide +kernel
theorem d_Validity_numeric_61 : decode prog_11_method_23_code 61 = .ok (.return_, 1) := by decide +kernel
theorem d_Validity_numeric_26 : decode prog_11_method_23_code 26 = .ok (.aload_n 0, 1) := by decide +kernel
theorem d_Validity_numeric_27 : decode prog_11_method_23_code 27 = .ok (.getfield 19, 3) := by decide +kernel
theorem d_Validity_numeric_30 : decode prog_11_method_23_code 30 = .ok (.getstatic 299, 3) := by decide +kernel
theorem d_Validity_numeric_33 : decode prog_11_method_23_code 33 = .ok (.iload_n 1, 1) := by decide +kernel
theorem d_Validity_numeric_34 : decode prog_11_method_23_code 34 = .ok (.iconst 3, 1) := by decide +kernel
theorem d_Validity_numeric_35 : decode prog_11_method_23_code 35 = .ok (.iadd, 1) := by decide +kernel
theorem d_Validity_numeric_36 : decode prog_11_method_23_code 36 = .ok (.iaload, 1) := by decide +kernel
theorem d_Validity_numeric_37 : decode prog_11_method_23_code 37 = .ok (.invokevirtual 239, 3) := by decide +kernel
theorem d_Validity_numeric_40 : decode prog_11_method_23_code 40 = .ok (.pop, 1) := by decide +kernel
theorem d_Validity_numeric_41 : decode prog_11_method_23_code 41 = .ok (.iinc 2 1, 3) := by decide +kernel
theorem d_Validity_numeric_44 : decode prog_11_method_23_code 44 = .ok (.goto (-29), 3) := by decide +kernel
theorem d_Validity_access_0 : decode prog_11_method_24_code 0 = .ok (.aload_n 0, 1) := by decide +kernel
theorem d_Validity_access_1 : decode prog_11_method_24_code 1 = .ok (.getfield 9, 3) := by decide +kernel
theorem d_Validity_access_4 : decode prog_11_method_24_code 4 = .ok (.invokevirtual 218, 3) := by decide +kernel
theorem d_Validity_access_7 : decode prog_11_method_24_code 7 = .ok (.istore_n 3, 1) := by decide +kernel
theorem d_Validity_access_8 : decode prog_11_method_24_code 8 = .ok (.aload_n 0, 1) := by decide +kernel
theorem d_Validity_access_9 : decode prog_11_method_24_code 9 = .ok (.getfield 9, 3) := by decide +kernel
theorem d_Validity_access_12 : decode prog_11_method_24_code 12 = .ok (.invokevirtual 302, 3) := by decide +kernel
theorem d_Validity_access_15 : decode prog_11_method_24_code 15 = .ok (.pop2, 1) := by decide +kernel
theorem d_Validity_access_16 : decode prog_11_method_24_code 16 = .ok (.aload_n 0, 1) := by decide +kernel
theorem d_Validity_access_17 : decode prog_11_method_24_code 17 = .ok (.getfield 19, 3) := by decide +kernel
theorem d_Validity_access_20 : decode prog_11_method_24_code 20 = .ok (.aload_n 0, 1) := by decide +kernel
theorem d_Validity_access_21 : decode prog_11_method_24_code 21 = .ok (.getfield 15, 3) := by decide +kernel
theorem d_Validity_access_24 : decode prog_11_method_24_code 24 = .ok (.getfield 37, 3) := by decide +kernel
theorem d_Validity_access_27 : decode prog_11_method_24_code 27 = .ok (.getfield 59, 3) := by decide +kernel
theorem d_Validity_access_30 : decode prog_11_method_24_code 30 = .ok (.ifCond .le 16, 3) := by decide +kernel
theorem d_Validity_access_46 : decode prog_11_method_24_code 46 = .ok (.iconst 0, 1) := by decide +kernel
theorem d_Validity_access_47 : decode prog_11_method_24_code 47 = .ok (.invokevirtual 277, 3) := by decide +kernel
theorem d_Validity_access_50 : decode prog_11_method_24_code 50 = .ok (.iload_n 1, 1) := by decide +kernel
theorem d_Validity_access_51 : decode prog_11_method_24_code 51 = .ok (.bipush 54, 2) := by decide +kernel
theorem d_Validity_access_53 : decode prog_11_method_24_code 53 = .ok (.if_icmp .lt 28, 3) := by decide +kernel
theorem d_Validity_access_81 : decode prog_11_method_24_code 81 = .ok (.aload_n 0, 1) := by decide +kernel
theorem d_Validity_access_82 : decode prog_11_method_24_code 82 = .ok (.getfield 19, 3) := by decide +kernel
theorem d_Validity_access_85 : decode prog_11_method_24_code 85 = .ok (.iconst 0, 1) := by decide +kernel
theorem d_Validity_access_86 : decode prog_11_method_24_code 86 = .ok (.invokevirtual 239, 3) := by decide +kernel
theorem d_Validity_access_89 : decode prog_11_method_24_code 89 = .ok (.pop, 1) := by decide +kernel
theorem d_Validity_access_90 : decode prog_11_method_24_code 90 = .ok (.aload_n 0, 1) := by decide +kernel
theorem d_Validity_access_91 : decode prog_11_method_24_code 91 = .ok (.getfield 19, 3) := by decide +kernel
theorem d_Validity_access_94 : decode prog_11_method_24_code 94 = .ok (.getstatic 309, 3) := by decide +kernel
theorem d_Validity_access_97 : decode prog_11_method_24_code 97 = .ok (.iload_n 2, 1) := by decide +kernel
theorem d_Validity_access_98 : decode prog_11_method_24_code 98 = .ok (.iaload, 1) := by decide +kernel
theorem d_Validity_access_99 : decode prog_11_method_24_code 99 = .ok (.invokevirtual 259, 3) := by decide +kernel
theorem d_Validity_access_102 : decode prog_11_method_24_code 102 = .ok (.return_, 1) := by decide +kernel
theorem d_Validity_access_56 : decode prog_11_method_24_code 56 = .ok (.aload_n 0, 1) := by decide +kernel
theorem d_Validity_access_57 : decode prog_11_method_24_code 57 = .ok (.getfield 19, 3) := by decide +kernel
theorem d_Validity_access_60 : decode prog_11_method_24_code 60 = .ok (.getstatic 309, 3) := by decide +kernel
theorem d_Validity_access_63 : decode prog_11_method_24_code 63 = .ok (.iload_n 2, 1) := by decide +kernel
theorem d_Validity_access_64 : decode prog_11_method_24_code 64 = .ok (.iaload, 1) := by decide +kernel
theorem d_Validity_access_65 : decode prog_11_method_24_code 65 = .ok (.invokevirtual 239, 3) := by decide +kernel
theorem d_Validity_access_68 : decode prog_11_method_24_code 68 = .ok (.pop, 1) := by decide +kernel
theorem d_Validity_access_69 : decode prog_11_method_24_code 69 = .ok (.aload_n 0, 1) := by decide +kernel
theorem d_Validity_access_70 : decode prog_11_method_24_code 70 = .ok (.getfield 19, 3) := by decide +kernel
theorem d_Validity_access_73 : decode prog_11_method_24_code 73 = .ok (.iconst 0, 1) := by decide +kernel
theorem d_Validity_access_74 : decode prog_11_method_24_code 74 = .ok (.invokevirtual 239, 3) := by decide +kernel
theorem d_Validity_access_77 : decode prog_11_method_24_code 77 = .ok (.pop, 1) := by decide +kernel
theorem d_Validity_access_78 : decode prog_11_method_24_code 78 = .ok (.goto 24, 3) := by decide +kernel
theorem d_Validity_access_33 : decode prog_11_method_24_code 33 = .ok (.iload_n 3, 1) := by decide +kernel
theorem d_Validity_access_34 : decode prog_11_method_24_code 34 = .ok (.getstatic 306, 3) := by decide +kernel
theorem d_Validity_access_37 : decode prog_11_method_24_code 37 = .ok (.iload_n 2, 1) := by decide +kernel
theorem d_Validity_access_38 : decode prog_11_method_24_code 38 = .ok (.iaload, 1) := by decide +kernel
theorem d_Validity_access_39 : decode prog_11_method_24_code 39 = .ok (.if_icmp .gt 7, 3) := by decide +kernel
theorem d_Validity_access_42 : decode prog_11_method_24_code 42 = .ok (.iconst 1, 1) := by decide +kernel
theorem d_Validity_access_43 : decode prog_11_method_24_code 43 = .ok (.goto 4, 3) := by decide +kernel
theorem d_Validity_instruction_0 : decode prog_11_method_11_code 0 = .ok (.iload_n 1, 1) := by decide +kernel
theorem d_Validity_instruction_1 : decode prog_11_method_11_code 1 = .ok (.tableswitch 533 0 66 #[286, 283, 296, 296, 317, 324, 533, 533, 533, 533, 533, 334, 344, 365, 386, 393, 412, 426, 533, 533, 533, 533, 533, 533, 533, 533, 433, 445, 533, 533, 533, 533, 452, 452, 452, 468, 468, 533, 533, 533, 533, 533, 533, 533, 533, 533, 533, 533, 533, 533, 533, 533, 533, 533, 533, 533, 533, 533, 533, 533, 533, 533, 533, 483, 483, 491, 512], 283) := by decide +kernel
theorem d_Validity_instruction_287 : decode prog_11_method_11_code 287 = .ok (.aload_n 0, 1) := by decide +kernel
theorem d_Validity_instruction_288 : decode prog_11_method_11_code 288 = .ok (.getfield 19, 3) := by decide +kernel
theorem d_Validity_instruction_291 : decode prog_11_method_11_code 291 = .ok (.invokevirtual 200, 3) := by decide +kernel
theorem d_Validity_instruction_294 : decode prog_11_method_11_code 294 = .ok (.goto 267, 3) := by decide +kernel
theorem d_Validity_instruction_561 : decode prog_11_method_11_code 561 = .ok (.return_, 1) := by decide +kernel
theorem d_Validity_instruction_284 : decode prog_11_method_11_code 284 = .ok (.goto 277, 3) := by decide +kernel
theorem d_Validity_instruction_297 : decode prog_11_method_11_code 297 = .ok (.aload_n 0, 1) := by decide +kernel
theorem d_Validity_instruction_298 : decode prog_11_method_11_code 298 = .ok (.getfield 19, 3) := by decide +kernel
theorem d_Validity_instruction_301 : decode prog_11_method_11_code 301 = .ok (.iload_n 1, 1) := by decide +kernel
theorem d_Validity_instruction_302 : decode prog_11_method_11_code 302 = .ok (.aload_n 0, 1) := by decide +kernel
theorem d_Validity_instruction_303 : decode prog_11_method_11_code 303 = .ok (.getfield 9, 3) := by decide +kernel
theorem d_Validity_instruction_306 : decode prog_11_method_11_code 306 = .ok (.invokevirtual 193, 3) := by decide +kernel
theorem d_Validity_instruction_309 : decode prog_11_method_11_code 309 = .ok (.invokestatic 203, 3) := by decide +kernel
theorem d_Validity_instruction_312 : decode prog_11_method_11_code 312 = .ok (.invokevirtual 206, 3) := by decide +kernel
theorem d_Validity_instruction_315 : decode prog_11_method_11_code 315 = .ok (.goto 246, 3) := by decide +kernel
theorem d_Validity_instruction_318 : decode prog_11_method_11_code 318 = .ok (.aload_n 0, 1) := by decide +kernel
theorem d_Validity_instruction_319 : decode prog_11_method_11_code 319 = .ok (.invokevirtual 209, 3) := by decide +kernel
theorem nm_Validity_ifBlock : x_nm y_Validity_ifBlock 0 = true := by decide +kernel
theorem d_Validity_instruction_322 : decode prog_11_method_11_code 322 = .ok (.goto 239, 3) := by decide +kernel
theorem d_Validity_instruction_325 : decode prog_11_method_11_code 325 = .ok (.aload_n 0, 1) := by decide +kernel
theorem d_Validity_instruction_326 : decode prog_11_method_11_code 326 = .ok (.getfield 19, 3) := by decide +kernel
theorem d_Validity_instruction_329 : decode prog_11_method_11_code 329 = .ok (.invokevirtual 212, 3) := by decide +kernel
theorem nm_TypeStack_turnToElse : x_nm y_TypeStack_turnToElse 0 = true := by decide +kernel
theorem d_Validity_instruction_332 : decode prog_11_method_11_code 332 = .ok (.goto 229, 3) := by decide +kernel
theorem d_Validity_instruction_534 : decode prog_11_method_11_code 534 = .ok (.iload_n 1, 1) := by decide +kernel
theorem d_Validity_instruction_535 : decode prog_11_method_11_code 535 = .ok (.invokestatic 262, 3) := by decide +kernel
theorem d_Validity_instruction_538 : decode prog_11_method_11_code 538 = .ok (.ifCond .eq 15, 3) := by decide +kernel
theorem d_Validity_instruction_553 : decode prog_11_method_11_code 553 = .ok (.aload_n 0, 1) := by decide +kernel
theorem d_Validity_instruction_554 : decode prog_11_method_11_code 554 = .ok (.iload_n 1, 1) := by decide +kernel
theorem d_Validity_instruction_555 : decode prog_11_method_11_code 555 = .ok (.invokestatic 268, 3) := by decide +kernel
theorem d_Validity_instruction_558 : decode prog_11_method_11_code 558 = .ok (.invokevirtual 271, 3) := by decide +kernel
theorem nm_Validity_numeric : x_nm y_Validity_numeric 1 = true := by decide +kernel
theorem d_Validity_instruction_541 : decode prog_11_method_11_code 541 = .ok (.aload_n 0, 1) := by decide +kernel
theorem d_Validity_instruction_542 : decode prog_11_method_11_code 542 = .ok (.iload_n 1, 1) := by decide +kernel
theorem d_Validity_instruction_543 : decode prog_11_method_11_code 543 = .ok (.iload_n 1, 1) := by decide +kernel
theorem d_Validity_instruction_544 : decode prog_11_method_11_code 544 = .ok (.bipush 40, 2) := by decide +kernel
theorem d_Validity_instruction_546 : decode prog_11_method_11_code 546 = .ok (.isub, 1) := by decide +kernel
theorem d_Validity_instruction_547 : decode prog_11_method_11_code 547 = .ok (.invokevirtual 265, 3) := by decide +kernel
theorem nm_Validity_access : x_nm y_Validity_access 2 = true := by decide +kernel
theorem d_Validity_instruction_550 : decode prog_11_method_11_code 550 = .ok (.goto 11, 3) := by decide +kernel
theorem d_Validity_instruction_335 : decode prog_11_method_11_code 335 = .ok (.aload_n 0, 1) := by decide +kernel
theorem d_Validity_instruction_336 : decode prog_11_method_11_code 336 = .ok (.getfield 19, 3) := by decide +kernel
theorem d_Validity_instruction_339 : decode prog_11_method_11_code 339 = .ok (.invokevirtual 215, 3) := by decide +kernel
theorem nm_TypeStack_close : x_nm y_TypeStack_close 0 = true := by decide +kernel
theorem d_Validity_instruction_342 : decode prog_11_method_11_code 342 = .ok (.goto 219, 3) := by decide +kernel
theorem d_Validity_instruction_345 : decode prog_11_method_11_code 345 = .ok (.aload_n 0, 1) := by decide +kernel
theorem d_Validity_instruction_346 : decode prog_11_method_11_code 346 = .ok (.aload_n 0, 1) := by decide +kernel
theorem d_Validity_instruction_347 : decode prog_11_method_11_code 347 = .ok (.getfield 19, 3) := by decide +kernel
theorem d_Validity_instruction_350 : decode prog_11_method_11_code 350 = .ok (.aload_n 0, 1) := by decide +kernel
theorem d_Validity_instruction_351 : decode prog_11_method_11_code 351 = .ok (.getfield 9, 3) := by decide +kernel
theorem d_Validity_instruction_354 : decode prog_11_method_11_code 354 = .ok (.invokevirtual 218, 3) := by decide +kernel
theorem d_Validity_instruction_357 : decode prog_11_method_11_code 357 = .ok (.invokevirtual 221, 3) := by decide +kernel
theorem d_Validity_instruction_360 : decode prog_11_method_11_code 360 = .ok (.invokevirtual 224, 3) := by decide +kernel
theorem d_Validity_instruction_363 : decode prog_11_method_11_code 363 = .ok (.goto 198, 3) := by decide +kernel
theorem d_Validity_instruction_366 : decode prog_11_method_11_code 366 = .ok (.aload_n 0, 1) := by decide +kernel
theorem d_Validity_instruction_367 : decode prog_11_method_11_code 367 = .ok (.aload_n 0, 1) := by decide +kernel
theorem d_Validity_instruction_368 : decode prog_11_method_11_code 368 = .ok (.getfield 19, 3) := by decide +kernel
theorem d_Validity_instruction_371 : decode prog_11_method_11_code 371 = .ok (.aload_n 0, 1) := by decide +kernel
theorem d_Validity_instruction_372 : decode prog_11_method_11_code 372 = .ok (.getfield 9, 3) := by decide +kernel
theorem d_Validity_instruction_375 : decode prog_11_method_11_code 375 = .ok (.invokevirtual 218, 3) := by decide +kernel
theorem d_Validity_instruction_378 : decode prog_11_method_11_code 378 = .ok (.invokevirtual 221, 3) := by decide +kernel
theorem d_Validity_instruction_381 : decode prog_11_method_11_code 381 = .ok (.invokevirtual 227, 3) := by decide +kernel
theorem nm_Validity_branchIf : x_nm y_Validity_branchIf 1 = true := by decide +kernel
theorem d_Validity_instruction_384 : decode prog_11_method_11_code 384 = .ok (.goto 177, 3) := by decide +kernel
theorem d_Validity_instruction_387 : decode prog_11_method_11_code 387 = .ok (.aload_n 0, 1) := by decide +kernel
theorem d_Validity_instruction_388 : decode prog_11_method_11_code 388 = .ok (.invokevirtual 230, 3) := by decide +kernel
theorem nm_Validity_branchTable : x_nm y_Validity_branchTable 0 = true := by decide +kernel
theorem d_Validity_instruction_391 : decode prog_11_method_11_code 391 = .ok (.goto 170, 3) := by decide +kernel
theorem d_Validity_instruction_394 : decode prog_11_method_11_code 394 = .ok (.aload_n 0, 1) := by decide +kernel
theorem d_Validity_instruction_395 : decode prog_11_method_11_code 395 = .ok (.aload_n 0, 1) := by decide +kernel
theorem d_Validity_instruction_396 : decode prog_11_method_11_code 396 = .ok (.getfield 15, 3) := by decide +kernel
theorem d_Validity_instruction_399 : decode prog_11_method_11_code 399 = .ok (.getfield 73, 3) := by decide +kernel
theorem d_Validity_instruction_402 : decode prog_11_method_11_code 402 = .ok (.getfield 149, 3) := by decide +kernel
theorem d_Validity_instruction_405 : decode prog_11_method_11_code 405 = .ok (.iload_n 2, 1) := by decide +kernel
theorem d_Validity_instruction_406 : decode prog_11_method_11_code 406 = .ok (.iaload, 1) := by decide +kernel
theorem d_Validity_instruction_407 : decode prog_11_method_11_code 407 = .ok (.invokevirtual 224, 3) := by decide +kernel
theorem d_Validity_instruction_410 : decode prog_11_method_11_code 410 = .ok (.goto 151, 3) := by decide +kernel
theorem d_Validity_instruction_413 : decode prog_11_method_11_code 413 = .ok (.aload_n 0, 1) := by decide +kernel
theorem d_Validity_instruction_414 : decode prog_11_method_11_code 414 = .ok (.aload_n 0, 1) := by decide +kernel
theorem d_Validity_instruction_415 : decode prog_11_method_11_code 415 = .ok (.getfield 9, 3) := by decide +kernel
theorem d_Validity_instruction_418 : decode prog_11_method_11_code 418 = .ok (.invokevirtual 218, 3) := by decide +kernel
theorem d_Validity_instruction_421 : decode prog_11_method_11_code 421 = .ok (.invokevirtual 233, 3) := by decide +kernel
theorem nm_Validity_call : x_nm y_Validity_call 1 = true := by decide +kernel
theorem d_Validity_instruction_424 : decode prog_11_method_11_code 424 = .ok (.goto 137, 3) := by decide +kernel
theorem d_Validity_instruction_427 : decode prog_11_method_11_code 427 = .ok (.aload_n 0, 1) := by decide +kernel
theorem d_Validity_instruction_428 : decode prog_11_method_11_code 428 = .ok (.invokevirtual 236, 3) := by decide +kernel
theorem nm_Validity_callIndirect : x_nm y_Validity_callIndirect 0 = true := by decide +kernel
theorem d_Validity_instruction_431 : decode prog_11_method_11_code 431 = .ok (.goto 130, 3) := by decide +kernel
theorem d_Validity_instruction_434 : decode prog_11_method_11_code 434 = .ok (.aload_n 0, 1) := by decide +kernel
theorem d_Validity_instruction_435 : decode prog_11_method_11_code 435 = .ok (.getfield 19, 3) := by decide +kernel
theorem d_Validity_instruction_438 : decode prog_11_method_11_code 438 = .ok (.iconst 2, 1) := by decide +kernel
theorem d_Validity_instruction_439 : decode prog_11_method_11_code 439 = .ok (.invokevirtual 239, 3) := by decide +kernel
theorem d_Validity_instruction_442 : decode prog_11_method_11_code 442 = .ok (.pop, 1) := by decide +kernel
theorem d_Validity_instruction_443 : decode prog_11_method_11_code 443 = .ok (.goto 118, 3) := by decide +kernel
theorem d_Validity_instruction_446 : decode prog_11_method_11_code 446 = .ok (.aload_n 0, 1) := by decide +kernel
theorem d_Validity_instruction_447 : decode prog_11_method_11_code 447 = .ok (.invokevirtual 242, 3) := by decide +kernel
theorem nm_Validity_select : x_nm y_Validity_select 0 = true := by decide +kernel
theorem d_Validity_instruction_450 : decode prog_11_method_11_code 450 = .ok (.goto 111, 3) := by decide +kernel
theorem d_Validity_instruction_453 : decode prog_11_method_11_code 453 = .ok (.aload_n 0, 1) := by decide +kernel
theorem d_Validity_instruction_454 : decode prog_11_method_11_code 454 = .ok (.iload_n 1, 1) := by decide +kernel
theorem d_Validity_instruction_455 : decode prog_11_method_11_code 455 = .ok (.iload_n 2, 1) := by decide +kernel
theorem d_Validity_instruction_456 : decode prog_11_method_11_code 456 = .ok (.aload_n 0, 1) := by decide +kernel
theorem d_Validity_instruction_457 : decode prog_11_method_11_code 457 = .ok (.getfield 9, 3) := by decide +kernel
theorem d_Validity_instruction_460 : decode prog_11_method_11_code 460 = .ok (.invokevirtual 218, 3) := by decide +kernel
theorem d_Validity_instruction_463 : decode prog_11_method_11_code 463 = .ok (.invokevirtual 245, 3) := by decide +kernel
theorem nm_Validity_local : x_nm y_Validity_local 3 = true := by decide +kernel
theorem d_Validity_instruction_466 : decode prog_11_method_11_code 466 = .ok (.goto 95, 3) := by decide +kernel
theorem d_Validity_instruction_469 : decode prog_11_method_11_code 469 = .ok (.aload_n 0, 1) := by decide +kernel
theorem d_Validity_instruction_470 : decode prog_11_method_11_code 470 = .ok (.iload_n 1, 1) := by decide +kernel
theorem d_Validity_instruction_471 : decode prog_11_method_11_code 471 = .ok (.aload_n 0, 1) := by decide +kernel
theorem d_Validity_instruction_472 : decode prog_11_method_11_code 472 = .ok (.getfield 9, 3) := by decide +kernel
theorem d_Validity_instruction_475 : decode prog_11_method_11_code 475 = .ok (.invokevirtual 218, 3) := by decide +kernel
theorem d_Validity_instruction_478 : decode prog_11_method_11_code 478 = .ok (.invokevirtual 249, 3) := by decide +kernel
theorem nm_Validity_globalAccess : x_nm y_Validity_globalAccess 2 = true := by decide +kernel
theorem d_Validity_instruction_481 : decode prog_11_method_11_code 481 = .ok (.goto 80, 3) := by decide +kernel
theorem d_Validity_instruction_484 : decode prog_11_method_11_code 484 = .ok (.aload_n 0, 1) := by decide +kernel
theorem d_Validity_instruction_485 : decode prog_11_method_11_code 485 = .ok (.iload_n 1, 1) := by decide +kernel
theorem d_Validity_instruction_486 : decode prog_11_method_11_code 486 = .ok (.invokevirtual 252, 3) := by decide +kernel
theorem nm_Validity_memorySize : x_nm y_Validity_memorySize 1 = true := by decide +kernel
theorem d_Validity_instruction_489 : decode prog_11_method_11_code 489 = .ok (.goto 72, 3) := by decide +kernel
theorem d_Validity_instruction_492 : decode prog_11_method_11_code 492 = .ok (.aload_n 0, 1) := by decide +kernel
theorem d_Validity_instruction_493 : decode prog_11_method_11_code 493 = .ok (.getfield 9, 3) := by decide +kernel
theorem d_Validity_instruction_496 : decode prog_11_method_11_code 496 = .ok (.bipush 32, 2) := by decide +kernel
theorem d_Validity_instruction_498 : decode prog_11_method_11_code 498 = .ok (.invokevirtual 255, 3) := by decide +kernel
theorem d_Validity_instruction_501 : decode prog_11_method_11_code 501 = .ok (.pop2, 1) := by decide +kernel
theorem d_Validity_instruction_502 : decode prog_11_method_11_code 502 = .ok (.aload_n 0, 1) := by decide +kernel
theorem d_Validity_instruction_503 : decode prog_11_method_11_code 503 = .ok (.getfield 19, 3) := by decide +kernel
theorem d_Validity_instruction_506 : decode prog_11_method_11_code 506 = .ok (.iconst 0, 1) := by decide +kernel
theorem d_Validity_instruction_507 : decode prog_11_method_11_code 507 = .ok (.invokevirtual 259, 3) := by decide +kernel
theorem d_Validity_instruction_510 : decode prog_11_method_11_code 510 = .ok (.goto 51, 3) := by decide +kernel
theorem d_Validity_instruction_513 : decode prog_11_method_11_code 513 = .ok (.aload_n 0, 1) := by decide +kernel
theorem d_Validity_instruction_514 : decode prog_11_method_11_code 514 = .ok (.getfield 9, 3) := by decide +kernel
theorem d_Validity_instruction_517 : decode prog_11_method_11_code 517 = .ok (.bipush 64, 2) := by decide +kernel
theorem d_Validity_instruction_519 : decode prog_11_method_11_code 519 = .ok (.invokevirtual 255, 3) := by decide +kernel
theorem d_Validity_instruction_522 : decode prog_11_method_11_code 522 = .ok (.pop2, 1) := by decide +kernel
theorem d_Validity_instruction_523 : decode prog_11_method_11_code 523 = .ok (.aload_n 0, 1) := by decide +kernel
theorem d_Validity_instruction_524 : decode prog_11_method_11_code 524 = .ok (.getfield 19, 3) := by decide +kernel
theorem d_Validity_instruction_527 : decode prog_11_method_11_code 527 = .ok (.iconst 1, 1) := by decide +kernel
theorem d_Validity_instruction_528 : decode prog_11_method_11_code 528 = .ok (.invokevirtual 259, 3) := by decide +kernel
theorem d_Validity_instruction_531 : decode prog_11_method_11_code 531 = .ok (.goto 30, 3) := by decide +kernel
theorem d_Validity_bodiesHold_0 : decode prog_11_method_10_code 0 = .ok (.aload_n 0, 1) := by decide +kernel
theorem d_Validity_bodiesHold_1 : decode prog_11_method_10_code 1 = .ok (.getfield 15, 3) := by decide +kernel
theorem d_Validity_bodiesHold_4 : decode prog_11_method_10_code 4 = .ok (.getfield 73, 3) := by decide +kernel
theorem d_Validity_bodiesHold_7 : decode prog_11_method_10_code 7 = .ok (.astore_n 1, 1) := by decide +kernel
theorem d_Validity_bodiesHold_8 : decode prog_11_method_10_code 8 = .ok (.aload_n 1, 1) := by decide +kernel
theorem d_Validity_bodiesHold_9 : decode prog_11_method_10_code 9 = .ok (.getfield 167, 3) := by decide +kernel
theorem d_Validity_bodiesHold_12 : decode prog_11_method_10_code 12 = .ok (.istore_n 2, 1) := by decide +kernel
theorem d_Validity_bodiesHold_13 : decode prog_11_method_10_code 13 = .ok (.aload_n 1, 1) := by decide +kernel
theorem d_Validity_bodiesHold_14 : decode prog_11_method_10_code 14 = .ok (.iload_n 2, 1) := by decide +kernel
theorem d_Validity_bodiesHold_15 : decode prog_11_method_10_code 15 = .ok (.invokevirtual 77, 3) := by decide +kernel
theorem d_Validity_bodiesHold_18 : decode prog_11_method_10_code 18 = .ok (.ifCond .eq 113, 3) := by decide +kernel
theorem d_Validity_bodiesHold_131 : decode prog_11_method_10_code 131 = .ok (.iconst 1, 1) := by decide +kernel
theorem d_Validity_bodiesHold_132 : decode prog_11_method_10_code 132 = .ok (.ireturn, 1) := by decide +kernel
theorem d_Validity_bodiesHold_21 : decode prog_11_method_10_code 21 = .ok (.iload_n 2, 1) := by decide +kernel
theorem d_Validity_bodiesHold_22 : decode prog_11_method_10_code 22 = .ok (.bipush 60, 2) := by decide +kernel
theorem d_Validity_bodiesHold_24 : decode prog_11_method_10_code 24 = .ok (.if_icmp .ge 107, 3) := by decide +kernel
theorem d_Validity_bodiesHold_27 : decode prog_11_method_10_code 27 = .ok (.aload_n 0, 1) := by decide +kernel
theorem d_Validity_bodiesHold_28 : decode prog_11_method_10_code 28 = .ok (.getfield 19, 3) := by decide +kernel
theorem d_Validity_bodiesHold_31 : decode prog_11_method_10_code 31 = .ok (.aload_n 1, 1) := by decide +kernel
theorem d_Validity_bodiesHold_32 : decode prog_11_method_10_code 32 = .ok (.getfield 149, 3) := by decide +kernel
theorem d_Validity_bodiesHold_35 : decode prog_11_method_10_code 35 = .ok (.iload_n 2, 1) := by decide +kernel
theorem d_Validity_bodiesHold_36 : decode prog_11_method_10_code 36 = .ok (.iaload, 1) := by decide +kernel
theorem d_Validity_bodiesHold_37 : decode prog_11_method_10_code 37 = .ok (.invokevirtual 168, 3) := by decide +kernel
theorem nm_TypeStack_begin : x_nm y_TypeStack_begin 1 = true := by decide +kernel
theorem d_Validity_bodiesHold_40 : decode prog_11_method_10_code 40 = .ok (.aload_n 0, 1) := by decide +kernel
theorem d_Validity_bodiesHold_41 : decode prog_11_method_10_code 41 = .ok (.getfield 9, 3) := by decide +kernel
theorem d_Validity_bodiesHold_44 : decode prog_11_method_10_code 44 = .ok (.aload_n 1, 1) := by decide +kernel
theorem d_Validity_bodiesHold_45 : decode prog_11_method_10_code 45 = .ok (.getfield 174, 3) := by decide +kernel
theorem d_Validity_bodiesHold_48 : decode prog_11_method_10_code 48 = .ok (.iload_n 2, 1) := by decide +kernel
theorem d_Validity_bodiesHold_49 : decode prog_11_method_10_code 49 = .ok (.iaload, 1) := by decide +kernel
theorem d_Validity_bodiesHold_50 : decode prog_11_method_10_code 50 = .ok (.aload_n 1, 1) := by decide +kernel
theorem d_Validity_bodiesHold_51 : decode prog_11_method_10_code 51 = .ok (.getfield 174, 3) := by decide +kernel
theorem d_Validity_bodiesHold_54 : decode prog_11_method_10_code 54 = .ok (.iload_n 2, 1) := by decide +kernel
theorem d_Validity_bodiesHold_55 : decode prog_11_method_10_code 55 = .ok (.iaload, 1) := by decide +kernel
theorem d_Validity_bodiesHold_56 : decode prog_11_method_10_code 56 = .ok (.aload_n 1, 1) := by decide +kernel
theorem d_Validity_bodiesHold_57 : decode prog_11_method_10_code 57 = .ok (.getfield 177, 3) := by decide +kernel
theorem d_Validity_bodiesHold_60 : decode prog_11_method_10_code 60 = .ok (.iload_n 2, 1) := by decide +kernel
theorem d_Validity_bodiesHold_61 : decode prog_11_method_10_code 61 = .ok (.iaload, 1) := by decide +kernel
theorem d_Validity_bodiesHold_62 : decode prog_11_method_10_code 62 = .ok (.iadd, 1) := by decide +kernel
theorem d_Validity_bodiesHold_63 : decode prog_11_method_10_code 63 = .ok (.invokevirtual 180, 3) := by decide +kernel
theorem d_Validity_bodiesHold_66 : decode prog_11_method_10_code 66 = .ok (.iconst 0, 1) := by decide +kernel
theorem d_Validity_bodiesHold_67 : decode prog_11_method_10_code 67 = .ok (.istore_n 3, 1) := by decide +kernel
theorem d_Validity_bodiesHold_68 : decode prog_11_method_10_code 68 = .ok (.iload_n 3, 1) := by decide +kernel
theorem d_Validity_bodiesHold_69 : decode prog_11_method_10_code 69 = .ok (.sipush 4000, 3) := by decide +kernel
theorem d_Validity_bodiesHold_72 : decode prog_11_method_10_code 72 = .ok (.if_icmp .ge 41, 3) := by decide +kernel
theorem d_Validity_bodiesHold_113 : decode prog_11_method_10_code 113 = .ok (.aload_n 0, 1) := by decide +kernel
theorem d_Validity_bodiesHold_114 : decode prog_11_method_10_code 114 = .ok (.getfield 19, 3) := by decide +kernel
theorem d_Validity_bodiesHold_117 : decode prog_11_method_10_code 117 = .ok (.getfield 189, 3) := by decide +kernel
theorem d_Validity_bodiesHold_120 : decode prog_11_method_10_code 120 = .ok (.ifCond .eq 5, 3) := by decide +kernel
theorem d_Validity_bodiesHold_125 : decode prog_11_method_10_code 125 = .ok (.iinc 2 1, 3) := by decide +kernel
theorem d_Validity_bodiesHold_128 : decode prog_11_method_10_code 128 = .ok (.goto (-115), 3) := by decide +kernel
theorem d_Validity_bodiesHold_123 : decode prog_11_method_10_code 123 = .ok (.iconst 0, 1) := by decide +kernel
theorem d_Validity_bodiesHold_124 : decode prog_11_method_10_code 124 = .ok (.ireturn, 1) := by decide +kernel
theorem d_Validity_bodiesHold_75 : decode prog_11_method_10_code 75 = .ok (.aload_n 0, 1) := by decide +kernel
theorem d_Validity_bodiesHold_76 : decode prog_11_method_10_code 76 = .ok (.getfield 9, 3) := by decide +kernel
theorem d_Validity_bodiesHold_79 : decode prog_11_method_10_code 79 = .ok (.invokevirtual 186, 3) := by decide +kernel
theorem d_Validity_bodiesHold_82 : decode prog_11_method_10_code 82 = .ok (.ifCond .eq 31, 3) := by decide +kernel
theorem d_Validity_bodiesHold_85 : decode prog_11_method_10_code 85 = .ok (.aload_n 0, 1) := by decide +kernel
theorem d_Validity_bodiesHold_86 : decode prog_11_method_10_code 86 = .ok (.getfield 19, 3) := by decide +kernel
theorem d_Validity_bodiesHold_89 : decode prog_11_method_10_code 89 = .ok (.getfield 189, 3) := by decide +kernel
theorem d_Validity_bodiesHold_92 : decode prog_11_method_10_code 92 = .ok (.ifCond .ne 21, 3) := by decide +kernel
theorem d_Validity_bodiesHold_95 : decode prog_11_method_10_code 95 = .ok (.aload_n 0, 1) := by decide +kernel
theorem d_Validity_bodiesHold_96 : decode prog_11_method_10_code 96 = .ok (.aload_n 0, 1) := by decide +kernel
theorem d_Validity_bodiesHold_97 : decode prog_11_method_10_code 97 = .ok (.getfield 9, 3) := by decide +kernel
theorem d_Validity_bodiesHold_100 : decode prog_11_method_10_code 100 = .ok (.invokevirtual 193, 3) := by decide +kernel
theorem d_Validity_bodiesHold_103 : decode prog_11_method_10_code 103 = .ok (.iload_n 2, 1) := by decide +kernel
theorem d_Validity_bodiesHold_104 : decode prog_11_method_10_code 104 = .ok (.invokevirtual 197, 3) := by decide +kernel
theorem nm_Validity_instruction : x_nm y_Validity_instruction 2 = true := by decide +kernel
theorem d_Validity_bodiesHold_107 : decode prog_11_method_10_code 107 = .ok (.iinc 3 1, 3) := by decide +kernel
theorem d_Validity_bodiesHold_110 : decode prog_11_method_10_code 110 = .ok (.goto (-42), 3) := by decide +kernel
theorem d_Validity_holds_0 : decode prog_11_method_2_code 0 = .ok (.aload_n 0, 1) := by decide +kernel
theorem d_Validity_holds_1 : decode prog_11_method_2_code 1 = .ok (.getfield 15, 3) := by decide +kernel
theorem d_Validity_holds_4 : decode prog_11_method_2_code 4 = .ok (.getfield 23, 3) := by decide +kernel
theorem d_Validity_holds_7 : decode prog_11_method_2_code 7 = .ok (.ldc2_w 29, 3) := by decide +kernel
theorem d_Validity_holds_10 : decode prog_11_method_2_code 10 = .ok (.invokevirtual 31, 3) := by decide +kernel
theorem nm_Sized_holds : x_nm y_Sized_holds 1 = true := by decide +kernel
theorem d_Validity_holds_13 : decode prog_11_method_2_code 13 = .ok (.ifCond .eq 106, 3) := by decide +kernel
theorem d_Validity_holds_119 : decode prog_11_method_2_code 119 = .ok (.iconst 0, 1) := by decide +kernel
theorem d_Validity_holds_120 : decode prog_11_method_2_code 120 = .ok (.ireturn, 1) := by decide +kernel
theorem d_Validity_holds_16 : decode prog_11_method_2_code 16 = .ok (.aload_n 0, 1) := by decide +kernel
theorem d_Validity_holds_17 : decode prog_11_method_2_code 17 = .ok (.getfield 15, 3) := by decide +kernel
theorem d_Validity_holds_20 : decode prog_11_method_2_code 20 = .ok (.getfield 37, 3) := by decide +kernel
theorem d_Validity_holds_23 : decode prog_11_method_2_code 23 = .ok (.ldc2_w 40, 3) := by decide +kernel
theorem d_Validity_holds_26 : decode prog_11_method_2_code 26 = .ok (.invokevirtual 31, 3) := by decide +kernel
theorem d_Validity_holds_29 : decode prog_11_method_2_code 29 = .ok (.ifCond .eq 90, 3) := by decide +kernel
theorem d_Validity_holds_32 : decode prog_11_method_2_code 32 = .ok (.aload_n 0, 1) := by decide +kernel
theorem d_Validity_holds_33 : decode prog_11_method_2_code 33 = .ok (.invokevirtual 42, 3) := by decide +kernel
theorem nm_Validity_typesHold : x_nm y_Validity_typesHold 0 = true := by decide +kernel
theorem d_Validity_holds_36 : decode prog_11_method_2_code 36 = .ok (.ifCond .eq 83, 3) := by decide +kernel
theorem d_Validity_holds_39 : decode prog_11_method_2_code 39 = .ok (.aload_n 0, 1) := by decide +kernel
theorem d_Validity_holds_40 : decode prog_11_method_2_code 40 = .ok (.invokevirtual 46, 3) := by decide +kernel
theorem nm_Validity_globalsHold : x_nm y_Validity_globalsHold 0 = true := by decide +kernel
theorem d_Validity_holds_43 : decode prog_11_method_2_code 43 = .ok (.ifCond .eq 76, 3) := by decide +kernel
theorem d_Validity_holds_46 : decode prog_11_method_2_code 46 = .ok (.aload_n 0, 1) := by decide +kernel
theorem d_Validity_holds_47 : decode prog_11_method_2_code 47 = .ok (.invokevirtual 49, 3) := by decide +kernel
theorem nm_Validity_exportsHold : x_nm y_Validity_exportsHold 0 = true := by decide +kernel
theorem d_Validity_holds_50 : decode prog_11_method_2_code 50 = .ok (.ifCond .eq 69, 3) := by decide +kernel
theorem d_Validity_holds_53 : decode prog_11_method_2_code 53 = .ok (.aload_n 0, 1) := by decide +kernel
theorem d_Validity_holds_54 : decode prog_11_method_2_code 54 = .ok (.invokevirtual 52, 3) := by decide +kernel
theorem nm_Validity_startHolds : x_nm y_Validity_startHolds 0 = true := by decide +kernel
theorem d_Validity_holds_57 : decode prog_11_method_2_code 57 = .ok (.ifCond .eq 62, 3) := by decide +kernel
theorem d_Validity_holds_60 : decode prog_11_method_2_code 60 = .ok (.aload_n 0, 1) := by decide +kernel
theorem d_Validity_holds_61 : decode prog_11_method_2_code 61 = .ok (.aload_n 0, 1) := by decide +kernel
theorem d_Validity_holds_62 : decode prog_11_method_2_code 62 = .ok (.getfield 15, 3) := by decide +kernel
theorem d_Validity_holds_65 : decode prog_11_method_2_code 65 = .ok (.getfield 55, 3) := by decide +kernel
theorem d_Validity_holds_68 : decode prog_11_method_2_code 68 = .ok (.aload_n 0, 1) := by decide +kernel
theorem d_Validity_holds_69 : decode prog_11_method_2_code 69 = .ok (.getfield 15, 3) := by decide +kernel
theorem d_Validity_holds_72 : decode prog_11_method_2_code 72 = .ok (.getfield 23, 3) := by decide +kernel
theorem d_Validity_holds_75 : decode prog_11_method_2_code 75 = .ok (.getfield 59, 3) := by decide +kernel
theorem d_Validity_holds_78 : decode prog_11_method_2_code 78 = .ok (.invokevirtual 63, 3) := by decide +kernel
theorem nm_Validity_segmentsHold : x_nm y_Validity_segmentsHold 2 = true := by decide +kernel
theorem d_Validity_holds_81 : decode prog_11_method_2_code 81 = .ok (.ifCond .eq 38, 3) := by decide +kernel
theorem d_Validity_holds_84 : decode prog_11_method_2_code 84 = .ok (.aload_n 0, 1) := by decide +kernel
theorem d_Validity_holds_85 : decode prog_11_method_2_code 85 = .ok (.aload_n 0, 1) := by decide +kernel
theorem d_Validity_holds_86 : decode prog_11_method_2_code 86 = .ok (.getfield 15, 3) := by decide +kernel
theorem d_Validity_holds_89 : decode prog_11_method_2_code 89 = .ok (.getfield 67, 3) := by decide +kernel
theorem d_Validity_holds_92 : decode prog_11_method_2_code 92 = .ok (.aload_n 0, 1) := by decide +kernel
theorem d_Validity_holds_93 : decode prog_11_method_2_code 93 = .ok (.getfield 15, 3) := by decide +kernel
theorem d_Validity_holds_96 : decode prog_11_method_2_code 96 = .ok (.getfield 37, 3) := by decide +kernel
theorem d_Validity_holds_99 : decode prog_11_method_2_code 99 = .ok (.getfield 59, 3) := by decide +kernel
theorem d_Validity_holds_102 : decode prog_11_method_2_code 102 = .ok (.invokevirtual 63, 3) := by decide +kernel
theorem d_Validity_holds_105 : decode prog_11_method_2_code 105 = .ok (.ifCond .eq 14, 3) := by decide +kernel
theorem d_Validity_holds_108 : decode prog_11_method_2_code 108 = .ok (.aload_n 0, 1) := by decide +kernel
theorem d_Validity_holds_109 : decode prog_11_method_2_code 109 = .ok (.invokevirtual 70, 3) := by decide +kernel
theorem nm_Validity_bodiesHold : x_nm y_Validity_bodiesHold 0 = true := by decide +kernel
theorem d_Validity_holds_112 : decode prog_11_method_2_code 112 = .ok (.ifCond .eq 7, 3) := by decide +kernel
theorem d_Validity_holds_115 : decode prog_11_method_2_code 115 = .ok (.iconst 1, 1) := by decide +kernel
theorem d_Validity_holds_116 : decode prog_11_method_2_code 116 = .ok (.goto 4, 3) := by decide +kernel
