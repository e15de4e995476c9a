def y_WasmModule_isTooLarge : MethodName := ⟨"WasmReader$WasmModule", "isTooLarge", "()Z"⟩
theorem m_444 : Cond.methodLink "WasmReader$Grammar" 49 y_Grammar_customSection ∈ xtb := x_in (List.mem_of_getElem? (i := 536) (by decide +kernel)) (by decide +kernel)
theorem m_445 : Cond.code y_Grammar_customSection prog_6_method_4_code 1 none ∈ xtb := x_in (List.mem_of_getElem? (i := 539) (by decide +kernel)) (by decide +kernel)
theorem m_446 : Cond.instanceMethod y_Grammar_customSection ∈ xtb := x_in (List.mem_of_getElem? (i := 538) (by decide +kernel)) (by decide +kernel)
theorem m_447 : Cond.selects "WasmReader$Grammar" y_Grammar_customSection y_Grammar_customSection ∈ xtb := x_in (List.mem_of_getElem? (i := 0) (by decide +kernel)) (by decide +kernel)
theorem m_448 : Cond.methodLink "WasmReader$Grammar" 52 y_Grammar_typeSection ∈ xtb := x_in (List.mem_of_getElem? (i := 545) (by decide +kernel)) (by decide +kernel)
theorem m_449 : Cond.code y_Grammar_typeSection prog_6_method_5_code 6 none ∈ xtb := x_in (List.mem_of_getElem? (i := 548) (by decide +kernel)) (by decide +kernel)
theorem m_450 : Cond.instanceMethod y_Grammar_typeSection ∈ xtb := x_in (List.mem_of_getElem? (i := 547) (by decide +kernel)) (by decide +kernel)
theorem m_451 : Cond.selects "WasmReader$Grammar" y_Grammar_typeSection y_Grammar_typeSection ∈ xtb := x_in (List.mem_of_getElem? (i := 1) (by decide +kernel)) (by decide +kernel)
theorem m_452 : Cond.methodLink "WasmReader$Grammar" 55 y_Grammar_importSection ∈ xtb := x_in (List.mem_of_getElem? (i := 564) (by decide +kernel)) (by decide +kernel)
theorem m_453 : Cond.code y_Grammar_importSection prog_6_method_8_code 3 none ∈ xtb := x_in (List.mem_of_getElem? (i := 567) (by decide +kernel)) (by decide +kernel)
theorem m_454 : Cond.instanceMethod y_Grammar_importSection ∈ xtb := x_in (List.mem_of_getElem? (i := 566) (by decide +kernel)) (by decide +kernel)
theorem m_455 : Cond.selects "WasmReader$Grammar" y_Grammar_importSection y_Grammar_importSection ∈ xtb := x_in (List.mem_of_getElem? (i := 4) (by decide +kernel)) (by decide +kernel)
theorem m_456 : Cond.methodLink "WasmReader$Grammar" 58 y_Grammar_functionSection ∈ xtb := x_in (List.mem_of_getElem? (i := 607) (by decide +kernel)) (by decide +kernel)
theorem m_457 : Cond.code y_Grammar_functionSection prog_6_method_12_code 3 none ∈ xtb := x_in (List.mem_of_getElem? (i := 610) (by decide +kernel)) (by decide +kernel)
theorem m_458 : Cond.instanceMethod y_Grammar_functionSection ∈ xtb := x_in (List.mem_of_getElem? (i := 609) (by decide +kernel)) (by decide +kernel)
theorem m_459 : Cond.selects "WasmReader$Grammar" y_Grammar_functionSection y_Grammar_functionSection ∈ xtb := x_in (List.mem_of_getElem? (i := 8) (by decide +kernel)) (by decide +kernel)
theorem m_460 : Cond.methodLink "WasmReader$Grammar" 61 y_Grammar_tableSection ∈ xtb := x_in (List.mem_of_getElem? (i := 611) (by decide +kernel)) (by decide +kernel)
theorem m_461 : Cond.code y_Grammar_tableSection prog_6_method_13_code 3 none ∈ xtb := x_in (List.mem_of_getElem? (i := 614) (by decide +kernel)) (by decide +kernel)
theorem m_462 : Cond.instanceMethod y_Grammar_tableSection ∈ xtb := x_in (List.mem_of_getElem? (i := 613) (by decide +kernel)) (by decide +kernel)
theorem m_463 : Cond.selects "WasmReader$Grammar" y_Grammar_tableSection y_Grammar_tableSection ∈ xtb := x_in (List.mem_of_getElem? (i := 9) (by decide +kernel)) (by decide +kernel)
theorem m_464 : Cond.methodLink "WasmReader$Grammar" 64 y_Grammar_memorySection ∈ xtb := x_in (List.mem_of_getElem? (i := 616) (by decide +kernel)) (by decide +kernel)
theorem m_465 : Cond.code y_Grammar_memorySection prog_6_method_14_code 3 none ∈ xtb := x_in (List.mem_of_getElem? (i := 619) (by decide +kernel)) (by decide +kernel)
theorem m_466 : Cond.instanceMethod y_Grammar_memorySection ∈ xtb := x_in (List.mem_of_getElem? (i := 618) (by decide +kernel)) (by decide +kernel)
theorem m_467 : Cond.selects "WasmReader$Grammar" y_Grammar_memorySection y_Grammar_memorySection ∈ xtb := x_in (List.mem_of_getElem? (i := 10) (by decide +kernel)) (by decide +kernel)
theorem m_468 : Cond.methodLink "WasmReader$Grammar" 67 y_Grammar_globalSection ∈ xtb := x_in (List.mem_of_getElem? (i := 621) (by decide +kernel)) (by decide +kernel)
theorem m_469 : Cond.code y_Grammar_globalSection prog_6_method_15_code 4 none ∈ xtb := x_in (List.mem_of_getElem? (i := 624) (by decide +kernel)) (by decide +kernel)
theorem m_470 : Cond.instanceMethod y_Grammar_globalSection ∈ xtb := x_in (List.mem_of_getElem? (i := 623) (by decide +kernel)) (by decide +kernel)
theorem m_471 : Cond.selects "WasmReader$Grammar" y_Grammar_globalSection y_Grammar_globalSection ∈ xtb := x_in (List.mem_of_getElem? (i := 11) (by decide +kernel)) (by decide +kernel)
theorem m_472 : Cond.methodLink "WasmReader$Grammar" 70 y_Grammar_exportSection ∈ xtb := x_in (List.mem_of_getElem? (i := 645) (by decide +kernel)) (by decide +kernel)
theorem m_473 : Cond.code y_Grammar_exportSection prog_6_method_17_code 5 none ∈ xtb := x_in (List.mem_of_getElem? (i := 648) (by decide +kernel)) (by decide +kernel)
theorem m_474 : Cond.instanceMethod y_Grammar_exportSection ∈ xtb := x_in (List.mem_of_getElem? (i := 647) (by decide +kernel)) (by decide +kernel)
theorem m_475 : Cond.selects "WasmReader$Grammar" y_Grammar_exportSection y_Grammar_exportSection ∈ xtb := x_in (List.mem_of_getElem? (i := 14) (by decide +kernel)) (by decide +kernel)
theorem m_476 : Cond.fieldLink "WasmReader$Grammar" 76 "WasmReader$WasmModule" "start" "I" ∈ xtb := x_in (List.mem_of_getElem? (i := 390) (by decide +kernel)) (by decide +kernel)
theorem m_477 : Cond.methodLink "WasmReader$Grammar" 82 y_Grammar_elementSection ∈ xtb := x_in (List.mem_of_getElem? (i := 660) (by decide +kernel)) (by decide +kernel)
theorem m_478 : Cond.code y_Grammar_elementSection prog_6_method_18_code 7 none ∈ xtb := x_in (List.mem_of_getElem? (i := 663) (by decide +kernel)) (by decide +kernel)
theorem m_479 : Cond.instanceMethod y_Grammar_elementSection ∈ xtb := x_in (List.mem_of_getElem? (i := 662) (by decide +kernel)) (by decide +kernel)
theorem m_480 : Cond.selects "WasmReader$Grammar" y_Grammar_elementSection y_Grammar_elementSection ∈ xtb := x_in (List.mem_of_getElem? (i := 15) (by decide +kernel)) (by decide +kernel)
theorem m_481 : Cond.methodLink "WasmReader$Grammar" 85 y_Grammar_codeSection ∈ xtb := x_in (List.mem_of_getElem? (i := 672) (by decide +kernel)) (by decide +kernel)
theorem m_482 : Cond.code y_Grammar_codeSection prog_6_method_21_code 6 none ∈ xtb := x_in (List.mem_of_getElem? (i := 675) (by decide +kernel)) (by decide +kernel)
theorem m_483 : Cond.instanceMethod y_Grammar_codeSection ∈ xtb := x_in (List.mem_of_getElem? (i := 674) (by decide +kernel)) (by decide +kernel)
theorem m_484 : Cond.selects "WasmReader$Grammar" y_Grammar_codeSection y_Grammar_codeSection ∈ xtb := x_in (List.mem_of_getElem? (i := 17) (by decide +kernel)) (by decide +kernel)
theorem m_485 : Cond.methodLink "WasmReader$Grammar" 88 y_Grammar_dataSection ∈ xtb := x_in (List.mem_of_getElem? (i := 732) (by decide +kernel)) (by decide +kernel)
theorem m_486 : Cond.code y_Grammar_dataSection prog_6_method_20_code 7 none ∈ xtb := x_in (List.mem_of_getElem? (i := 735) (by decide +kernel)) (by decide +kernel)
theorem m_487 : Cond.instanceMethod y_Grammar_dataSection ∈ xtb := x_in (List.mem_of_getElem? (i := 734) (by decide +kernel)) (by decide +kernel)
theorem m_488 : Cond.selects "WasmReader$Grammar" y_Grammar_dataSection y_Grammar_dataSection ∈ xtb := x_in (List.mem_of_getElem? (i := 25) (by decide +kernel)) (by decide +kernel)
theorem d_Grammar_sections_274 : decode prog_6_method_3_code 274 = .ok (.aload_n 0, 1) := by decide +kernel
theorem d_Grammar_sections_275 : decode prog_6_method_3_code 275 = .ok (.getfield 9, 3) := by decide +kernel
theorem d_Grammar_sections_278 : decode prog_6_method_3_code 278 = .ok (.invokevirtual 40, 3) := by decide +kernel
theorem d_Grammar_sections_21 : decode prog_6_method_3_code 21 = .ok (.aload_n 0, 1) := by decide +kernel
theorem d_Grammar_sections_22 : decode prog_6_method_3_code 22 = .ok (.getfield 9, 3) := by decide +kernel
theorem d_Grammar_sections_25 : decode prog_6_method_3_code 25 = .ok (.invokevirtual 33, 3) := by decide +kernel
theorem d_Grammar_sections_28 : decode prog_6_method_3_code 28 = .ok (.istore_n 3, 1) := by decide +kernel
theorem d_Grammar_sections_29 : decode prog_6_method_3_code 29 = .ok (.aload_n 0, 1) := by decide +kernel
theorem d_Grammar_sections_30 : decode prog_6_method_3_code 30 = .ok (.getfield 9, 3) := by decide +kernel
theorem d_Grammar_sections_33 : decode prog_6_method_3_code 33 = .ok (.invokevirtual 37, 3) := by decide +kernel
theorem d_Grammar_sections_36 : decode prog_6_method_3_code 36 = .ok (.istore 4, 2) := by decide +kernel
theorem d_Grammar_sections_38 : decode prog_6_method_3_code 38 = .ok (.iload_n 3, 1) := by decide +kernel
theorem d_Grammar_sections_39 : decode prog_6_method_3_code 39 = .ok (.ifCond .eq 15, 3) := by decide +kernel
theorem d_Grammar_sections_54 : decode prog_6_method_3_code 54 = .ok (.iload_n 1, 1) := by decide +kernel
theorem d_Grammar_sections_55 : decode prog_6_method_3_code 55 = .ok (.iload_n 3, 1) := by decide +kernel
theorem d_Grammar_sections_56 : decode prog_6_method_3_code 56 = .ok (.invokestatic 43, 3) := by decide +kernel
theorem d_Grammar_sections_59 : decode prog_6_method_3_code 59 = .ok (.istore_n 1, 1) := by decide +kernel
theorem d_Grammar_sections_60 : decode prog_6_method_3_code 60 = .ok (.iload_n 3, 1) := by decide +kernel
theorem d_Grammar_sections_61 : decode prog_6_method_3_code 61 = .ok (.tableswitch 157 0 11 #[63, 70, 77, 84, 91, 98, 105, 112, 119, 136, 143, 150], 63) := by decide +kernel
theorem d_Grammar_sections_124 : decode prog_6_method_3_code 124 = .ok (.aload_n 0, 1) := by decide +kernel
theorem d_Grammar_sections_125 : decode prog_6_method_3_code 125 = .ok (.invokevirtual 49, 3) := by decide +kernel
theorem nm_Grammar_customSection : x_nm y_Grammar_customSection 0 = true := by decide +kernel
theorem d_Grammar_sections_128 : decode prog_6_method_3_code 128 = .ok (.goto 97, 3) := by decide +kernel
theorem d_Grammar_sections_225 : decode prog_6_method_3_code 225 = .ok (.aload_n 0, 1) := by decide +kernel
theorem d_Grammar_sections_226 : decode prog_6_method_3_code 226 = .ok (.getfield 9, 3) := by decide +kernel
theorem d_Grammar_sections_229 : decode prog_6_method_3_code 229 = .ok (.iload 4, 2) := by decide +kernel
theorem d_Grammar_sections_231 : decode prog_6_method_3_code 231 = .ok (.invokevirtual 91, 3) := by decide +kernel
theorem d_Grammar_sections_234 : decode prog_6_method_3_code 234 = .ok (.iinc 2 1, 3) := by decide +kernel
theorem d_Grammar_sections_237 : decode prog_6_method_3_code 237 = .ok (.goto (-233), 3) := by decide +kernel
theorem d_Grammar_sections_131 : decode prog_6_method_3_code 131 = .ok (.aload_n 0, 1) := by decide +kernel
theorem d_Grammar_sections_132 : decode prog_6_method_3_code 132 = .ok (.invokevirtual 52, 3) := by decide +kernel
theorem nm_Grammar_typeSection : x_nm y_Grammar_typeSection 0 = true := by decide +kernel
theorem d_Grammar_sections_135 : decode prog_6_method_3_code 135 = .ok (.goto 90, 3) := by decide +kernel
theorem d_Grammar_sections_138 : decode prog_6_method_3_code 138 = .ok (.aload_n 0, 1) := by decide +kernel
theorem d_Grammar_sections_139 : decode prog_6_method_3_code 139 = .ok (.invokevirtual 55, 3) := by decide +kernel
theorem nm_Grammar_importSection : x_nm y_Grammar_importSection 0 = true := by decide +kernel
theorem d_Grammar_sections_142 : decode prog_6_method_3_code 142 = .ok (.goto 83, 3) := by decide +kernel
theorem d_Grammar_sections_145 : decode prog_6_method_3_code 145 = .ok (.aload_n 0, 1) := by decide +kernel
theorem d_Grammar_sections_146 : decode prog_6_method_3_code 146 = .ok (.invokevirtual 58, 3) := by decide +kernel
theorem nm_Grammar_functionSection : x_nm y_Grammar_functionSection 0 = true := by decide +kernel
theorem d_Grammar_sections_149 : decode prog_6_method_3_code 149 = .ok (.goto 76, 3) := by decide +kernel
theorem d_Grammar_sections_152 : decode prog_6_method_3_code 152 = .ok (.aload_n 0, 1) := by decide +kernel
theorem d_Grammar_sections_153 : decode prog_6_method_3_code 153 = .ok (.invokevirtual 61, 3) := by decide +kernel
theorem nm_Grammar_tableSection : x_nm y_Grammar_tableSection 0 = true := by decide +kernel
theorem d_Grammar_sections_156 : decode prog_6_method_3_code 156 = .ok (.goto 69, 3) := by decide +kernel
theorem d_Grammar_sections_159 : decode prog_6_method_3_code 159 = .ok (.aload_n 0, 1) := by decide +kernel
theorem d_Grammar_sections_160 : decode prog_6_method_3_code 160 = .ok (.invokevirtual 64, 3) := by decide +kernel
theorem nm_Grammar_memorySection : x_nm y_Grammar_memorySection 0 = true := by decide +kernel
theorem d_Grammar_sections_163 : decode prog_6_method_3_code 163 = .ok (.goto 62, 3) := by decide +kernel
theorem d_Grammar_sections_166 : decode prog_6_method_3_code 166 = .ok (.aload_n 0, 1) := by decide +kernel
theorem d_Grammar_sections_167 : decode prog_6_method_3_code 167 = .ok (.invokevirtual 67, 3) := by decide +kernel
theorem nm_Grammar_globalSection : x_nm y_Grammar_globalSection 0 = true := by decide +kernel
theorem d_Grammar_sections_170 : decode prog_6_method_3_code 170 = .ok (.goto 55, 3) := by decide +kernel
theorem d_Grammar_sections_173 : decode prog_6_method_3_code 173 = .ok (.aload_n 0, 1) := by decide +kernel
theorem d_Grammar_sections_174 : decode prog_6_method_3_code 174 = .ok (.invokevirtual 70, 3) := by decide +kernel
theorem nm_Grammar_exportSection : x_nm y_Grammar_exportSection 0 = true := by decide +kernel
theorem d_Grammar_sections_177 : decode prog_6_method_3_code 177 = .ok (.goto 48, 3) := by decide +kernel
theorem d_Grammar_sections_180 : decode prog_6_method_3_code 180 = .ok (.aload_n 0, 1) := by decide +kernel
theorem d_Grammar_sections_181 : decode prog_6_method_3_code 181 = .ok (.getfield 15, 3) := by decide +kernel
theorem d_Grammar_sections_184 : decode prog_6_method_3_code 184 = .ok (.aload_n 0, 1) := by decide +kernel
theorem d_Grammar_sections_185 : decode prog_6_method_3_code 185 = .ok (.getfield 9, 3) := by decide +kernel
theorem d_Grammar_sections_188 : decode prog_6_method_3_code 188 = .ok (.invokevirtual 73, 3) := by decide +kernel
theorem d_Grammar_sections_191 : decode prog_6_method_3_code 191 = .ok (.putfield 76, 3) := by decide +kernel
theorem d_Grammar_sections_194 : decode prog_6_method_3_code 194 = .ok (.goto 31, 3) := by decide +kernel
theorem d_Grammar_sections_197 : decode prog_6_method_3_code 197 = .ok (.aload_n 0, 1) := by decide +kernel
theorem d_Grammar_sections_198 : decode prog_6_method_3_code 198 = .ok (.invokevirtual 82, 3) := by decide +kernel
theorem nm_Grammar_elementSection : x_nm y_Grammar_elementSection 0 = true := by decide +kernel
theorem d_Grammar_sections_201 : decode prog_6_method_3_code 201 = .ok (.goto 24, 3) := by decide +kernel
theorem d_Grammar_sections_204 : decode prog_6_method_3_code 204 = .ok (.aload_n 0, 1) := by decide +kernel
theorem d_Grammar_sections_205 : decode prog_6_method_3_code 205 = .ok (.invokevirtual 85, 3) := by decide +kernel
theorem nm_Grammar_codeSection : x_nm y_Grammar_codeSection 0 = true := by decide +kernel
theorem d_Grammar_sections_208 : decode prog_6_method_3_code 208 = .ok (.goto 17, 3) := by decide +kernel
theorem d_Grammar_sections_211 : decode prog_6_method_3_code 211 = .ok (.aload_n 0, 1) := by decide +kernel
theorem d_Grammar_sections_212 : decode prog_6_method_3_code 212 = .ok (.invokevirtual 88, 3) := by decide +kernel
theorem nm_Grammar_dataSection : x_nm y_Grammar_dataSection 0 = true := by decide +kernel
theorem d_Grammar_sections_215 : decode prog_6_method_3_code 215 = .ok (.goto 10, 3) := by decide +kernel
theorem d_Grammar_sections_218 : decode prog_6_method_3_code 218 = .ok (.aload_n 0, 1) := by decide +kernel
theorem d_Grammar_sections_219 : decode prog_6_method_3_code 219 = .ok (.getfield 9, 3) := by decide +kernel
theorem d_Grammar_sections_222 : decode prog_6_method_3_code 222 = .ok (.invokevirtual 40, 3) := by decide +kernel
theorem d_Grammar_sections_42 : decode prog_6_method_3_code 42 = .ok (.iload_n 3, 1) := by decide +kernel
theorem d_Grammar_sections_43 : decode prog_6_method_3_code 43 = .ok (.iload_n 1, 1) := by decide +kernel
theorem d_Grammar_sections_44 : decode prog_6_method_3_code 44 = .ok (.if_icmp .gt 10, 3) := by decide +kernel
theorem d_Grammar_sections_47 : decode prog_6_method_3_code 47 = .ok (.aload_n 0, 1) := by decide +kernel
theorem d_Grammar_sections_48 : decode prog_6_method_3_code 48 = .ok (.getfield 9, 3) := by decide +kernel
theorem d_Grammar_sections_51 : decode prog_6_method_3_code 51 = .ok (.invokevirtual 40, 3) := by decide +kernel
theorem d_WasmModule_isTooLarge_0 : decode prog_12_method_3_code 0 = .ok (.aload_n 0, 1) := by decide +kernel
theorem d_WasmModule_isTooLarge_1 : decode prog_12_method_3_code 1 = .ok (.getfield 81, 3) := by decide +kernel
theorem d_WasmModule_isTooLarge_4 : decode prog_12_method_3_code 4 = .ok (.ifCond .ne 84, 3) := by decide +kernel
theorem d_WasmModule_isTooLarge_88 : decode prog_12_method_3_code 88 = .ok (.iconst 1, 1) := by decide +kernel
theorem d_WasmModule_isTooLarge_89 : decode prog_12_method_3_code 89 = .ok (.goto 4, 3) := by decide +kernel
theorem d_WasmModule_isTooLarge_93 : decode prog_12_method_3_code 93 = .ok (.ireturn, 1) := by decide +kernel
theorem d_WasmModule_isTooLarge_7 : decode prog_12_method_3_code 7 = .ok (.aload_n 0, 1) := by decide +kernel
theorem d_WasmModule_isTooLarge_8 : decode prog_12_method_3_code 8 = .ok (.getfield 12, 3) := by decide +kernel
theorem d_WasmModule_isTooLarge_11 : decode prog_12_method_3_code 11 = .ok (.getfield 59, 3) := by decide +kernel
theorem d_WasmModule_isTooLarge_14 : decode prog_12_method_3_code 14 = .ok (.bipush 40, 2) := by decide +kernel
theorem d_WasmModule_isTooLarge_16 : decode prog_12_method_3_code 16 = .ok (.if_icmp .gt 72, 3) := by decide +kernel
theorem d_WasmModule_isTooLarge_19 : decode prog_12_method_3_code 19 = .ok (.aload_n 0, 1) := by decide +kernel
theorem d_WasmModule_isTooLarge_20 : decode prog_12_method_3_code 20 = .ok (.getfield 75, 3) := by decide +kernel
theorem d_WasmModule_isTooLarge_23 : decode prog_12_method_3_code 23 = .ok (.bipush 30, 2) := by decide +kernel
theorem d_WasmModule_isTooLarge_25 : decode prog_12_method_3_code 25 = .ok (.if_icmp .gt 63, 3) := by decide +kernel
theorem d_WasmModule_isTooLarge_28 : decode prog_12_method_3_code 28 = .ok (.aload_n 0, 1) := by decide +kernel
theorem d_WasmModule_isTooLarge_29 : decode prog_12_method_3_code 29 = .ok (.getfield 21, 3) := by decide +kernel
theorem d_WasmModule_isTooLarge_32 : decode prog_12_method_3_code 32 = .ok (.getfield 63, 3) := by decide +kernel
theorem d_WasmModule_isTooLarge_35 : decode prog_12_method_3_code 35 = .ok (.bipush 60, 2) := by decide +kernel
theorem d_WasmModule_isTooLarge_37 : decode prog_12_method_3_code 37 = .ok (.if_icmp .gt 51, 3) := by decide +kernel
theorem d_WasmModule_isTooLarge_40 : decode prog_12_method_3_code 40 = .ok (.aload_n 0, 1) := by decide +kernel
theorem d_WasmModule_isTooLarge_41 : decode prog_12_method_3_code 41 = .ok (.getfield 28, 3) := by decide +kernel
theorem d_WasmModule_isTooLarge_44 : decode prog_12_method_3_code 44 = .ok (.getfield 70, 3) := by decide +kernel
theorem d_WasmModule_isTooLarge_47 : decode prog_12_method_3_code 47 = .ok (.bipush 30, 2) := by decide +kernel
theorem d_WasmModule_isTooLarge_49 : decode prog_12_method_3_code 49 = .ok (.if_icmp .gt 39, 3) := by decide +kernel
theorem d_WasmModule_isTooLarge_52 : decode prog_12_method_3_code 52 = .ok (.aload_n 0, 1) := by decide +kernel
theorem d_WasmModule_isTooLarge_53 : decode prog_12_method_3_code 53 = .ok (.getfield 35, 3) := by decide +kernel
theorem d_WasmModule_isTooLarge_56 : decode prog_12_method_3_code 56 = .ok (.getfield 72, 3) := by decide +kernel
theorem d_WasmModule_isTooLarge_59 : decode prog_12_method_3_code 59 = .ok (.bipush 40, 2) := by decide +kernel
theorem d_WasmModule_isTooLarge_61 : decode prog_12_method_3_code 61 = .ok (.if_icmp .gt 27, 3) := by decide +kernel
theorem d_WasmModule_isTooLarge_64 : decode prog_12_method_3_code 64 = .ok (.aload_n 0, 1) := by decide +kernel
theorem d_WasmModule_isTooLarge_65 : decode prog_12_method_3_code 65 = .ok (.getfield 42, 3) := by decide +kernel
theorem d_WasmModule_isTooLarge_68 : decode prog_12_method_3_code 68 = .ok (.getfield 73, 3) := by decide +kernel
theorem d_WasmModule_isTooLarge_71 : decode prog_12_method_3_code 71 = .ok (.bipush 20, 2) := by decide +kernel
theorem d_WasmModule_isTooLarge_73 : decode prog_12_method_3_code 73 = .ok (.if_icmp .gt 15, 3) := by decide +kernel
theorem d_WasmModule_isTooLarge_76 : decode prog_12_method_3_code 76 = .ok (.aload_n 0, 1) := by decide +kernel
theorem d_WasmModule_isTooLarge_77 : decode prog_12_method_3_code 77 = .ok (.getfield 46, 3) := by decide +kernel
theorem d_WasmModule_isTooLarge_80 : decode prog_12_method_3_code 80 = .ok (.getfield 73, 3) := by decide +kernel
theorem d_WasmModule_isTooLarge_83 : decode prog_12_method_3_code 83 = .ok (.bipush 20, 2) := by decide +kernel
theorem d_WasmModule_isTooLarge_85 : decode prog_12_method_3_code 85 = .ok (.if_icmp .le 7, 3) := by decide +kernel
theorem d_WasmModule_isTooLarge_92 : decode prog_12_method_3_code 92 = .ok (.iconst 0, 1) := by decide +kernel
