def y_Model_width : MethodName := ⟨"WasmReaderModel", "width", "(I)I"⟩
def y_Model_code : MethodName := ⟨"WasmReaderModel", "code", "()V"⟩
def y_Model_body : MethodName := ⟨"WasmReaderModel", "body", "()V"⟩
def y_Model_item : MethodName := ⟨"WasmReaderModel", "item", "(I)V"⟩
theorem m_825 : Cond.fieldLink "WasmReaderModel" 341 "WasmReaderModel$Unit" "otherwise" "[I" ∈ xtb := x_in (List.mem_of_getElem? (i := 1203) (by decide +kernel)) (by decide +kernel)
theorem m_826 : Cond.methodLink "WasmReaderModel" 347 y_Model_width ∈ xtb := x_in (List.mem_of_getElem? (i := 1530) (by decide +kernel)) (by decide +kernel)
theorem m_827 : Cond.code y_Model_width prog_14_method_23_code 1 (some .int) ∈ xtb := x_in (List.mem_of_getElem? (i := 1532) (by decide +kernel)) (by decide +kernel)
theorem m_828 : Cond.static y_Model_width ∈ xtb := x_in (List.mem_of_getElem? (i := 1531) (by decide +kernel)) (by decide +kernel)
theorem m_829 : Cond.fieldLink "WasmReaderModel" 344 "WasmReaderModel$Unit" "ends" "[I" ∈ xtb := x_in (List.mem_of_getElem? (i := 1205) (by decide +kernel)) (by decide +kernel)
theorem m_830 : Cond.fieldLink "WasmReaderModel" 134 "WasmReaderModel$Unit" "bodies" "I" ∈ xtb := x_in (List.mem_of_getElem? (i := 1124) (by decide +kernel)) (by decide +kernel)
theorem m_831 : Cond.constantLong "WasmReaderModel" 327 30 ∈ xtb := x_in (List.mem_of_getElem? (i := 1525) (by decide +kernel)) (by decide +kernel)
set_option maxRecDepth 100000 in
theorem m_832 : Cond.code y_Model_code prog_14_method_22_code 8 none ∈ xtb := x_in (List.mem_of_getElem? (i := 1529) rfl) (by decide +kernel)
theorem m_833 : Cond.methodLink "WasmReaderModel" 335 y_Model_code ∈ xtb := x_in (List.mem_of_getElem? (i := 1526) (by decide +kernel)) (by decide +kernel)
theorem m_834 : Cond.instanceMethod y_Model_code ∈ xtb := x_in (List.mem_of_getElem? (i := 1528) (by decide +kernel)) (by decide +kernel)
theorem m_835 : Cond.selects "WasmReaderModel" y_Model_code y_Model_code ∈ xtb := x_in (List.mem_of_getElem? (i := 68) (by decide +kernel)) (by decide +kernel)
theorem m_836 : Cond.fieldLink "WasmReaderModel" 329 "WasmReaderModel$Unit" "bAt" "[I" ∈ xtb := x_in (List.mem_of_getElem? (i := 1195) (by decide +kernel)) (by decide +kernel)
theorem m_837 : Cond.fieldLink "WasmReaderModel" 332 "WasmReaderModel$Unit" "bLocals" "[I" ∈ xtb := x_in (List.mem_of_getElem? (i := 1199) (by decide +kernel)) (by decide +kernel)
theorem m_838 : Cond.fieldLink "WasmReaderModel" 338 "WasmReaderModel$Unit" "bEnd" "[I" ∈ xtb := x_in (List.mem_of_getElem? (i := 1197) (by decide +kernel)) (by decide +kernel)
theorem m_839 : Cond.constantLong "WasmReaderModel" 322 4294967295 ∈ xtb := x_in (List.mem_of_getElem? (i := 1524) (by decide +kernel)) (by decide +kernel)
theorem m_840 : Cond.fieldLink "WasmReaderModel" 324 "WasmReaderModel$Unit" "local" "[I" ∈ xtb := x_in (List.mem_of_getElem? (i := 1201) (by decide +kernel)) (by decide +kernel)
theorem m_841 : Cond.code y_Model_typeItem prog_14_method_13_code 9 none ∈ xtb := x_in (List.mem_of_getElem? (i := 1473) (by decide +kernel)) (by decide +kernel)
theorem m_842 : Cond.methodLink "WasmReaderModel" 157 y_Model_typeItem ∈ xtb := x_in (List.mem_of_getElem? (i := 1470) (by decide +kernel)) (by decide +kernel)
theorem m_843 : Cond.instanceMethod y_Model_typeItem ∈ xtb := x_in (List.mem_of_getElem? (i := 1472) (by decide +kernel)) (by decide +kernel)
theorem m_844 : Cond.selects "WasmReaderModel" y_Model_typeItem y_Model_typeItem ∈ xtb := x_in (List.mem_of_getElem? (i := 56) (by decide +kernel)) (by decide +kernel)
theorem m_845 : Cond.code y_Model_importItem prog_14_method_17_code 11 none ∈ xtb := x_in (List.mem_of_getElem? (i := 1482) (by decide +kernel)) (by decide +kernel)
theorem m_846 : Cond.methodLink "WasmReaderModel" 160 y_Model_importItem ∈ xtb := x_in (List.mem_of_getElem? (i := 1479) (by decide +kernel)) (by decide +kernel)
theorem m_847 : Cond.instanceMethod y_Model_importItem ∈ xtb := x_in (List.mem_of_getElem? (i := 1481) (by decide +kernel)) (by decide +kernel)
theorem m_848 : Cond.selects "WasmReaderModel" y_Model_importItem y_Model_importItem ∈ xtb := x_in (List.mem_of_getElem? (i := 58) (by decide +kernel)) (by decide +kernel)
theorem m_849 : Cond.fieldLink "WasmReaderModel" 113 "WasmReaderModel$Unit" "ownFunctions" "I" ∈ xtb := x_in (List.mem_of_getElem? (i := 1117) (by decide +kernel)) (by decide +kernel)
theorem m_850 : Cond.constantLong "WasmReaderModel" 169 2 ∈ xtb := x_in (List.mem_of_getElem? (i := 1507) (by decide +kernel)) (by decide +kernel)
theorem m_851 : Cond.constantLong "WasmReaderModel" 167 200 ∈ xtb := x_in (List.mem_of_getElem? (i := 1506) (by decide +kernel)) (by decide +kernel)
theorem m_852 : Cond.fieldLink "WasmReaderModel" 185 "WasmReaderModel$Unit" "gOp" "[I" ∈ xtb := x_in (List.mem_of_getElem? (i := 1155) (by decide +kernel)) (by decide +kernel)
theorem m_853 : Cond.fieldLink "WasmReaderModel" 191 "WasmReaderModel$Unit" "gValue" "[J" ∈ xtb := x_in (List.mem_of_getElem? (i := 1159) (by decide +kernel)) (by decide +kernel)
theorem m_854 : Cond.fieldLink "WasmReaderModel" 125 "WasmReaderModel$Unit" "exports" "I" ∈ xtb := x_in (List.mem_of_getElem? (i := 1121) (by decide +kernel)) (by decide +kernel)
theorem m_855 : Cond.fieldLink "WasmReaderModel" 202 "WasmReaderModel$Unit" "eName" "[I" ∈ xtb := x_in (List.mem_of_getElem? (i := 1167) (by decide +kernel)) (by decide +kernel)
theorem m_856 : Cond.fieldLink "WasmReaderModel" 205 "WasmReaderModel$Unit" "eNameLong" "[I" ∈ xtb := x_in (List.mem_of_getElem? (i := 1169) (by decide +kernel)) (by decide +kernel)
theorem m_857 : Cond.fieldLink "WasmReaderModel" 208 "WasmReaderModel$Unit" "eSort" "[I" ∈ xtb := x_in (List.mem_of_getElem? (i := 1171) (by decide +kernel)) (by decide +kernel)
theorem m_858 : Cond.fieldLink "WasmReaderModel" 211 "WasmReaderModel$Unit" "eIndex" "[I" ∈ xtb := x_in (List.mem_of_getElem? (i := 1173) (by decide +kernel)) (by decide +kernel)
theorem m_859 : Cond.code y_Model_data prog_14_method_20_code 5 none ∈ xtb := x_in (List.mem_of_getElem? (i := 1536) (by decide +kernel)) (by decide +kernel)
theorem m_860 : Cond.methodLink "WasmReaderModel" 220 y_Model_data ∈ xtb := x_in (List.mem_of_getElem? (i := 1533) (by decide +kernel)) (by decide +kernel)
theorem m_861 : Cond.instanceMethod y_Model_data ∈ xtb := x_in (List.mem_of_getElem? (i := 1535) (by decide +kernel)) (by decide +kernel)
theorem m_862 : Cond.selects "WasmReaderModel" y_Model_data y_Model_data ∈ xtb := x_in (List.mem_of_getElem? (i := 69) (by decide +kernel)) (by decide +kernel)
theorem m_863 : Cond.code y_Model_element prog_14_method_19_code 8 none ∈ xtb := x_in (List.mem_of_getElem? (i := 1519) (by decide +kernel)) (by decide +kernel)
theorem m_864 : Cond.methodLink "WasmReaderModel" 214 y_Model_element ∈ xtb := x_in (List.mem_of_getElem? (i := 1516) (by decide +kernel)) (by decide +kernel)
theorem m_865 : Cond.instanceMethod y_Model_element ∈ xtb := x_in (List.mem_of_getElem? (i := 1518) (by decide +kernel)) (by decide +kernel)
theorem m_866 : Cond.selects "WasmReaderModel" y_Model_element y_Model_element ∈ xtb := x_in (List.mem_of_getElem? (i := 66) (by decide +kernel)) (by decide +kernel)
theorem m_867 : Cond.code y_Model_body prog_14_method_21_code 18 none ∈ xtb := x_in (List.mem_of_getElem? (i := 1523) (by decide +kernel)) (by decide +kernel)
theorem m_868 : Cond.methodLink "WasmReaderModel" 217 y_Model_body ∈ xtb := x_in (List.mem_of_getElem? (i := 1520) (by decide +kernel)) (by decide +kernel)
theorem m_869 : Cond.instanceMethod y_Model_body ∈ xtb := x_in (List.mem_of_getElem? (i := 1522) (by decide +kernel)) (by decide +kernel)
theorem m_870 : Cond.selects "WasmReaderModel" y_Model_body y_Model_body ∈ xtb := x_in (List.mem_of_getElem? (i := 67) (by decide +kernel)) (by decide +kernel)
theorem d_Model_width_0 : decode prog_14_method_23_code 0 = .ok (.iload_n 0, 1) := by decide +kernel
theorem d_Model_width_1 : decode prog_14_method_23_code 1 = .ok (.tableswitch 116 40 62 #[107, 109, 116, 116, 112, 112, 114, 114, 112, 112, 114, 114, 107, 107, 107, 109, 116, 116, 112, 114, 112, 114, 107], 107) := by decide +kernel
theorem d_Model_width_108 : decode prog_14_method_23_code 108 = .ok (.iconst 4, 1) := by decide +kernel
theorem d_Model_width_109 : decode prog_14_method_23_code 109 = .ok (.ireturn, 1) := by decide +kernel
theorem d_Model_width_110 : decode prog_14_method_23_code 110 = .ok (.bipush 8, 2) := by decide +kernel
theorem d_Model_width_112 : decode prog_14_method_23_code 112 = .ok (.ireturn, 1) := by decide +kernel
theorem d_Model_width_117 : decode prog_14_method_23_code 117 = .ok (.iconst 0, 1) := by decide +kernel
theorem d_Model_width_118 : decode prog_14_method_23_code 118 = .ok (.ireturn, 1) := by decide +kernel
theorem d_Model_width_113 : decode prog_14_method_23_code 113 = .ok (.iconst 1, 1) := by decide +kernel
theorem d_Model_width_114 : decode prog_14_method_23_code 114 = .ok (.ireturn, 1) := by decide +kernel
theorem d_Model_width_115 : decode prog_14_method_23_code 115 = .ok (.iconst 2, 1) := by decide +kernel
theorem d_Model_width_116 : decode prog_14_method_23_code 116 = .ok (.ireturn, 1) := by decide +kernel
theorem d_Model_code_0 : decode prog_14_method_22_code 0 = .ok (.iconst 0, 1) := by decide +kernel
theorem d_Model_code_1 : decode prog_14_method_22_code 1 = .ok (.istore_n 1, 1) := by decide +kernel
theorem d_Model_code_2 : decode prog_14_method_22_code 2 = .ok (.aload_n 0, 1) := by decide +kernel
theorem d_Model_code_3 : decode prog_14_method_22_code 3 = .ok (.getfield 50, 3) := by decide +kernel
theorem d_Model_code_6 : decode prog_14_method_22_code 6 = .ok (.istore_n 2, 1) := by decide +kernel
theorem d_Model_code_7 : decode prog_14_method_22_code 7 = .ok (.aload_n 0, 1) := by decide +kernel
theorem d_Model_code_8 : decode prog_14_method_22_code 8 = .ok (.invokevirtual 64, 3) := by decide +kernel
theorem d_Model_code_11 : decode prog_14_method_22_code 11 = .ok (.istore_n 3, 1) := by decide +kernel
theorem d_Model_code_12 : decode prog_14_method_22_code 12 = .ok (.iload_n 3, 1) := by decide +kernel
theorem d_Model_code_13 : decode prog_14_method_22_code 13 = .ok (.tableswitch 594 2 66 #[275, 275, 275, 361, 594, 594, 594, 594, 594, 415, 529, 529, 481, 594, 529, 537, 594, 594, 594, 594, 594, 594, 594, 594, 594, 594, 594, 594, 594, 594, 529, 529, 529, 529, 529, 594, 594, 594, 594, 594, 594, 594, 594, 594, 594, 594, 594, 594, 594, 594, 594, 594, 594, 594, 594, 594, 594, 594, 594, 594, 594, 558, 558, 574, 584], 275) := by decide +kernel
theorem d_Model_code_288 : decode prog_14_method_22_code 288 = .ok (.aload_n 0, 1) := by decide +kernel
theorem d_Model_code_289 : decode prog_14_method_22_code 289 = .ok (.invokevirtual 64, 3) := by decide +kernel
theorem d_Model_code_292 : decode prog_14_method_22_code 292 = .ok (.istore 4, 2) := by decide +kernel
theorem d_Model_code_294 : decode prog_14_method_22_code 294 = .ok (.iload 4, 2) := by decide +kernel
theorem d_Model_code_296 : decode prog_14_method_22_code 296 = .ok (.bipush 64, 2) := by decide +kernel
theorem d_Model_code_298 : decode prog_14_method_22_code 298 = .ok (.if_icmp .eq 26, 3) := by decide +kernel
theorem d_Model_code_324 : decode prog_14_method_22_code 324 = .ok (.aload_n 0, 1) := by decide +kernel
theorem d_Model_code_325 : decode prog_14_method_22_code 325 = .ok (.getfield 20, 3) := by decide +kernel
theorem d_Model_code_328 : decode prog_14_method_22_code 328 = .ok (.iload_n 1, 1) := by decide +kernel
theorem d_Model_code_329 : decode prog_14_method_22_code 329 = .ok (.iload_n 2, 1) := by decide +kernel
theorem d_Model_code_330 : decode prog_14_method_22_code 330 = .ok (.iastore, 1) := by decide +kernel
theorem d_Model_code_331 : decode prog_14_method_22_code 331 = .ok (.aload_n 0, 1) := by decide +kernel
theorem d_Model_code_332 : decode prog_14_method_22_code 332 = .ok (.getfield 24, 3) := by decide +kernel
theorem d_Model_code_335 : decode prog_14_method_22_code 335 = .ok (.iload_n 1, 1) := by decide +kernel
theorem d_Model_code_336 : decode prog_14_method_22_code 336 = .ok (.iload_n 3, 1) := by decide +kernel
theorem d_Model_code_337 : decode prog_14_method_22_code 337 = .ok (.iastore, 1) := by decide +kernel
theorem d_Model_code_338 : decode prog_14_method_22_code 338 = .ok (.iinc 1 1, 3) := by decide +kernel
theorem d_Model_code_341 : decode prog_14_method_22_code 341 = .ok (.aload_n 0, 1) := by decide +kernel
theorem d_Model_code_342 : decode prog_14_method_22_code 342 = .ok (.getfield 16, 3) := by decide +kernel
theorem d_Model_code_345 : decode prog_14_method_22_code 345 = .ok (.getfield 341, 3) := by decide +kernel
theorem d_Model_code_348 : decode prog_14_method_22_code 348 = .ok (.iload_n 2, 1) := by decide +kernel
theorem d_Model_code_349 : decode prog_14_method_22_code 349 = .ok (.iconst (-1), 1) := by decide +kernel
theorem d_Model_code_350 : decode prog_14_method_22_code 350 = .ok (.iastore, 1) := by decide +kernel
theorem d_Model_code_351 : decode prog_14_method_22_code 351 = .ok (.aload_n 0, 1) := by decide +kernel
theorem d_Model_code_352 : decode prog_14_method_22_code 352 = .ok (.dup, 1) := by decide +kernel
theorem d_Model_code_353 : decode prog_14_method_22_code 353 = .ok (.getfield 77, 3) := by decide +kernel
theorem d_Model_code_356 : decode prog_14_method_22_code 356 = .ok (.iload_n 1, 1) := by decide +kernel
theorem d_Model_code_357 : decode prog_14_method_22_code 357 = .ok (.bipush 30, 2) := by decide +kernel
theorem d_Model_code_359 : decode prog_14_method_22_code 359 = .ok (.if_icmp .le 7, 3) := by decide +kernel
theorem d_Model_code_366 : decode prog_14_method_22_code 366 = .ok (.iconst 0, 1) := by decide +kernel
theorem d_Model_code_367 : decode prog_14_method_22_code 367 = .ok (.ior, 1) := by decide +kernel
theorem d_Model_code_368 : decode prog_14_method_22_code 368 = .ok (.putfield 77, 3) := by decide +kernel
theorem d_Model_code_371 : decode prog_14_method_22_code 371 = .ok (.goto 346, 3) := by decide +kernel
theorem d_Model_code_717 : decode prog_14_method_22_code 717 = .ok (.goto (-715), 3) := by decide +kernel
theorem d_Model_code_362 : decode prog_14_method_22_code 362 = .ok (.iconst 1, 1) := by decide +kernel
theorem d_Model_code_363 : decode prog_14_method_22_code 363 = .ok (.goto 4, 3) := by decide +kernel
theorem d_Model_code_301 : decode prog_14_method_22_code 301 = .ok (.iload 4, 2) := by decide +kernel
theorem d_Model_code_303 : decode prog_14_method_22_code 303 = .ok (.bipush 127, 2) := by decide +kernel
theorem d_Model_code_305 : decode prog_14_method_22_code 305 = .ok (.if_icmp .eq 19, 3) := by decide +kernel
theorem d_Model_code_308 : decode prog_14_method_22_code 308 = .ok (.iload 4, 2) := by decide +kernel
theorem d_Model_code_310 : decode prog_14_method_22_code 310 = .ok (.bipush 126, 2) := by decide +kernel
theorem d_Model_code_312 : decode prog_14_method_22_code 312 = .ok (.if_icmp .eq 12, 3) := by decide +kernel
theorem d_Model_code_315 : decode prog_14_method_22_code 315 = .ok (.new 56, 3) := by decide +kernel
theorem d_Model_code_318 : decode prog_14_method_22_code 318 = .ok (.dup, 1) := by decide +kernel
theorem d_Model_code_319 : decode prog_14_method_22_code 319 = .ok (.iconst 1, 1) := by decide +kernel
theorem d_Model_code_320 : decode prog_14_method_22_code 320 = .ok (.invokespecial 58, 3) := by decide +kernel
theorem d_Model_code_323 : decode prog_14_method_22_code 323 = .ok (.athrow, 1) := by decide +kernel
theorem d_Model_code_374 : decode prog_14_method_22_code 374 = .ok (.iload_n 1, 1) := by decide +kernel
theorem d_Model_code_375 : decode prog_14_method_22_code 375 = .ok (.ifCond .eq 15, 3) := by decide +kernel
theorem d_Model_code_390 : decode prog_14_method_22_code 390 = .ok (.new 56, 3) := by decide +kernel
theorem d_Model_code_393 : decode prog_14_method_22_code 393 = .ok (.dup, 1) := by decide +kernel
theorem d_Model_code_394 : decode prog_14_method_22_code 394 = .ok (.iconst 1, 1) := by decide +kernel
theorem d_Model_code_395 : decode prog_14_method_22_code 395 = .ok (.invokespecial 58, 3) := by decide +kernel
theorem d_Model_code_398 : decode prog_14_method_22_code 398 = .ok (.athrow, 1) := by decide +kernel
theorem d_Model_code_378 : decode prog_14_method_22_code 378 = .ok (.aload_n 0, 1) := by decide +kernel
theorem d_Model_code_379 : decode prog_14_method_22_code 379 = .ok (.getfield 24, 3) := by decide +kernel
theorem d_Model_code_382 : decode prog_14_method_22_code 382 = .ok (.iload_n 1, 1) := by decide +kernel
theorem d_Model_code_383 : decode prog_14_method_22_code 383 = .ok (.iconst 1, 1) := by decide +kernel
theorem d_Model_code_384 : decode prog_14_method_22_code 384 = .ok (.isub, 1) := by decide +kernel
theorem d_Model_code_385 : decode prog_14_method_22_code 385 = .ok (.iaload, 1) := by decide +kernel
theorem d_Model_code_386 : decode prog_14_method_22_code 386 = .ok (.iconst 4, 1) := by decide +kernel
theorem d_Model_code_387 : decode prog_14_method_22_code 387 = .ok (.if_icmp .eq 12, 3) := by decide +kernel
theorem d_Model_code_399 : decode prog_14_method_22_code 399 = .ok (.aload_n 0, 1) := by decide +kernel
theorem d_Model_code_400 : decode prog_14_method_22_code 400 = .ok (.getfield 24, 3) := by decide +kernel
theorem d_Model_code_403 : decode prog_14_method_22_code 403 = .ok (.iload_n 1, 1) := by decide +kernel
theorem d_Model_code_404 : decode prog_14_method_22_code 404 = .ok (.iconst 1, 1) := by decide +kernel
theorem d_Model_code_405 : decode prog_14_method_22_code 405 = .ok (.isub, 1) := by decide +kernel
theorem d_Model_code_406 : decode prog_14_method_22_code 406 = .ok (.iconst 5, 1) := by decide +kernel
theorem d_Model_code_407 : decode prog_14_method_22_code 407 = .ok (.iastore, 1) := by decide +kernel
theorem d_Model_code_408 : decode prog_14_method_22_code 408 = .ok (.aload_n 0, 1) := by decide +kernel
theorem d_Model_code_409 : decode prog_14_method_22_code 409 = .ok (.getfield 16, 3) := by decide +kernel
theorem d_Model_code_412 : decode prog_14_method_22_code 412 = .ok (.getfield 341, 3) := by decide +kernel
theorem d_Model_code_415 : decode prog_14_method_22_code 415 = .ok (.aload_n 0, 1) := by decide +kernel
theorem d_Model_code_416 : decode prog_14_method_22_code 416 = .ok (.getfield 20, 3) := by decide +kernel
theorem d_Model_code_419 : decode prog_14_method_22_code 419 = .ok (.iload_n 1, 1) := by decide +kernel
theorem d_Model_code_420 : decode prog_14_method_22_code 420 = .ok (.iconst 1, 1) := by decide +kernel
theorem d_Model_code_421 : decode prog_14_method_22_code 421 = .ok (.isub, 1) := by decide +kernel
theorem d_Model_code_422 : decode prog_14_method_22_code 422 = .ok (.iaload, 1) := by decide +kernel
theorem d_Model_code_423 : decode prog_14_method_22_code 423 = .ok (.iload_n 2, 1) := by decide +kernel
theorem d_Model_code_424 : decode prog_14_method_22_code 424 = .ok (.iastore, 1) := by decide +kernel
theorem d_Model_code_425 : decode prog_14_method_22_code 425 = .ok (.goto 292, 3) := by decide +kernel
theorem d_Model_code_607 : decode prog_14_method_22_code 607 = .ok (.iload_n 3, 1) := by decide +kernel
