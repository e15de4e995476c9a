def y_Law_feed : MethodName := ⟨"WasmReaderLaw", "feed", "(LWasmReader;IIIII[J)I"⟩
def y_Law_end : MethodName := ⟨"WasmReaderLaw", "end", "(LWasmReader;I[J)I"⟩
def y_Law_count : MethodName := ⟨"WasmReaderLaw", "count", "(LWasmReader;I[J)I"⟩
def y_Law_function : MethodName := ⟨"WasmReaderLaw", "function", "(LWasmReader;II[J)I"⟩
def y_Law_export : MethodName := ⟨"WasmReaderLaw", "export", "(LWasmReader;II[J)I"⟩
def y_Law_global : MethodName := ⟨"WasmReaderLaw", "global", "(LWasmReader;II[J)I"⟩
def y_Law_initial : MethodName := ⟨"WasmReaderLaw", "initial", "(LWasmReader;I[J)I"⟩
def y_Law_law : MethodName := ⟨"WasmReaderLaw", "law", "([I)Z"⟩
theorem m_313 : Cond.methodLink "WasmReaderLaw" 7 y_Reader_feed ∈ xtb := x_in (List.mem_of_getElem? (i := 942) (by decide +kernel)) (by decide +kernel)
theorem m_314 : Cond.code y_Reader_feed prog_1_method_2_code 6 (some .int) ∈ xtb := x_in (List.mem_of_getElem? (i := 945) (by decide +kernel)) (by decide +kernel)
theorem m_315 : Cond.initialized "WasmReader" ∈ xtb := x_in (List.mem_of_getElem? (i := 88) (by decide +kernel)) (by decide +kernel)
theorem m_316 : Cond.instanceMethod y_Reader_feed ∈ xtb := x_in (List.mem_of_getElem? (i := 943) (by decide +kernel)) (by decide +kernel)
theorem m_317 : Cond.selects "WasmReader" y_Reader_feed y_Reader_feed ∈ xtb := x_in (List.mem_of_getElem? (i := 944) (by decide +kernel)) (by decide +kernel)
theorem m_318 : Cond.methodLink "WasmReaderLaw" 15 y_Reader_end ∈ xtb := x_in (List.mem_of_getElem? (i := 1019) (by decide +kernel)) (by decide +kernel)
theorem m_319 : Cond.code y_Reader_end prog_1_method_3_code 2 (some .int) ∈ xtb := x_in (List.mem_of_getElem? (i := 1022) (by decide +kernel)) (by decide +kernel)
theorem m_320 : Cond.instanceMethod y_Reader_end ∈ xtb := x_in (List.mem_of_getElem? (i := 1020) (by decide +kernel)) (by decide +kernel)
theorem m_321 : Cond.selects "WasmReader" y_Reader_end y_Reader_end ∈ xtb := x_in (List.mem_of_getElem? (i := 1021) (by decide +kernel)) (by decide +kernel)
theorem m_322 : Cond.classLink "WasmReaderLaw" 19 "java/lang/IllegalArgumentException" ∈ xtb := x_in (List.mem_of_getElem? (i := 1018) (by decide +kernel)) (by decide +kernel)
theorem m_323 : Cond.castable "java/lang/IllegalArgumentException" "java/lang/IllegalArgumentException" ∈ xtb := x_in (List.mem_of_getElem? (i := 1025) (by decide +kernel)) (by decide +kernel)
theorem m_324 : Cond.code y_Reader_count prog_1_method_5_code 2 (some .int) ∈ xtb := x_in (List.mem_of_getElem? (i := 1044) (by decide +kernel)) (by decide +kernel)
theorem m_325 : Cond.methodLink "WasmReaderLaw" 21 y_Reader_count ∈ xtb := x_in (List.mem_of_getElem? (i := 1041) (by decide +kernel)) (by decide +kernel)
theorem m_326 : Cond.instanceMethod y_Reader_count ∈ xtb := x_in (List.mem_of_getElem? (i := 1042) (by decide +kernel)) (by decide +kernel)
theorem m_327 : Cond.selects "WasmReader" y_Reader_count y_Reader_count ∈ xtb := x_in (List.mem_of_getElem? (i := 1043) (by decide +kernel)) (by decide +kernel)
theorem m_328 : Cond.classLink "WasmReaderLaw" 13 "java/lang/IllegalStateException" ∈ xtb := x_in (List.mem_of_getElem? (i := 941) (by decide +kernel)) (by decide +kernel)
theorem m_329 : Cond.castable "java/lang/IllegalStateException" "java/lang/IllegalStateException" ∈ xtb := x_in (List.mem_of_getElem? (i := 948) (by decide +kernel)) (by decide +kernel)
theorem m_330 : Cond.code y_Reader_function prog_1_method_6_code 4 (some .int) ∈ xtb := x_in (List.mem_of_getElem? (i := 1052) (by decide +kernel)) (by decide +kernel)
theorem m_331 : Cond.methodLink "WasmReaderLaw" 24 y_Reader_function ∈ xtb := x_in (List.mem_of_getElem? (i := 1049) (by decide +kernel)) (by decide +kernel)
theorem m_332 : Cond.instanceMethod y_Reader_function ∈ xtb := x_in (List.mem_of_getElem? (i := 1050) (by decide +kernel)) (by decide +kernel)
theorem m_333 : Cond.selects "WasmReader" y_Reader_function y_Reader_function ∈ xtb := x_in (List.mem_of_getElem? (i := 1051) (by decide +kernel)) (by decide +kernel)
theorem m_334 : Cond.code y_Reader_export prog_1_method_7_code 4 (some .int) ∈ xtb := x_in (List.mem_of_getElem? (i := 1077) (by decide +kernel)) (by decide +kernel)
theorem m_335 : Cond.methodLink "WasmReaderLaw" 30 y_Reader_export ∈ xtb := x_in (List.mem_of_getElem? (i := 1074) (by decide +kernel)) (by decide +kernel)
theorem m_336 : Cond.instanceMethod y_Reader_export ∈ xtb := x_in (List.mem_of_getElem? (i := 1075) (by decide +kernel)) (by decide +kernel)
theorem m_337 : Cond.selects "WasmReader" y_Reader_export y_Reader_export ∈ xtb := x_in (List.mem_of_getElem? (i := 1076) (by decide +kernel)) (by decide +kernel)
theorem m_338 : Cond.code y_Reader_global prog_1_method_8_code 4 (some .int) ∈ xtb := x_in (List.mem_of_getElem? (i := 1086) (by decide +kernel)) (by decide +kernel)
theorem m_339 : Cond.methodLink "WasmReaderLaw" 33 y_Reader_global ∈ xtb := x_in (List.mem_of_getElem? (i := 1083) (by decide +kernel)) (by decide +kernel)
theorem m_340 : Cond.instanceMethod y_Reader_global ∈ xtb := x_in (List.mem_of_getElem? (i := 1084) (by decide +kernel)) (by decide +kernel)
theorem m_341 : Cond.selects "WasmReader" y_Reader_global y_Reader_global ∈ xtb := x_in (List.mem_of_getElem? (i := 1085) (by decide +kernel)) (by decide +kernel)
theorem m_342 : Cond.code y_Reader_initial prog_1_method_9_code 2 (some .long) ∈ xtb := x_in (List.mem_of_getElem? (i := 1098) (by decide +kernel)) (by decide +kernel)
theorem m_343 : Cond.methodLink "WasmReaderLaw" 36 y_Reader_initial ∈ xtb := x_in (List.mem_of_getElem? (i := 1095) (by decide +kernel)) (by decide +kernel)
theorem m_344 : Cond.instanceMethod y_Reader_initial ∈ xtb := x_in (List.mem_of_getElem? (i := 1096) (by decide +kernel)) (by decide +kernel)
theorem m_345 : Cond.selects "WasmReader" y_Reader_initial y_Reader_initial ∈ xtb := x_in (List.mem_of_getElem? (i := 1097) (by decide +kernel)) (by decide +kernel)
theorem m_346 : Cond.classLink "WasmReaderLaw" 8 "WasmReader" ∈ xtb := x_in (List.mem_of_getElem? (i := 111) (by decide +kernel)) (by decide +kernel)
theorem m_347 : Cond.instantiable "WasmReader" 5 ∈ xtb := x_in (List.mem_of_getElem? (i := 112) (by decide +kernel)) (by decide +kernel)
theorem m_348 : Cond.methodLink "WasmReaderLaw" 40 y_Reader_init ∈ xtb := x_in (List.mem_of_getElem? (i := 113) (by decide +kernel)) (by decide +kernel)
theorem m_349 : Cond.code y_Reader_init prog_1_method_1_code 1 none ∈ xtb := x_in (List.mem_of_getElem? (i := 115) (by decide +kernel)) (by decide +kernel)
theorem m_350 : Cond.instanceMethod y_Reader_init ∈ xtb := x_in (List.mem_of_getElem? (i := 114) (by decide +kernel)) (by decide +kernel)
theorem m_351 : Cond.classLink "WasmReaderLaw" 41 "WasmReaderModel" ∈ xtb := x_in (List.mem_of_getElem? (i := 1099) (by decide +kernel)) (by decide +kernel)
theorem m_352 : Cond.instantiable "WasmReaderModel" 24 ∈ xtb := x_in (List.mem_of_getElem? (i := 1100) (by decide +kernel)) (by decide +kernel)
theorem m_353 : Cond.methodLink "WasmReaderLaw" 43 y_Model_init ∈ xtb := x_in (List.mem_of_getElem? (i := 1101) (by decide +kernel)) (by decide +kernel)
theorem m_354 : Cond.code y_Model_init prog_14_method_1_code 1 none ∈ xtb := x_in (List.mem_of_getElem? (i := 1103) (by decide +kernel)) (by decide +kernel)
theorem m_355 : Cond.instanceMethod y_Model_init ∈ xtb := x_in (List.mem_of_getElem? (i := 1102) (by decide +kernel)) (by decide +kernel)
theorem m_356 : Cond.codeWith y_Law_feed method_3_code 8 (some .int) [(0, 16, 19, 13)] ∈ xtb := x_in (List.mem_of_getElem? (i := 940) (by decide +kernel)) (by decide +kernel)
theorem m_357 : Cond.initialized "WasmReaderLaw" ∈ xtb := x_in (List.mem_of_getElem? (i := 87) (by decide +kernel)) (by decide +kernel)
theorem m_358 : Cond.methodLink "WasmReaderLaw" 44 y_Law_feed ∈ xtb := x_in (List.mem_of_getElem? (i := 938) (by decide +kernel)) (by decide +kernel)
theorem m_359 : Cond.static y_Law_feed ∈ xtb := x_in (List.mem_of_getElem? (i := 939) (by decide +kernel)) (by decide +kernel)
theorem m_360 : Cond.methodLink "WasmReaderLaw" 49 y_Model_feed ∈ xtb := x_in (List.mem_of_getElem? (i := 1398) (by decide +kernel)) (by decide +kernel)
theorem m_361 : Cond.code y_Model_feed prog_14_method_41_code 6 (some .int) ∈ xtb := x_in (List.mem_of_getElem? (i := 1401) (by decide +kernel)) (by decide +kernel)
theorem m_362 : Cond.instanceMethod y_Model_feed ∈ xtb := x_in (List.mem_of_getElem? (i := 1399) (by decide +kernel)) (by decide +kernel)
theorem m_363 : Cond.selects "WasmReaderModel" y_Model_feed y_Model_feed ∈ xtb := x_in (List.mem_of_getElem? (i := 1400) (by decide +kernel)) (by decide +kernel)
theorem m_364 : Cond.methodLink "WasmReaderLaw" 50 y_Model_thrown ∈ xtb := x_in (List.mem_of_getElem? (i := 1394) (by decide +kernel)) (by decide +kernel)
theorem m_365 : Cond.code y_Model_thrown prog_14_method_2_code 1 (some .int) ∈ xtb := x_in (List.mem_of_getElem? (i := 1397) (by decide +kernel)) (by decide +kernel)
theorem m_366 : Cond.instanceMethod y_Model_thrown ∈ xtb := x_in (List.mem_of_getElem? (i := 1395) (by decide +kernel)) (by decide +kernel)
theorem m_367 : Cond.selects "WasmReaderModel" y_Model_thrown y_Model_thrown ∈ xtb := x_in (List.mem_of_getElem? (i := 1396) (by decide +kernel)) (by decide +kernel)
theorem m_368 : Cond.codeWith y_Law_end method_4_code 4 (some .int) [(0, 9, 12, 19)] ∈ xtb := x_in (List.mem_of_getElem? (i := 1017) (by decide +kernel)) (by decide +kernel)
theorem m_369 : Cond.methodLink "WasmReaderLaw" 54 y_Law_end ∈ xtb := x_in (List.mem_of_getElem? (i := 1015) (by decide +kernel)) (by decide +kernel)
theorem m_370 : Cond.static y_Law_end ∈ xtb := x_in (List.mem_of_getElem? (i := 1016) (by decide +kernel)) (by decide +kernel)
theorem m_371 : Cond.methodLink "WasmReaderLaw" 57 y_Model_end ∈ xtb := x_in (List.mem_of_getElem? (i := 1406) (by decide +kernel)) (by decide +kernel)
theorem m_372 : Cond.code y_Model_end prog_14_method_43_code 2 (some .int) ∈ xtb := x_in (List.mem_of_getElem? (i := 1409) (by decide +kernel)) (by decide +kernel)
theorem m_373 : Cond.instanceMethod y_Model_end ∈ xtb := x_in (List.mem_of_getElem? (i := 1407) (by decide +kernel)) (by decide +kernel)
theorem m_374 : Cond.selects "WasmReaderModel" y_Model_end y_Model_end ∈ xtb := x_in (List.mem_of_getElem? (i := 1408) (by decide +kernel)) (by decide +kernel)
theorem m_375 : Cond.methodLink "WasmReaderLaw" 58 y_Reader_read ∈ xtb := x_in (List.mem_of_getElem? (i := 466) (by decide +kernel)) (by decide +kernel)
theorem m_376 : Cond.code y_Reader_read prog_1_method_4_code 3 (some .int) ∈ xtb := x_in (List.mem_of_getElem? (i := 469) (by decide +kernel)) (by decide +kernel)
theorem m_377 : Cond.instanceMethod y_Reader_read ∈ xtb := x_in (List.mem_of_getElem? (i := 467) (by decide +kernel)) (by decide +kernel)
theorem m_378 : Cond.selects "WasmReader" y_Reader_read y_Reader_read ∈ xtb := x_in (List.mem_of_getElem? (i := 468) (by decide +kernel)) (by decide +kernel)
theorem m_379 : Cond.codeWith y_Model_read prog_14_method_45_code 2 (some .int) [(46, 77, 80, 56)] ∈ xtb := x_in (List.mem_of_getElem? (i := 1413) (by decide +kernel)) (by decide +kernel)
theorem m_380 : Cond.methodLink "WasmReaderLaw" 61 y_Model_read ∈ xtb := x_in (List.mem_of_getElem? (i := 1410) (by decide +kernel)) (by decide +kernel)
theorem m_381 : Cond.instanceMethod y_Model_read ∈ xtb := x_in (List.mem_of_getElem? (i := 1411) (by decide +kernel)) (by decide +kernel)
theorem m_382 : Cond.selects "WasmReaderModel" y_Model_read y_Model_read ∈ xtb := x_in (List.mem_of_getElem? (i := 1412) (by decide +kernel)) (by decide +kernel)
theorem m_383 : Cond.codeWith y_Law_count method_5_code 4 (some .int) [(0, 9, 12, 13), (0, 9, 15, 19)] ∈ xtb := x_in (List.mem_of_getElem? (i := 1040) (by decide +kernel)) (by decide +kernel)
theorem m_384 : Cond.methodLink "WasmReaderLaw" 62 y_Law_count ∈ xtb := x_in (List.mem_of_getElem? (i := 1038) (by decide +kernel)) (by decide +kernel)
theorem m_385 : Cond.static y_Law_count ∈ xtb := x_in (List.mem_of_getElem? (i := 1039) (by decide +kernel)) (by decide +kernel)
theorem m_386 : Cond.methodLink "WasmReaderLaw" 64 y_Model_count ∈ xtb := x_in (List.mem_of_getElem? (i := 1608) (by decide +kernel)) (by decide +kernel)
theorem m_387 : Cond.code y_Model_count prog_14_method_47_code 2 (some .int) ∈ xtb := x_in (List.mem_of_getElem? (i := 1611) (by decide +kernel)) (by decide +kernel)
theorem m_388 : Cond.instanceMethod y_Model_count ∈ xtb := x_in (List.mem_of_getElem? (i := 1609) (by decide +kernel)) (by decide +kernel)
theorem m_389 : Cond.selects "WasmReaderModel" y_Model_count y_Model_count ∈ xtb := x_in (List.mem_of_getElem? (i := 1610) (by decide +kernel)) (by decide +kernel)
theorem m_390 : Cond.codeWith y_Law_function method_6_code 5 (some .int) [(0, 10, 13, 13), (0, 10, 17, 28), (0, 10, 21, 19)] ∈ xtb := x_in (List.mem_of_getElem? (i := 1047) (by decide +kernel)) (by decide +kernel)
theorem m_391 : Cond.methodLink "WasmReaderLaw" 65 y_Law_function ∈ xtb := x_in (List.mem_of_getElem? (i := 1045) (by decide +kernel)) (by decide +kernel)
theorem m_392 : Cond.static y_Law_function ∈ xtb := x_in (List.mem_of_getElem? (i := 1046) (by decide +kernel)) (by decide +kernel)
theorem m_393 : Cond.methodLink "WasmReaderLaw" 68 y_Model_function ∈ xtb := x_in (List.mem_of_getElem? (i := 1616) (by decide +kernel)) (by decide +kernel)
theorem m_394 : Cond.code y_Model_function prog_14_method_48_code 8 (some .int) ∈ xtb := x_in (List.mem_of_getElem? (i := 1619) (by decide +kernel)) (by decide +kernel)
theorem m_395 : Cond.instanceMethod y_Model_function ∈ xtb := x_in (List.mem_of_getElem? (i := 1617) (by decide +kernel)) (by decide +kernel)
theorem m_396 : Cond.selects "WasmReaderModel" y_Model_function y_Model_function ∈ xtb := x_in (List.mem_of_getElem? (i := 1618) (by decide +kernel)) (by decide +kernel)
theorem m_397 : Cond.codeWith y_Law_export method_7_code 5 (some .int) [(0, 10, 13, 13), (0, 10, 17, 28), (0, 10, 21, 19)] ∈ xtb := x_in (List.mem_of_getElem? (i := 1073) (by decide +kernel)) (by decide +kernel)
theorem m_398 : Cond.methodLink "WasmReaderLaw" 69 y_Law_export ∈ xtb := x_in (List.mem_of_getElem? (i := 1071) (by decide +kernel)) (by decide +kernel)
theorem m_399 : Cond.static y_Law_export ∈ xtb := x_in (List.mem_of_getElem? (i := 1072) (by decide +kernel)) (by decide +kernel)
theorem m_400 : Cond.methodLink "WasmReaderLaw" 71 y_Model_export ∈ xtb := x_in (List.mem_of_getElem? (i := 1620) (by decide +kernel)) (by decide +kernel)
theorem m_401 : Cond.code y_Model_export prog_14_method_49_code 3 (some .int) ∈ xtb := x_in (List.mem_of_getElem? (i := 1623) (by decide +kernel)) (by decide +kernel)
theorem m_402 : Cond.instanceMethod y_Model_export ∈ xtb := x_in (List.mem_of_getElem? (i := 1621) (by decide +kernel)) (by decide +kernel)
theorem m_403 : Cond.selects "WasmReaderModel" y_Model_export y_Model_export ∈ xtb := x_in (List.mem_of_getElem? (i := 1622) (by decide +kernel)) (by decide +kernel)
theorem m_404 : Cond.codeWith y_Law_global method_8_code 5 (some .int) [(0, 10, 13, 13), (0, 10, 17, 28), (0, 10, 21, 19)] ∈ xtb := x_in (List.mem_of_getElem? (i := 1082) (by decide +kernel)) (by decide +kernel)
theorem m_405 : Cond.methodLink "WasmReaderLaw" 72 y_Law_global ∈ xtb := x_in (List.mem_of_getElem? (i := 1080) (by decide +kernel)) (by decide +kernel)
theorem m_406 : Cond.static y_Law_global ∈ xtb := x_in (List.mem_of_getElem? (i := 1081) (by decide +kernel)) (by decide +kernel)
theorem m_407 : Cond.methodLink "WasmReaderLaw" 74 y_Model_global ∈ xtb := x_in (List.mem_of_getElem? (i := 1624) (by decide +kernel)) (by decide +kernel)
theorem m_408 : Cond.code y_Model_global prog_14_method_50_code 3 (some .int) ∈ xtb := x_in (List.mem_of_getElem? (i := 1627) (by decide +kernel)) (by decide +kernel)
theorem m_409 : Cond.instanceMethod y_Model_global ∈ xtb := x_in (List.mem_of_getElem? (i := 1625) (by decide +kernel)) (by decide +kernel)
theorem m_410 : Cond.selects "WasmReaderModel" y_Model_global y_Model_global ∈ xtb := x_in (List.mem_of_getElem? (i := 1626) (by decide +kernel)) (by decide +kernel)
theorem m_411 : Cond.codeWith y_Law_initial method_9_code 4 (some .int) [(0, 8, 11, 13), (0, 8, 14, 28)] ∈ xtb := x_in (List.mem_of_getElem? (i := 1094) (by decide +kernel)) (by decide +kernel)
theorem m_412 : Cond.methodLink "WasmReaderLaw" 75 y_Law_initial ∈ xtb := x_in (List.mem_of_getElem? (i := 1092) (by decide +kernel)) (by decide +kernel)
theorem m_413 : Cond.static y_Law_initial ∈ xtb := x_in (List.mem_of_getElem? (i := 1093) (by decide +kernel)) (by decide +kernel)
theorem m_414 : Cond.methodLink "WasmReaderLaw" 77 y_Model_initial ∈ xtb := x_in (List.mem_of_getElem? (i := 1628) (by decide +kernel)) (by decide +kernel)
theorem m_415 : Cond.code y_Model_initial prog_14_method_51_code 2 (some .long) ∈ xtb := x_in (List.mem_of_getElem? (i := 1631) (by decide +kernel)) (by decide +kernel)
theorem m_416 : Cond.instanceMethod y_Model_initial ∈ xtb := x_in (List.mem_of_getElem? (i := 1629) (by decide +kernel)) (by decide +kernel)
theorem m_417 : Cond.selects "WasmReaderModel" y_Model_initial y_Model_initial ∈ xtb := x_in (List.mem_of_getElem? (i := 1630) (by decide +kernel)) (by decide +kernel)
theorem m_418 : Cond.instantiable "WasmReader$Validity" 3 ∈ xtb := x_in (List.mem_of_getElem? (i := 741) (by decide +kernel)) (by decide +kernel)
theorem d_Law_feed_0 : decode method_3_code 0 = .ok (.aload 6, 2) := by decide +kernel
theorem d_Law_feed_2 : decode method_3_code 2 = .ok (.iconst 0, 1) := by decide +kernel
theorem d_Law_feed_3 : decode method_3_code 3 = .ok (.aload_n 0, 1) := by decide +kernel
theorem d_Law_feed_4 : decode method_3_code 4 = .ok (.iload_n 1, 1) := by decide +kernel
theorem d_Law_feed_5 : decode method_3_code 5 = .ok (.iload_n 2, 1) := by decide +kernel
theorem d_Law_feed_6 : decode method_3_code 6 = .ok (.iload_n 3, 1) := by decide +kernel
theorem d_Law_feed_7 : decode method_3_code 7 = .ok (.iload 4, 2) := by decide +kernel
theorem d_Law_feed_9 : decode method_3_code 9 = .ok (.iload 5, 2) := by decide +kernel
theorem d_Law_feed_11 : decode method_3_code 11 = .ok (.invokevirtual 7, 3) := by decide +kernel
theorem nm_Reader_feed : x_nm y_Reader_feed 5 = true := by decide +kernel
theorem d_Law_feed_14 : decode method_3_code 14 = .ok (.i2l, 1) := by decide +kernel
theorem d_Law_feed_15 : decode method_3_code 15 = .ok (.lastore, 1) := by decide +kernel
theorem d_Law_feed_16 : decode method_3_code 16 = .ok (.goto 7, 3) := by decide +kernel
theorem d_Law_feed_23 : decode method_3_code 23 = .ok (.iconst 0, 1) := by decide +kernel
theorem d_Law_feed_24 : decode method_3_code 24 = .ok (.ireturn, 1) := by decide +kernel
theorem d_Law_end_0 : decode method_4_code 0 = .ok (.aload_n 2, 1) := by decide +kernel
theorem d_Law_end_1 : decode method_4_code 1 = .ok (.iconst 0, 1) := by decide +kernel
theorem d_Law_end_2 : decode method_4_code 2 = .ok (.aload_n 0, 1) := by decide +kernel
theorem d_Law_end_3 : decode method_4_code 3 = .ok (.iload_n 1, 1) := by decide +kernel
theorem d_Law_end_4 : decode method_4_code 4 = .ok (.invokevirtual 15, 3) := by decide +kernel
theorem nm_Reader_end : x_nm y_Reader_end 1 = true := by decide +kernel
theorem d_Law_end_7 : decode method_4_code 7 = .ok (.i2l, 1) := by decide +kernel
theorem d_Law_end_8 : decode method_4_code 8 = .ok (.lastore, 1) := by decide +kernel
theorem d_Law_end_9 : decode method_4_code 9 = .ok (.goto 6, 3) := by decide +kernel
theorem d_Law_end_15 : decode method_4_code 15 = .ok (.iconst 0, 1) := by decide +kernel
theorem d_Law_end_16 : decode method_4_code 16 = .ok (.ireturn, 1) := by decide +kernel
theorem d_Law_end_12 : decode method_4_code 12 = .ok (.astore_n 3, 1) := by decide +kernel
theorem d_Law_end_13 : decode method_4_code 13 = .ok (.iconst 1, 1) := by decide +kernel
theorem d_Law_end_14 : decode method_4_code 14 = .ok (.ireturn, 1) := by decide +kernel
theorem d_Law_count_0 : decode method_5_code 0 = .ok (.aload_n 2, 1) := by decide +kernel
theorem d_Law_count_1 : decode method_5_code 1 = .ok (.iconst 0, 1) := by decide +kernel
theorem d_Law_count_2 : decode method_5_code 2 = .ok (.aload_n 0, 1) := by decide +kernel
theorem d_Law_count_3 : decode method_5_code 3 = .ok (.iload_n 1, 1) := by decide +kernel
theorem d_Law_count_4 : decode method_5_code 4 = .ok (.invokevirtual 21, 3) := by decide +kernel
theorem nm_Reader_count : x_nm y_Reader_count 1 = true := by decide +kernel
theorem d_Law_count_12 : decode method_5_code 12 = .ok (.astore_n 3, 1) := by decide +kernel
theorem d_Law_count_13 : decode method_5_code 13 = .ok (.iconst 1, 1) := by decide +kernel
theorem d_Law_count_14 : decode method_5_code 14 = .ok (.ireturn, 1) := by decide +kernel
theorem d_Law_function_0 : decode method_6_code 0 = .ok (.aload_n 3, 1) := by decide +kernel
theorem d_Law_function_1 : decode method_6_code 1 = .ok (.iconst 0, 1) := by decide +kernel
theorem d_Law_function_2 : decode method_6_code 2 = .ok (.aload_n 0, 1) := by decide +kernel
theorem d_Law_function_3 : decode method_6_code 3 = .ok (.iload_n 1, 1) := by decide +kernel
theorem d_Law_function_4 : decode method_6_code 4 = .ok (.iload_n 2, 1) := by decide +kernel
theorem d_Law_function_5 : decode method_6_code 5 = .ok (.invokevirtual 24, 3) := by decide +kernel
theorem nm_Reader_function : x_nm y_Reader_function 2 = true := by decide +kernel
theorem d_Law_function_13 : decode method_6_code 13 = .ok (.astore 4, 2) := by decide +kernel
theorem d_Law_function_15 : decode method_6_code 15 = .ok (.iconst 1, 1) := by decide +kernel
theorem d_Law_function_16 : decode method_6_code 16 = .ok (.ireturn, 1) := by decide +kernel
theorem d_Law_export_0 : decode method_7_code 0 = .ok (.aload_n 3, 1) := by decide +kernel
theorem d_Law_export_1 : decode method_7_code 1 = .ok (.iconst 0, 1) := by decide +kernel
theorem d_Law_export_2 : decode method_7_code 2 = .ok (.aload_n 0, 1) := by decide +kernel
theorem d_Law_export_3 : decode method_7_code 3 = .ok (.iload_n 1, 1) := by decide +kernel
theorem d_Law_export_4 : decode method_7_code 4 = .ok (.iload_n 2, 1) := by decide +kernel
theorem d_Law_export_5 : decode method_7_code 5 = .ok (.invokevirtual 30, 3) := by decide +kernel
theorem nm_Reader_export : x_nm y_Reader_export 2 = true := by decide +kernel
theorem d_Law_export_13 : decode method_7_code 13 = .ok (.astore 4, 2) := by decide +kernel
theorem d_Law_export_15 : decode method_7_code 15 = .ok (.iconst 1, 1) := by decide +kernel
theorem d_Law_export_16 : decode method_7_code 16 = .ok (.ireturn, 1) := by decide +kernel
theorem d_Law_global_0 : decode method_8_code 0 = .ok (.aload_n 3, 1) := by decide +kernel
theorem d_Law_global_1 : decode method_8_code 1 = .ok (.iconst 0, 1) := by decide +kernel
theorem d_Law_global_2 : decode method_8_code 2 = .ok (.aload_n 0, 1) := by decide +kernel
theorem d_Law_global_3 : decode method_8_code 3 = .ok (.iload_n 1, 1) := by decide +kernel
theorem d_Law_global_4 : decode method_8_code 4 = .ok (.iload_n 2, 1) := by decide +kernel
theorem d_Law_global_5 : decode method_8_code 5 = .ok (.invokevirtual 33, 3) := by decide +kernel
theorem nm_Reader_global : x_nm y_Reader_global 2 = true := by decide +kernel
theorem d_Law_global_13 : decode method_8_code 13 = .ok (.astore 4, 2) := by decide +kernel
theorem d_Law_global_15 : decode method_8_code 15 = .ok (.iconst 1, 1) := by decide +kernel
theorem d_Law_global_16 : decode method_8_code 16 = .ok (.ireturn, 1) := by decide +kernel
theorem d_Law_initial_0 : decode method_9_code 0 = .ok (.aload_n 2, 1) := by decide +kernel
theorem d_Law_initial_1 : decode method_9_code 1 = .ok (.iconst 0, 1) := by decide +kernel
theorem d_Law_initial_2 : decode method_9_code 2 = .ok (.aload_n 0, 1) := by decide +kernel
theorem d_Law_initial_3 : decode method_9_code 3 = .ok (.iload_n 1, 1) := by decide +kernel
theorem d_Law_initial_4 : decode method_9_code 4 = .ok (.invokevirtual 36, 3) := by decide +kernel
theorem nm_Reader_initial : x_nm y_Reader_initial 1 = true := by decide +kernel
theorem d_Law_initial_11 : decode method_9_code 11 = .ok (.astore_n 3, 1) := by decide +kernel
theorem d_Law_initial_12 : decode method_9_code 12 = .ok (.iconst 1, 1) := by decide +kernel
theorem d_Law_initial_13 : decode method_9_code 13 = .ok (.ireturn, 1) := by decide +kernel
theorem d_Law_law_0 : decode code 0 = .ok (.new 8, 3) := by decide +kernel
theorem d_Law_law_3 : decode code 3 = .ok (.dup, 1) := by decide +kernel
theorem d_Law_law_4 : decode code 4 = .ok (.invokespecial 40, 3) := by decide +kernel
theorem nm_Reader_init : x_nm y_Reader_init 0 = true := by decide +kernel
theorem d_Law_law_7 : decode code 7 = .ok (.astore_n 1, 1) := by decide +kernel
theorem d_Law_law_8 : decode code 8 = .ok (.new 41, 3) := by decide +kernel
theorem d_Law_law_11 : decode code 11 = .ok (.dup, 1) := by decide +kernel
theorem d_Law_law_12 : decode code 12 = .ok (.invokespecial 43, 3) := by decide +kernel
theorem nm_Model_init : x_nm y_Model_init 0 = true := by decide +kernel
theorem d_Law_law_15 : decode code 15 = .ok (.astore_n 2, 1) := by decide +kernel
theorem d_Law_law_16 : decode code 16 = .ok (.iconst 1, 1) := by decide +kernel
theorem d_Law_law_17 : decode code 17 = .ok (.newarray .long, 2) := by decide +kernel
theorem d_Law_law_19 : decode code 19 = .ok (.astore_n 3, 1) := by decide +kernel
theorem d_Law_law_20 : decode code 20 = .ok (.iconst 0, 1) := by decide +kernel
theorem d_Law_law_21 : decode code 21 = .ok (.istore 4, 2) := by decide +kernel
theorem d_Law_law_88 : decode code 88 = .ok (.aload_n 1, 1) := by decide +kernel
theorem d_Law_law_89 : decode code 89 = .ok (.aload_n 0, 1) := by decide +kernel
theorem d_Law_law_90 : decode code 90 = .ok (.iload 4, 2) := by decide +kernel
theorem d_Law_law_92 : decode code 92 = .ok (.iconst 1, 1) := by decide +kernel
theorem d_Law_law_93 : decode code 93 = .ok (.iadd, 1) := by decide +kernel
theorem d_Law_law_94 : decode code 94 = .ok (.iaload, 1) := by decide +kernel
theorem d_Law_law_95 : decode code 95 = .ok (.aload_n 0, 1) := by decide +kernel
theorem d_Law_law_96 : decode code 96 = .ok (.iload 4, 2) := by decide +kernel
theorem d_Law_law_98 : decode code 98 = .ok (.iconst 2, 1) := by decide +kernel
theorem d_Law_law_99 : decode code 99 = .ok (.iadd, 1) := by decide +kernel
theorem d_Law_law_100 : decode code 100 = .ok (.iaload, 1) := by decide +kernel
theorem d_Law_law_101 : decode code 101 = .ok (.aload_n 0, 1) := by decide +kernel
theorem d_Law_law_102 : decode code 102 = .ok (.iload 4, 2) := by decide +kernel
theorem d_Law_law_104 : decode code 104 = .ok (.iconst 3, 1) := by decide +kernel
theorem d_Law_law_105 : decode code 105 = .ok (.iadd, 1) := by decide +kernel
theorem d_Law_law_106 : decode code 106 = .ok (.iaload, 1) := by decide +kernel
theorem d_Law_law_107 : decode code 107 = .ok (.aload_n 0, 1) := by decide +kernel
theorem d_Law_law_108 : decode code 108 = .ok (.iload 4, 2) := by decide +kernel
theorem d_Law_law_110 : decode code 110 = .ok (.iconst 4, 1) := by decide +kernel
theorem d_Law_law_111 : decode code 111 = .ok (.iadd, 1) := by decide +kernel
theorem d_Law_law_112 : decode code 112 = .ok (.iaload, 1) := by decide +kernel
theorem d_Law_law_113 : decode code 113 = .ok (.aload_n 0, 1) := by decide +kernel
theorem d_Law_law_114 : decode code 114 = .ok (.iload 4, 2) := by decide +kernel
theorem d_Law_law_116 : decode code 116 = .ok (.iconst 5, 1) := by decide +kernel
theorem d_Law_law_117 : decode code 117 = .ok (.iadd, 1) := by decide +kernel
theorem d_Law_law_118 : decode code 118 = .ok (.iaload, 1) := by decide +kernel
theorem d_Law_law_119 : decode code 119 = .ok (.aload_n 3, 1) := by decide +kernel
theorem d_Law_law_120 : decode code 120 = .ok (.invokestatic 44, 3) := by decide +kernel
theorem nm_Law_feed : x_nm y_Law_feed 7 = true := by decide +kernel
theorem d_Law_law_123 : decode code 123 = .ok (.istore 5, 2) := by decide +kernel
theorem d_Law_law_125 : decode code 125 = .ok (.aload_n 2, 1) := by decide +kernel
theorem d_Law_law_126 : decode code 126 = .ok (.aload_n 0, 1) := by decide +kernel
theorem d_Law_law_127 : decode code 127 = .ok (.iload 4, 2) := by decide +kernel
theorem d_Law_law_129 : decode code 129 = .ok (.iconst 1, 1) := by decide +kernel
theorem d_Law_law_130 : decode code 130 = .ok (.iadd, 1) := by decide +kernel
theorem d_Law_law_131 : decode code 131 = .ok (.iaload, 1) := by decide +kernel
theorem d_Law_law_132 : decode code 132 = .ok (.aload_n 0, 1) := by decide +kernel
theorem d_Law_law_133 : decode code 133 = .ok (.iload 4, 2) := by decide +kernel
theorem d_Law_law_135 : decode code 135 = .ok (.iconst 2, 1) := by decide +kernel
theorem d_Law_law_136 : decode code 136 = .ok (.iadd, 1) := by decide +kernel
theorem d_Law_law_137 : decode code 137 = .ok (.iaload, 1) := by decide +kernel
theorem d_Law_law_138 : decode code 138 = .ok (.aload_n 0, 1) := by decide +kernel
theorem d_Law_law_139 : decode code 139 = .ok (.iload 4, 2) := by decide +kernel
theorem d_Law_law_141 : decode code 141 = .ok (.iconst 3, 1) := by decide +kernel
theorem d_Law_law_142 : decode code 142 = .ok (.iadd, 1) := by decide +kernel
theorem d_Law_law_143 : decode code 143 = .ok (.iaload, 1) := by decide +kernel
theorem d_Law_law_144 : decode code 144 = .ok (.aload_n 0, 1) := by decide +kernel
theorem d_Law_law_145 : decode code 145 = .ok (.iload 4, 2) := by decide +kernel
theorem d_Law_law_147 : decode code 147 = .ok (.iconst 4, 1) := by decide +kernel
theorem d_Law_law_148 : decode code 148 = .ok (.iadd, 1) := by decide +kernel
theorem d_Law_law_149 : decode code 149 = .ok (.iaload, 1) := by decide +kernel
theorem d_Law_law_150 : decode code 150 = .ok (.aload_n 0, 1) := by decide +kernel
theorem d_Law_law_151 : decode code 151 = .ok (.iload 4, 2) := by decide +kernel
theorem d_Law_law_153 : decode code 153 = .ok (.iconst 5, 1) := by decide +kernel
theorem d_Law_law_154 : decode code 154 = .ok (.iadd, 1) := by decide +kernel
theorem d_Law_law_155 : decode code 155 = .ok (.iaload, 1) := by decide +kernel
theorem d_Law_law_156 : decode code 156 = .ok (.invokevirtual 49, 3) := by decide +kernel
theorem nm_Model_feed : x_nm y_Model_feed 5 = true := by decide +kernel
theorem d_Law_law_159 : decode code 159 = .ok (.istore 6, 2) := by decide +kernel
theorem d_Law_law_161 : decode code 161 = .ok (.aload_n 2, 1) := by decide +kernel
theorem d_Law_law_162 : decode code 162 = .ok (.invokevirtual 50, 3) := by decide +kernel
theorem nm_Model_thrown : x_nm y_Model_thrown 0 = true := by decide +kernel
theorem d_Law_law_165 : decode code 165 = .ok (.iload 5, 2) := by decide +kernel
theorem d_Law_law_167 : decode code 167 = .ok (.if_icmp .eq 5, 3) := by decide +kernel
theorem d_Law_law_172 : decode code 172 = .ok (.iload 5, 2) := by decide +kernel
theorem d_Law_law_174 : decode code 174 = .ok (.ifCond .ne 15, 3) := by decide +kernel
theorem d_Law_law_177 : decode code 177 = .ok (.aload_n 3, 1) := by decide +kernel
theorem d_Law_law_178 : decode code 178 = .ok (.iconst 0, 1) := by decide +kernel
theorem d_Law_law_179 : decode code 179 = .ok (.laload, 1) := by decide +kernel
theorem d_Law_law_180 : decode code 180 = .ok (.iload 6, 2) := by decide +kernel
theorem d_Law_law_182 : decode code 182 = .ok (.i2l, 1) := by decide +kernel
theorem d_Law_law_183 : decode code 183 = .ok (.lcmp, 1) := by decide +kernel
theorem d_Law_law_184 : decode code 184 = .ok (.ifCond .eq 5, 3) := by decide +kernel
theorem d_Law_law_189 : decode code 189 = .ok (.goto 387, 3) := by decide +kernel
theorem d_Law_law_576 : decode code 576 = .ok (.iinc 4 6, 3) := by decide +kernel
theorem d_Law_law_579 : decode code 579 = .ok (.goto (-556), 3) := by decide +kernel
theorem d_Law_law_23 : decode code 23 = .ok (.iload 4, 2) := by decide +kernel
theorem d_Law_law_25 : decode code 25 = .ok (.aload_n 0, 1) := by decide +kernel
theorem d_Law_law_26 : decode code 26 = .ok (.arraylength, 1) := by decide +kernel
theorem d_Law_law_27 : decode code 27 = .ok (.bipush 6, 2) := by decide +kernel
theorem d_Law_law_29 : decode code 29 = .ok (.isub, 1) := by decide +kernel
theorem d_Law_law_30 : decode code 30 = .ok (.if_icmp .gt 552, 3) := by decide +kernel
theorem d_Law_law_582 : decode code 582 = .ok (.iconst 1, 1) := by decide +kernel
theorem d_Law_law_583 : decode code 583 = .ok (.ireturn, 1) := by decide +kernel
theorem d_Law_law_192 : decode code 192 = .ok (.aload_n 1, 1) := by decide +kernel
theorem d_Law_law_193 : decode code 193 = .ok (.aload_n 0, 1) := by decide +kernel
theorem d_Law_law_194 : decode code 194 = .ok (.iload 4, 2) := by decide +kernel
theorem d_Law_law_196 : decode code 196 = .ok (.iconst 1, 1) := by decide +kernel
theorem d_Law_law_197 : decode code 197 = .ok (.iadd, 1) := by decide +kernel
theorem d_Law_law_198 : decode code 198 = .ok (.iaload, 1) := by decide +kernel
theorem d_Law_law_199 : decode code 199 = .ok (.aload_n 3, 1) := by decide +kernel
theorem d_Law_law_200 : decode code 200 = .ok (.invokestatic 54, 3) := by decide +kernel
theorem nm_Law_end : x_nm y_Law_end 3 = true := by decide +kernel
theorem d_Law_law_203 : decode code 203 = .ok (.istore 5, 2) := by decide +kernel
theorem d_Law_law_205 : decode code 205 = .ok (.aload_n 2, 1) := by decide +kernel
theorem d_Law_law_206 : decode code 206 = .ok (.aload_n 0, 1) := by decide +kernel
theorem d_Law_law_207 : decode code 207 = .ok (.iload 4, 2) := by decide +kernel
theorem d_Law_law_209 : decode code 209 = .ok (.iconst 1, 1) := by decide +kernel
theorem d_Law_law_210 : decode code 210 = .ok (.iadd, 1) := by decide +kernel
theorem d_Law_law_211 : decode code 211 = .ok (.iaload, 1) := by decide +kernel
theorem d_Law_law_212 : decode code 212 = .ok (.invokevirtual 57, 3) := by decide +kernel
theorem nm_Model_end : x_nm y_Model_end 1 = true := by decide +kernel
theorem d_Law_law_215 : decode code 215 = .ok (.istore 6, 2) := by decide +kernel
theorem d_Law_law_217 : decode code 217 = .ok (.aload_n 2, 1) := by decide +kernel
theorem d_Law_law_218 : decode code 218 = .ok (.invokevirtual 50, 3) := by decide +kernel
theorem d_Law_law_221 : decode code 221 = .ok (.iload 5, 2) := by decide +kernel
theorem d_Law_law_223 : decode code 223 = .ok (.if_icmp .eq 5, 3) := by decide +kernel
theorem d_Law_law_228 : decode code 228 = .ok (.iload 5, 2) := by decide +kernel
theorem d_Law_law_230 : decode code 230 = .ok (.ifCond .ne 15, 3) := by decide +kernel
theorem d_Law_law_245 : decode code 245 = .ok (.goto 331, 3) := by decide +kernel
theorem d_Law_law_233 : decode code 233 = .ok (.aload_n 3, 1) := by decide +kernel
theorem d_Law_law_234 : decode code 234 = .ok (.iconst 0, 1) := by decide +kernel
theorem d_Law_law_235 : decode code 235 = .ok (.laload, 1) := by decide +kernel
theorem d_Law_law_236 : decode code 236 = .ok (.iload 6, 2) := by decide +kernel
theorem d_Law_law_238 : decode code 238 = .ok (.i2l, 1) := by decide +kernel
theorem d_Law_law_239 : decode code 239 = .ok (.lcmp, 1) := by decide +kernel
theorem d_Law_law_240 : decode code 240 = .ok (.ifCond .eq 5, 3) := by decide +kernel
theorem d_Law_law_248 : decode code 248 = .ok (.aload_n 1, 1) := by decide +kernel
theorem d_Law_law_249 : decode code 249 = .ok (.invokevirtual 58, 3) := by decide +kernel
theorem nm_Reader_read : x_nm y_Reader_read 0 = true := by decide +kernel
theorem d_Law_law_252 : decode code 252 = .ok (.aload_n 2, 1) := by decide +kernel
theorem d_Law_law_253 : decode code 253 = .ok (.invokevirtual 61, 3) := by decide +kernel
theorem nm_Model_read : x_nm y_Model_read 0 = true := by decide +kernel
theorem d_Law_law_256 : decode code 256 = .ok (.if_icmp .eq 320, 3) := by decide +kernel
theorem d_Law_law_261 : decode code 261 = .ok (.aload_n 1, 1) := by decide +kernel
theorem d_Law_law_262 : decode code 262 = .ok (.aload_n 0, 1) := by decide +kernel
theorem d_Law_law_263 : decode code 263 = .ok (.iload 4, 2) := by decide +kernel
theorem d_Law_law_265 : decode code 265 = .ok (.iconst 1, 1) := by decide +kernel
theorem d_Law_law_266 : decode code 266 = .ok (.iadd, 1) := by decide +kernel
theorem d_Law_law_267 : decode code 267 = .ok (.iaload, 1) := by decide +kernel
theorem d_Law_law_268 : decode code 268 = .ok (.aload_n 3, 1) := by decide +kernel
theorem d_Law_law_269 : decode code 269 = .ok (.invokestatic 62, 3) := by decide +kernel
theorem nm_Law_count : x_nm y_Law_count 3 = true := by decide +kernel
theorem d_Law_law_272 : decode code 272 = .ok (.istore 5, 2) := by decide +kernel
theorem d_Law_law_274 : decode code 274 = .ok (.aload_n 2, 1) := by decide +kernel
theorem d_Law_law_275 : decode code 275 = .ok (.aload_n 0, 1) := by decide +kernel
theorem d_Law_law_276 : decode code 276 = .ok (.iload 4, 2) := by decide +kernel
theorem d_Law_law_278 : decode code 278 = .ok (.iconst 1, 1) := by decide +kernel
theorem d_Law_law_279 : decode code 279 = .ok (.iadd, 1) := by decide +kernel
theorem d_Law_law_280 : decode code 280 = .ok (.iaload, 1) := by decide +kernel
theorem d_Law_law_281 : decode code 281 = .ok (.invokevirtual 64, 3) := by decide +kernel
theorem nm_Model_count : x_nm y_Model_count 1 = true := by decide +kernel
theorem d_Law_law_284 : decode code 284 = .ok (.istore 6, 2) := by decide +kernel
theorem d_Law_law_286 : decode code 286 = .ok (.aload_n 2, 1) := by decide +kernel
theorem d_Law_law_287 : decode code 287 = .ok (.invokevirtual 50, 3) := by decide +kernel
theorem d_Law_law_290 : decode code 290 = .ok (.iload 5, 2) := by decide +kernel
theorem d_Law_law_292 : decode code 292 = .ok (.if_icmp .eq 5, 3) := by decide +kernel
theorem d_Law_law_297 : decode code 297 = .ok (.iload 5, 2) := by decide +kernel
theorem d_Law_law_299 : decode code 299 = .ok (.ifCond .ne 15, 3) := by decide +kernel
theorem d_Law_law_314 : decode code 314 = .ok (.goto 262, 3) := by decide +kernel
theorem d_Law_law_317 : decode code 317 = .ok (.aload_n 1, 1) := by decide +kernel
theorem d_Law_law_318 : decode code 318 = .ok (.aload_n 0, 1) := by decide +kernel
theorem d_Law_law_319 : decode code 319 = .ok (.iload 4, 2) := by decide +kernel
theorem d_Law_law_321 : decode code 321 = .ok (.iconst 1, 1) := by decide +kernel
theorem d_Law_law_322 : decode code 322 = .ok (.iadd, 1) := by decide +kernel
theorem d_Law_law_323 : decode code 323 = .ok (.iaload, 1) := by decide +kernel
theorem d_Law_law_324 : decode code 324 = .ok (.aload_n 0, 1) := by decide +kernel
theorem d_Law_law_325 : decode code 325 = .ok (.iload 4, 2) := by decide +kernel
theorem d_Law_law_327 : decode code 327 = .ok (.iconst 2, 1) := by decide +kernel
theorem d_Law_law_328 : decode code 328 = .ok (.iadd, 1) := by decide +kernel
theorem d_Law_law_329 : decode code 329 = .ok (.iaload, 1) := by decide +kernel
theorem d_Law_law_330 : decode code 330 = .ok (.aload_n 3, 1) := by decide +kernel
theorem d_Law_law_331 : decode code 331 = .ok (.invokestatic 65, 3) := by decide +kernel
theorem nm_Law_function : x_nm y_Law_function 4 = true := by decide +kernel
theorem d_Law_law_334 : decode code 334 = .ok (.istore 5, 2) := by decide +kernel
theorem d_Law_law_336 : decode code 336 = .ok (.aload_n 2, 1) := by decide +kernel
theorem d_Law_law_337 : decode code 337 = .ok (.aload_n 0, 1) := by decide +kernel
theorem d_Law_law_338 : decode code 338 = .ok (.iload 4, 2) := by decide +kernel
theorem d_Law_law_340 : decode code 340 = .ok (.iconst 1, 1) := by decide +kernel
theorem d_Law_law_341 : decode code 341 = .ok (.iadd, 1) := by decide +kernel
theorem d_Law_law_342 : decode code 342 = .ok (.iaload, 1) := by decide +kernel
theorem d_Law_law_343 : decode code 343 = .ok (.aload_n 0, 1) := by decide +kernel
theorem d_Law_law_344 : decode code 344 = .ok (.iload 4, 2) := by decide +kernel
theorem d_Law_law_346 : decode code 346 = .ok (.iconst 2, 1) := by decide +kernel
theorem d_Law_law_347 : decode code 347 = .ok (.iadd, 1) := by decide +kernel
theorem d_Law_law_348 : decode code 348 = .ok (.iaload, 1) := by decide +kernel
theorem d_Law_law_349 : decode code 349 = .ok (.invokevirtual 68, 3) := by decide +kernel
theorem nm_Model_function : x_nm y_Model_function 2 = true := by decide +kernel
theorem d_Law_law_352 : decode code 352 = .ok (.istore 6, 2) := by decide +kernel
theorem d_Law_law_354 : decode code 354 = .ok (.aload_n 2, 1) := by decide +kernel
theorem d_Law_law_355 : decode code 355 = .ok (.invokevirtual 50, 3) := by decide +kernel
theorem d_Law_law_358 : decode code 358 = .ok (.iload 5, 2) := by decide +kernel
theorem d_Law_law_360 : decode code 360 = .ok (.if_icmp .eq 5, 3) := by decide +kernel
theorem d_Law_law_365 : decode code 365 = .ok (.iload 5, 2) := by decide +kernel
theorem d_Law_law_367 : decode code 367 = .ok (.ifCond .ne 15, 3) := by decide +kernel
theorem d_Law_law_382 : decode code 382 = .ok (.goto 194, 3) := by decide +kernel
theorem d_Law_law_385 : decode code 385 = .ok (.aload_n 1, 1) := by decide +kernel
theorem d_Law_law_386 : decode code 386 = .ok (.aload_n 0, 1) := by decide +kernel
theorem d_Law_law_387 : decode code 387 = .ok (.iload 4, 2) := by decide +kernel
theorem d_Law_law_389 : decode code 389 = .ok (.iconst 1, 1) := by decide +kernel
theorem d_Law_law_390 : decode code 390 = .ok (.iadd, 1) := by decide +kernel
theorem d_Law_law_391 : decode code 391 = .ok (.iaload, 1) := by decide +kernel
theorem d_Law_law_392 : decode code 392 = .ok (.aload_n 0, 1) := by decide +kernel
theorem d_Law_law_393 : decode code 393 = .ok (.iload 4, 2) := by decide +kernel
theorem d_Law_law_395 : decode code 395 = .ok (.iconst 2, 1) := by decide +kernel
theorem d_Law_law_396 : decode code 396 = .ok (.iadd, 1) := by decide +kernel
theorem d_Law_law_397 : decode code 397 = .ok (.iaload, 1) := by decide +kernel
theorem d_Law_law_398 : decode code 398 = .ok (.aload_n 3, 1) := by decide +kernel
theorem d_Law_law_399 : decode code 399 = .ok (.invokestatic 69, 3) := by decide +kernel
theorem nm_Law_export : x_nm y_Law_export 4 = true := by decide +kernel
theorem d_Law_law_402 : decode code 402 = .ok (.istore 5, 2) := by decide +kernel
theorem d_Law_law_404 : decode code 404 = .ok (.aload_n 2, 1) := by decide +kernel
theorem d_Law_law_405 : decode code 405 = .ok (.aload_n 0, 1) := by decide +kernel
theorem d_Law_law_406 : decode code 406 = .ok (.iload 4, 2) := by decide +kernel
theorem d_Law_law_408 : decode code 408 = .ok (.iconst 1, 1) := by decide +kernel
theorem d_Law_law_409 : decode code 409 = .ok (.iadd, 1) := by decide +kernel
theorem d_Law_law_410 : decode code 410 = .ok (.iaload, 1) := by decide +kernel
theorem d_Law_law_411 : decode code 411 = .ok (.aload_n 0, 1) := by decide +kernel
theorem d_Law_law_412 : decode code 412 = .ok (.iload 4, 2) := by decide +kernel
theorem d_Law_law_414 : decode code 414 = .ok (.iconst 2, 1) := by decide +kernel
theorem d_Law_law_415 : decode code 415 = .ok (.iadd, 1) := by decide +kernel
theorem d_Law_law_416 : decode code 416 = .ok (.iaload, 1) := by decide +kernel
theorem d_Law_law_417 : decode code 417 = .ok (.invokevirtual 71, 3) := by decide +kernel
theorem nm_Model_export : x_nm y_Model_export 2 = true := by decide +kernel
theorem d_Law_law_420 : decode code 420 = .ok (.istore 6, 2) := by decide +kernel
theorem d_Law_law_422 : decode code 422 = .ok (.aload_n 2, 1) := by decide +kernel
theorem d_Law_law_423 : decode code 423 = .ok (.invokevirtual 50, 3) := by decide +kernel
theorem d_Law_law_426 : decode code 426 = .ok (.iload 5, 2) := by decide +kernel
theorem d_Law_law_428 : decode code 428 = .ok (.if_icmp .eq 5, 3) := by decide +kernel
theorem d_Law_law_433 : decode code 433 = .ok (.iload 5, 2) := by decide +kernel
theorem d_Law_law_435 : decode code 435 = .ok (.ifCond .ne 15, 3) := by decide +kernel
theorem d_Law_law_450 : decode code 450 = .ok (.goto 126, 3) := by decide +kernel
theorem d_Law_law_453 : decode code 453 = .ok (.aload_n 1, 1) := by decide +kernel
theorem d_Law_law_454 : decode code 454 = .ok (.aload_n 0, 1) := by decide +kernel
theorem d_Law_law_455 : decode code 455 = .ok (.iload 4, 2) := by decide +kernel
theorem d_Law_law_457 : decode code 457 = .ok (.iconst 1, 1) := by decide +kernel
theorem d_Law_law_458 : decode code 458 = .ok (.iadd, 1) := by decide +kernel
theorem d_Law_law_459 : decode code 459 = .ok (.iaload, 1) := by decide +kernel
theorem d_Law_law_460 : decode code 460 = .ok (.aload_n 0, 1) := by decide +kernel
theorem d_Law_law_461 : decode code 461 = .ok (.iload 4, 2) := by decide +kernel
theorem d_Law_law_463 : decode code 463 = .ok (.iconst 2, 1) := by decide +kernel
theorem d_Law_law_464 : decode code 464 = .ok (.iadd, 1) := by decide +kernel
theorem d_Law_law_465 : decode code 465 = .ok (.iaload, 1) := by decide +kernel
theorem d_Law_law_466 : decode code 466 = .ok (.aload_n 3, 1) := by decide +kernel
theorem d_Law_law_467 : decode code 467 = .ok (.invokestatic 72, 3) := by decide +kernel
theorem nm_Law_global : x_nm y_Law_global 4 = true := by decide +kernel
theorem d_Law_law_470 : decode code 470 = .ok (.istore 5, 2) := by decide +kernel
theorem d_Law_law_472 : decode code 472 = .ok (.aload_n 2, 1) := by decide +kernel
theorem d_Law_law_473 : decode code 473 = .ok (.aload_n 0, 1) := by decide +kernel
theorem d_Law_law_474 : decode code 474 = .ok (.iload 4, 2) := by decide +kernel
theorem d_Law_law_476 : decode code 476 = .ok (.iconst 1, 1) := by decide +kernel
theorem d_Law_law_477 : decode code 477 = .ok (.iadd, 1) := by decide +kernel
theorem d_Law_law_478 : decode code 478 = .ok (.iaload, 1) := by decide +kernel
theorem d_Law_law_479 : decode code 479 = .ok (.aload_n 0, 1) := by decide +kernel
theorem d_Law_law_480 : decode code 480 = .ok (.iload 4, 2) := by decide +kernel
theorem d_Law_law_482 : decode code 482 = .ok (.iconst 2, 1) := by decide +kernel
theorem d_Law_law_483 : decode code 483 = .ok (.iadd, 1) := by decide +kernel
theorem d_Law_law_484 : decode code 484 = .ok (.iaload, 1) := by decide +kernel
theorem d_Law_law_485 : decode code 485 = .ok (.invokevirtual 74, 3) := by decide +kernel
theorem nm_Model_global : x_nm y_Model_global 2 = true := by decide +kernel
theorem d_Law_law_488 : decode code 488 = .ok (.istore 6, 2) := by decide +kernel
theorem d_Law_law_490 : decode code 490 = .ok (.aload_n 2, 1) := by decide +kernel
theorem d_Law_law_491 : decode code 491 = .ok (.invokevirtual 50, 3) := by decide +kernel
theorem d_Law_law_494 : decode code 494 = .ok (.iload 5, 2) := by decide +kernel
theorem d_Law_law_496 : decode code 496 = .ok (.if_icmp .eq 5, 3) := by decide +kernel
theorem d_Law_law_501 : decode code 501 = .ok (.iload 5, 2) := by decide +kernel
theorem d_Law_law_503 : decode code 503 = .ok (.ifCond .ne 15, 3) := by decide +kernel
theorem d_Law_law_518 : decode code 518 = .ok (.goto 58, 3) := by decide +kernel
theorem d_Law_law_521 : decode code 521 = .ok (.aload_n 1, 1) := by decide +kernel
theorem d_Law_law_522 : decode code 522 = .ok (.aload_n 0, 1) := by decide +kernel
theorem d_Law_law_523 : decode code 523 = .ok (.iload 4, 2) := by decide +kernel
theorem d_Law_law_525 : decode code 525 = .ok (.iconst 1, 1) := by decide +kernel
theorem d_Law_law_526 : decode code 526 = .ok (.iadd, 1) := by decide +kernel
theorem d_Law_law_527 : decode code 527 = .ok (.iaload, 1) := by decide +kernel
theorem d_Law_law_528 : decode code 528 = .ok (.aload_n 3, 1) := by decide +kernel
theorem d_Law_law_529 : decode code 529 = .ok (.invokestatic 75, 3) := by decide +kernel
theorem nm_Law_initial : x_nm y_Law_initial 3 = true := by decide +kernel
theorem d_Law_law_532 : decode code 532 = .ok (.istore 5, 2) := by decide +kernel
theorem d_Law_law_534 : decode code 534 = .ok (.aload_n 2, 1) := by decide +kernel
theorem d_Law_law_535 : decode code 535 = .ok (.aload_n 0, 1) := by decide +kernel
theorem d_Law_law_536 : decode code 536 = .ok (.iload 4, 2) := by decide +kernel
theorem d_Law_law_538 : decode code 538 = .ok (.iconst 1, 1) := by decide +kernel
theorem d_Law_law_539 : decode code 539 = .ok (.iadd, 1) := by decide +kernel
theorem d_Law_law_540 : decode code 540 = .ok (.iaload, 1) := by decide +kernel
theorem d_Law_law_541 : decode code 541 = .ok (.invokevirtual 77, 3) := by decide +kernel
theorem nm_Model_initial : x_nm y_Model_initial 1 = true := by decide +kernel
theorem d_Law_law_544 : decode code 544 = .ok (.lstore 6, 2) := by decide +kernel
theorem d_Law_law_546 : decode code 546 = .ok (.aload_n 2, 1) := by decide +kernel
theorem d_Law_law_547 : decode code 547 = .ok (.invokevirtual 50, 3) := by decide +kernel
theorem d_Law_law_550 : decode code 550 = .ok (.iload 5, 2) := by decide +kernel
theorem d_Law_law_552 : decode code 552 = .ok (.if_icmp .eq 5, 3) := by decide +kernel
theorem d_Law_law_557 : decode code 557 = .ok (.iload 5, 2) := by decide +kernel
theorem d_Law_law_559 : decode code 559 = .ok (.ifCond .ne 14, 3) := by decide +kernel
theorem d_Law_law_573 : decode code 573 = .ok (.goto 3, 3) := by decide +kernel
theorem d_Law_law_33 : decode code 33 = .ok (.aload_n 0, 1) := by decide +kernel
theorem d_Law_law_34 : decode code 34 = .ok (.iload 4, 2) := by decide +kernel
theorem d_Law_law_36 : decode code 36 = .ok (.iaload, 1) := by decide +kernel
theorem d_Law_law_37 : decode code 37 = .ok (.bipush 7, 2) := by decide +kernel
theorem d_Law_law_39 : decode code 39 = .ok (.iand, 1) := by decide +kernel
theorem d_Law_law_40 : decode code 40 = .ok (.tableswitch 536 0 7 #[48, 152, 208, 221, 277, 345, 413, 481], 48) := by decide +kernel
