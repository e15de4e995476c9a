def y_Cursor_append : MethodName := ⟨"WasmReader$Cursor", "append", "(I)V"⟩
def y_Cursor_span : MethodName := ⟨"WasmReader$Cursor", "span", "(II)V"⟩
def y_Cursor_fail : MethodName := ⟨"WasmReader$Cursor", "fail", "()V"⟩
def y_Cursor_more : MethodName := ⟨"WasmReader$Cursor", "more", "()Z"⟩
def y_Cursor_nextByte : MethodName := ⟨"WasmReader$Cursor", "nextByte", "()I"⟩
def y_Cursor_expect : MethodName := ⟨"WasmReader$Cursor", "expect", "(I)V"⟩
def y_Grammar_init : MethodName := ⟨"WasmReader$Grammar", "<init>", "(LWasmReader$Cursor;LWasmReader$WasmModule;[Z)V"⟩
def y_Grammar_header : MethodName := ⟨"WasmReader$Grammar", "header", "()V"⟩
def y_Grammar_sections : MethodName := ⟨"WasmReader$Grammar", "sections", "()V"⟩
def y_WasmModule_clear : MethodName := ⟨"WasmReader$WasmModule", "clear", "()V"⟩
def y_Reader_read : MethodName := ⟨"WasmReader", "read", "()I"⟩
theorem m_166 : Cond.fieldLink "WasmReader$Cursor" 15 "WasmReader$Cursor" "length" "I" ∈ xtb := x_in (List.mem_of_getElem? (i := 128) (by decide +kernel)) (by decide +kernel)
theorem m_167 : Cond.fieldLink "WasmReader$Cursor" 19 "WasmReader$Cursor" "position" "I" ∈ xtb := x_in (List.mem_of_getElem? (i := 129) (by decide +kernel)) (by decide +kernel)
theorem m_168 : Cond.fieldLink "WasmReader$Cursor" 22 "WasmReader$Cursor" "limit" "I" ∈ xtb := x_in (List.mem_of_getElem? (i := 131) (by decide +kernel)) (by decide +kernel)
theorem m_169 : Cond.fieldLink "WasmReader$Cursor" 25 "WasmReader$Cursor" "malformed" "Z" ∈ xtb := x_in (List.mem_of_getElem? (i := 133) (by decide +kernel)) (by decide +kernel)
theorem m_170 : Cond.methodLink "WasmReader$Cursor" 29 y_Cursor_nextByte ∈ xtb := x_in (List.mem_of_getElem? (i := 502) (by decide +kernel)) (by decide +kernel)
theorem m_171 : Cond.code y_Cursor_nextByte prog_2_method_6_code 2 (some .int) ∈ xtb := x_in (List.mem_of_getElem? (i := 505) (by decide +kernel)) (by decide +kernel)
theorem m_172 : Cond.instanceMethod y_Cursor_nextByte ∈ xtb := x_in (List.mem_of_getElem? (i := 503) (by decide +kernel)) (by decide +kernel)
theorem m_173 : Cond.selects "WasmReader$Cursor" y_Cursor_nextByte y_Cursor_nextByte ∈ xtb := x_in (List.mem_of_getElem? (i := 504) (by decide +kernel)) (by decide +kernel)
theorem m_174 : Cond.methodLink "WasmReader$Cursor" 33 y_Cursor_fail ∈ xtb := x_in (List.mem_of_getElem? (i := 506) (by decide +kernel)) (by decide +kernel)
theorem m_175 : Cond.code y_Cursor_fail prog_2_method_5_code 1 none ∈ xtb := x_in (List.mem_of_getElem? (i := 509) (by decide +kernel)) (by decide +kernel)
theorem m_176 : Cond.instanceMethod y_Cursor_fail ∈ xtb := x_in (List.mem_of_getElem? (i := 507) (by decide +kernel)) (by decide +kernel)
theorem m_177 : Cond.selects "WasmReader$Cursor" y_Cursor_fail y_Cursor_fail ∈ xtb := x_in (List.mem_of_getElem? (i := 508) (by decide +kernel)) (by decide +kernel)
theorem m_178 : Cond.methodLink "WasmReader$Grammar" 3 objectInit ∈ xtb := x_in (List.mem_of_getElem? (i := 483) (by decide +kernel)) (by decide +kernel)
theorem m_179 : Cond.fieldLink "WasmReader$Grammar" 9 "WasmReader$Grammar" "cursor" "LWasmReader$Cursor;" ∈ xtb := x_in (List.mem_of_getElem? (i := 484) (by decide +kernel)) (by decide +kernel)
theorem m_180 : Cond.fieldLink "WasmReader$Grammar" 15 "WasmReader$Grammar" "module" "LWasmReader$WasmModule;" ∈ xtb := x_in (List.mem_of_getElem? (i := 485) (by decide +kernel)) (by decide +kernel)
theorem m_181 : Cond.fieldLink "WasmReader$Grammar" 19 "WasmReader$Grammar" "elseMayCome" "[Z" ∈ xtb := x_in (List.mem_of_getElem? (i := 486) (by decide +kernel)) (by decide +kernel)
theorem m_182 : Cond.methodLink "WasmReader$Grammar" 23 y_Cursor_expect ∈ xtb := x_in (List.mem_of_getElem? (i := 498) (by decide +kernel)) (by decide +kernel)
theorem m_183 : Cond.code y_Cursor_expect prog_2_method_7_code 2 none ∈ xtb := x_in (List.mem_of_getElem? (i := 501) (by decide +kernel)) (by decide +kernel)
theorem m_184 : Cond.instanceMethod y_Cursor_expect ∈ xtb := x_in (List.mem_of_getElem? (i := 499) (by decide +kernel)) (by decide +kernel)
theorem m_185 : Cond.selects "WasmReader$Cursor" y_Cursor_expect y_Cursor_expect ∈ xtb := x_in (List.mem_of_getElem? (i := 500) (by decide +kernel)) (by decide +kernel)
theorem m_186 : Cond.methodLink "WasmReader$Grammar" 29 y_Cursor_more ∈ xtb := x_in (List.mem_of_getElem? (i := 514) (by decide +kernel)) (by decide +kernel)
theorem m_187 : Cond.code y_Cursor_more prog_2_method_4_code 1 (some .boolean) ∈ xtb := x_in (List.mem_of_getElem? (i := 517) (by decide +kernel)) (by decide +kernel)
theorem m_188 : Cond.instanceMethod y_Cursor_more ∈ xtb := x_in (List.mem_of_getElem? (i := 515) (by decide +kernel)) (by decide +kernel)
theorem m_189 : Cond.selects "WasmReader$Cursor" y_Cursor_more y_Cursor_more ∈ xtb := x_in (List.mem_of_getElem? (i := 516) (by decide +kernel)) (by decide +kernel)
theorem m_190 : Cond.fieldLink "WasmReader$Grammar" 94 "WasmReader$WasmModule" "functions" "LWasmReader$Functions;" ∈ xtb := x_in (List.mem_of_getElem? (i := 360) (by decide +kernel)) (by decide +kernel)
theorem m_191 : Cond.fieldLink "WasmReader$Grammar" 98 "WasmReader$Functions" "bodies" "I" ∈ xtb := x_in (List.mem_of_getElem? (i := 198) (by decide +kernel)) (by decide +kernel)
theorem m_192 : Cond.fieldLink "WasmReader$Grammar" 103 "WasmReader$Functions" "count" "I" ∈ xtb := x_in (List.mem_of_getElem? (i := 190) (by decide +kernel)) (by decide +kernel)
theorem m_193 : Cond.fieldLink "WasmReader$Grammar" 106 "WasmReader$Functions" "imported" "I" ∈ xtb := x_in (List.mem_of_getElem? (i := 194) (by decide +kernel)) (by decide +kernel)
theorem m_194 : Cond.fieldLink "WasmReader$WasmModule" 59 "WasmReader$Types" "count" "I" ∈ xtb := x_in (List.mem_of_getElem? (i := 161) (by decide +kernel)) (by decide +kernel)
theorem m_195 : Cond.fieldLink "WasmReader$WasmModule" 63 "WasmReader$Functions" "count" "I" ∈ xtb := x_in (List.mem_of_getElem? (i := 189) (by decide +kernel)) (by decide +kernel)
theorem m_196 : Cond.fieldLink "WasmReader$WasmModule" 64 "WasmReader$Functions" "imported" "I" ∈ xtb := x_in (List.mem_of_getElem? (i := 193) (by decide +kernel)) (by decide +kernel)
theorem m_197 : Cond.fieldLink "WasmReader$WasmModule" 67 "WasmReader$Functions" "bodies" "I" ∈ xtb := x_in (List.mem_of_getElem? (i := 197) (by decide +kernel)) (by decide +kernel)
theorem m_198 : Cond.fieldLink "WasmReader$WasmModule" 70 "WasmReader$Globals" "count" "I" ∈ xtb := x_in (List.mem_of_getElem? (i := 243) (by decide +kernel)) (by decide +kernel)
theorem m_199 : Cond.fieldLink "WasmReader$WasmModule" 71 "WasmReader$Globals" "imported" "I" ∈ xtb := x_in (List.mem_of_getElem? (i := 246) (by decide +kernel)) (by decide +kernel)
theorem m_200 : Cond.fieldLink "WasmReader$WasmModule" 72 "WasmReader$Exports" "count" "I" ∈ xtb := x_in (List.mem_of_getElem? (i := 283) (by decide +kernel)) (by decide +kernel)
theorem m_201 : Cond.fieldLink "WasmReader$WasmModule" 73 "WasmReader$Segments" "count" "I" ∈ xtb := x_in (List.mem_of_getElem? (i := 312) (by decide +kernel)) (by decide +kernel)
theorem m_202 : Cond.fieldLink "WasmReader$WasmModule" 74 "WasmReader$Sized" "count" "I" ∈ xtb := x_in (List.mem_of_getElem? (i := 342) (by decide +kernel)) (by decide +kernel)
theorem m_203 : Cond.fieldLink "WasmReader$WasmModule" 75 "WasmReader$WasmModule" "imports" "I" ∈ xtb := x_in (List.mem_of_getElem? (i := 386) (by decide +kernel)) (by decide +kernel)
theorem m_204 : Cond.fieldLink "WasmReader$WasmModule" 78 "WasmReader$WasmModule" "start" "I" ∈ xtb := x_in (List.mem_of_getElem? (i := 389) (by decide +kernel)) (by decide +kernel)
theorem m_205 : Cond.fieldLink "WasmReader$WasmModule" 81 "WasmReader$WasmModule" "partTooLarge" "Z" ∈ xtb := x_in (List.mem_of_getElem? (i := 393) (by decide +kernel)) (by decide +kernel)
theorem m_206 : Cond.methodLink "WasmReader" 48 y_WasmModule_clear ∈ xtb := x_in (List.mem_of_getElem? (i := 470) (by decide +kernel)) (by decide +kernel)
theorem m_207 : Cond.code y_WasmModule_clear prog_12_method_2_code 1 none ∈ xtb := x_in (List.mem_of_getElem? (i := 473) (by decide +kernel)) (by decide +kernel)
theorem m_208 : Cond.instanceMethod y_WasmModule_clear ∈ xtb := x_in (List.mem_of_getElem? (i := 471) (by decide +kernel)) (by decide +kernel)
theorem m_209 : Cond.selects "WasmReader$WasmModule" y_WasmModule_clear y_WasmModule_clear ∈ xtb := x_in (List.mem_of_getElem? (i := 472) (by decide +kernel)) (by decide +kernel)
theorem m_210 : Cond.fieldLink "WasmReader" 51 "WasmReader$Cursor" "malformed" "Z" ∈ xtb := x_in (List.mem_of_getElem? (i := 134) (by decide +kernel)) (by decide +kernel)
theorem m_211 : Cond.fieldLink "WasmReader" 34 "WasmReader$Cursor" "length" "I" ∈ xtb := x_in (List.mem_of_getElem? (i := 127) (by decide +kernel)) (by decide +kernel)
theorem m_212 : Cond.methodLink "WasmReader" 55 y_Cursor_span ∈ xtb := x_in (List.mem_of_getElem? (i := 474) (by decide +kernel)) (by decide +kernel)
theorem m_213 : Cond.code y_Cursor_span prog_2_method_3_code 3 none ∈ xtb := x_in (List.mem_of_getElem? (i := 477) (by decide +kernel)) (by decide +kernel)
theorem m_214 : Cond.instanceMethod y_Cursor_span ∈ xtb := x_in (List.mem_of_getElem? (i := 475) (by decide +kernel)) (by decide +kernel)
theorem m_215 : Cond.selects "WasmReader$Cursor" y_Cursor_span y_Cursor_span ∈ xtb := x_in (List.mem_of_getElem? (i := 476) (by decide +kernel)) (by decide +kernel)
theorem m_216 : Cond.classLink "WasmReader" 59 "WasmReader$Grammar" ∈ xtb := x_in (List.mem_of_getElem? (i := 478) (by decide +kernel)) (by decide +kernel)
theorem m_217 : Cond.instantiable "WasmReader$Grammar" 3 ∈ xtb := x_in (List.mem_of_getElem? (i := 479) (by decide +kernel)) (by decide +kernel)
theorem m_218 : Cond.initialized "WasmReader$Grammar" ∈ xtb := x_in (List.mem_of_getElem? (i := 105) (by decide +kernel)) (by decide +kernel)
theorem m_219 : Cond.methodLink "WasmReader" 61 y_Grammar_init ∈ xtb := x_in (List.mem_of_getElem? (i := 480) (by decide +kernel)) (by decide +kernel)
theorem m_220 : Cond.code y_Grammar_init prog_6_method_1_code 4 none ∈ xtb := x_in (List.mem_of_getElem? (i := 482) (by decide +kernel)) (by decide +kernel)
theorem m_221 : Cond.instanceMethod y_Grammar_init ∈ xtb := x_in (List.mem_of_getElem? (i := 481) (by decide +kernel)) (by decide +kernel)
theorem m_222 : Cond.methodLink "WasmReader" 64 y_Grammar_header ∈ xtb := x_in (List.mem_of_getElem? (i := 494) (by decide +kernel)) (by decide +kernel)
theorem m_223 : Cond.code y_Grammar_header prog_6_method_2_code 1 none ∈ xtb := x_in (List.mem_of_getElem? (i := 497) (by decide +kernel)) (by decide +kernel)
theorem m_224 : Cond.instanceMethod y_Grammar_header ∈ xtb := x_in (List.mem_of_getElem? (i := 495) (by decide +kernel)) (by decide +kernel)
theorem m_225 : Cond.selects "WasmReader$Grammar" y_Grammar_header y_Grammar_header ∈ xtb := x_in (List.mem_of_getElem? (i := 496) (by decide +kernel)) (by decide +kernel)
theorem m_226 : Cond.methodLink "WasmReader" 67 y_Grammar_sections ∈ xtb := x_in (List.mem_of_getElem? (i := 510) (by decide +kernel)) (by decide +kernel)
theorem m_227 : Cond.code y_Grammar_sections prog_6_method_3_code 5 none ∈ xtb := x_in (List.mem_of_getElem? (i := 513) (by decide +kernel)) (by decide +kernel)
theorem m_228 : Cond.instanceMethod y_Grammar_sections ∈ xtb := x_in (List.mem_of_getElem? (i := 511) (by decide +kernel)) (by decide +kernel)
theorem m_229 : Cond.selects "WasmReader$Grammar" y_Grammar_sections y_Grammar_sections ∈ xtb := x_in (List.mem_of_getElem? (i := 512) (by decide +kernel)) (by decide +kernel)
theorem m_230 : Cond.fieldLink "WasmReader" 82 "WasmReader" "present" "Z" ∈ xtb := x_in (List.mem_of_getElem? (i := 454) (by decide +kernel)) (by decide +kernel)
theorem d_Cursor_append_0 : decode prog_2_method_2_code 0 = .ok (.bipush 24, 2) := by decide +kernel
theorem d_Cursor_append_2 : decode prog_2_method_2_code 2 = .ok (.istore_n 2, 1) := by decide +kernel
theorem d_Cursor_append_3 : decode prog_2_method_2_code 3 = .ok (.iload_n 2, 1) := by decide +kernel
theorem d_Cursor_append_4 : decode prog_2_method_2_code 4 = .ok (.ifCond .lt 44, 3) := by decide +kernel
theorem d_Cursor_append_7 : decode prog_2_method_2_code 7 = .ok (.aload_n 0, 1) := by decide +kernel
theorem d_Cursor_append_8 : decode prog_2_method_2_code 8 = .ok (.getfield 15, 3) := by decide +kernel
theorem d_Cursor_append_11 : decode prog_2_method_2_code 11 = .ok (.aload_n 0, 1) := by decide +kernel
theorem d_Cursor_append_12 : decode prog_2_method_2_code 12 = .ok (.getfield 9, 3) := by decide +kernel
theorem d_Cursor_append_15 : decode prog_2_method_2_code 15 = .ok (.arraylength, 1) := by decide +kernel
theorem d_Cursor_append_16 : decode prog_2_method_2_code 16 = .ok (.if_icmp .ge 26, 3) := by decide +kernel
theorem d_Cursor_append_19 : decode prog_2_method_2_code 19 = .ok (.aload_n 0, 1) := by decide +kernel
theorem d_Cursor_append_20 : decode prog_2_method_2_code 20 = .ok (.getfield 9, 3) := by decide +kernel
theorem d_Cursor_append_23 : decode prog_2_method_2_code 23 = .ok (.aload_n 0, 1) := by decide +kernel
theorem d_Cursor_append_24 : decode prog_2_method_2_code 24 = .ok (.getfield 15, 3) := by decide +kernel
theorem d_Cursor_append_27 : decode prog_2_method_2_code 27 = .ok (.iload_n 1, 1) := by decide +kernel
theorem d_Cursor_append_28 : decode prog_2_method_2_code 28 = .ok (.iload_n 2, 1) := by decide +kernel
theorem d_Cursor_append_29 : decode prog_2_method_2_code 29 = .ok (.ishr, 1) := by decide +kernel
theorem d_Cursor_append_30 : decode prog_2_method_2_code 30 = .ok (.i2b, 1) := by decide +kernel
theorem d_Cursor_append_31 : decode prog_2_method_2_code 31 = .ok (.bastore, 1) := by decide +kernel
theorem d_Cursor_append_32 : decode prog_2_method_2_code 32 = .ok (.aload_n 0, 1) := by decide +kernel
theorem d_Cursor_append_33 : decode prog_2_method_2_code 33 = .ok (.dup, 1) := by decide +kernel
theorem d_Cursor_append_34 : decode prog_2_method_2_code 34 = .ok (.getfield 15, 3) := by decide +kernel
theorem d_Cursor_append_37 : decode prog_2_method_2_code 37 = .ok (.iconst 1, 1) := by decide +kernel
theorem d_Cursor_append_38 : decode prog_2_method_2_code 38 = .ok (.iadd, 1) := by decide +kernel
theorem d_Cursor_append_39 : decode prog_2_method_2_code 39 = .ok (.putfield 15, 3) := by decide +kernel
theorem d_Cursor_append_42 : decode prog_2_method_2_code 42 = .ok (.iinc 2 (-8), 3) := by decide +kernel
theorem d_Cursor_append_45 : decode prog_2_method_2_code 45 = .ok (.goto (-42), 3) := by decide +kernel
theorem d_Cursor_append_48 : decode prog_2_method_2_code 48 = .ok (.return_, 1) := by decide +kernel
theorem d_Cursor_span_0 : decode prog_2_method_3_code 0 = .ok (.aload_n 0, 1) := by decide +kernel
theorem d_Cursor_span_1 : decode prog_2_method_3_code 1 = .ok (.iload_n 1, 1) := by decide +kernel
theorem d_Cursor_span_2 : decode prog_2_method_3_code 2 = .ok (.putfield 19, 3) := by decide +kernel
theorem d_Cursor_span_5 : decode prog_2_method_3_code 5 = .ok (.aload_n 0, 1) := by decide +kernel
theorem d_Cursor_span_6 : decode prog_2_method_3_code 6 = .ok (.iload_n 2, 1) := by decide +kernel
theorem d_Cursor_span_7 : decode prog_2_method_3_code 7 = .ok (.putfield 22, 3) := by decide +kernel
theorem d_Cursor_span_10 : decode prog_2_method_3_code 10 = .ok (.return_, 1) := by decide +kernel
theorem d_Cursor_fail_0 : decode prog_2_method_5_code 0 = .ok (.aload_n 0, 1) := by decide +kernel
theorem d_Cursor_fail_1 : decode prog_2_method_5_code 1 = .ok (.iconst 1, 1) := by decide +kernel
theorem d_Cursor_fail_2 : decode prog_2_method_5_code 2 = .ok (.putfield 25, 3) := by decide +kernel
theorem d_Cursor_fail_5 : decode prog_2_method_5_code 5 = .ok (.return_, 1) := by decide +kernel
theorem d_Cursor_more_0 : decode prog_2_method_4_code 0 = .ok (.aload_n 0, 1) := by decide +kernel
theorem d_Cursor_more_1 : decode prog_2_method_4_code 1 = .ok (.getfield 25, 3) := by decide +kernel
theorem d_Cursor_more_4 : decode prog_2_method_4_code 4 = .ok (.ifCond .ne 18, 3) := by decide +kernel
theorem d_Cursor_more_22 : decode prog_2_method_4_code 22 = .ok (.iconst 0, 1) := by decide +kernel
theorem d_Cursor_more_23 : decode prog_2_method_4_code 23 = .ok (.ireturn, 1) := by decide +kernel
theorem d_Cursor_nextByte_0 : decode prog_2_method_6_code 0 = .ok (.aload_n 0, 1) := by decide +kernel
theorem d_Cursor_nextByte_1 : decode prog_2_method_6_code 1 = .ok (.getfield 19, 3) := by decide +kernel
theorem d_Cursor_nextByte_4 : decode prog_2_method_6_code 4 = .ok (.ifCond .lt 26, 3) := by decide +kernel
theorem d_Cursor_nextByte_7 : decode prog_2_method_6_code 7 = .ok (.aload_n 0, 1) := by decide +kernel
theorem d_Cursor_nextByte_8 : decode prog_2_method_6_code 8 = .ok (.getfield 19, 3) := by decide +kernel
theorem d_Cursor_nextByte_11 : decode prog_2_method_6_code 11 = .ok (.aload_n 0, 1) := by decide +kernel
theorem d_Cursor_nextByte_12 : decode prog_2_method_6_code 12 = .ok (.getfield 22, 3) := by decide +kernel
theorem d_Cursor_nextByte_15 : decode prog_2_method_6_code 15 = .ok (.if_icmp .ge 15, 3) := by decide +kernel
theorem d_Cursor_nextByte_30 : decode prog_2_method_6_code 30 = .ok (.aload_n 0, 1) := by decide +kernel
theorem d_Cursor_nextByte_31 : decode prog_2_method_6_code 31 = .ok (.iconst 1, 1) := by decide +kernel
theorem d_Cursor_nextByte_32 : decode prog_2_method_6_code 32 = .ok (.putfield 25, 3) := by decide +kernel
theorem d_Cursor_nextByte_35 : decode prog_2_method_6_code 35 = .ok (.iconst 0, 1) := by decide +kernel
theorem d_Cursor_nextByte_36 : decode prog_2_method_6_code 36 = .ok (.ireturn, 1) := by decide +kernel
theorem d_Cursor_expect_0 : decode prog_2_method_7_code 0 = .ok (.aload_n 0, 1) := by decide +kernel
theorem d_Cursor_expect_1 : decode prog_2_method_7_code 1 = .ok (.invokevirtual 29, 3) := by decide +kernel
theorem nm_Cursor_nextByte : x_nm y_Cursor_nextByte 0 = true := by decide +kernel
theorem d_Cursor_expect_4 : decode prog_2_method_7_code 4 = .ok (.iload_n 1, 1) := by decide +kernel
theorem d_Cursor_expect_5 : decode prog_2_method_7_code 5 = .ok (.if_icmp .eq 7, 3) := by decide +kernel
theorem d_Cursor_expect_12 : decode prog_2_method_7_code 12 = .ok (.return_, 1) := by decide +kernel
theorem d_Cursor_expect_8 : decode prog_2_method_7_code 8 = .ok (.aload_n 0, 1) := by decide +kernel
theorem d_Cursor_expect_9 : decode prog_2_method_7_code 9 = .ok (.invokevirtual 33, 3) := by decide +kernel
theorem nm_Cursor_fail : x_nm y_Cursor_fail 0 = true := by decide +kernel
theorem d_Grammar_init_0 : decode prog_6_method_1_code 0 = .ok (.aload_n 0, 1) := by decide +kernel
theorem d_Grammar_init_1 : decode prog_6_method_1_code 1 = .ok (.invokespecial 3, 3) := by decide +kernel
theorem d_Grammar_init_4 : decode prog_6_method_1_code 4 = .ok (.aload_n 0, 1) := by decide +kernel
theorem d_Grammar_init_5 : decode prog_6_method_1_code 5 = .ok (.aload_n 1, 1) := by decide +kernel
theorem d_Grammar_init_6 : decode prog_6_method_1_code 6 = .ok (.putfield 9, 3) := by decide +kernel
theorem d_Grammar_init_9 : decode prog_6_method_1_code 9 = .ok (.aload_n 0, 1) := by decide +kernel
theorem d_Grammar_init_10 : decode prog_6_method_1_code 10 = .ok (.aload_n 2, 1) := by decide +kernel
theorem d_Grammar_init_11 : decode prog_6_method_1_code 11 = .ok (.putfield 15, 3) := by decide +kernel
theorem d_Grammar_init_14 : decode prog_6_method_1_code 14 = .ok (.aload_n 0, 1) := by decide +kernel
theorem d_Grammar_init_15 : decode prog_6_method_1_code 15 = .ok (.aload_n 3, 1) := by decide +kernel
theorem d_Grammar_init_16 : decode prog_6_method_1_code 16 = .ok (.putfield 19, 3) := by decide +kernel
theorem d_Grammar_init_19 : decode prog_6_method_1_code 19 = .ok (.return_, 1) := by decide +kernel
theorem d_Grammar_header_0 : decode prog_6_method_2_code 0 = .ok (.aload_n 0, 1) := by decide +kernel
theorem d_Grammar_header_1 : decode prog_6_method_2_code 1 = .ok (.getfield 9, 3) := by decide +kernel
theorem d_Grammar_header_4 : decode prog_6_method_2_code 4 = .ok (.iconst 0, 1) := by decide +kernel
theorem d_Grammar_header_5 : decode prog_6_method_2_code 5 = .ok (.invokevirtual 23, 3) := by decide +kernel
theorem nm_Cursor_expect : x_nm y_Cursor_expect 1 = true := by decide +kernel
theorem d_Grammar_header_8 : decode prog_6_method_2_code 8 = .ok (.aload_n 0, 1) := by decide +kernel
theorem d_Grammar_header_9 : decode prog_6_method_2_code 9 = .ok (.getfield 9, 3) := by decide +kernel
theorem d_Grammar_header_12 : decode prog_6_method_2_code 12 = .ok (.bipush 97, 2) := by decide +kernel
theorem d_Grammar_header_14 : decode prog_6_method_2_code 14 = .ok (.invokevirtual 23, 3) := by decide +kernel
theorem d_Grammar_header_17 : decode prog_6_method_2_code 17 = .ok (.aload_n 0, 1) := by decide +kernel
theorem d_Grammar_header_18 : decode prog_6_method_2_code 18 = .ok (.getfield 9, 3) := by decide +kernel
theorem d_Grammar_header_21 : decode prog_6_method_2_code 21 = .ok (.bipush 115, 2) := by decide +kernel
theorem d_Grammar_header_23 : decode prog_6_method_2_code 23 = .ok (.invokevirtual 23, 3) := by decide +kernel
theorem d_Grammar_header_26 : decode prog_6_method_2_code 26 = .ok (.aload_n 0, 1) := by decide +kernel
theorem d_Grammar_header_27 : decode prog_6_method_2_code 27 = .ok (.getfield 9, 3) := by decide +kernel
theorem d_Grammar_header_30 : decode prog_6_method_2_code 30 = .ok (.bipush 109, 2) := by decide +kernel
theorem d_Grammar_header_32 : decode prog_6_method_2_code 32 = .ok (.invokevirtual 23, 3) := by decide +kernel
theorem d_Grammar_header_35 : decode prog_6_method_2_code 35 = .ok (.aload_n 0, 1) := by decide +kernel
theorem d_Grammar_header_36 : decode prog_6_method_2_code 36 = .ok (.getfield 9, 3) := by decide +kernel
theorem d_Grammar_header_39 : decode prog_6_method_2_code 39 = .ok (.iconst 1, 1) := by decide +kernel
theorem d_Grammar_header_40 : decode prog_6_method_2_code 40 = .ok (.invokevirtual 23, 3) := by decide +kernel
theorem d_Grammar_header_43 : decode prog_6_method_2_code 43 = .ok (.aload_n 0, 1) := by decide +kernel
theorem d_Grammar_header_44 : decode prog_6_method_2_code 44 = .ok (.getfield 9, 3) := by decide +kernel
theorem d_Grammar_header_47 : decode prog_6_method_2_code 47 = .ok (.iconst 0, 1) := by decide +kernel
theorem d_Grammar_header_48 : decode prog_6_method_2_code 48 = .ok (.invokevirtual 23, 3) := by decide +kernel
theorem d_Grammar_header_51 : decode prog_6_method_2_code 51 = .ok (.aload_n 0, 1) := by decide +kernel
theorem d_Grammar_header_52 : decode prog_6_method_2_code 52 = .ok (.getfield 9, 3) := by decide +kernel
theorem d_Grammar_header_55 : decode prog_6_method_2_code 55 = .ok (.iconst 0, 1) := by decide +kernel
theorem d_Grammar_header_56 : decode prog_6_method_2_code 56 = .ok (.invokevirtual 23, 3) := by decide +kernel
theorem d_Grammar_header_59 : decode prog_6_method_2_code 59 = .ok (.aload_n 0, 1) := by decide +kernel
theorem d_Grammar_header_60 : decode prog_6_method_2_code 60 = .ok (.getfield 9, 3) := by decide +kernel
theorem d_Grammar_header_63 : decode prog_6_method_2_code 63 = .ok (.iconst 0, 1) := by decide +kernel
theorem d_Grammar_header_64 : decode prog_6_method_2_code 64 = .ok (.invokevirtual 23, 3) := by decide +kernel
theorem d_Grammar_header_67 : decode prog_6_method_2_code 67 = .ok (.return_, 1) := by decide +kernel
theorem d_Grammar_sections_0 : decode prog_6_method_3_code 0 = .ok (.iconst 0, 1) := by decide +kernel
theorem d_Grammar_sections_1 : decode prog_6_method_3_code 1 = .ok (.istore_n 1, 1) := by decide +kernel
theorem d_Grammar_sections_2 : decode prog_6_method_3_code 2 = .ok (.iconst 0, 1) := by decide +kernel
theorem d_Grammar_sections_3 : decode prog_6_method_3_code 3 = .ok (.istore_n 2, 1) := by decide +kernel
theorem d_Grammar_sections_4 : decode prog_6_method_3_code 4 = .ok (.iload_n 2, 1) := by decide +kernel
theorem d_Grammar_sections_5 : decode prog_6_method_3_code 5 = .ok (.sipush 4000, 3) := by decide +kernel
theorem d_Grammar_sections_8 : decode prog_6_method_3_code 8 = .ok (.if_icmp .ge 232, 3) := by decide +kernel
theorem d_Grammar_sections_11 : decode prog_6_method_3_code 11 = .ok (.aload_n 0, 1) := by decide +kernel
theorem d_Grammar_sections_12 : decode prog_6_method_3_code 12 = .ok (.getfield 9, 3) := by decide +kernel
theorem d_Grammar_sections_15 : decode prog_6_method_3_code 15 = .ok (.invokevirtual 29, 3) := by decide +kernel
theorem nm_Cursor_more : x_nm y_Cursor_more 0 = true := by decide +kernel
theorem d_Grammar_sections_18 : decode prog_6_method_3_code 18 = .ok (.ifCond .eq 222, 3) := by decide +kernel
theorem d_Grammar_sections_240 : decode prog_6_method_3_code 240 = .ok (.aload_n 0, 1) := by decide +kernel
theorem d_Grammar_sections_241 : decode prog_6_method_3_code 241 = .ok (.getfield 15, 3) := by decide +kernel
theorem d_Grammar_sections_244 : decode prog_6_method_3_code 244 = .ok (.getfield 94, 3) := by decide +kernel
theorem d_Grammar_sections_247 : decode prog_6_method_3_code 247 = .ok (.getfield 98, 3) := by decide +kernel
theorem d_Grammar_sections_250 : decode prog_6_method_3_code 250 = .ok (.aload_n 0, 1) := by decide +kernel
theorem d_Grammar_sections_251 : decode prog_6_method_3_code 251 = .ok (.getfield 15, 3) := by decide +kernel
theorem d_Grammar_sections_254 : decode prog_6_method_3_code 254 = .ok (.getfield 94, 3) := by decide +kernel
theorem d_Grammar_sections_257 : decode prog_6_method_3_code 257 = .ok (.getfield 103, 3) := by decide +kernel
theorem d_Grammar_sections_260 : decode prog_6_method_3_code 260 = .ok (.aload_n 0, 1) := by decide +kernel
theorem d_Grammar_sections_261 : decode prog_6_method_3_code 261 = .ok (.getfield 15, 3) := by decide +kernel
theorem d_Grammar_sections_264 : decode prog_6_method_3_code 264 = .ok (.getfield 94, 3) := by decide +kernel
theorem d_Grammar_sections_267 : decode prog_6_method_3_code 267 = .ok (.getfield 106, 3) := by decide +kernel
theorem d_Grammar_sections_270 : decode prog_6_method_3_code 270 = .ok (.isub, 1) := by decide +kernel
theorem d_Grammar_sections_271 : decode prog_6_method_3_code 271 = .ok (.if_icmp .eq 10, 3) := by decide +kernel
theorem d_Grammar_sections_281 : decode prog_6_method_3_code 281 = .ok (.return_, 1) := by decide +kernel
theorem d_WasmModule_clear_0 : decode prog_12_method_2_code 0 = .ok (.aload_n 0, 1) := by decide +kernel
theorem d_WasmModule_clear_1 : decode prog_12_method_2_code 1 = .ok (.getfield 12, 3) := by decide +kernel
theorem d_WasmModule_clear_4 : decode prog_12_method_2_code 4 = .ok (.iconst 0, 1) := by decide +kernel
theorem d_WasmModule_clear_5 : decode prog_12_method_2_code 5 = .ok (.putfield 59, 3) := by decide +kernel
theorem d_WasmModule_clear_8 : decode prog_12_method_2_code 8 = .ok (.aload_n 0, 1) := by decide +kernel
theorem d_WasmModule_clear_9 : decode prog_12_method_2_code 9 = .ok (.getfield 21, 3) := by decide +kernel
theorem d_WasmModule_clear_12 : decode prog_12_method_2_code 12 = .ok (.iconst 0, 1) := by decide +kernel
theorem d_WasmModule_clear_13 : decode prog_12_method_2_code 13 = .ok (.putfield 63, 3) := by decide +kernel
theorem d_WasmModule_clear_16 : decode prog_12_method_2_code 16 = .ok (.aload_n 0, 1) := by decide +kernel
theorem d_WasmModule_clear_17 : decode prog_12_method_2_code 17 = .ok (.getfield 21, 3) := by decide +kernel
theorem d_WasmModule_clear_20 : decode prog_12_method_2_code 20 = .ok (.iconst 0, 1) := by decide +kernel
theorem d_WasmModule_clear_21 : decode prog_12_method_2_code 21 = .ok (.putfield 64, 3) := by decide +kernel
theorem d_WasmModule_clear_24 : decode prog_12_method_2_code 24 = .ok (.aload_n 0, 1) := by decide +kernel
theorem d_WasmModule_clear_25 : decode prog_12_method_2_code 25 = .ok (.getfield 21, 3) := by decide +kernel
theorem d_WasmModule_clear_28 : decode prog_12_method_2_code 28 = .ok (.iconst 0, 1) := by decide +kernel
theorem d_WasmModule_clear_29 : decode prog_12_method_2_code 29 = .ok (.putfield 67, 3) := by decide +kernel
theorem d_WasmModule_clear_32 : decode prog_12_method_2_code 32 = .ok (.aload_n 0, 1) := by decide +kernel
theorem d_WasmModule_clear_33 : decode prog_12_method_2_code 33 = .ok (.getfield 28, 3) := by decide +kernel
theorem d_WasmModule_clear_36 : decode prog_12_method_2_code 36 = .ok (.iconst 0, 1) := by decide +kernel
theorem d_WasmModule_clear_37 : decode prog_12_method_2_code 37 = .ok (.putfield 70, 3) := by decide +kernel
theorem d_WasmModule_clear_40 : decode prog_12_method_2_code 40 = .ok (.aload_n 0, 1) := by decide +kernel
theorem d_WasmModule_clear_41 : decode prog_12_method_2_code 41 = .ok (.getfield 28, 3) := by decide +kernel
theorem d_WasmModule_clear_44 : decode prog_12_method_2_code 44 = .ok (.iconst 0, 1) := by decide +kernel
theorem d_WasmModule_clear_45 : decode prog_12_method_2_code 45 = .ok (.putfield 71, 3) := by decide +kernel
theorem d_WasmModule_clear_48 : decode prog_12_method_2_code 48 = .ok (.aload_n 0, 1) := by decide +kernel
theorem d_WasmModule_clear_49 : decode prog_12_method_2_code 49 = .ok (.getfield 35, 3) := by decide +kernel
theorem d_WasmModule_clear_52 : decode prog_12_method_2_code 52 = .ok (.iconst 0, 1) := by decide +kernel
theorem d_WasmModule_clear_53 : decode prog_12_method_2_code 53 = .ok (.putfield 72, 3) := by decide +kernel
theorem d_WasmModule_clear_56 : decode prog_12_method_2_code 56 = .ok (.aload_n 0, 1) := by decide +kernel
theorem d_WasmModule_clear_57 : decode prog_12_method_2_code 57 = .ok (.getfield 42, 3) := by decide +kernel
theorem d_WasmModule_clear_60 : decode prog_12_method_2_code 60 = .ok (.iconst 0, 1) := by decide +kernel
theorem d_WasmModule_clear_61 : decode prog_12_method_2_code 61 = .ok (.putfield 73, 3) := by decide +kernel
theorem d_WasmModule_clear_64 : decode prog_12_method_2_code 64 = .ok (.aload_n 0, 1) := by decide +kernel
theorem d_WasmModule_clear_65 : decode prog_12_method_2_code 65 = .ok (.getfield 46, 3) := by decide +kernel
theorem d_WasmModule_clear_68 : decode prog_12_method_2_code 68 = .ok (.iconst 0, 1) := by decide +kernel
theorem d_WasmModule_clear_69 : decode prog_12_method_2_code 69 = .ok (.putfield 73, 3) := by decide +kernel
theorem d_WasmModule_clear_72 : decode prog_12_method_2_code 72 = .ok (.aload_n 0, 1) := by decide +kernel
theorem d_WasmModule_clear_73 : decode prog_12_method_2_code 73 = .ok (.getfield 52, 3) := by decide +kernel
theorem d_WasmModule_clear_76 : decode prog_12_method_2_code 76 = .ok (.iconst 0, 1) := by decide +kernel
theorem d_WasmModule_clear_77 : decode prog_12_method_2_code 77 = .ok (.putfield 74, 3) := by decide +kernel
theorem d_WasmModule_clear_80 : decode prog_12_method_2_code 80 = .ok (.aload_n 0, 1) := by decide +kernel
theorem d_WasmModule_clear_81 : decode prog_12_method_2_code 81 = .ok (.getfield 56, 3) := by decide +kernel
theorem d_WasmModule_clear_84 : decode prog_12_method_2_code 84 = .ok (.iconst 0, 1) := by decide +kernel
theorem d_WasmModule_clear_85 : decode prog_12_method_2_code 85 = .ok (.putfield 74, 3) := by decide +kernel
theorem d_WasmModule_clear_88 : decode prog_12_method_2_code 88 = .ok (.aload_n 0, 1) := by decide +kernel
theorem d_WasmModule_clear_89 : decode prog_12_method_2_code 89 = .ok (.iconst 0, 1) := by decide +kernel
theorem d_WasmModule_clear_90 : decode prog_12_method_2_code 90 = .ok (.putfield 75, 3) := by decide +kernel
theorem d_WasmModule_clear_93 : decode prog_12_method_2_code 93 = .ok (.aload_n 0, 1) := by decide +kernel
theorem d_WasmModule_clear_94 : decode prog_12_method_2_code 94 = .ok (.iconst (-1), 1) := by decide +kernel
theorem d_WasmModule_clear_95 : decode prog_12_method_2_code 95 = .ok (.putfield 78, 3) := by decide +kernel
theorem d_WasmModule_clear_98 : decode prog_12_method_2_code 98 = .ok (.aload_n 0, 1) := by decide +kernel
theorem d_WasmModule_clear_99 : decode prog_12_method_2_code 99 = .ok (.iconst 0, 1) := by decide +kernel
theorem d_WasmModule_clear_100 : decode prog_12_method_2_code 100 = .ok (.putfield 81, 3) := by decide +kernel
theorem d_WasmModule_clear_103 : decode prog_12_method_2_code 103 = .ok (.return_, 1) := by decide +kernel
theorem d_Reader_read_0 : decode prog_1_method_4_code 0 = .ok (.aload_n 0, 1) := by decide +kernel
theorem d_Reader_read_1 : decode prog_1_method_4_code 1 = .ok (.getfield 19, 3) := by decide +kernel
theorem d_Reader_read_4 : decode prog_1_method_4_code 4 = .ok (.invokevirtual 48, 3) := by decide +kernel
theorem nm_WasmModule_clear : x_nm y_WasmModule_clear 0 = true := by decide +kernel
theorem d_Reader_read_7 : decode prog_1_method_4_code 7 = .ok (.aload_n 0, 1) := by decide +kernel
theorem d_Reader_read_8 : decode prog_1_method_4_code 8 = .ok (.getfield 10, 3) := by decide +kernel
theorem d_Reader_read_11 : decode prog_1_method_4_code 11 = .ok (.iconst 0, 1) := by decide +kernel
theorem d_Reader_read_12 : decode prog_1_method_4_code 12 = .ok (.putfield 51, 3) := by decide +kernel
theorem d_Reader_read_15 : decode prog_1_method_4_code 15 = .ok (.aload_n 0, 1) := by decide +kernel
theorem d_Reader_read_16 : decode prog_1_method_4_code 16 = .ok (.getfield 10, 3) := by decide +kernel
theorem d_Reader_read_19 : decode prog_1_method_4_code 19 = .ok (.iconst 0, 1) := by decide +kernel
theorem d_Reader_read_20 : decode prog_1_method_4_code 20 = .ok (.aload_n 0, 1) := by decide +kernel
theorem d_Reader_read_21 : decode prog_1_method_4_code 21 = .ok (.getfield 10, 3) := by decide +kernel
theorem d_Reader_read_24 : decode prog_1_method_4_code 24 = .ok (.getfield 34, 3) := by decide +kernel
theorem d_Reader_read_27 : decode prog_1_method_4_code 27 = .ok (.invokevirtual 55, 3) := by decide +kernel
theorem nm_Cursor_span : x_nm y_Cursor_span 2 = true := by decide +kernel
theorem d_Reader_read_30 : decode prog_1_method_4_code 30 = .ok (.new 59, 3) := by decide +kernel
theorem d_Reader_read_33 : decode prog_1_method_4_code 33 = .ok (.dup, 1) := by decide +kernel
theorem d_Reader_read_34 : decode prog_1_method_4_code 34 = .ok (.aload_n 0, 1) := by decide +kernel
theorem d_Reader_read_35 : decode prog_1_method_4_code 35 = .ok (.getfield 10, 3) := by decide +kernel
theorem d_Reader_read_38 : decode prog_1_method_4_code 38 = .ok (.aload_n 0, 1) := by decide +kernel
theorem d_Reader_read_39 : decode prog_1_method_4_code 39 = .ok (.getfield 19, 3) := by decide +kernel
theorem d_Reader_read_42 : decode prog_1_method_4_code 42 = .ok (.aload_n 0, 1) := by decide +kernel
theorem d_Reader_read_43 : decode prog_1_method_4_code 43 = .ok (.getfield 23, 3) := by decide +kernel
theorem d_Reader_read_46 : decode prog_1_method_4_code 46 = .ok (.invokespecial 61, 3) := by decide +kernel
theorem nm_Grammar_init : x_nm y_Grammar_init 3 = true := by decide +kernel
theorem d_Reader_read_49 : decode prog_1_method_4_code 49 = .ok (.astore_n 1, 1) := by decide +kernel
theorem d_Reader_read_50 : decode prog_1_method_4_code 50 = .ok (.aload_n 1, 1) := by decide +kernel
theorem d_Reader_read_51 : decode prog_1_method_4_code 51 = .ok (.invokevirtual 64, 3) := by decide +kernel
theorem nm_Grammar_header : x_nm y_Grammar_header 0 = true := by decide +kernel
theorem d_Reader_read_54 : decode prog_1_method_4_code 54 = .ok (.aload_n 1, 1) := by decide +kernel
theorem d_Reader_read_55 : decode prog_1_method_4_code 55 = .ok (.invokevirtual 67, 3) := by decide +kernel
theorem nm_Grammar_sections : x_nm y_Grammar_sections 0 = true := by decide +kernel
theorem d_Reader_read_58 : decode prog_1_method_4_code 58 = .ok (.iconst 0, 1) := by decide +kernel
theorem d_Reader_read_59 : decode prog_1_method_4_code 59 = .ok (.istore_n 2, 1) := by decide +kernel
theorem d_Reader_read_60 : decode prog_1_method_4_code 60 = .ok (.aload_n 0, 1) := by decide +kernel
theorem d_Reader_read_61 : decode prog_1_method_4_code 61 = .ok (.getfield 10, 3) := by decide +kernel
theorem d_Reader_read_64 : decode prog_1_method_4_code 64 = .ok (.getfield 51, 3) := by decide +kernel
theorem d_Reader_read_67 : decode prog_1_method_4_code 67 = .ok (.ifCond .eq 8, 3) := by decide +kernel
theorem d_Reader_read_70 : decode prog_1_method_4_code 70 = .ok (.iconst 1, 1) := by decide +kernel
theorem d_Reader_read_71 : decode prog_1_method_4_code 71 = .ok (.istore_n 2, 1) := by decide +kernel
theorem d_Reader_read_72 : decode prog_1_method_4_code 72 = .ok (.goto 45, 3) := by decide +kernel
theorem d_Reader_read_117 : decode prog_1_method_4_code 117 = .ok (.aload_n 0, 1) := by decide +kernel
theorem d_Reader_read_118 : decode prog_1_method_4_code 118 = .ok (.getfield 10, 3) := by decide +kernel
theorem d_Reader_read_121 : decode prog_1_method_4_code 121 = .ok (.iconst 0, 1) := by decide +kernel
theorem d_Reader_read_122 : decode prog_1_method_4_code 122 = .ok (.putfield 34, 3) := by decide +kernel
theorem d_Reader_read_125 : decode prog_1_method_4_code 125 = .ok (.aload_n 0, 1) := by decide +kernel
theorem d_Reader_read_126 : decode prog_1_method_4_code 126 = .ok (.iload_n 2, 1) := by decide +kernel
theorem d_Reader_read_127 : decode prog_1_method_4_code 127 = .ok (.ifCond .ne 7, 3) := by decide +kernel
theorem d_Reader_read_134 : decode prog_1_method_4_code 134 = .ok (.iconst 0, 1) := by decide +kernel
theorem d_Reader_read_135 : decode prog_1_method_4_code 135 = .ok (.putfield 82, 3) := by decide +kernel
theorem d_Reader_read_138 : decode prog_1_method_4_code 138 = .ok (.iload_n 2, 1) := by decide +kernel
theorem d_Reader_read_139 : decode prog_1_method_4_code 139 = .ok (.ireturn, 1) := by decide +kernel
