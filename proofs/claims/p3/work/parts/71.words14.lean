def y_Model_parse : MethodName := ⟨"WasmReaderModel", "parse", "()V"⟩
theorem m_871 : Cond.fieldLink "WasmReaderModel" 98 "WasmReaderModel$Unit" "size" "I" ∈ xtb := x_in (List.mem_of_getElem? (i := 1113) (by decide +kernel)) (by decide +kernel)
theorem m_872 : Cond.fieldLink "WasmReaderModel" 137 "WasmReaderModel$Unit" "start" "I" ∈ xtb := x_in (List.mem_of_getElem? (i := 1125) (by decide +kernel)) (by decide +kernel)
set_option maxRecDepth 100000 in
theorem m_873 : Cond.code y_Model_item prog_14_method_12_code 6 none ∈ xtb := x_in (List.mem_of_getElem? (i := 1469) rfl) (by decide +kernel)
theorem m_874 : Cond.methodLink "WasmReaderModel" 154 y_Model_item ∈ xtb := x_in (List.mem_of_getElem? (i := 1466) (by decide +kernel)) (by decide +kernel)
theorem m_875 : Cond.instanceMethod y_Model_item ∈ xtb := x_in (List.mem_of_getElem? (i := 1468) (by decide +kernel)) (by decide +kernel)
theorem m_876 : Cond.selects "WasmReaderModel" y_Model_item y_Model_item ∈ xtb := x_in (List.mem_of_getElem? (i := 55) (by decide +kernel)) (by decide +kernel)
theorem d_Model_parse_0 : decode prog_14_method_11_code 0 = .ok (.aload_n 0, 1) := by decide +kernel
theorem d_Model_parse_1 : decode prog_14_method_11_code 1 = .ok (.getfield 16, 3) := by decide +kernel
theorem d_Model_parse_4 : decode prog_14_method_11_code 4 = .ok (.astore_n 1, 1) := by decide +kernel
theorem d_Model_parse_5 : decode prog_14_method_11_code 5 = .ok (.aload_n 0, 1) := by decide +kernel
theorem d_Model_parse_6 : decode prog_14_method_11_code 6 = .ok (.iconst 0, 1) := by decide +kernel
theorem d_Model_parse_7 : decode prog_14_method_11_code 7 = .ok (.putfield 50, 3) := by decide +kernel
theorem d_Model_parse_10 : decode prog_14_method_11_code 10 = .ok (.aload_n 0, 1) := by decide +kernel
theorem d_Model_parse_11 : decode prog_14_method_11_code 11 = .ok (.aload_n 1, 1) := by decide +kernel
theorem d_Model_parse_12 : decode prog_14_method_11_code 12 = .ok (.getfield 98, 3) := by decide +kernel
theorem d_Model_parse_15 : decode prog_14_method_11_code 15 = .ok (.putfield 53, 3) := by decide +kernel
theorem d_Model_parse_18 : decode prog_14_method_11_code 18 = .ok (.aload_n 0, 1) := by decide +kernel
theorem d_Model_parse_19 : decode prog_14_method_11_code 19 = .ok (.iconst 0, 1) := by decide +kernel
theorem d_Model_parse_20 : decode prog_14_method_11_code 20 = .ok (.putfield 77, 3) := by decide +kernel
theorem d_Model_parse_23 : decode prog_14_method_11_code 23 = .ok (.aload_n 0, 1) := by decide +kernel
theorem d_Model_parse_24 : decode prog_14_method_11_code 24 = .ok (.iconst 0, 1) := by decide +kernel
theorem d_Model_parse_25 : decode prog_14_method_11_code 25 = .ok (.putfield 101, 3) := by decide +kernel
theorem d_Model_parse_28 : decode prog_14_method_11_code 28 = .ok (.aload_n 1, 1) := by decide +kernel
theorem d_Model_parse_29 : decode prog_14_method_11_code 29 = .ok (.iconst 0, 1) := by decide +kernel
theorem d_Model_parse_30 : decode prog_14_method_11_code 30 = .ok (.putfield 104, 3) := by decide +kernel
theorem d_Model_parse_33 : decode prog_14_method_11_code 33 = .ok (.aload_n 1, 1) := by decide +kernel
theorem d_Model_parse_34 : decode prog_14_method_11_code 34 = .ok (.iconst 0, 1) := by decide +kernel
theorem d_Model_parse_35 : decode prog_14_method_11_code 35 = .ok (.putfield 107, 3) := by decide +kernel
theorem d_Model_parse_38 : decode prog_14_method_11_code 38 = .ok (.aload_n 1, 1) := by decide +kernel
theorem d_Model_parse_39 : decode prog_14_method_11_code 39 = .ok (.iconst 0, 1) := by decide +kernel
theorem d_Model_parse_40 : decode prog_14_method_11_code 40 = .ok (.putfield 110, 3) := by decide +kernel
theorem d_Model_parse_43 : decode prog_14_method_11_code 43 = .ok (.aload_n 1, 1) := by decide +kernel
theorem d_Model_parse_44 : decode prog_14_method_11_code 44 = .ok (.iconst 0, 1) := by decide +kernel
theorem d_Model_parse_45 : decode prog_14_method_11_code 45 = .ok (.putfield 113, 3) := by decide +kernel
theorem d_Model_parse_48 : decode prog_14_method_11_code 48 = .ok (.aload_n 1, 1) := by decide +kernel
theorem d_Model_parse_49 : decode prog_14_method_11_code 49 = .ok (.iconst 0, 1) := by decide +kernel
theorem d_Model_parse_50 : decode prog_14_method_11_code 50 = .ok (.putfield 116, 3) := by decide +kernel
theorem d_Model_parse_53 : decode prog_14_method_11_code 53 = .ok (.aload_n 1, 1) := by decide +kernel
theorem d_Model_parse_54 : decode prog_14_method_11_code 54 = .ok (.iconst 0, 1) := by decide +kernel
theorem d_Model_parse_55 : decode prog_14_method_11_code 55 = .ok (.putfield 119, 3) := by decide +kernel
theorem d_Model_parse_58 : decode prog_14_method_11_code 58 = .ok (.aload_n 1, 1) := by decide +kernel
theorem d_Model_parse_59 : decode prog_14_method_11_code 59 = .ok (.iconst 0, 1) := by decide +kernel
theorem d_Model_parse_60 : decode prog_14_method_11_code 60 = .ok (.putfield 122, 3) := by decide +kernel
theorem d_Model_parse_63 : decode prog_14_method_11_code 63 = .ok (.aload_n 1, 1) := by decide +kernel
theorem d_Model_parse_64 : decode prog_14_method_11_code 64 = .ok (.iconst 0, 1) := by decide +kernel
theorem d_Model_parse_65 : decode prog_14_method_11_code 65 = .ok (.putfield 125, 3) := by decide +kernel
theorem d_Model_parse_68 : decode prog_14_method_11_code 68 = .ok (.aload_n 1, 1) := by decide +kernel
theorem d_Model_parse_69 : decode prog_14_method_11_code 69 = .ok (.iconst 0, 1) := by decide +kernel
theorem d_Model_parse_70 : decode prog_14_method_11_code 70 = .ok (.putfield 128, 3) := by decide +kernel
theorem d_Model_parse_73 : decode prog_14_method_11_code 73 = .ok (.aload_n 1, 1) := by decide +kernel
theorem d_Model_parse_74 : decode prog_14_method_11_code 74 = .ok (.iconst 0, 1) := by decide +kernel
theorem d_Model_parse_75 : decode prog_14_method_11_code 75 = .ok (.putfield 131, 3) := by decide +kernel
theorem d_Model_parse_78 : decode prog_14_method_11_code 78 = .ok (.aload_n 1, 1) := by decide +kernel
theorem d_Model_parse_79 : decode prog_14_method_11_code 79 = .ok (.iconst 0, 1) := by decide +kernel
theorem d_Model_parse_80 : decode prog_14_method_11_code 80 = .ok (.putfield 134, 3) := by decide +kernel
theorem d_Model_parse_83 : decode prog_14_method_11_code 83 = .ok (.aload_n 1, 1) := by decide +kernel
theorem d_Model_parse_84 : decode prog_14_method_11_code 84 = .ok (.iconst (-1), 1) := by decide +kernel
theorem d_Model_parse_85 : decode prog_14_method_11_code 85 = .ok (.putfield 137, 3) := by decide +kernel
theorem d_Model_parse_88 : decode prog_14_method_11_code 88 = .ok (.aload_n 1, 1) := by decide +kernel
theorem d_Model_parse_89 : decode prog_14_method_11_code 89 = .ok (.iconst (-1), 1) := by decide +kernel
theorem d_Model_parse_90 : decode prog_14_method_11_code 90 = .ok (.putfield 140, 3) := by decide +kernel
theorem d_Model_parse_93 : decode prog_14_method_11_code 93 = .ok (.aload_n 1, 1) := by decide +kernel
theorem d_Model_parse_94 : decode prog_14_method_11_code 94 = .ok (.iconst (-1), 1) := by decide +kernel
theorem d_Model_parse_95 : decode prog_14_method_11_code 95 = .ok (.putfield 143, 3) := by decide +kernel
theorem d_Model_parse_98 : decode prog_14_method_11_code 98 = .ok (.bipush 8, 2) := by decide +kernel
theorem d_Model_parse_100 : decode prog_14_method_11_code 100 = .ok (.newarray .int, 2) := by decide +kernel
theorem d_Model_parse_102 : decode prog_14_method_11_code 102 = .ok (.dup, 1) := by decide +kernel
theorem d_Model_parse_103 : decode prog_14_method_11_code 103 = .ok (.iconst 0, 1) := by decide +kernel
theorem d_Model_parse_104 : decode prog_14_method_11_code 104 = .ok (.iconst 0, 1) := by decide +kernel
theorem d_Model_parse_105 : decode prog_14_method_11_code 105 = .ok (.iastore, 1) := by decide +kernel
theorem d_Model_parse_106 : decode prog_14_method_11_code 106 = .ok (.dup, 1) := by decide +kernel
theorem d_Model_parse_107 : decode prog_14_method_11_code 107 = .ok (.iconst 1, 1) := by decide +kernel
theorem d_Model_parse_108 : decode prog_14_method_11_code 108 = .ok (.bipush 97, 2) := by decide +kernel
theorem d_Model_parse_110 : decode prog_14_method_11_code 110 = .ok (.iastore, 1) := by decide +kernel
theorem d_Model_parse_111 : decode prog_14_method_11_code 111 = .ok (.dup, 1) := by decide +kernel
theorem d_Model_parse_112 : decode prog_14_method_11_code 112 = .ok (.iconst 2, 1) := by decide +kernel
theorem d_Model_parse_113 : decode prog_14_method_11_code 113 = .ok (.bipush 115, 2) := by decide +kernel
theorem d_Model_parse_115 : decode prog_14_method_11_code 115 = .ok (.iastore, 1) := by decide +kernel
theorem d_Model_parse_116 : decode prog_14_method_11_code 116 = .ok (.dup, 1) := by decide +kernel
theorem d_Model_parse_117 : decode prog_14_method_11_code 117 = .ok (.iconst 3, 1) := by decide +kernel
theorem d_Model_parse_118 : decode prog_14_method_11_code 118 = .ok (.bipush 109, 2) := by decide +kernel
theorem d_Model_parse_120 : decode prog_14_method_11_code 120 = .ok (.iastore, 1) := by decide +kernel
theorem d_Model_parse_121 : decode prog_14_method_11_code 121 = .ok (.dup, 1) := by decide +kernel
theorem d_Model_parse_122 : decode prog_14_method_11_code 122 = .ok (.iconst 4, 1) := by decide +kernel
theorem d_Model_parse_123 : decode prog_14_method_11_code 123 = .ok (.iconst 1, 1) := by decide +kernel
theorem d_Model_parse_124 : decode prog_14_method_11_code 124 = .ok (.iastore, 1) := by decide +kernel
theorem d_Model_parse_125 : decode prog_14_method_11_code 125 = .ok (.dup, 1) := by decide +kernel
theorem d_Model_parse_126 : decode prog_14_method_11_code 126 = .ok (.iconst 5, 1) := by decide +kernel
theorem d_Model_parse_127 : decode prog_14_method_11_code 127 = .ok (.iconst 0, 1) := by decide +kernel
theorem d_Model_parse_128 : decode prog_14_method_11_code 128 = .ok (.iastore, 1) := by decide +kernel
theorem d_Model_parse_129 : decode prog_14_method_11_code 129 = .ok (.dup, 1) := by decide +kernel
theorem d_Model_parse_130 : decode prog_14_method_11_code 130 = .ok (.bipush 6, 2) := by decide +kernel
theorem d_Model_parse_132 : decode prog_14_method_11_code 132 = .ok (.iconst 0, 1) := by decide +kernel
theorem d_Model_parse_133 : decode prog_14_method_11_code 133 = .ok (.iastore, 1) := by decide +kernel
theorem d_Model_parse_134 : decode prog_14_method_11_code 134 = .ok (.dup, 1) := by decide +kernel
theorem d_Model_parse_135 : decode prog_14_method_11_code 135 = .ok (.bipush 7, 2) := by decide +kernel
theorem d_Model_parse_137 : decode prog_14_method_11_code 137 = .ok (.iconst 0, 1) := by decide +kernel
theorem d_Model_parse_138 : decode prog_14_method_11_code 138 = .ok (.iastore, 1) := by decide +kernel
theorem d_Model_parse_139 : decode prog_14_method_11_code 139 = .ok (.astore_n 2, 1) := by decide +kernel
theorem d_Model_parse_140 : decode prog_14_method_11_code 140 = .ok (.iconst 0, 1) := by decide +kernel
theorem d_Model_parse_141 : decode prog_14_method_11_code 141 = .ok (.istore_n 3, 1) := by decide +kernel
theorem d_Model_parse_142 : decode prog_14_method_11_code 142 = .ok (.iload_n 3, 1) := by decide +kernel
theorem d_Model_parse_143 : decode prog_14_method_11_code 143 = .ok (.bipush 8, 2) := by decide +kernel
theorem d_Model_parse_145 : decode prog_14_method_11_code 145 = .ok (.if_icmp .ge 28, 3) := by decide +kernel
theorem d_Model_parse_148 : decode prog_14_method_11_code 148 = .ok (.aload_n 0, 1) := by decide +kernel
theorem d_Model_parse_149 : decode prog_14_method_11_code 149 = .ok (.invokevirtual 64, 3) := by decide +kernel
theorem d_Model_parse_152 : decode prog_14_method_11_code 152 = .ok (.aload_n 2, 1) := by decide +kernel
theorem d_Model_parse_153 : decode prog_14_method_11_code 153 = .ok (.iload_n 3, 1) := by decide +kernel
theorem d_Model_parse_154 : decode prog_14_method_11_code 154 = .ok (.iaload, 1) := by decide +kernel
theorem d_Model_parse_155 : decode prog_14_method_11_code 155 = .ok (.if_icmp .eq 12, 3) := by decide +kernel
theorem d_Model_parse_167 : decode prog_14_method_11_code 167 = .ok (.iinc 3 1, 3) := by decide +kernel
theorem d_Model_parse_170 : decode prog_14_method_11_code 170 = .ok (.goto (-28), 3) := by decide +kernel
theorem d_Model_parse_173 : decode prog_14_method_11_code 173 = .ok (.iconst 0, 1) := by decide +kernel
theorem d_Model_parse_174 : decode prog_14_method_11_code 174 = .ok (.istore_n 3, 1) := by decide +kernel
theorem d_Model_parse_175 : decode prog_14_method_11_code 175 = .ok (.aload_n 0, 1) := by decide +kernel
theorem d_Model_parse_176 : decode prog_14_method_11_code 176 = .ok (.getfield 50, 3) := by decide +kernel
theorem d_Model_parse_179 : decode prog_14_method_11_code 179 = .ok (.aload_n 1, 1) := by decide +kernel
theorem d_Model_parse_180 : decode prog_14_method_11_code 180 = .ok (.getfield 98, 3) := by decide +kernel
theorem d_Model_parse_183 : decode prog_14_method_11_code 183 = .ok (.if_icmp .ge 186, 3) := by decide +kernel
theorem d_Model_parse_369 : decode prog_14_method_11_code 369 = .ok (.aload_n 1, 1) := by decide +kernel
theorem d_Model_parse_370 : decode prog_14_method_11_code 370 = .ok (.getfield 134, 3) := by decide +kernel
theorem d_Model_parse_373 : decode prog_14_method_11_code 373 = .ok (.aload_n 1, 1) := by decide +kernel
theorem d_Model_parse_374 : decode prog_14_method_11_code 374 = .ok (.getfield 113, 3) := by decide +kernel
theorem d_Model_parse_377 : decode prog_14_method_11_code 377 = .ok (.if_icmp .eq 12, 3) := by decide +kernel
theorem d_Model_parse_389 : decode prog_14_method_11_code 389 = .ok (.return_, 1) := by decide +kernel
theorem d_Model_parse_380 : decode prog_14_method_11_code 380 = .ok (.new 56, 3) := by decide +kernel
theorem d_Model_parse_383 : decode prog_14_method_11_code 383 = .ok (.dup, 1) := by decide +kernel
theorem d_Model_parse_384 : decode prog_14_method_11_code 384 = .ok (.iconst 1, 1) := by decide +kernel
theorem d_Model_parse_385 : decode prog_14_method_11_code 385 = .ok (.invokespecial 58, 3) := by decide +kernel
theorem d_Model_parse_388 : decode prog_14_method_11_code 388 = .ok (.athrow, 1) := by decide +kernel
theorem d_Model_parse_186 : decode prog_14_method_11_code 186 = .ok (.aload_n 0, 1) := by decide +kernel
theorem d_Model_parse_187 : decode prog_14_method_11_code 187 = .ok (.aload_n 1, 1) := by decide +kernel
theorem d_Model_parse_188 : decode prog_14_method_11_code 188 = .ok (.getfield 98, 3) := by decide +kernel
theorem d_Model_parse_191 : decode prog_14_method_11_code 191 = .ok (.putfield 53, 3) := by decide +kernel
theorem d_Model_parse_194 : decode prog_14_method_11_code 194 = .ok (.aload_n 0, 1) := by decide +kernel
theorem d_Model_parse_195 : decode prog_14_method_11_code 195 = .ok (.invokevirtual 64, 3) := by decide +kernel
theorem d_Model_parse_198 : decode prog_14_method_11_code 198 = .ok (.istore 4, 2) := by decide +kernel
theorem d_Model_parse_200 : decode prog_14_method_11_code 200 = .ok (.aload_n 0, 1) := by decide +kernel
theorem d_Model_parse_201 : decode prog_14_method_11_code 201 = .ok (.invokevirtual 68, 3) := by decide +kernel
theorem d_Model_parse_204 : decode prog_14_method_11_code 204 = .ok (.lstore 5, 2) := by decide +kernel
theorem d_Model_parse_206 : decode prog_14_method_11_code 206 = .ok (.iload 4, 2) := by decide +kernel
theorem d_Model_parse_208 : decode prog_14_method_11_code 208 = .ok (.bipush 11, 2) := by decide +kernel
theorem d_Model_parse_210 : decode prog_14_method_11_code 210 = .ok (.if_icmp .gt 30, 3) := by decide +kernel
theorem d_Model_parse_240 : decode prog_14_method_11_code 240 = .ok (.new 56, 3) := by decide +kernel
theorem d_Model_parse_243 : decode prog_14_method_11_code 243 = .ok (.dup, 1) := by decide +kernel
theorem d_Model_parse_244 : decode prog_14_method_11_code 244 = .ok (.iconst 1, 1) := by decide +kernel
theorem d_Model_parse_245 : decode prog_14_method_11_code 245 = .ok (.invokespecial 58, 3) := by decide +kernel
theorem d_Model_parse_248 : decode prog_14_method_11_code 248 = .ok (.athrow, 1) := by decide +kernel
theorem d_Model_parse_213 : decode prog_14_method_11_code 213 = .ok (.lload 5, 2) := by decide +kernel
theorem d_Model_parse_215 : decode prog_14_method_11_code 215 = .ok (.aload_n 1, 1) := by decide +kernel
theorem d_Model_parse_216 : decode prog_14_method_11_code 216 = .ok (.getfield 98, 3) := by decide +kernel
theorem d_Model_parse_219 : decode prog_14_method_11_code 219 = .ok (.aload_n 0, 1) := by decide +kernel
theorem d_Model_parse_220 : decode prog_14_method_11_code 220 = .ok (.getfield 50, 3) := by decide +kernel
theorem d_Model_parse_223 : decode prog_14_method_11_code 223 = .ok (.isub, 1) := by decide +kernel
theorem d_Model_parse_224 : decode prog_14_method_11_code 224 = .ok (.i2l, 1) := by decide +kernel
theorem d_Model_parse_225 : decode prog_14_method_11_code 225 = .ok (.lcmp, 1) := by decide +kernel
theorem d_Model_parse_226 : decode prog_14_method_11_code 226 = .ok (.ifCond .gt 14, 3) := by decide +kernel
theorem d_Model_parse_229 : decode prog_14_method_11_code 229 = .ok (.iload 4, 2) := by decide +kernel
theorem d_Model_parse_231 : decode prog_14_method_11_code 231 = .ok (.ifCond .le 18, 3) := by decide +kernel
theorem d_Model_parse_249 : decode prog_14_method_11_code 249 = .ok (.iload 4, 2) := by decide +kernel
theorem d_Model_parse_251 : decode prog_14_method_11_code 251 = .ok (.ifCond .le 6, 3) := by decide +kernel
theorem d_Model_parse_257 : decode prog_14_method_11_code 257 = .ok (.aload_n 0, 1) := by decide +kernel
theorem d_Model_parse_258 : decode prog_14_method_11_code 258 = .ok (.aload_n 0, 1) := by decide +kernel
theorem d_Model_parse_259 : decode prog_14_method_11_code 259 = .ok (.getfield 50, 3) := by decide +kernel
theorem d_Model_parse_262 : decode prog_14_method_11_code 262 = .ok (.lload 5, 2) := by decide +kernel
theorem d_Model_parse_264 : decode prog_14_method_11_code 264 = .ok (.l2i, 1) := by decide +kernel
theorem d_Model_parse_265 : decode prog_14_method_11_code 265 = .ok (.iadd, 1) := by decide +kernel
theorem d_Model_parse_266 : decode prog_14_method_11_code 266 = .ok (.putfield 53, 3) := by decide +kernel
theorem d_Model_parse_269 : decode prog_14_method_11_code 269 = .ok (.aload_n 0, 1) := by decide +kernel
theorem d_Model_parse_270 : decode prog_14_method_11_code 270 = .ok (.getfield 53, 3) := by decide +kernel
theorem d_Model_parse_273 : decode prog_14_method_11_code 273 = .ok (.istore 7, 2) := by decide +kernel
theorem d_Model_parse_275 : decode prog_14_method_11_code 275 = .ok (.iload 4, 2) := by decide +kernel
theorem d_Model_parse_277 : decode prog_14_method_11_code 277 = .ok (.ifCond .ne 18, 3) := by decide +kernel
theorem d_Model_parse_280 : decode prog_14_method_11_code 280 = .ok (.aload_n 0, 1) := by decide +kernel
theorem d_Model_parse_281 : decode prog_14_method_11_code 281 = .ok (.iconst 0, 1) := by decide +kernel
theorem d_Model_parse_282 : decode prog_14_method_11_code 282 = .ok (.invokevirtual 146, 3) := by decide +kernel
theorem d_Model_parse_285 : decode prog_14_method_11_code 285 = .ok (.pop, 1) := by decide +kernel
theorem d_Model_parse_286 : decode prog_14_method_11_code 286 = .ok (.aload_n 0, 1) := by decide +kernel
theorem d_Model_parse_287 : decode prog_14_method_11_code 287 = .ok (.iload 7, 2) := by decide +kernel
theorem d_Model_parse_289 : decode prog_14_method_11_code 289 = .ok (.putfield 50, 3) := by decide +kernel
theorem d_Model_parse_292 : decode prog_14_method_11_code 292 = .ok (.goto 56, 3) := by decide +kernel
theorem d_Model_parse_348 : decode prog_14_method_11_code 348 = .ok (.aload_n 0, 1) := by decide +kernel
theorem d_Model_parse_349 : decode prog_14_method_11_code 349 = .ok (.getfield 50, 3) := by decide +kernel
theorem d_Model_parse_352 : decode prog_14_method_11_code 352 = .ok (.iload 7, 2) := by decide +kernel
theorem d_Model_parse_354 : decode prog_14_method_11_code 354 = .ok (.if_icmp .eq 12, 3) := by decide +kernel
theorem d_Model_parse_366 : decode prog_14_method_11_code 366 = .ok (.goto (-191), 3) := by decide +kernel
theorem d_Model_parse_357 : decode prog_14_method_11_code 357 = .ok (.new 56, 3) := by decide +kernel
theorem d_Model_parse_360 : decode prog_14_method_11_code 360 = .ok (.dup, 1) := by decide +kernel
theorem d_Model_parse_361 : decode prog_14_method_11_code 361 = .ok (.iconst 1, 1) := by decide +kernel
theorem d_Model_parse_362 : decode prog_14_method_11_code 362 = .ok (.invokespecial 58, 3) := by decide +kernel
theorem d_Model_parse_365 : decode prog_14_method_11_code 365 = .ok (.athrow, 1) := by decide +kernel
theorem d_Model_parse_234 : decode prog_14_method_11_code 234 = .ok (.iload 4, 2) := by decide +kernel
theorem d_Model_parse_236 : decode prog_14_method_11_code 236 = .ok (.iload_n 3, 1) := by decide +kernel
theorem d_Model_parse_237 : decode prog_14_method_11_code 237 = .ok (.if_icmp .gt 12, 3) := by decide +kernel
theorem d_Model_parse_254 : decode prog_14_method_11_code 254 = .ok (.iload 4, 2) := by decide +kernel
theorem d_Model_parse_256 : decode prog_14_method_11_code 256 = .ok (.istore_n 3, 1) := by decide +kernel
theorem d_Model_parse_295 : decode prog_14_method_11_code 295 = .ok (.iload 4, 2) := by decide +kernel
theorem d_Model_parse_297 : decode prog_14_method_11_code 297 = .ok (.bipush 8, 2) := by decide +kernel
theorem d_Model_parse_299 : decode prog_14_method_11_code 299 = .ok (.if_icmp .ne 17, 3) := by decide +kernel
theorem d_Model_parse_316 : decode prog_14_method_11_code 316 = .ok (.aload_n 0, 1) := by decide +kernel
theorem d_Model_parse_317 : decode prog_14_method_11_code 317 = .ok (.invokevirtual 68, 3) := by decide +kernel
theorem d_Model_parse_320 : decode prog_14_method_11_code 320 = .ok (.lstore 8, 2) := by decide +kernel
theorem d_Model_parse_322 : decode prog_14_method_11_code 322 = .ok (.lconst 0, 1) := by decide +kernel
theorem d_Model_parse_323 : decode prog_14_method_11_code 323 = .ok (.lstore 10, 2) := by decide +kernel
theorem d_Model_parse_325 : decode prog_14_method_11_code 325 = .ok (.lload 10, 2) := by decide +kernel
theorem d_Model_parse_327 : decode prog_14_method_11_code 327 = .ok (.lload 8, 2) := by decide +kernel
theorem d_Model_parse_329 : decode prog_14_method_11_code 329 = .ok (.lcmp, 1) := by decide +kernel
theorem d_Model_parse_330 : decode prog_14_method_11_code 330 = .ok (.ifCond .ge 18, 3) := by decide +kernel
theorem d_Model_parse_333 : decode prog_14_method_11_code 333 = .ok (.aload_n 0, 1) := by decide +kernel
theorem d_Model_parse_334 : decode prog_14_method_11_code 334 = .ok (.iload 4, 2) := by decide +kernel
theorem d_Model_parse_336 : decode prog_14_method_11_code 336 = .ok (.invokevirtual 154, 3) := by decide +kernel
theorem nm_Model_item : x_nm y_Model_item 1 = true := by decide +kernel
theorem d_Model_parse_339 : decode prog_14_method_11_code 339 = .ok (.lload 10, 2) := by decide +kernel
theorem d_Model_parse_341 : decode prog_14_method_11_code 341 = .ok (.lconst 1, 1) := by decide +kernel
theorem d_Model_parse_342 : decode prog_14_method_11_code 342 = .ok (.ladd, 1) := by decide +kernel
theorem d_Model_parse_343 : decode prog_14_method_11_code 343 = .ok (.lstore 10, 2) := by decide +kernel
theorem d_Model_parse_345 : decode prog_14_method_11_code 345 = .ok (.goto (-20), 3) := by decide +kernel
theorem d_Model_parse_302 : decode prog_14_method_11_code 302 = .ok (.aload_n 1, 1) := by decide +kernel
theorem d_Model_parse_303 : decode prog_14_method_11_code 303 = .ok (.aload_n 0, 1) := by decide +kernel
theorem d_Model_parse_304 : decode prog_14_method_11_code 304 = .ok (.invokevirtual 68, 3) := by decide +kernel
theorem d_Model_parse_307 : decode prog_14_method_11_code 307 = .ok (.invokestatic 150, 3) := by decide +kernel
theorem d_Model_parse_310 : decode prog_14_method_11_code 310 = .ok (.putfield 137, 3) := by decide +kernel
theorem d_Model_parse_313 : decode prog_14_method_11_code 313 = .ok (.goto 35, 3) := by decide +kernel
theorem d_Model_parse_158 : decode prog_14_method_11_code 158 = .ok (.new 56, 3) := by decide +kernel
theorem d_Model_parse_161 : decode prog_14_method_11_code 161 = .ok (.dup, 1) := by decide +kernel
theorem d_Model_parse_162 : decode prog_14_method_11_code 162 = .ok (.iconst 1, 1) := by decide +kernel
theorem d_Model_parse_163 : decode prog_14_method_11_code 163 = .ok (.invokespecial 58, 3) := by decide +kernel
theorem d_Model_parse_166 : decode prog_14_method_11_code 166 = .ok (.athrow, 1) := by decide +kernel
