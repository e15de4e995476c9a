def y_Cursor_unsigned : MethodName := ⟨"WasmReader$Cursor", "unsigned", "()J"⟩
def y_Cursor_index : MethodName := ⟨"WasmReader$Cursor", "index", "()I"⟩
def y_Cursor_withSign : MethodName := ⟨"WasmReader$Cursor", "withSign", "(JIII)J"⟩
def y_Cursor_signed : MethodName := ⟨"WasmReader$Cursor", "signed", "(I)J"⟩
def y_Cursor_vector : MethodName := ⟨"WasmReader$Cursor", "vector", "()I"⟩
def y_Cursor_skip : MethodName := ⟨"WasmReader$Cursor", "skip", "(I)V"⟩
def y_Cursor_narrow : MethodName := ⟨"WasmReader$Cursor", "narrow", "()I"⟩
def y_Cursor_widen : MethodName := ⟨"WasmReader$Cursor", "widen", "(I)V"⟩
theorem m_231 : Cond.constantLong "WasmReader$Cursor" 36 4294967295 ∈ xtb := x_in (List.mem_of_getElem? (i := 531) (by decide +kernel)) (by decide +kernel)
theorem m_232 : Cond.methodLink "WasmReader$Cursor" 38 y_Cursor_unsigned ∈ xtb := x_in (List.mem_of_getElem? (i := 527) (by decide +kernel)) (by decide +kernel)
theorem m_233 : Cond.code y_Cursor_unsigned prog_2_method_8_code 5 (some .long) ∈ xtb := x_in (List.mem_of_getElem? (i := 530) (by decide +kernel)) (by decide +kernel)
theorem m_234 : Cond.instanceMethod y_Cursor_unsigned ∈ xtb := x_in (List.mem_of_getElem? (i := 528) (by decide +kernel)) (by decide +kernel)
theorem m_235 : Cond.selects "WasmReader$Cursor" y_Cursor_unsigned y_Cursor_unsigned ∈ xtb := x_in (List.mem_of_getElem? (i := 529) (by decide +kernel)) (by decide +kernel)
theorem m_236 : Cond.constantLong "WasmReader$Cursor" 42 2147483647 ∈ xtb := x_in (List.mem_of_getElem? (i := 576) (by decide +kernel)) (by decide +kernel)
theorem m_237 : Cond.code Lib.MathLoose.min_long.x Lib.MathLoose.min_long.code 4 (some .long) ∈ xtb := x_in (List.mem_of_getElem? (i := 579) (by decide +kernel)) (by decide +kernel)
theorem m_238 : Cond.methodLink "WasmReader$Cursor" 44 Lib.MathLoose.min_long.x ∈ xtb := x_in (List.mem_of_getElem? (i := 577) (by decide +kernel)) (by decide +kernel)
theorem m_239 : Cond.static Lib.MathLoose.min_long.x ∈ xtb := x_in (List.mem_of_getElem? (i := 578) (by decide +kernel)) (by decide +kernel)
theorem m_240 : Cond.initialized "java/lang/Math" ∈ xtb := x_in (List.mem_of_getElem? (i := 106) (by decide +kernel)) (by decide +kernel)
theorem m_241 : Cond.methodLink "WasmReader$Cursor" 50 y_Cursor_withSign ∈ xtb := x_in (List.mem_of_getElem? (i := 633) (by decide +kernel)) (by decide +kernel)
theorem m_242 : Cond.code y_Cursor_withSign prog_2_method_11_code 8 (some .long) ∈ xtb := x_in (List.mem_of_getElem? (i := 636) (by decide +kernel)) (by decide +kernel)
theorem m_243 : Cond.instanceMethod y_Cursor_withSign ∈ xtb := x_in (List.mem_of_getElem? (i := 635) (by decide +kernel)) (by decide +kernel)
theorem m_244 : Cond.selects "WasmReader$Cursor" y_Cursor_withSign y_Cursor_withSign ∈ xtb := x_in (List.mem_of_getElem? (i := 13) (by decide +kernel)) (by decide +kernel)
theorem m_245 : Cond.methodLink "WasmReader$Cursor" 54 y_Cursor_vector ∈ xtb := x_in (List.mem_of_getElem? (i := 523) (by decide +kernel)) (by decide +kernel)
theorem m_246 : Cond.code y_Cursor_vector prog_2_method_12_code 3 (some .int) ∈ xtb := x_in (List.mem_of_getElem? (i := 526) (by decide +kernel)) (by decide +kernel)
theorem m_247 : Cond.instanceMethod y_Cursor_vector ∈ xtb := x_in (List.mem_of_getElem? (i := 524) (by decide +kernel)) (by decide +kernel)
theorem m_248 : Cond.selects "WasmReader$Cursor" y_Cursor_vector y_Cursor_vector ∈ xtb := x_in (List.mem_of_getElem? (i := 525) (by decide +kernel)) (by decide +kernel)
theorem d_Cursor_more_7 : decode prog_2_method_4_code 7 = .ok (.aload_n 0, 1) := by decide +kernel
theorem d_Cursor_more_8 : decode prog_2_method_4_code 8 = .ok (.getfield 19, 3) := by decide +kernel
theorem d_Cursor_more_11 : decode prog_2_method_4_code 11 = .ok (.aload_n 0, 1) := by decide +kernel
theorem d_Cursor_more_12 : decode prog_2_method_4_code 12 = .ok (.getfield 22, 3) := by decide +kernel
theorem d_Cursor_more_15 : decode prog_2_method_4_code 15 = .ok (.if_icmp .ge 7, 3) := by decide +kernel
theorem d_Cursor_more_18 : decode prog_2_method_4_code 18 = .ok (.iconst 1, 1) := by decide +kernel
theorem d_Cursor_more_19 : decode prog_2_method_4_code 19 = .ok (.goto 4, 3) := by decide +kernel
theorem d_Cursor_nextByte_18 : decode prog_2_method_6_code 18 = .ok (.aload_n 0, 1) := by decide +kernel
theorem d_Cursor_nextByte_19 : decode prog_2_method_6_code 19 = .ok (.getfield 19, 3) := by decide +kernel
theorem d_Cursor_nextByte_22 : decode prog_2_method_6_code 22 = .ok (.aload_n 0, 1) := by decide +kernel
theorem d_Cursor_nextByte_23 : decode prog_2_method_6_code 23 = .ok (.getfield 9, 3) := by decide +kernel
theorem d_Cursor_nextByte_26 : decode prog_2_method_6_code 26 = .ok (.arraylength, 1) := by decide +kernel
theorem d_Cursor_nextByte_27 : decode prog_2_method_6_code 27 = .ok (.if_icmp .lt 10, 3) := by decide +kernel
theorem d_Cursor_nextByte_37 : decode prog_2_method_6_code 37 = .ok (.aload_n 0, 1) := by decide +kernel
theorem d_Cursor_nextByte_38 : decode prog_2_method_6_code 38 = .ok (.getfield 9, 3) := by decide +kernel
theorem d_Cursor_nextByte_41 : decode prog_2_method_6_code 41 = .ok (.aload_n 0, 1) := by decide +kernel
theorem d_Cursor_nextByte_42 : decode prog_2_method_6_code 42 = .ok (.getfield 19, 3) := by decide +kernel
theorem d_Cursor_nextByte_45 : decode prog_2_method_6_code 45 = .ok (.baload, 1) := by decide +kernel
theorem d_Cursor_nextByte_46 : decode prog_2_method_6_code 46 = .ok (.sipush 255, 3) := by decide +kernel
theorem d_Cursor_nextByte_49 : decode prog_2_method_6_code 49 = .ok (.iand, 1) := by decide +kernel
theorem d_Cursor_nextByte_50 : decode prog_2_method_6_code 50 = .ok (.istore_n 1, 1) := by decide +kernel
theorem d_Cursor_nextByte_51 : decode prog_2_method_6_code 51 = .ok (.aload_n 0, 1) := by decide +kernel
theorem d_Cursor_nextByte_52 : decode prog_2_method_6_code 52 = .ok (.dup, 1) := by decide +kernel
theorem d_Cursor_nextByte_53 : decode prog_2_method_6_code 53 = .ok (.getfield 19, 3) := by decide +kernel
theorem d_Cursor_nextByte_56 : decode prog_2_method_6_code 56 = .ok (.iconst 1, 1) := by decide +kernel
theorem d_Cursor_nextByte_57 : decode prog_2_method_6_code 57 = .ok (.iadd, 1) := by decide +kernel
theorem d_Cursor_nextByte_58 : decode prog_2_method_6_code 58 = .ok (.putfield 19, 3) := by decide +kernel
theorem d_Cursor_nextByte_61 : decode prog_2_method_6_code 61 = .ok (.iload_n 1, 1) := by decide +kernel
theorem d_Cursor_nextByte_62 : decode prog_2_method_6_code 62 = .ok (.ireturn, 1) := by decide +kernel
theorem d_Cursor_unsigned_0 : decode prog_2_method_8_code 0 = .ok (.lconst 0, 1) := by decide +kernel
theorem d_Cursor_unsigned_1 : decode prog_2_method_8_code 1 = .ok (.lstore_n 1, 1) := by decide +kernel
theorem d_Cursor_unsigned_2 : decode prog_2_method_8_code 2 = .ok (.iconst 0, 1) := by decide +kernel
theorem d_Cursor_unsigned_3 : decode prog_2_method_8_code 3 = .ok (.istore_n 3, 1) := by decide +kernel
theorem d_Cursor_unsigned_4 : decode prog_2_method_8_code 4 = .ok (.iload_n 3, 1) := by decide +kernel
theorem d_Cursor_unsigned_5 : decode prog_2_method_8_code 5 = .ok (.bipush 32, 2) := by decide +kernel
theorem d_Cursor_unsigned_7 : decode prog_2_method_8_code 7 = .ok (.if_icmp .ge 48, 3) := by decide +kernel
theorem d_Cursor_unsigned_10 : decode prog_2_method_8_code 10 = .ok (.aload_n 0, 1) := by decide +kernel
theorem d_Cursor_unsigned_11 : decode prog_2_method_8_code 11 = .ok (.invokevirtual 29, 3) := by decide +kernel
theorem d_Cursor_unsigned_14 : decode prog_2_method_8_code 14 = .ok (.istore 4, 2) := by decide +kernel
theorem d_Cursor_unsigned_16 : decode prog_2_method_8_code 16 = .ok (.lload_n 1, 1) := by decide +kernel
theorem d_Cursor_unsigned_17 : decode prog_2_method_8_code 17 = .ok (.iload 4, 2) := by decide +kernel
theorem d_Cursor_unsigned_19 : decode prog_2_method_8_code 19 = .ok (.bipush 127, 2) := by decide +kernel
theorem d_Cursor_unsigned_21 : decode prog_2_method_8_code 21 = .ok (.iand, 1) := by decide +kernel
theorem d_Cursor_unsigned_22 : decode prog_2_method_8_code 22 = .ok (.i2l, 1) := by decide +kernel
theorem d_Cursor_unsigned_23 : decode prog_2_method_8_code 23 = .ok (.iload_n 3, 1) := by decide +kernel
theorem d_Cursor_unsigned_24 : decode prog_2_method_8_code 24 = .ok (.lshl, 1) := by decide +kernel
theorem d_Cursor_unsigned_25 : decode prog_2_method_8_code 25 = .ok (.lor, 1) := by decide +kernel
theorem d_Cursor_unsigned_26 : decode prog_2_method_8_code 26 = .ok (.lstore_n 1, 1) := by decide +kernel
theorem d_Cursor_unsigned_27 : decode prog_2_method_8_code 27 = .ok (.iload 4, 2) := by decide +kernel
theorem d_Cursor_unsigned_29 : decode prog_2_method_8_code 29 = .ok (.sipush 128, 3) := by decide +kernel
theorem d_Cursor_unsigned_32 : decode prog_2_method_8_code 32 = .ok (.if_icmp .ge 17, 3) := by decide +kernel
theorem d_Cursor_unsigned_49 : decode prog_2_method_8_code 49 = .ok (.iinc 3 7, 3) := by decide +kernel
theorem d_Cursor_unsigned_52 : decode prog_2_method_8_code 52 = .ok (.goto (-48), 3) := by decide +kernel
theorem d_Cursor_unsigned_55 : decode prog_2_method_8_code 55 = .ok (.aload_n 0, 1) := by decide +kernel
theorem d_Cursor_unsigned_56 : decode prog_2_method_8_code 56 = .ok (.invokevirtual 33, 3) := by decide +kernel
theorem d_Cursor_unsigned_59 : decode prog_2_method_8_code 59 = .ok (.lconst 0, 1) := by decide +kernel
theorem d_Cursor_unsigned_60 : decode prog_2_method_8_code 60 = .ok (.lreturn, 1) := by decide +kernel
theorem d_Cursor_unsigned_35 : decode prog_2_method_8_code 35 = .ok (.lload_n 1, 1) := by decide +kernel
theorem d_Cursor_unsigned_36 : decode prog_2_method_8_code 36 = .ok (.ldc2_w 36, 3) := by decide +kernel
theorem d_Cursor_unsigned_39 : decode prog_2_method_8_code 39 = .ok (.lcmp, 1) := by decide +kernel
theorem d_Cursor_unsigned_40 : decode prog_2_method_8_code 40 = .ok (.ifCond .le 7, 3) := by decide +kernel
theorem d_Cursor_unsigned_47 : decode prog_2_method_8_code 47 = .ok (.lload_n 1, 1) := by decide +kernel
theorem d_Cursor_unsigned_48 : decode prog_2_method_8_code 48 = .ok (.lreturn, 1) := by decide +kernel
theorem d_Cursor_unsigned_43 : decode prog_2_method_8_code 43 = .ok (.aload_n 0, 1) := by decide +kernel
theorem d_Cursor_unsigned_44 : decode prog_2_method_8_code 44 = .ok (.invokevirtual 33, 3) := by decide +kernel
theorem d_Cursor_index_0 : decode prog_2_method_9_code 0 = .ok (.aload_n 0, 1) := by decide +kernel
theorem d_Cursor_index_1 : decode prog_2_method_9_code 1 = .ok (.invokevirtual 38, 3) := by decide +kernel
theorem nm_Cursor_unsigned : x_nm y_Cursor_unsigned 0 = true := by decide +kernel
theorem d_Cursor_index_4 : decode prog_2_method_9_code 4 = .ok (.ldc2_w 42, 3) := by decide +kernel
theorem d_Cursor_index_7 : decode prog_2_method_9_code 7 = .ok (.invokestatic 44, 3) := by decide +kernel
theorem d_Cursor_index_10 : decode prog_2_method_9_code 10 = .ok (.l2i, 1) := by decide +kernel
theorem d_Cursor_index_11 : decode prog_2_method_9_code 11 = .ok (.ireturn, 1) := by decide +kernel
theorem d_Cursor_withSign_0 : decode prog_2_method_11_code 0 = .ok (.lload_n 1, 1) := by decide +kernel
theorem d_Cursor_withSign_1 : decode prog_2_method_11_code 1 = .ok (.lstore 6, 2) := by decide +kernel
theorem d_Cursor_withSign_3 : decode prog_2_method_11_code 3 = .ok (.iload_n 3, 1) := by decide +kernel
theorem d_Cursor_withSign_4 : decode prog_2_method_11_code 4 = .ok (.bipush 64, 2) := by decide +kernel
theorem d_Cursor_withSign_6 : decode prog_2_method_11_code 6 = .ok (.if_icmp .ge 19, 3) := by decide +kernel
theorem d_Cursor_withSign_25 : decode prog_2_method_11_code 25 = .ok (.iload 5, 2) := by decide +kernel
theorem d_Cursor_withSign_27 : decode prog_2_method_11_code 27 = .ok (.ifCond .eq 14, 3) := by decide +kernel
theorem d_Cursor_withSign_41 : decode prog_2_method_11_code 41 = .ok (.iload 4, 2) := by decide +kernel
theorem d_Cursor_withSign_43 : decode prog_2_method_11_code 43 = .ok (.bipush 32, 2) := by decide +kernel
theorem d_Cursor_withSign_45 : decode prog_2_method_11_code 45 = .ok (.if_icmp .ne 17, 3) := by decide +kernel
theorem d_Cursor_withSign_62 : decode prog_2_method_11_code 62 = .ok (.lload 6, 2) := by decide +kernel
theorem d_Cursor_withSign_64 : decode prog_2_method_11_code 64 = .ok (.lreturn, 1) := by decide +kernel
theorem d_Cursor_withSign_48 : decode prog_2_method_11_code 48 = .ok (.lload 6, 2) := by decide +kernel
theorem d_Cursor_withSign_50 : decode prog_2_method_11_code 50 = .ok (.lload 6, 2) := by decide +kernel
theorem d_Cursor_withSign_52 : decode prog_2_method_11_code 52 = .ok (.l2i, 1) := by decide +kernel
theorem d_Cursor_withSign_53 : decode prog_2_method_11_code 53 = .ok (.i2l, 1) := by decide +kernel
theorem d_Cursor_withSign_54 : decode prog_2_method_11_code 54 = .ok (.lcmp, 1) := by decide +kernel
theorem d_Cursor_withSign_55 : decode prog_2_method_11_code 55 = .ok (.ifCond .eq 7, 3) := by decide +kernel
theorem d_Cursor_withSign_58 : decode prog_2_method_11_code 58 = .ok (.aload_n 0, 1) := by decide +kernel
theorem d_Cursor_withSign_59 : decode prog_2_method_11_code 59 = .ok (.invokevirtual 33, 3) := by decide +kernel
theorem d_Cursor_withSign_30 : decode prog_2_method_11_code 30 = .ok (.iload 5, 2) := by decide +kernel
theorem d_Cursor_withSign_32 : decode prog_2_method_11_code 32 = .ok (.bipush 127, 2) := by decide +kernel
theorem d_Cursor_withSign_34 : decode prog_2_method_11_code 34 = .ok (.if_icmp .eq 7, 3) := by decide +kernel
theorem d_Cursor_withSign_37 : decode prog_2_method_11_code 37 = .ok (.aload_n 0, 1) := by decide +kernel
theorem d_Cursor_withSign_38 : decode prog_2_method_11_code 38 = .ok (.invokevirtual 33, 3) := by decide +kernel
theorem d_Cursor_withSign_9 : decode prog_2_method_11_code 9 = .ok (.lload_n 1, 1) := by decide +kernel
theorem d_Cursor_withSign_10 : decode prog_2_method_11_code 10 = .ok (.bipush 64, 2) := by decide +kernel
theorem d_Cursor_withSign_12 : decode prog_2_method_11_code 12 = .ok (.iload_n 3, 1) := by decide +kernel
theorem d_Cursor_withSign_13 : decode prog_2_method_11_code 13 = .ok (.isub, 1) := by decide +kernel
theorem d_Cursor_withSign_14 : decode prog_2_method_11_code 14 = .ok (.lshl, 1) := by decide +kernel
theorem d_Cursor_withSign_15 : decode prog_2_method_11_code 15 = .ok (.bipush 64, 2) := by decide +kernel
theorem d_Cursor_withSign_17 : decode prog_2_method_11_code 17 = .ok (.iload_n 3, 1) := by decide +kernel
theorem d_Cursor_withSign_18 : decode prog_2_method_11_code 18 = .ok (.isub, 1) := by decide +kernel
theorem d_Cursor_withSign_19 : decode prog_2_method_11_code 19 = .ok (.lshr, 1) := by decide +kernel
theorem d_Cursor_withSign_20 : decode prog_2_method_11_code 20 = .ok (.lstore 6, 2) := by decide +kernel
theorem d_Cursor_withSign_22 : decode prog_2_method_11_code 22 = .ok (.goto 19, 3) := by decide +kernel
theorem d_Cursor_signed_0 : decode prog_2_method_10_code 0 = .ok (.lconst 0, 1) := by decide +kernel
theorem d_Cursor_signed_1 : decode prog_2_method_10_code 1 = .ok (.lstore_n 2, 1) := by decide +kernel
theorem d_Cursor_signed_2 : decode prog_2_method_10_code 2 = .ok (.iconst 0, 1) := by decide +kernel
theorem d_Cursor_signed_3 : decode prog_2_method_10_code 3 = .ok (.istore 4, 2) := by decide +kernel
theorem d_Cursor_signed_5 : decode prog_2_method_10_code 5 = .ok (.iload 4, 2) := by decide +kernel
theorem d_Cursor_signed_7 : decode prog_2_method_10_code 7 = .ok (.iload_n 1, 1) := by decide +kernel
theorem d_Cursor_signed_8 : decode prog_2_method_10_code 8 = .ok (.if_icmp .ge 49, 3) := by decide +kernel
theorem d_Cursor_signed_11 : decode prog_2_method_10_code 11 = .ok (.aload_n 0, 1) := by decide +kernel
theorem d_Cursor_signed_12 : decode prog_2_method_10_code 12 = .ok (.invokevirtual 29, 3) := by decide +kernel
theorem d_Cursor_signed_15 : decode prog_2_method_10_code 15 = .ok (.istore 5, 2) := by decide +kernel
theorem d_Cursor_signed_17 : decode prog_2_method_10_code 17 = .ok (.lload_n 2, 1) := by decide +kernel
theorem d_Cursor_signed_18 : decode prog_2_method_10_code 18 = .ok (.iload 5, 2) := by decide +kernel
theorem d_Cursor_signed_20 : decode prog_2_method_10_code 20 = .ok (.bipush 127, 2) := by decide +kernel
theorem d_Cursor_signed_22 : decode prog_2_method_10_code 22 = .ok (.iand, 1) := by decide +kernel
theorem d_Cursor_signed_23 : decode prog_2_method_10_code 23 = .ok (.i2l, 1) := by decide +kernel
theorem d_Cursor_signed_24 : decode prog_2_method_10_code 24 = .ok (.iload 4, 2) := by decide +kernel
theorem d_Cursor_signed_26 : decode prog_2_method_10_code 26 = .ok (.lshl, 1) := by decide +kernel
theorem d_Cursor_signed_27 : decode prog_2_method_10_code 27 = .ok (.lor, 1) := by decide +kernel
theorem d_Cursor_signed_28 : decode prog_2_method_10_code 28 = .ok (.lstore_n 2, 1) := by decide +kernel
theorem d_Cursor_signed_29 : decode prog_2_method_10_code 29 = .ok (.iload 5, 2) := by decide +kernel
theorem d_Cursor_signed_31 : decode prog_2_method_10_code 31 = .ok (.sipush 128, 3) := by decide +kernel
theorem d_Cursor_signed_34 : decode prog_2_method_10_code 34 = .ok (.if_icmp .ge 17, 3) := by decide +kernel
theorem d_Cursor_signed_51 : decode prog_2_method_10_code 51 = .ok (.iinc 4 7, 3) := by decide +kernel
theorem d_Cursor_signed_54 : decode prog_2_method_10_code 54 = .ok (.goto (-49), 3) := by decide +kernel
theorem d_Cursor_signed_57 : decode prog_2_method_10_code 57 = .ok (.aload_n 0, 1) := by decide +kernel
theorem d_Cursor_signed_58 : decode prog_2_method_10_code 58 = .ok (.invokevirtual 33, 3) := by decide +kernel
theorem d_Cursor_signed_61 : decode prog_2_method_10_code 61 = .ok (.lconst 0, 1) := by decide +kernel
theorem d_Cursor_signed_62 : decode prog_2_method_10_code 62 = .ok (.lreturn, 1) := by decide +kernel
theorem d_Cursor_signed_37 : decode prog_2_method_10_code 37 = .ok (.aload_n 0, 1) := by decide +kernel
theorem d_Cursor_signed_38 : decode prog_2_method_10_code 38 = .ok (.lload_n 2, 1) := by decide +kernel
theorem d_Cursor_signed_39 : decode prog_2_method_10_code 39 = .ok (.iload 4, 2) := by decide +kernel
theorem d_Cursor_signed_41 : decode prog_2_method_10_code 41 = .ok (.bipush 7, 2) := by decide +kernel
theorem d_Cursor_signed_43 : decode prog_2_method_10_code 43 = .ok (.iadd, 1) := by decide +kernel
theorem d_Cursor_signed_44 : decode prog_2_method_10_code 44 = .ok (.iload_n 1, 1) := by decide +kernel
theorem d_Cursor_signed_45 : decode prog_2_method_10_code 45 = .ok (.iload 5, 2) := by decide +kernel
theorem d_Cursor_signed_47 : decode prog_2_method_10_code 47 = .ok (.invokevirtual 50, 3) := by decide +kernel
theorem nm_Cursor_withSign : x_nm y_Cursor_withSign 4 = true := by decide +kernel
theorem d_Cursor_signed_50 : decode prog_2_method_10_code 50 = .ok (.lreturn, 1) := by decide +kernel
theorem d_Cursor_vector_0 : decode prog_2_method_12_code 0 = .ok (.aload_n 0, 1) := by decide +kernel
theorem d_Cursor_vector_1 : decode prog_2_method_12_code 1 = .ok (.invokevirtual 38, 3) := by decide +kernel
theorem d_Cursor_vector_4 : decode prog_2_method_12_code 4 = .ok (.lstore_n 1, 1) := by decide +kernel
theorem d_Cursor_vector_5 : decode prog_2_method_12_code 5 = .ok (.aload_n 0, 1) := by decide +kernel
theorem d_Cursor_vector_6 : decode prog_2_method_12_code 6 = .ok (.getfield 25, 3) := by decide +kernel
theorem d_Cursor_vector_9 : decode prog_2_method_12_code 9 = .ok (.ifCond .ne 18, 3) := by decide +kernel
theorem d_Cursor_vector_27 : decode prog_2_method_12_code 27 = .ok (.aload_n 0, 1) := by decide +kernel
theorem d_Cursor_vector_28 : decode prog_2_method_12_code 28 = .ok (.invokevirtual 33, 3) := by decide +kernel
theorem d_Cursor_vector_31 : decode prog_2_method_12_code 31 = .ok (.iconst 0, 1) := by decide +kernel
theorem d_Cursor_vector_32 : decode prog_2_method_12_code 32 = .ok (.ireturn, 1) := by decide +kernel
theorem d_Cursor_vector_12 : decode prog_2_method_12_code 12 = .ok (.lload_n 1, 1) := by decide +kernel
theorem d_Cursor_vector_13 : decode prog_2_method_12_code 13 = .ok (.aload_n 0, 1) := by decide +kernel
theorem d_Cursor_vector_14 : decode prog_2_method_12_code 14 = .ok (.getfield 22, 3) := by decide +kernel
theorem d_Cursor_vector_17 : decode prog_2_method_12_code 17 = .ok (.aload_n 0, 1) := by decide +kernel
theorem d_Cursor_vector_18 : decode prog_2_method_12_code 18 = .ok (.getfield 19, 3) := by decide +kernel
theorem d_Cursor_vector_21 : decode prog_2_method_12_code 21 = .ok (.isub, 1) := by decide +kernel
theorem d_Cursor_vector_22 : decode prog_2_method_12_code 22 = .ok (.i2l, 1) := by decide +kernel
theorem d_Cursor_vector_23 : decode prog_2_method_12_code 23 = .ok (.lcmp, 1) := by decide +kernel
theorem d_Cursor_vector_24 : decode prog_2_method_12_code 24 = .ok (.ifCond .le 9, 3) := by decide +kernel
theorem d_Cursor_vector_33 : decode prog_2_method_12_code 33 = .ok (.lload_n 1, 1) := by decide +kernel
theorem d_Cursor_vector_34 : decode prog_2_method_12_code 34 = .ok (.l2i, 1) := by decide +kernel
theorem d_Cursor_vector_35 : decode prog_2_method_12_code 35 = .ok (.ireturn, 1) := by decide +kernel
theorem d_Cursor_skip_0 : decode prog_2_method_13_code 0 = .ok (.iload_n 1, 1) := by decide +kernel
theorem d_Cursor_skip_1 : decode prog_2_method_13_code 1 = .ok (.ifCond .lt 16, 3) := by decide +kernel
theorem d_Cursor_skip_17 : decode prog_2_method_13_code 17 = .ok (.aload_n 0, 1) := by decide +kernel
theorem d_Cursor_skip_18 : decode prog_2_method_13_code 18 = .ok (.invokevirtual 33, 3) := by decide +kernel
theorem d_Cursor_skip_21 : decode prog_2_method_13_code 21 = .ok (.goto 13, 3) := by decide +kernel
theorem d_Cursor_skip_34 : decode prog_2_method_13_code 34 = .ok (.return_, 1) := by decide +kernel
theorem d_Cursor_skip_4 : decode prog_2_method_13_code 4 = .ok (.iload_n 1, 1) := by decide +kernel
theorem d_Cursor_skip_5 : decode prog_2_method_13_code 5 = .ok (.aload_n 0, 1) := by decide +kernel
theorem d_Cursor_skip_6 : decode prog_2_method_13_code 6 = .ok (.getfield 22, 3) := by decide +kernel
theorem d_Cursor_skip_9 : decode prog_2_method_13_code 9 = .ok (.aload_n 0, 1) := by decide +kernel
theorem d_Cursor_skip_10 : decode prog_2_method_13_code 10 = .ok (.getfield 19, 3) := by decide +kernel
theorem d_Cursor_skip_13 : decode prog_2_method_13_code 13 = .ok (.isub, 1) := by decide +kernel
theorem d_Cursor_skip_14 : decode prog_2_method_13_code 14 = .ok (.if_icmp .le 10, 3) := by decide +kernel
theorem d_Cursor_skip_24 : decode prog_2_method_13_code 24 = .ok (.aload_n 0, 1) := by decide +kernel
theorem d_Cursor_skip_25 : decode prog_2_method_13_code 25 = .ok (.dup, 1) := by decide +kernel
theorem d_Cursor_skip_26 : decode prog_2_method_13_code 26 = .ok (.getfield 19, 3) := by decide +kernel
theorem d_Cursor_skip_29 : decode prog_2_method_13_code 29 = .ok (.iload_n 1, 1) := by decide +kernel
theorem d_Cursor_skip_30 : decode prog_2_method_13_code 30 = .ok (.iadd, 1) := by decide +kernel
theorem d_Cursor_skip_31 : decode prog_2_method_13_code 31 = .ok (.putfield 19, 3) := by decide +kernel
theorem d_Cursor_narrow_0 : decode prog_2_method_14_code 0 = .ok (.aload_n 0, 1) := by decide +kernel
theorem d_Cursor_narrow_1 : decode prog_2_method_14_code 1 = .ok (.getfield 22, 3) := by decide +kernel
theorem d_Cursor_narrow_4 : decode prog_2_method_14_code 4 = .ok (.istore_n 1, 1) := by decide +kernel
theorem d_Cursor_narrow_5 : decode prog_2_method_14_code 5 = .ok (.aload_n 0, 1) := by decide +kernel
theorem d_Cursor_narrow_6 : decode prog_2_method_14_code 6 = .ok (.invokevirtual 54, 3) := by decide +kernel
theorem nm_Cursor_vector : x_nm y_Cursor_vector 0 = true := by decide +kernel
theorem d_Cursor_narrow_9 : decode prog_2_method_14_code 9 = .ok (.istore_n 2, 1) := by decide +kernel
theorem d_Cursor_narrow_10 : decode prog_2_method_14_code 10 = .ok (.aload_n 0, 1) := by decide +kernel
theorem d_Cursor_narrow_11 : decode prog_2_method_14_code 11 = .ok (.aload_n 0, 1) := by decide +kernel
theorem d_Cursor_narrow_12 : decode prog_2_method_14_code 12 = .ok (.getfield 19, 3) := by decide +kernel
theorem d_Cursor_narrow_15 : decode prog_2_method_14_code 15 = .ok (.iload_n 2, 1) := by decide +kernel
theorem d_Cursor_narrow_16 : decode prog_2_method_14_code 16 = .ok (.iadd, 1) := by decide +kernel
theorem d_Cursor_narrow_17 : decode prog_2_method_14_code 17 = .ok (.putfield 22, 3) := by decide +kernel
theorem d_Cursor_narrow_20 : decode prog_2_method_14_code 20 = .ok (.iload_n 1, 1) := by decide +kernel
theorem d_Cursor_narrow_21 : decode prog_2_method_14_code 21 = .ok (.ireturn, 1) := by decide +kernel
theorem d_Cursor_widen_0 : decode prog_2_method_15_code 0 = .ok (.aload_n 0, 1) := by decide +kernel
theorem d_Cursor_widen_1 : decode prog_2_method_15_code 1 = .ok (.getfield 19, 3) := by decide +kernel
theorem d_Cursor_widen_4 : decode prog_2_method_15_code 4 = .ok (.aload_n 0, 1) := by decide +kernel
theorem d_Cursor_widen_5 : decode prog_2_method_15_code 5 = .ok (.getfield 22, 3) := by decide +kernel
theorem d_Cursor_widen_8 : decode prog_2_method_15_code 8 = .ok (.if_icmp .eq 7, 3) := by decide +kernel
theorem d_Cursor_widen_15 : decode prog_2_method_15_code 15 = .ok (.aload_n 0, 1) := by decide +kernel
theorem d_Cursor_widen_16 : decode prog_2_method_15_code 16 = .ok (.iload_n 1, 1) := by decide +kernel
theorem d_Cursor_widen_17 : decode prog_2_method_15_code 17 = .ok (.putfield 22, 3) := by decide +kernel
theorem d_Cursor_widen_20 : decode prog_2_method_15_code 20 = .ok (.return_, 1) := by decide +kernel
theorem d_Cursor_widen_11 : decode prog_2_method_15_code 11 = .ok (.aload_n 0, 1) := by decide +kernel
theorem d_Cursor_widen_12 : decode prog_2_method_15_code 12 = .ok (.invokevirtual 33, 3) := by decide +kernel
