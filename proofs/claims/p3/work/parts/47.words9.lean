def y_TypeStack_require : MethodName := ⟨"WasmReader$TypeStack", "require", "(Z)V"⟩
def y_TypeStack_open : MethodName := ⟨"WasmReader$TypeStack", "open", "(II)V"⟩
def y_TypeStack_begin : MethodName := ⟨"WasmReader$TypeStack", "begin", "(I)V"⟩
def y_TypeStack_push : MethodName := ⟨"WasmReader$TypeStack", "push", "(I)V"⟩
def y_TypeStack_pop : MethodName := ⟨"WasmReader$TypeStack", "pop", "(I)I"⟩
def y_TypeStack_leave : MethodName := ⟨"WasmReader$TypeStack", "leave", "()V"⟩
def y_TypeStack_finishArm : MethodName := ⟨"WasmReader$TypeStack", "finishArm", "()V"⟩
def y_TypeStack_turnToElse : MethodName := ⟨"WasmReader$TypeStack", "turnToElse", "()V"⟩
def y_TypeStack_close : MethodName := ⟨"WasmReader$TypeStack", "close", "()V"⟩
def y_TypeStack_typeOfLabel : MethodName := ⟨"WasmReader$TypeStack", "typeOfLabel", "(I)I"⟩
theorem m_489 : Cond.fieldLink "WasmReader$TypeStack" 36 "WasmReader$TypeStack" "wrong" "Z" ∈ xtb := x_in (List.mem_of_getElem? (i := 431) (by decide +kernel)) (by decide +kernel)
theorem m_490 : Cond.fieldLink "WasmReader$TypeStack" 33 "WasmReader$TypeStack" "top" "I" ∈ xtb := x_in (List.mem_of_getElem? (i := 430) (by decide +kernel)) (by decide +kernel)
theorem m_491 : Cond.fieldLink "WasmReader$TypeStack" 29 "WasmReader$TypeStack" "height" "I" ∈ xtb := x_in (List.mem_of_getElem? (i := 429) (by decide +kernel)) (by decide +kernel)
theorem m_492 : Cond.methodLink "WasmReader$TypeStack" 40 y_TypeStack_open ∈ xtb := x_in (List.mem_of_getElem? (i := 818) (by decide +kernel)) (by decide +kernel)
theorem m_493 : Cond.code y_TypeStack_open prog_9_method_4_code 3 none ∈ xtb := x_in (List.mem_of_getElem? (i := 821) (by decide +kernel)) (by decide +kernel)
theorem m_494 : Cond.instanceMethod y_TypeStack_open ∈ xtb := x_in (List.mem_of_getElem? (i := 819) (by decide +kernel)) (by decide +kernel)
theorem m_495 : Cond.selects "WasmReader$TypeStack" y_TypeStack_open y_TypeStack_open ∈ xtb := x_in (List.mem_of_getElem? (i := 820) (by decide +kernel)) (by decide +kernel)
theorem m_496 : Cond.methodLink "WasmReader$TypeStack" 44 y_TypeStack_require ∈ xtb := x_in (List.mem_of_getElem? (i := 843) (by decide +kernel)) (by decide +kernel)
theorem m_497 : Cond.code y_TypeStack_require prog_9_method_3_code 2 none ∈ xtb := x_in (List.mem_of_getElem? (i := 846) (by decide +kernel)) (by decide +kernel)
theorem m_498 : Cond.instanceMethod y_TypeStack_require ∈ xtb := x_in (List.mem_of_getElem? (i := 844) (by decide +kernel)) (by decide +kernel)
theorem m_499 : Cond.selects "WasmReader$TypeStack" y_TypeStack_require y_TypeStack_require ∈ xtb := x_in (List.mem_of_getElem? (i := 845) (by decide +kernel)) (by decide +kernel)
theorem m_500 : Cond.methodLink "WasmReader$TypeStack" 48 y_TypeStack_pop ∈ xtb := x_in (List.mem_of_getElem? (i := 855) (by decide +kernel)) (by decide +kernel)
theorem m_501 : Cond.code y_TypeStack_pop prog_9_method_6_code 3 (some .int) ∈ xtb := x_in (List.mem_of_getElem? (i := 842) (by decide +kernel)) (by decide +kernel)
theorem m_502 : Cond.instanceMethod y_TypeStack_pop ∈ xtb := x_in (List.mem_of_getElem? (i := 840) (by decide +kernel)) (by decide +kernel)
theorem m_503 : Cond.selects "WasmReader$TypeStack" y_TypeStack_pop y_TypeStack_pop ∈ xtb := x_in (List.mem_of_getElem? (i := 841) (by decide +kernel)) (by decide +kernel)
theorem m_504 : Cond.methodLink "WasmReader$TypeStack" 52 y_TypeStack_finishArm ∈ xtb := x_in (List.mem_of_getElem? (i := 851) (by decide +kernel)) (by decide +kernel)
theorem m_505 : Cond.code y_TypeStack_finishArm prog_9_method_8_code 1 none ∈ xtb := x_in (List.mem_of_getElem? (i := 854) (by decide +kernel)) (by decide +kernel)
theorem m_506 : Cond.instanceMethod y_TypeStack_finishArm ∈ xtb := x_in (List.mem_of_getElem? (i := 853) (by decide +kernel)) (by decide +kernel)
theorem m_507 : Cond.selects "WasmReader$TypeStack" y_TypeStack_finishArm y_TypeStack_finishArm ∈ xtb := x_in (List.mem_of_getElem? (i := 36) (by decide +kernel)) (by decide +kernel)
theorem m_508 : Cond.methodLink "WasmReader$TypeStack" 55 y_TypeStack_push ∈ xtb := x_in (List.mem_of_getElem? (i := 860) (by decide +kernel)) (by decide +kernel)
theorem m_509 : Cond.code y_TypeStack_push prog_9_method_5_code 2 none ∈ xtb := x_in (List.mem_of_getElem? (i := 863) (by decide +kernel)) (by decide +kernel)
theorem m_510 : Cond.instanceMethod y_TypeStack_push ∈ xtb := x_in (List.mem_of_getElem? (i := 861) (by decide +kernel)) (by decide +kernel)
theorem m_511 : Cond.selects "WasmReader$TypeStack" y_TypeStack_push y_TypeStack_push ∈ xtb := x_in (List.mem_of_getElem? (i := 862) (by decide +kernel)) (by decide +kernel)
theorem d_TypeStack_require_0 : decode prog_9_method_3_code 0 = .ok (.iload_n 1, 1) := by decide +kernel
theorem d_TypeStack_require_1 : decode prog_9_method_3_code 1 = .ok (.ifCond .ne 8, 3) := by decide +kernel
theorem d_TypeStack_require_9 : decode prog_9_method_3_code 9 = .ok (.return_, 1) := by decide +kernel
theorem d_TypeStack_require_4 : decode prog_9_method_3_code 4 = .ok (.aload_n 0, 1) := by decide +kernel
theorem d_TypeStack_require_5 : decode prog_9_method_3_code 5 = .ok (.iconst 1, 1) := by decide +kernel
theorem d_TypeStack_require_6 : decode prog_9_method_3_code 6 = .ok (.putfield 36, 3) := by decide +kernel
theorem d_TypeStack_open_0 : decode prog_9_method_4_code 0 = .ok (.aload_n 0, 1) := by decide +kernel
theorem d_TypeStack_open_1 : decode prog_9_method_4_code 1 = .ok (.getfield 33, 3) := by decide +kernel
theorem d_TypeStack_open_4 : decode prog_9_method_4_code 4 = .ok (.bipush 30, 2) := by decide +kernel
theorem d_TypeStack_open_6 : decode prog_9_method_4_code 6 = .ok (.if_icmp .lt 9, 3) := by decide +kernel
theorem d_TypeStack_open_15 : decode prog_9_method_4_code 15 = .ok (.aload_n 0, 1) := by decide +kernel
theorem d_TypeStack_open_16 : decode prog_9_method_4_code 16 = .ok (.dup, 1) := by decide +kernel
theorem d_TypeStack_open_17 : decode prog_9_method_4_code 17 = .ok (.getfield 33, 3) := by decide +kernel
theorem d_TypeStack_open_20 : decode prog_9_method_4_code 20 = .ok (.iconst 1, 1) := by decide +kernel
theorem d_TypeStack_open_21 : decode prog_9_method_4_code 21 = .ok (.iadd, 1) := by decide +kernel
theorem d_TypeStack_open_22 : decode prog_9_method_4_code 22 = .ok (.putfield 33, 3) := by decide +kernel
theorem d_TypeStack_open_25 : decode prog_9_method_4_code 25 = .ok (.aload_n 0, 1) := by decide +kernel
theorem d_TypeStack_open_26 : decode prog_9_method_4_code 26 = .ok (.getfield 15, 3) := by decide +kernel
theorem d_TypeStack_open_29 : decode prog_9_method_4_code 29 = .ok (.aload_n 0, 1) := by decide +kernel
theorem d_TypeStack_open_30 : decode prog_9_method_4_code 30 = .ok (.getfield 33, 3) := by decide +kernel
theorem d_TypeStack_open_33 : decode prog_9_method_4_code 33 = .ok (.iload_n 1, 1) := by decide +kernel
theorem d_TypeStack_open_34 : decode prog_9_method_4_code 34 = .ok (.iastore, 1) := by decide +kernel
theorem d_TypeStack_open_35 : decode prog_9_method_4_code 35 = .ok (.aload_n 0, 1) := by decide +kernel
theorem d_TypeStack_open_36 : decode prog_9_method_4_code 36 = .ok (.getfield 19, 3) := by decide +kernel
theorem d_TypeStack_open_39 : decode prog_9_method_4_code 39 = .ok (.aload_n 0, 1) := by decide +kernel
theorem d_TypeStack_open_40 : decode prog_9_method_4_code 40 = .ok (.getfield 33, 3) := by decide +kernel
theorem d_TypeStack_open_43 : decode prog_9_method_4_code 43 = .ok (.iload_n 2, 1) := by decide +kernel
theorem d_TypeStack_open_44 : decode prog_9_method_4_code 44 = .ok (.iastore, 1) := by decide +kernel
theorem d_TypeStack_open_45 : decode prog_9_method_4_code 45 = .ok (.aload_n 0, 1) := by decide +kernel
theorem d_TypeStack_open_46 : decode prog_9_method_4_code 46 = .ok (.getfield 22, 3) := by decide +kernel
theorem d_TypeStack_open_49 : decode prog_9_method_4_code 49 = .ok (.aload_n 0, 1) := by decide +kernel
theorem d_TypeStack_open_50 : decode prog_9_method_4_code 50 = .ok (.getfield 33, 3) := by decide +kernel
theorem d_TypeStack_open_53 : decode prog_9_method_4_code 53 = .ok (.aload_n 0, 1) := by decide +kernel
theorem d_TypeStack_open_54 : decode prog_9_method_4_code 54 = .ok (.getfield 29, 3) := by decide +kernel
theorem d_TypeStack_open_57 : decode prog_9_method_4_code 57 = .ok (.iastore, 1) := by decide +kernel
theorem d_TypeStack_open_58 : decode prog_9_method_4_code 58 = .ok (.aload_n 0, 1) := by decide +kernel
theorem d_TypeStack_open_59 : decode prog_9_method_4_code 59 = .ok (.getfield 25, 3) := by decide +kernel
theorem d_TypeStack_open_62 : decode prog_9_method_4_code 62 = .ok (.aload_n 0, 1) := by decide +kernel
theorem d_TypeStack_open_63 : decode prog_9_method_4_code 63 = .ok (.getfield 33, 3) := by decide +kernel
theorem d_TypeStack_open_66 : decode prog_9_method_4_code 66 = .ok (.iconst 0, 1) := by decide +kernel
theorem d_TypeStack_open_67 : decode prog_9_method_4_code 67 = .ok (.bastore, 1) := by decide +kernel
theorem d_TypeStack_open_68 : decode prog_9_method_4_code 68 = .ok (.return_, 1) := by decide +kernel
theorem d_TypeStack_open_9 : decode prog_9_method_4_code 9 = .ok (.aload_n 0, 1) := by decide +kernel
theorem d_TypeStack_open_10 : decode prog_9_method_4_code 10 = .ok (.iconst 1, 1) := by decide +kernel
theorem d_TypeStack_open_11 : decode prog_9_method_4_code 11 = .ok (.putfield 36, 3) := by decide +kernel
theorem d_TypeStack_open_14 : decode prog_9_method_4_code 14 = .ok (.return_, 1) := by decide +kernel
theorem d_TypeStack_begin_0 : decode prog_9_method_2_code 0 = .ok (.aload_n 0, 1) := by decide +kernel
theorem d_TypeStack_begin_1 : decode prog_9_method_2_code 1 = .ok (.iconst 0, 1) := by decide +kernel
theorem d_TypeStack_begin_2 : decode prog_9_method_2_code 2 = .ok (.putfield 29, 3) := by decide +kernel
theorem d_TypeStack_begin_5 : decode prog_9_method_2_code 5 = .ok (.aload_n 0, 1) := by decide +kernel
theorem d_TypeStack_begin_6 : decode prog_9_method_2_code 6 = .ok (.iconst (-1), 1) := by decide +kernel
theorem d_TypeStack_begin_7 : decode prog_9_method_2_code 7 = .ok (.putfield 33, 3) := by decide +kernel
theorem d_TypeStack_begin_10 : decode prog_9_method_2_code 10 = .ok (.aload_n 0, 1) := by decide +kernel
theorem d_TypeStack_begin_11 : decode prog_9_method_2_code 11 = .ok (.iconst 0, 1) := by decide +kernel
theorem d_TypeStack_begin_12 : decode prog_9_method_2_code 12 = .ok (.putfield 36, 3) := by decide +kernel
theorem d_TypeStack_begin_15 : decode prog_9_method_2_code 15 = .ok (.aload_n 0, 1) := by decide +kernel
theorem d_TypeStack_begin_16 : decode prog_9_method_2_code 16 = .ok (.iconst 2, 1) := by decide +kernel
theorem d_TypeStack_begin_17 : decode prog_9_method_2_code 17 = .ok (.iload_n 1, 1) := by decide +kernel
theorem d_TypeStack_begin_18 : decode prog_9_method_2_code 18 = .ok (.invokevirtual 40, 3) := by decide +kernel
theorem nm_TypeStack_open : x_nm y_TypeStack_open 2 = true := by decide +kernel
theorem d_TypeStack_begin_21 : decode prog_9_method_2_code 21 = .ok (.return_, 1) := by decide +kernel
theorem d_TypeStack_push_0 : decode prog_9_method_5_code 0 = .ok (.iload_n 1, 1) := by decide +kernel
theorem d_TypeStack_push_1 : decode prog_9_method_5_code 1 = .ok (.iconst (-1), 1) := by decide +kernel
theorem d_TypeStack_push_2 : decode prog_9_method_5_code 2 = .ok (.if_icmp .ne 4, 3) := by decide +kernel
theorem d_TypeStack_push_6 : decode prog_9_method_5_code 6 = .ok (.aload_n 0, 1) := by decide +kernel
theorem d_TypeStack_push_7 : decode prog_9_method_5_code 7 = .ok (.getfield 29, 3) := by decide +kernel
theorem d_TypeStack_push_10 : decode prog_9_method_5_code 10 = .ok (.aload_n 0, 1) := by decide +kernel
theorem d_TypeStack_push_11 : decode prog_9_method_5_code 11 = .ok (.getfield 9, 3) := by decide +kernel
theorem d_TypeStack_push_14 : decode prog_9_method_5_code 14 = .ok (.arraylength, 1) := by decide +kernel
theorem d_TypeStack_push_15 : decode prog_9_method_5_code 15 = .ok (.if_icmp .lt 9, 3) := by decide +kernel
theorem d_TypeStack_push_24 : decode prog_9_method_5_code 24 = .ok (.aload_n 0, 1) := by decide +kernel
theorem d_TypeStack_push_25 : decode prog_9_method_5_code 25 = .ok (.getfield 9, 3) := by decide +kernel
theorem d_TypeStack_push_28 : decode prog_9_method_5_code 28 = .ok (.aload_n 0, 1) := by decide +kernel
theorem d_TypeStack_push_29 : decode prog_9_method_5_code 29 = .ok (.getfield 29, 3) := by decide +kernel
theorem d_TypeStack_push_32 : decode prog_9_method_5_code 32 = .ok (.iload_n 1, 1) := by decide +kernel
theorem d_TypeStack_push_33 : decode prog_9_method_5_code 33 = .ok (.i2b, 1) := by decide +kernel
theorem d_TypeStack_push_34 : decode prog_9_method_5_code 34 = .ok (.bastore, 1) := by decide +kernel
theorem d_TypeStack_push_35 : decode prog_9_method_5_code 35 = .ok (.aload_n 0, 1) := by decide +kernel
theorem d_TypeStack_push_36 : decode prog_9_method_5_code 36 = .ok (.dup, 1) := by decide +kernel
theorem d_TypeStack_push_37 : decode prog_9_method_5_code 37 = .ok (.getfield 29, 3) := by decide +kernel
theorem d_TypeStack_push_40 : decode prog_9_method_5_code 40 = .ok (.iconst 1, 1) := by decide +kernel
theorem d_TypeStack_push_41 : decode prog_9_method_5_code 41 = .ok (.iadd, 1) := by decide +kernel
theorem d_TypeStack_push_42 : decode prog_9_method_5_code 42 = .ok (.putfield 29, 3) := by decide +kernel
theorem d_TypeStack_push_45 : decode prog_9_method_5_code 45 = .ok (.return_, 1) := by decide +kernel
theorem d_TypeStack_push_18 : decode prog_9_method_5_code 18 = .ok (.aload_n 0, 1) := by decide +kernel
theorem d_TypeStack_push_19 : decode prog_9_method_5_code 19 = .ok (.iconst 1, 1) := by decide +kernel
theorem d_TypeStack_push_20 : decode prog_9_method_5_code 20 = .ok (.putfield 36, 3) := by decide +kernel
theorem d_TypeStack_push_23 : decode prog_9_method_5_code 23 = .ok (.return_, 1) := by decide +kernel
theorem d_TypeStack_push_5 : decode prog_9_method_5_code 5 = .ok (.return_, 1) := by decide +kernel
theorem d_TypeStack_pop_0 : decode prog_9_method_6_code 0 = .ok (.iload_n 1, 1) := by decide +kernel
theorem d_TypeStack_pop_1 : decode prog_9_method_6_code 1 = .ok (.iconst (-1), 1) := by decide +kernel
theorem d_TypeStack_pop_2 : decode prog_9_method_6_code 2 = .ok (.if_icmp .ne 5, 3) := by decide +kernel
theorem d_TypeStack_pop_7 : decode prog_9_method_6_code 7 = .ok (.aload_n 0, 1) := by decide +kernel
theorem d_TypeStack_pop_8 : decode prog_9_method_6_code 8 = .ok (.getfield 29, 3) := by decide +kernel
theorem d_TypeStack_pop_11 : decode prog_9_method_6_code 11 = .ok (.aload_n 0, 1) := by decide +kernel
theorem d_TypeStack_pop_12 : decode prog_9_method_6_code 12 = .ok (.getfield 22, 3) := by decide +kernel
theorem d_TypeStack_pop_15 : decode prog_9_method_6_code 15 = .ok (.aload_n 0, 1) := by decide +kernel
theorem d_TypeStack_pop_16 : decode prog_9_method_6_code 16 = .ok (.getfield 33, 3) := by decide +kernel
theorem d_TypeStack_pop_19 : decode prog_9_method_6_code 19 = .ok (.iaload, 1) := by decide +kernel
theorem d_TypeStack_pop_20 : decode prog_9_method_6_code 20 = .ok (.if_icmp .gt 18, 3) := by decide +kernel
theorem d_TypeStack_pop_38 : decode prog_9_method_6_code 38 = .ok (.aload_n 0, 1) := by decide +kernel
theorem d_TypeStack_pop_39 : decode prog_9_method_6_code 39 = .ok (.dup, 1) := by decide +kernel
theorem d_TypeStack_pop_40 : decode prog_9_method_6_code 40 = .ok (.getfield 29, 3) := by decide +kernel
theorem d_TypeStack_pop_43 : decode prog_9_method_6_code 43 = .ok (.iconst 1, 1) := by decide +kernel
theorem d_TypeStack_pop_44 : decode prog_9_method_6_code 44 = .ok (.isub, 1) := by decide +kernel
theorem d_TypeStack_pop_45 : decode prog_9_method_6_code 45 = .ok (.putfield 29, 3) := by decide +kernel
theorem d_TypeStack_pop_48 : decode prog_9_method_6_code 48 = .ok (.aload_n 0, 1) := by decide +kernel
theorem d_TypeStack_pop_49 : decode prog_9_method_6_code 49 = .ok (.getfield 9, 3) := by decide +kernel
theorem d_TypeStack_pop_52 : decode prog_9_method_6_code 52 = .ok (.aload_n 0, 1) := by decide +kernel
theorem d_TypeStack_pop_53 : decode prog_9_method_6_code 53 = .ok (.getfield 29, 3) := by decide +kernel
theorem d_TypeStack_pop_56 : decode prog_9_method_6_code 56 = .ok (.baload, 1) := by decide +kernel
theorem d_TypeStack_pop_57 : decode prog_9_method_6_code 57 = .ok (.istore_n 2, 1) := by decide +kernel
theorem d_TypeStack_pop_58 : decode prog_9_method_6_code 58 = .ok (.aload_n 0, 1) := by decide +kernel
theorem d_TypeStack_pop_59 : decode prog_9_method_6_code 59 = .ok (.iload_n 2, 1) := by decide +kernel
theorem d_TypeStack_pop_60 : decode prog_9_method_6_code 60 = .ok (.iload_n 1, 1) := by decide +kernel
theorem d_TypeStack_pop_61 : decode prog_9_method_6_code 61 = .ok (.if_icmp .eq 13, 3) := by decide +kernel
theorem d_TypeStack_pop_74 : decode prog_9_method_6_code 74 = .ok (.iconst 1, 1) := by decide +kernel
theorem d_TypeStack_pop_75 : decode prog_9_method_6_code 75 = .ok (.goto 4, 3) := by decide +kernel
theorem d_TypeStack_pop_79 : decode prog_9_method_6_code 79 = .ok (.invokevirtual 44, 3) := by decide +kernel
theorem nm_TypeStack_require : x_nm y_TypeStack_require 1 = true := by decide +kernel
theorem d_TypeStack_pop_82 : decode prog_9_method_6_code 82 = .ok (.iload_n 2, 1) := by decide +kernel
theorem d_TypeStack_pop_83 : decode prog_9_method_6_code 83 = .ok (.iconst 2, 1) := by decide +kernel
theorem d_TypeStack_pop_84 : decode prog_9_method_6_code 84 = .ok (.if_icmp .ne 7, 3) := by decide +kernel
theorem d_TypeStack_pop_91 : decode prog_9_method_6_code 91 = .ok (.iload_n 2, 1) := by decide +kernel
theorem d_TypeStack_pop_92 : decode prog_9_method_6_code 92 = .ok (.ireturn, 1) := by decide +kernel
theorem d_TypeStack_pop_87 : decode prog_9_method_6_code 87 = .ok (.iload_n 1, 1) := by decide +kernel
theorem d_TypeStack_pop_88 : decode prog_9_method_6_code 88 = .ok (.goto 4, 3) := by decide +kernel
theorem d_TypeStack_pop_64 : decode prog_9_method_6_code 64 = .ok (.iload_n 2, 1) := by decide +kernel
theorem d_TypeStack_pop_65 : decode prog_9_method_6_code 65 = .ok (.iconst 2, 1) := by decide +kernel
theorem d_TypeStack_pop_66 : decode prog_9_method_6_code 66 = .ok (.if_icmp .eq 8, 3) := by decide +kernel
theorem d_TypeStack_pop_69 : decode prog_9_method_6_code 69 = .ok (.iload_n 1, 1) := by decide +kernel
theorem d_TypeStack_pop_70 : decode prog_9_method_6_code 70 = .ok (.iconst 2, 1) := by decide +kernel
theorem d_TypeStack_pop_71 : decode prog_9_method_6_code 71 = .ok (.if_icmp .ne 7, 3) := by decide +kernel
theorem d_TypeStack_pop_78 : decode prog_9_method_6_code 78 = .ok (.iconst 0, 1) := by decide +kernel
theorem d_TypeStack_pop_23 : decode prog_9_method_6_code 23 = .ok (.aload_n 0, 1) := by decide +kernel
theorem d_TypeStack_pop_24 : decode prog_9_method_6_code 24 = .ok (.aload_n 0, 1) := by decide +kernel
theorem d_TypeStack_pop_25 : decode prog_9_method_6_code 25 = .ok (.getfield 25, 3) := by decide +kernel
theorem d_TypeStack_pop_28 : decode prog_9_method_6_code 28 = .ok (.aload_n 0, 1) := by decide +kernel
theorem d_TypeStack_pop_29 : decode prog_9_method_6_code 29 = .ok (.getfield 33, 3) := by decide +kernel
theorem d_TypeStack_pop_32 : decode prog_9_method_6_code 32 = .ok (.baload, 1) := by decide +kernel
theorem d_TypeStack_pop_33 : decode prog_9_method_6_code 33 = .ok (.invokevirtual 44, 3) := by decide +kernel
theorem d_TypeStack_pop_36 : decode prog_9_method_6_code 36 = .ok (.iload_n 1, 1) := by decide +kernel
theorem d_TypeStack_pop_37 : decode prog_9_method_6_code 37 = .ok (.ireturn, 1) := by decide +kernel
theorem d_TypeStack_pop_5 : decode prog_9_method_6_code 5 = .ok (.iconst (-1), 1) := by decide +kernel
theorem d_TypeStack_pop_6 : decode prog_9_method_6_code 6 = .ok (.ireturn, 1) := by decide +kernel
theorem d_TypeStack_leave_0 : decode prog_9_method_7_code 0 = .ok (.aload_n 0, 1) := by decide +kernel
theorem d_TypeStack_leave_1 : decode prog_9_method_7_code 1 = .ok (.aload_n 0, 1) := by decide +kernel
theorem d_TypeStack_leave_2 : decode prog_9_method_7_code 2 = .ok (.getfield 22, 3) := by decide +kernel
theorem d_TypeStack_leave_5 : decode prog_9_method_7_code 5 = .ok (.aload_n 0, 1) := by decide +kernel
theorem d_TypeStack_leave_6 : decode prog_9_method_7_code 6 = .ok (.getfield 33, 3) := by decide +kernel
theorem d_TypeStack_leave_9 : decode prog_9_method_7_code 9 = .ok (.iaload, 1) := by decide +kernel
theorem d_TypeStack_leave_10 : decode prog_9_method_7_code 10 = .ok (.putfield 29, 3) := by decide +kernel
theorem d_TypeStack_leave_13 : decode prog_9_method_7_code 13 = .ok (.aload_n 0, 1) := by decide +kernel
theorem d_TypeStack_leave_14 : decode prog_9_method_7_code 14 = .ok (.getfield 25, 3) := by decide +kernel
theorem d_TypeStack_leave_17 : decode prog_9_method_7_code 17 = .ok (.aload_n 0, 1) := by decide +kernel
theorem d_TypeStack_leave_18 : decode prog_9_method_7_code 18 = .ok (.getfield 33, 3) := by decide +kernel
theorem d_TypeStack_leave_21 : decode prog_9_method_7_code 21 = .ok (.iconst 1, 1) := by decide +kernel
theorem d_TypeStack_leave_22 : decode prog_9_method_7_code 22 = .ok (.bastore, 1) := by decide +kernel
theorem d_TypeStack_leave_23 : decode prog_9_method_7_code 23 = .ok (.return_, 1) := by decide +kernel
theorem d_TypeStack_finishArm_0 : decode prog_9_method_8_code 0 = .ok (.aload_n 0, 1) := by decide +kernel
theorem d_TypeStack_finishArm_1 : decode prog_9_method_8_code 1 = .ok (.aload_n 0, 1) := by decide +kernel
theorem d_TypeStack_finishArm_2 : decode prog_9_method_8_code 2 = .ok (.getfield 19, 3) := by decide +kernel
theorem d_TypeStack_finishArm_5 : decode prog_9_method_8_code 5 = .ok (.aload_n 0, 1) := by decide +kernel
theorem d_TypeStack_finishArm_6 : decode prog_9_method_8_code 6 = .ok (.getfield 33, 3) := by decide +kernel
theorem d_TypeStack_finishArm_9 : decode prog_9_method_8_code 9 = .ok (.iaload, 1) := by decide +kernel
theorem d_TypeStack_finishArm_10 : decode prog_9_method_8_code 10 = .ok (.invokevirtual 48, 3) := by decide +kernel
theorem nm_TypeStack_pop : x_nm y_TypeStack_pop 1 = true := by decide +kernel
theorem d_TypeStack_finishArm_13 : decode prog_9_method_8_code 13 = .ok (.pop, 1) := by decide +kernel
theorem d_TypeStack_finishArm_14 : decode prog_9_method_8_code 14 = .ok (.aload_n 0, 1) := by decide +kernel
theorem d_TypeStack_finishArm_15 : decode prog_9_method_8_code 15 = .ok (.aload_n 0, 1) := by decide +kernel
theorem d_TypeStack_finishArm_16 : decode prog_9_method_8_code 16 = .ok (.getfield 29, 3) := by decide +kernel
theorem d_TypeStack_finishArm_19 : decode prog_9_method_8_code 19 = .ok (.aload_n 0, 1) := by decide +kernel
theorem d_TypeStack_finishArm_20 : decode prog_9_method_8_code 20 = .ok (.getfield 22, 3) := by decide +kernel
theorem d_TypeStack_finishArm_23 : decode prog_9_method_8_code 23 = .ok (.aload_n 0, 1) := by decide +kernel
theorem d_TypeStack_finishArm_24 : decode prog_9_method_8_code 24 = .ok (.getfield 33, 3) := by decide +kernel
theorem d_TypeStack_finishArm_27 : decode prog_9_method_8_code 27 = .ok (.iaload, 1) := by decide +kernel
theorem d_TypeStack_finishArm_28 : decode prog_9_method_8_code 28 = .ok (.if_icmp .ne 7, 3) := by decide +kernel
theorem d_TypeStack_finishArm_35 : decode prog_9_method_8_code 35 = .ok (.iconst 0, 1) := by decide +kernel
theorem d_TypeStack_finishArm_36 : decode prog_9_method_8_code 36 = .ok (.invokevirtual 44, 3) := by decide +kernel
theorem d_TypeStack_finishArm_39 : decode prog_9_method_8_code 39 = .ok (.return_, 1) := by decide +kernel
theorem d_TypeStack_finishArm_31 : decode prog_9_method_8_code 31 = .ok (.iconst 1, 1) := by decide +kernel
theorem d_TypeStack_finishArm_32 : decode prog_9_method_8_code 32 = .ok (.goto 4, 3) := by decide +kernel
theorem d_TypeStack_turnToElse_0 : decode prog_9_method_9_code 0 = .ok (.aload_n 0, 1) := by decide +kernel
theorem d_TypeStack_turnToElse_1 : decode prog_9_method_9_code 1 = .ok (.invokevirtual 52, 3) := by decide +kernel
theorem nm_TypeStack_finishArm : x_nm y_TypeStack_finishArm 0 = true := by decide +kernel
theorem d_TypeStack_turnToElse_4 : decode prog_9_method_9_code 4 = .ok (.aload_n 0, 1) := by decide +kernel
theorem d_TypeStack_turnToElse_5 : decode prog_9_method_9_code 5 = .ok (.getfield 15, 3) := by decide +kernel
theorem d_TypeStack_turnToElse_8 : decode prog_9_method_9_code 8 = .ok (.aload_n 0, 1) := by decide +kernel
theorem d_TypeStack_turnToElse_9 : decode prog_9_method_9_code 9 = .ok (.getfield 33, 3) := by decide +kernel
theorem d_TypeStack_turnToElse_12 : decode prog_9_method_9_code 12 = .ok (.iconst 5, 1) := by decide +kernel
theorem d_TypeStack_turnToElse_13 : decode prog_9_method_9_code 13 = .ok (.iastore, 1) := by decide +kernel
theorem d_TypeStack_turnToElse_14 : decode prog_9_method_9_code 14 = .ok (.aload_n 0, 1) := by decide +kernel
theorem d_TypeStack_turnToElse_15 : decode prog_9_method_9_code 15 = .ok (.getfield 25, 3) := by decide +kernel
theorem d_TypeStack_turnToElse_18 : decode prog_9_method_9_code 18 = .ok (.aload_n 0, 1) := by decide +kernel
theorem d_TypeStack_turnToElse_19 : decode prog_9_method_9_code 19 = .ok (.getfield 33, 3) := by decide +kernel
theorem d_TypeStack_turnToElse_22 : decode prog_9_method_9_code 22 = .ok (.iconst 0, 1) := by decide +kernel
theorem d_TypeStack_turnToElse_23 : decode prog_9_method_9_code 23 = .ok (.bastore, 1) := by decide +kernel
theorem d_TypeStack_turnToElse_24 : decode prog_9_method_9_code 24 = .ok (.return_, 1) := by decide +kernel
theorem d_TypeStack_close_0 : decode prog_9_method_10_code 0 = .ok (.aload_n 0, 1) := by decide +kernel
theorem d_TypeStack_close_1 : decode prog_9_method_10_code 1 = .ok (.invokevirtual 52, 3) := by decide +kernel
theorem d_TypeStack_close_4 : decode prog_9_method_10_code 4 = .ok (.aload_n 0, 1) := by decide +kernel
theorem d_TypeStack_close_5 : decode prog_9_method_10_code 5 = .ok (.aload_n 0, 1) := by decide +kernel
theorem d_TypeStack_close_6 : decode prog_9_method_10_code 6 = .ok (.getfield 15, 3) := by decide +kernel
theorem d_TypeStack_close_9 : decode prog_9_method_10_code 9 = .ok (.aload_n 0, 1) := by decide +kernel
theorem d_TypeStack_close_10 : decode prog_9_method_10_code 10 = .ok (.getfield 33, 3) := by decide +kernel
theorem d_TypeStack_close_13 : decode prog_9_method_10_code 13 = .ok (.iaload, 1) := by decide +kernel
theorem d_TypeStack_close_14 : decode prog_9_method_10_code 14 = .ok (.iconst 4, 1) := by decide +kernel
theorem d_TypeStack_close_15 : decode prog_9_method_10_code 15 = .ok (.if_icmp .ne 16, 3) := by decide +kernel
theorem d_TypeStack_close_31 : decode prog_9_method_10_code 31 = .ok (.iconst 1, 1) := by decide +kernel
theorem d_TypeStack_close_32 : decode prog_9_method_10_code 32 = .ok (.goto 4, 3) := by decide +kernel
theorem d_TypeStack_close_36 : decode prog_9_method_10_code 36 = .ok (.invokevirtual 44, 3) := by decide +kernel
theorem d_TypeStack_close_39 : decode prog_9_method_10_code 39 = .ok (.aload_n 0, 1) := by decide +kernel
theorem d_TypeStack_close_40 : decode prog_9_method_10_code 40 = .ok (.getfield 33, 3) := by decide +kernel
theorem d_TypeStack_close_43 : decode prog_9_method_10_code 43 = .ok (.ifCond .le 28, 3) := by decide +kernel
theorem d_TypeStack_close_71 : decode prog_9_method_10_code 71 = .ok (.return_, 1) := by decide +kernel
theorem d_TypeStack_close_46 : decode prog_9_method_10_code 46 = .ok (.aload_n 0, 1) := by decide +kernel
theorem d_TypeStack_close_47 : decode prog_9_method_10_code 47 = .ok (.getfield 19, 3) := by decide +kernel
theorem d_TypeStack_close_50 : decode prog_9_method_10_code 50 = .ok (.aload_n 0, 1) := by decide +kernel
theorem d_TypeStack_close_51 : decode prog_9_method_10_code 51 = .ok (.getfield 33, 3) := by decide +kernel
theorem d_TypeStack_close_54 : decode prog_9_method_10_code 54 = .ok (.iaload, 1) := by decide +kernel
theorem d_TypeStack_close_55 : decode prog_9_method_10_code 55 = .ok (.istore_n 1, 1) := by decide +kernel
theorem d_TypeStack_close_56 : decode prog_9_method_10_code 56 = .ok (.aload_n 0, 1) := by decide +kernel
theorem d_TypeStack_close_57 : decode prog_9_method_10_code 57 = .ok (.dup, 1) := by decide +kernel
theorem d_TypeStack_close_58 : decode prog_9_method_10_code 58 = .ok (.getfield 33, 3) := by decide +kernel
theorem d_TypeStack_close_61 : decode prog_9_method_10_code 61 = .ok (.iconst 1, 1) := by decide +kernel
theorem d_TypeStack_close_62 : decode prog_9_method_10_code 62 = .ok (.isub, 1) := by decide +kernel
theorem d_TypeStack_close_63 : decode prog_9_method_10_code 63 = .ok (.putfield 33, 3) := by decide +kernel
theorem d_TypeStack_close_66 : decode prog_9_method_10_code 66 = .ok (.aload_n 0, 1) := by decide +kernel
theorem d_TypeStack_close_67 : decode prog_9_method_10_code 67 = .ok (.iload_n 1, 1) := by decide +kernel
theorem d_TypeStack_close_68 : decode prog_9_method_10_code 68 = .ok (.invokevirtual 55, 3) := by decide +kernel
theorem nm_TypeStack_push : x_nm y_TypeStack_push 1 = true := by decide +kernel
theorem d_TypeStack_close_18 : decode prog_9_method_10_code 18 = .ok (.aload_n 0, 1) := by decide +kernel
theorem d_TypeStack_close_19 : decode prog_9_method_10_code 19 = .ok (.getfield 19, 3) := by decide +kernel
theorem d_TypeStack_close_22 : decode prog_9_method_10_code 22 = .ok (.aload_n 0, 1) := by decide +kernel
theorem d_TypeStack_close_23 : decode prog_9_method_10_code 23 = .ok (.getfield 33, 3) := by decide +kernel
theorem d_TypeStack_close_26 : decode prog_9_method_10_code 26 = .ok (.iaload, 1) := by decide +kernel
theorem d_TypeStack_close_27 : decode prog_9_method_10_code 27 = .ok (.iconst (-1), 1) := by decide +kernel
theorem d_TypeStack_close_28 : decode prog_9_method_10_code 28 = .ok (.if_icmp .ne 7, 3) := by decide +kernel
theorem d_TypeStack_close_35 : decode prog_9_method_10_code 35 = .ok (.iconst 0, 1) := by decide +kernel
theorem d_TypeStack_typeOfLabel_0 : decode prog_9_method_11_code 0 = .ok (.iload_n 1, 1) := by decide +kernel
theorem d_TypeStack_typeOfLabel_1 : decode prog_9_method_11_code 1 = .ok (.ifCond .lt 11, 3) := by decide +kernel
theorem d_TypeStack_typeOfLabel_12 : decode prog_9_method_11_code 12 = .ok (.aload_n 0, 1) := by decide +kernel
theorem d_TypeStack_typeOfLabel_13 : decode prog_9_method_11_code 13 = .ok (.iconst 1, 1) := by decide +kernel
theorem d_TypeStack_typeOfLabel_14 : decode prog_9_method_11_code 14 = .ok (.putfield 36, 3) := by decide +kernel
theorem d_TypeStack_typeOfLabel_17 : decode prog_9_method_11_code 17 = .ok (.iconst (-1), 1) := by decide +kernel
theorem d_TypeStack_typeOfLabel_18 : decode prog_9_method_11_code 18 = .ok (.ireturn, 1) := by decide +kernel
theorem d_TypeStack_typeOfLabel_4 : decode prog_9_method_11_code 4 = .ok (.iload_n 1, 1) := by decide +kernel
theorem d_TypeStack_typeOfLabel_5 : decode prog_9_method_11_code 5 = .ok (.aload_n 0, 1) := by decide +kernel
theorem d_TypeStack_typeOfLabel_6 : decode prog_9_method_11_code 6 = .ok (.getfield 33, 3) := by decide +kernel
theorem d_TypeStack_typeOfLabel_9 : decode prog_9_method_11_code 9 = .ok (.if_icmp .le 10, 3) := by decide +kernel
theorem d_TypeStack_typeOfLabel_19 : decode prog_9_method_11_code 19 = .ok (.aload_n 0, 1) := by decide +kernel
theorem d_TypeStack_typeOfLabel_20 : decode prog_9_method_11_code 20 = .ok (.getfield 15, 3) := by decide +kernel
theorem d_TypeStack_typeOfLabel_23 : decode prog_9_method_11_code 23 = .ok (.aload_n 0, 1) := by decide +kernel
theorem d_TypeStack_typeOfLabel_24 : decode prog_9_method_11_code 24 = .ok (.getfield 33, 3) := by decide +kernel
theorem d_TypeStack_typeOfLabel_27 : decode prog_9_method_11_code 27 = .ok (.iload_n 1, 1) := by decide +kernel
theorem d_TypeStack_typeOfLabel_28 : decode prog_9_method_11_code 28 = .ok (.isub, 1) := by decide +kernel
theorem d_TypeStack_typeOfLabel_29 : decode prog_9_method_11_code 29 = .ok (.iaload, 1) := by decide +kernel
theorem d_TypeStack_typeOfLabel_30 : decode prog_9_method_11_code 30 = .ok (.iconst 3, 1) := by decide +kernel
theorem d_TypeStack_typeOfLabel_31 : decode prog_9_method_11_code 31 = .ok (.if_icmp .ne 7, 3) := by decide +kernel
theorem d_TypeStack_typeOfLabel_38 : decode prog_9_method_11_code 38 = .ok (.aload_n 0, 1) := by decide +kernel
theorem d_TypeStack_typeOfLabel_39 : decode prog_9_method_11_code 39 = .ok (.getfield 19, 3) := by decide +kernel
theorem d_TypeStack_typeOfLabel_42 : decode prog_9_method_11_code 42 = .ok (.aload_n 0, 1) := by decide +kernel
theorem d_TypeStack_typeOfLabel_43 : decode prog_9_method_11_code 43 = .ok (.getfield 33, 3) := by decide +kernel
theorem d_TypeStack_typeOfLabel_46 : decode prog_9_method_11_code 46 = .ok (.iload_n 1, 1) := by decide +kernel
theorem d_TypeStack_typeOfLabel_47 : decode prog_9_method_11_code 47 = .ok (.isub, 1) := by decide +kernel
theorem d_TypeStack_typeOfLabel_48 : decode prog_9_method_11_code 48 = .ok (.iaload, 1) := by decide +kernel
theorem d_TypeStack_typeOfLabel_49 : decode prog_9_method_11_code 49 = .ok (.ireturn, 1) := by decide +kernel
theorem d_TypeStack_typeOfLabel_34 : decode prog_9_method_11_code 34 = .ok (.iconst (-1), 1) := by decide +kernel
theorem d_TypeStack_typeOfLabel_35 : decode prog_9_method_11_code 35 = .ok (.goto 14, 3) := by decide +kernel
