def y_Types_add : MethodName := ⟨"WasmReader$Types", "add", "(III)V"⟩
def y_Types_has : MethodName := ⟨"WasmReader$Types", "has", "(I)Z"⟩
def y_Functions_has : MethodName := ⟨"WasmReader$Functions", "has", "(I)Z"⟩
def y_Functions_add : MethodName := ⟨"WasmReader$Functions", "add", "(ILWasmReader$Types;)V"⟩
theorem m_249 : Cond.fieldLink "WasmReader$Types" 21 "WasmReader$Types" "count" "I" ∈ xtb := x_in (List.mem_of_getElem? (i := 160) (by decide +kernel)) (by decide +kernel)
theorem m_250 : Cond.fieldLink "WasmReader$Functions" 33 "WasmReader$Functions" "count" "I" ∈ xtb := x_in (List.mem_of_getElem? (i := 188) (by decide +kernel)) (by decide +kernel)
theorem m_251 : Cond.methodLink "WasmReader$Functions" 37 y_Types_has ∈ xtb := x_in (List.mem_of_getElem? (i := 584) (by decide +kernel)) (by decide +kernel)
theorem m_252 : Cond.code y_Types_has prog_10_method_3_code 2 (some .boolean) ∈ xtb := x_in (List.mem_of_getElem? (i := 587) (by decide +kernel)) (by decide +kernel)
theorem m_253 : Cond.instanceMethod y_Types_has ∈ xtb := x_in (List.mem_of_getElem? (i := 585) (by decide +kernel)) (by decide +kernel)
theorem m_254 : Cond.selects "WasmReader$Types" y_Types_has y_Types_has ∈ xtb := x_in (List.mem_of_getElem? (i := 586) (by decide +kernel)) (by decide +kernel)
theorem m_255 : Cond.fieldLink "WasmReader$Functions" 43 "WasmReader$Types" "parameters" "[I" ∈ xtb := x_in (List.mem_of_getElem? (i := 164) (by decide +kernel)) (by decide +kernel)
theorem m_256 : Cond.fieldLink "WasmReader$Functions" 44 "WasmReader$Types" "result" "[I" ∈ xtb := x_in (List.mem_of_getElem? (i := 170) (by decide +kernel)) (by decide +kernel)
theorem m_257 : Cond.fieldLink "WasmReader$Functions" 45 "WasmReader$Types" "longs" "[I" ∈ xtb := x_in (List.mem_of_getElem? (i := 167) (by decide +kernel)) (by decide +kernel)
theorem d_Types_add_0 : decode prog_10_method_2_code 0 = .ok (.aload_n 0, 1) := by decide +kernel
theorem d_Types_add_1 : decode prog_10_method_2_code 1 = .ok (.getfield 21, 3) := by decide +kernel
theorem d_Types_add_4 : decode prog_10_method_2_code 4 = .ok (.bipush 40, 2) := by decide +kernel
theorem d_Types_add_6 : decode prog_10_method_2_code 6 = .ok (.if_icmp .ge 33, 3) := by decide +kernel
theorem d_Types_add_39 : decode prog_10_method_2_code 39 = .ok (.aload_n 0, 1) := by decide +kernel
theorem d_Types_add_40 : decode prog_10_method_2_code 40 = .ok (.dup, 1) := by decide +kernel
theorem d_Types_add_41 : decode prog_10_method_2_code 41 = .ok (.getfield 21, 3) := by decide +kernel
theorem d_Types_add_44 : decode prog_10_method_2_code 44 = .ok (.iconst 1, 1) := by decide +kernel
theorem d_Types_add_45 : decode prog_10_method_2_code 45 = .ok (.iadd, 1) := by decide +kernel
theorem d_Types_add_46 : decode prog_10_method_2_code 46 = .ok (.putfield 21, 3) := by decide +kernel
theorem d_Types_add_49 : decode prog_10_method_2_code 49 = .ok (.return_, 1) := by decide +kernel
theorem d_Types_add_9 : decode prog_10_method_2_code 9 = .ok (.aload_n 0, 1) := by decide +kernel
theorem d_Types_add_10 : decode prog_10_method_2_code 10 = .ok (.getfield 9, 3) := by decide +kernel
theorem d_Types_add_13 : decode prog_10_method_2_code 13 = .ok (.aload_n 0, 1) := by decide +kernel
theorem d_Types_add_14 : decode prog_10_method_2_code 14 = .ok (.getfield 21, 3) := by decide +kernel
theorem d_Types_add_17 : decode prog_10_method_2_code 17 = .ok (.iload_n 1, 1) := by decide +kernel
theorem d_Types_add_18 : decode prog_10_method_2_code 18 = .ok (.iastore, 1) := by decide +kernel
theorem d_Types_add_19 : decode prog_10_method_2_code 19 = .ok (.aload_n 0, 1) := by decide +kernel
theorem d_Types_add_20 : decode prog_10_method_2_code 20 = .ok (.getfield 15, 3) := by decide +kernel
theorem d_Types_add_23 : decode prog_10_method_2_code 23 = .ok (.aload_n 0, 1) := by decide +kernel
theorem d_Types_add_24 : decode prog_10_method_2_code 24 = .ok (.getfield 21, 3) := by decide +kernel
theorem d_Types_add_27 : decode prog_10_method_2_code 27 = .ok (.iload_n 2, 1) := by decide +kernel
theorem d_Types_add_28 : decode prog_10_method_2_code 28 = .ok (.iastore, 1) := by decide +kernel
theorem d_Types_add_29 : decode prog_10_method_2_code 29 = .ok (.aload_n 0, 1) := by decide +kernel
theorem d_Types_add_30 : decode prog_10_method_2_code 30 = .ok (.getfield 18, 3) := by decide +kernel
theorem d_Types_add_33 : decode prog_10_method_2_code 33 = .ok (.aload_n 0, 1) := by decide +kernel
theorem d_Types_add_34 : decode prog_10_method_2_code 34 = .ok (.getfield 21, 3) := by decide +kernel
theorem d_Types_add_37 : decode prog_10_method_2_code 37 = .ok (.iload_n 3, 1) := by decide +kernel
theorem d_Types_add_38 : decode prog_10_method_2_code 38 = .ok (.iastore, 1) := by decide +kernel
theorem d_Types_has_0 : decode prog_10_method_3_code 0 = .ok (.iload_n 1, 1) := by decide +kernel
theorem d_Types_has_1 : decode prog_10_method_3_code 1 = .ok (.ifCond .lt 21, 3) := by decide +kernel
theorem d_Types_has_4 : decode prog_10_method_3_code 4 = .ok (.iload_n 1, 1) := by decide +kernel
theorem d_Types_has_5 : decode prog_10_method_3_code 5 = .ok (.aload_n 0, 1) := by decide +kernel
theorem d_Types_has_6 : decode prog_10_method_3_code 6 = .ok (.getfield 21, 3) := by decide +kernel
theorem d_Types_has_9 : decode prog_10_method_3_code 9 = .ok (.if_icmp .ge 13, 3) := by decide +kernel
theorem d_Types_has_22 : decode prog_10_method_3_code 22 = .ok (.iconst 0, 1) := by decide +kernel
theorem d_Types_has_23 : decode prog_10_method_3_code 23 = .ok (.ireturn, 1) := by decide +kernel
theorem d_Types_has_12 : decode prog_10_method_3_code 12 = .ok (.iload_n 1, 1) := by decide +kernel
theorem d_Types_has_13 : decode prog_10_method_3_code 13 = .ok (.bipush 40, 2) := by decide +kernel
theorem d_Types_has_15 : decode prog_10_method_3_code 15 = .ok (.if_icmp .ge 7, 3) := by decide +kernel
theorem d_Types_has_18 : decode prog_10_method_3_code 18 = .ok (.iconst 1, 1) := by decide +kernel
theorem d_Types_has_19 : decode prog_10_method_3_code 19 = .ok (.goto 4, 3) := by decide +kernel
theorem d_Functions_has_0 : decode prog_4_method_3_code 0 = .ok (.iload_n 1, 1) := by decide +kernel
theorem d_Functions_has_1 : decode prog_4_method_3_code 1 = .ok (.ifCond .lt 21, 3) := by decide +kernel
theorem d_Functions_has_4 : decode prog_4_method_3_code 4 = .ok (.iload_n 1, 1) := by decide +kernel
theorem d_Functions_has_5 : decode prog_4_method_3_code 5 = .ok (.aload_n 0, 1) := by decide +kernel
theorem d_Functions_has_6 : decode prog_4_method_3_code 6 = .ok (.getfield 33, 3) := by decide +kernel
theorem d_Functions_has_9 : decode prog_4_method_3_code 9 = .ok (.if_icmp .ge 13, 3) := by decide +kernel
theorem d_Functions_has_22 : decode prog_4_method_3_code 22 = .ok (.iconst 0, 1) := by decide +kernel
theorem d_Functions_has_23 : decode prog_4_method_3_code 23 = .ok (.ireturn, 1) := by decide +kernel
theorem d_Functions_has_12 : decode prog_4_method_3_code 12 = .ok (.iload_n 1, 1) := by decide +kernel
theorem d_Functions_has_13 : decode prog_4_method_3_code 13 = .ok (.bipush 60, 2) := by decide +kernel
theorem d_Functions_has_15 : decode prog_4_method_3_code 15 = .ok (.if_icmp .ge 7, 3) := by decide +kernel
theorem d_Functions_has_18 : decode prog_4_method_3_code 18 = .ok (.iconst 1, 1) := by decide +kernel
theorem d_Functions_has_19 : decode prog_4_method_3_code 19 = .ok (.goto 4, 3) := by decide +kernel
theorem d_Functions_add_0 : decode prog_4_method_2_code 0 = .ok (.aload_n 0, 1) := by decide +kernel
theorem d_Functions_add_1 : decode prog_4_method_2_code 1 = .ok (.getfield 33, 3) := by decide +kernel
theorem d_Functions_add_4 : decode prog_4_method_2_code 4 = .ok (.bipush 60, 2) := by decide +kernel
theorem d_Functions_add_6 : decode prog_4_method_2_code 6 = .ok (.if_icmp .ge 118, 3) := by decide +kernel
theorem d_Functions_add_124 : decode prog_4_method_2_code 124 = .ok (.aload_n 0, 1) := by decide +kernel
theorem d_Functions_add_125 : decode prog_4_method_2_code 125 = .ok (.dup, 1) := by decide +kernel
theorem d_Functions_add_126 : decode prog_4_method_2_code 126 = .ok (.getfield 33, 3) := by decide +kernel
theorem d_Functions_add_129 : decode prog_4_method_2_code 129 = .ok (.iconst 1, 1) := by decide +kernel
theorem d_Functions_add_130 : decode prog_4_method_2_code 130 = .ok (.iadd, 1) := by decide +kernel
theorem d_Functions_add_131 : decode prog_4_method_2_code 131 = .ok (.putfield 33, 3) := by decide +kernel
theorem d_Functions_add_134 : decode prog_4_method_2_code 134 = .ok (.return_, 1) := by decide +kernel
theorem d_Functions_add_9 : decode prog_4_method_2_code 9 = .ok (.aload_n 2, 1) := by decide +kernel
theorem d_Functions_add_10 : decode prog_4_method_2_code 10 = .ok (.iload_n 1, 1) := by decide +kernel
theorem d_Functions_add_11 : decode prog_4_method_2_code 11 = .ok (.invokevirtual 37, 3) := by decide +kernel
theorem nm_Types_has : x_nm y_Types_has 1 = true := by decide +kernel
theorem d_Functions_add_14 : decode prog_4_method_2_code 14 = .ok (.istore_n 3, 1) := by decide +kernel
theorem d_Functions_add_15 : decode prog_4_method_2_code 15 = .ok (.aload_n 0, 1) := by decide +kernel
theorem d_Functions_add_16 : decode prog_4_method_2_code 16 = .ok (.getfield 9, 3) := by decide +kernel
theorem d_Functions_add_19 : decode prog_4_method_2_code 19 = .ok (.aload_n 0, 1) := by decide +kernel
theorem d_Functions_add_20 : decode prog_4_method_2_code 20 = .ok (.getfield 33, 3) := by decide +kernel
theorem d_Functions_add_23 : decode prog_4_method_2_code 23 = .ok (.iload_n 1, 1) := by decide +kernel
theorem d_Functions_add_24 : decode prog_4_method_2_code 24 = .ok (.iastore, 1) := by decide +kernel
theorem d_Functions_add_25 : decode prog_4_method_2_code 25 = .ok (.aload_n 0, 1) := by decide +kernel
theorem d_Functions_add_26 : decode prog_4_method_2_code 26 = .ok (.getfield 15, 3) := by decide +kernel
theorem d_Functions_add_29 : decode prog_4_method_2_code 29 = .ok (.aload_n 0, 1) := by decide +kernel
theorem d_Functions_add_30 : decode prog_4_method_2_code 30 = .ok (.getfield 33, 3) := by decide +kernel
theorem d_Functions_add_33 : decode prog_4_method_2_code 33 = .ok (.iload_n 3, 1) := by decide +kernel
theorem d_Functions_add_34 : decode prog_4_method_2_code 34 = .ok (.ifCond .eq 12, 3) := by decide +kernel
theorem d_Functions_add_46 : decode prog_4_method_2_code 46 = .ok (.iconst 0, 1) := by decide +kernel
theorem d_Functions_add_47 : decode prog_4_method_2_code 47 = .ok (.iastore, 1) := by decide +kernel
theorem d_Functions_add_48 : decode prog_4_method_2_code 48 = .ok (.aload_n 0, 1) := by decide +kernel
theorem d_Functions_add_49 : decode prog_4_method_2_code 49 = .ok (.getfield 18, 3) := by decide +kernel
theorem d_Functions_add_52 : decode prog_4_method_2_code 52 = .ok (.aload_n 0, 1) := by decide +kernel
theorem d_Functions_add_53 : decode prog_4_method_2_code 53 = .ok (.getfield 33, 3) := by decide +kernel
theorem d_Functions_add_56 : decode prog_4_method_2_code 56 = .ok (.iload_n 3, 1) := by decide +kernel
theorem d_Functions_add_57 : decode prog_4_method_2_code 57 = .ok (.ifCond .eq 12, 3) := by decide +kernel
theorem d_Functions_add_69 : decode prog_4_method_2_code 69 = .ok (.iconst (-1), 1) := by decide +kernel
theorem d_Functions_add_70 : decode prog_4_method_2_code 70 = .ok (.iastore, 1) := by decide +kernel
theorem d_Functions_add_71 : decode prog_4_method_2_code 71 = .ok (.aload_n 0, 1) := by decide +kernel
theorem d_Functions_add_72 : decode prog_4_method_2_code 72 = .ok (.getfield 24, 3) := by decide +kernel
theorem d_Functions_add_75 : decode prog_4_method_2_code 75 = .ok (.aload_n 0, 1) := by decide +kernel
theorem d_Functions_add_76 : decode prog_4_method_2_code 76 = .ok (.getfield 33, 3) := by decide +kernel
theorem d_Functions_add_79 : decode prog_4_method_2_code 79 = .ok (.iload_n 3, 1) := by decide +kernel
theorem d_Functions_add_80 : decode prog_4_method_2_code 80 = .ok (.ifCond .eq 12, 3) := by decide +kernel
theorem d_Functions_add_92 : decode prog_4_method_2_code 92 = .ok (.iconst 0, 1) := by decide +kernel
theorem d_Functions_add_93 : decode prog_4_method_2_code 93 = .ok (.iastore, 1) := by decide +kernel
theorem d_Functions_add_94 : decode prog_4_method_2_code 94 = .ok (.aload_n 0, 1) := by decide +kernel
theorem d_Functions_add_95 : decode prog_4_method_2_code 95 = .ok (.getfield 21, 3) := by decide +kernel
theorem d_Functions_add_98 : decode prog_4_method_2_code 98 = .ok (.aload_n 0, 1) := by decide +kernel
theorem d_Functions_add_99 : decode prog_4_method_2_code 99 = .ok (.getfield 33, 3) := by decide +kernel
theorem d_Functions_add_102 : decode prog_4_method_2_code 102 = .ok (.iconst 0, 1) := by decide +kernel
theorem d_Functions_add_103 : decode prog_4_method_2_code 103 = .ok (.iastore, 1) := by decide +kernel
theorem d_Functions_add_104 : decode prog_4_method_2_code 104 = .ok (.aload_n 0, 1) := by decide +kernel
theorem d_Functions_add_105 : decode prog_4_method_2_code 105 = .ok (.getfield 27, 3) := by decide +kernel
theorem d_Functions_add_108 : decode prog_4_method_2_code 108 = .ok (.aload_n 0, 1) := by decide +kernel
theorem d_Functions_add_109 : decode prog_4_method_2_code 109 = .ok (.getfield 33, 3) := by decide +kernel
theorem d_Functions_add_112 : decode prog_4_method_2_code 112 = .ok (.iconst 0, 1) := by decide +kernel
theorem d_Functions_add_113 : decode prog_4_method_2_code 113 = .ok (.iastore, 1) := by decide +kernel
theorem d_Functions_add_114 : decode prog_4_method_2_code 114 = .ok (.aload_n 0, 1) := by decide +kernel
theorem d_Functions_add_115 : decode prog_4_method_2_code 115 = .ok (.getfield 30, 3) := by decide +kernel
theorem d_Functions_add_118 : decode prog_4_method_2_code 118 = .ok (.aload_n 0, 1) := by decide +kernel
theorem d_Functions_add_119 : decode prog_4_method_2_code 119 = .ok (.getfield 33, 3) := by decide +kernel
theorem d_Functions_add_122 : decode prog_4_method_2_code 122 = .ok (.iconst 0, 1) := by decide +kernel
theorem d_Functions_add_123 : decode prog_4_method_2_code 123 = .ok (.iastore, 1) := by decide +kernel
theorem d_Functions_add_37 : decode prog_4_method_2_code 37 = .ok (.aload_n 2, 1) := by decide +kernel
theorem d_Functions_add_38 : decode prog_4_method_2_code 38 = .ok (.getfield 43, 3) := by decide +kernel
theorem d_Functions_add_41 : decode prog_4_method_2_code 41 = .ok (.iload_n 1, 1) := by decide +kernel
theorem d_Functions_add_42 : decode prog_4_method_2_code 42 = .ok (.iaload, 1) := by decide +kernel
theorem d_Functions_add_43 : decode prog_4_method_2_code 43 = .ok (.goto 4, 3) := by decide +kernel
theorem d_Functions_add_60 : decode prog_4_method_2_code 60 = .ok (.aload_n 2, 1) := by decide +kernel
theorem d_Functions_add_61 : decode prog_4_method_2_code 61 = .ok (.getfield 44, 3) := by decide +kernel
theorem d_Functions_add_64 : decode prog_4_method_2_code 64 = .ok (.iload_n 1, 1) := by decide +kernel
theorem d_Functions_add_65 : decode prog_4_method_2_code 65 = .ok (.iaload, 1) := by decide +kernel
theorem d_Functions_add_66 : decode prog_4_method_2_code 66 = .ok (.goto 4, 3) := by decide +kernel
theorem d_Functions_add_83 : decode prog_4_method_2_code 83 = .ok (.aload_n 2, 1) := by decide +kernel
theorem d_Functions_add_84 : decode prog_4_method_2_code 84 = .ok (.getfield 45, 3) := by decide +kernel
theorem d_Functions_add_87 : decode prog_4_method_2_code 87 = .ok (.iload_n 1, 1) := by decide +kernel
theorem d_Functions_add_88 : decode prog_4_method_2_code 88 = .ok (.iaload, 1) := by decide +kernel
theorem d_Functions_add_89 : decode prog_4_method_2_code 89 = .ok (.goto 4, 3) := by decide +kernel
