def y_Model_fails : MethodName := ⟨"WasmReaderModel", "fails", "(I)Z"⟩
def y_Model_thrown : MethodName := ⟨"WasmReaderModel", "thrown", "()I"⟩
def y_Model_four : MethodName := ⟨"WasmReaderModel", "four", "(I)V"⟩
def y_Model_feed : MethodName := ⟨"WasmReaderModel", "feed", "(IIIII)I"⟩
def y_Model_end : MethodName := ⟨"WasmReaderModel", "end", "(I)I"⟩
def y_Model_count : MethodName := ⟨"WasmReaderModel", "count", "(I)I"⟩
def y_Model_global2 : MethodName := ⟨"WasmReaderModel", "global", "(II)I"⟩
def y_Model_initial2 : MethodName := ⟨"WasmReaderModel", "initial", "(I)J"⟩
def y_Model_export : MethodName := ⟨"WasmReaderModel", "export", "(II)I"⟩
def y_Model_function : MethodName := ⟨"WasmReaderModel", "function", "(II)I"⟩
theorem m_942 : Cond.fieldLink "WasmReaderModel" 46 "WasmReaderModel" "thrown" "I" ∈ xtb := x_in (List.mem_of_getElem? (i := 1323) (by decide +kernel)) (by decide +kernel)
theorem m_943 : Cond.fieldLink "WasmReaderModel" 411 "WasmReaderModel" "rows" "I" ∈ xtb := x_in (List.mem_of_getElem? (i := 1322) (by decide +kernel)) (by decide +kernel)
theorem m_944 : Cond.methodLink "WasmReaderModel" 414 y_Model_four ∈ xtb := x_in (List.mem_of_getElem? (i := 1402) (by decide +kernel)) (by decide +kernel)
theorem m_945 : Cond.code y_Model_four prog_14_method_42_code 3 none ∈ xtb := x_in (List.mem_of_getElem? (i := 1405) (by decide +kernel)) (by decide +kernel)
theorem m_946 : Cond.instanceMethod y_Model_four ∈ xtb := x_in (List.mem_of_getElem? (i := 1404) (by decide +kernel)) (by decide +kernel)
theorem m_947 : Cond.selects "WasmReaderModel" y_Model_four y_Model_four ∈ xtb := x_in (List.mem_of_getElem? (i := 50) (by decide +kernel)) (by decide +kernel)
theorem m_948 : Cond.fieldLink "WasmReaderModel" 423 "WasmReaderModel" "isRead" "Z" ∈ xtb := x_in (List.mem_of_getElem? (i := 1324) (by decide +kernel)) (by decide +kernel)
theorem m_949 : Cond.methodLink "WasmReaderModel" 438 y_Model_fails ∈ xtb := x_in (List.mem_of_getElem? (i := 1612) (by decide +kernel)) (by decide +kernel)
theorem m_950 : Cond.code y_Model_fails prog_14_method_46_code 2 (some .boolean) ∈ xtb := x_in (List.mem_of_getElem? (i := 1615) (by decide +kernel)) (by decide +kernel)
theorem m_951 : Cond.instanceMethod y_Model_fails ∈ xtb := x_in (List.mem_of_getElem? (i := 1614) (by decide +kernel)) (by decide +kernel)
theorem m_952 : Cond.selects "WasmReaderModel" y_Model_fails y_Model_fails ∈ xtb := x_in (List.mem_of_getElem? (i := 86) (by decide +kernel)) (by decide +kernel)
theorem d_Model_fails_0 : decode prog_14_method_46_code 0 = .ok (.aload_n 0, 1) := by decide +kernel
theorem d_Model_fails_1 : decode prog_14_method_46_code 1 = .ok (.iload_n 1, 1) := by decide +kernel
theorem d_Model_fails_2 : decode prog_14_method_46_code 2 = .ok (.putfield 46, 3) := by decide +kernel
theorem d_Model_fails_5 : decode prog_14_method_46_code 5 = .ok (.iload_n 1, 1) := by decide +kernel
theorem d_Model_fails_6 : decode prog_14_method_46_code 6 = .ok (.ifCond .le 7, 3) := by decide +kernel
theorem d_Model_fails_13 : decode prog_14_method_46_code 13 = .ok (.iconst 0, 1) := by decide +kernel
theorem d_Model_fails_14 : decode prog_14_method_46_code 14 = .ok (.ireturn, 1) := by decide +kernel
theorem d_Model_fails_9 : decode prog_14_method_46_code 9 = .ok (.iconst 1, 1) := by decide +kernel
theorem d_Model_fails_10 : decode prog_14_method_46_code 10 = .ok (.goto 4, 3) := by decide +kernel
theorem d_Model_thrown_0 : decode prog_14_method_2_code 0 = .ok (.aload_n 0, 1) := by decide +kernel
theorem d_Model_thrown_1 : decode prog_14_method_2_code 1 = .ok (.getfield 46, 3) := by decide +kernel
theorem d_Model_thrown_4 : decode prog_14_method_2_code 4 = .ok (.ireturn, 1) := by decide +kernel
theorem d_Model_four_0 : decode prog_14_method_42_code 0 = .ok (.bipush 24, 2) := by decide +kernel
theorem d_Model_four_2 : decode prog_14_method_42_code 2 = .ok (.istore_n 2, 1) := by decide +kernel
theorem d_Model_four_3 : decode prog_14_method_42_code 3 = .ok (.iload_n 2, 1) := by decide +kernel
theorem d_Model_four_4 : decode prog_14_method_42_code 4 = .ok (.ifCond .lt 29, 3) := by decide +kernel
theorem d_Model_four_7 : decode prog_14_method_42_code 7 = .ok (.aload_n 0, 1) := by decide +kernel
theorem d_Model_four_8 : decode prog_14_method_42_code 8 = .ok (.getfield 9, 3) := by decide +kernel
theorem d_Model_four_11 : decode prog_14_method_42_code 11 = .ok (.aload_n 0, 1) := by decide +kernel
theorem d_Model_four_12 : decode prog_14_method_42_code 12 = .ok (.dup, 1) := by decide +kernel
theorem d_Model_four_13 : decode prog_14_method_42_code 13 = .ok (.getfield 411, 3) := by decide +kernel
theorem d_Model_four_16 : decode prog_14_method_42_code 16 = .ok (.dup_x1, 1) := by decide +kernel
theorem d_Model_four_17 : decode prog_14_method_42_code 17 = .ok (.iconst 1, 1) := by decide +kernel
theorem d_Model_four_18 : decode prog_14_method_42_code 18 = .ok (.iadd, 1) := by decide +kernel
theorem d_Model_four_19 : decode prog_14_method_42_code 19 = .ok (.putfield 411, 3) := by decide +kernel
theorem d_Model_four_22 : decode prog_14_method_42_code 22 = .ok (.iload_n 1, 1) := by decide +kernel
theorem d_Model_four_23 : decode prog_14_method_42_code 23 = .ok (.iload_n 2, 1) := by decide +kernel
theorem d_Model_four_24 : decode prog_14_method_42_code 24 = .ok (.ishr, 1) := by decide +kernel
theorem d_Model_four_25 : decode prog_14_method_42_code 25 = .ok (.i2b, 1) := by decide +kernel
theorem d_Model_four_26 : decode prog_14_method_42_code 26 = .ok (.bastore, 1) := by decide +kernel
theorem d_Model_four_27 : decode prog_14_method_42_code 27 = .ok (.iinc 2 (-8), 3) := by decide +kernel
theorem d_Model_four_30 : decode prog_14_method_42_code 30 = .ok (.goto (-27), 3) := by decide +kernel
theorem d_Model_four_33 : decode prog_14_method_42_code 33 = .ok (.return_, 1) := by decide +kernel
theorem d_Model_feed_0 : decode prog_14_method_41_code 0 = .ok (.aload_n 0, 1) := by decide +kernel
theorem d_Model_feed_1 : decode prog_14_method_41_code 1 = .ok (.aload_n 0, 1) := by decide +kernel
theorem d_Model_feed_2 : decode prog_14_method_41_code 2 = .ok (.getfield 411, 3) := by decide +kernel
theorem d_Model_feed_5 : decode prog_14_method_41_code 5 = .ok (.bipush 20, 2) := by decide +kernel
theorem d_Model_feed_7 : decode prog_14_method_41_code 7 = .ok (.iadd, 1) := by decide +kernel
theorem d_Model_feed_8 : decode prog_14_method_41_code 8 = .ok (.sipush 4000, 3) := by decide +kernel
theorem d_Model_feed_11 : decode prog_14_method_41_code 11 = .ok (.if_icmp .le 7, 3) := by decide +kernel
theorem d_Model_feed_18 : decode prog_14_method_41_code 18 = .ok (.iconst 0, 1) := by decide +kernel
theorem d_Model_feed_19 : decode prog_14_method_41_code 19 = .ok (.putfield 46, 3) := by decide +kernel
theorem d_Model_feed_22 : decode prog_14_method_41_code 22 = .ok (.aload_n 0, 1) := by decide +kernel
theorem d_Model_feed_23 : decode prog_14_method_41_code 23 = .ok (.getfield 46, 3) := by decide +kernel
theorem d_Model_feed_26 : decode prog_14_method_41_code 26 = .ok (.ifCond .le 5, 3) := by decide +kernel
theorem d_Model_feed_31 : decode prog_14_method_41_code 31 = .ok (.aload_n 0, 1) := by decide +kernel
theorem d_Model_feed_32 : decode prog_14_method_41_code 32 = .ok (.iload_n 1, 1) := by decide +kernel
theorem d_Model_feed_33 : decode prog_14_method_41_code 33 = .ok (.invokevirtual 414, 3) := by decide +kernel
theorem nm_Model_four : x_nm y_Model_four 1 = true := by decide +kernel
theorem d_Model_feed_36 : decode prog_14_method_41_code 36 = .ok (.aload_n 0, 1) := by decide +kernel
theorem d_Model_feed_37 : decode prog_14_method_41_code 37 = .ok (.iload_n 2, 1) := by decide +kernel
theorem d_Model_feed_38 : decode prog_14_method_41_code 38 = .ok (.invokevirtual 414, 3) := by decide +kernel
theorem d_Model_feed_41 : decode prog_14_method_41_code 41 = .ok (.aload_n 0, 1) := by decide +kernel
theorem d_Model_feed_42 : decode prog_14_method_41_code 42 = .ok (.iload_n 3, 1) := by decide +kernel
theorem d_Model_feed_43 : decode prog_14_method_41_code 43 = .ok (.invokevirtual 414, 3) := by decide +kernel
theorem d_Model_feed_46 : decode prog_14_method_41_code 46 = .ok (.aload_n 0, 1) := by decide +kernel
theorem d_Model_feed_47 : decode prog_14_method_41_code 47 = .ok (.iload 4, 2) := by decide +kernel
theorem d_Model_feed_49 : decode prog_14_method_41_code 49 = .ok (.invokevirtual 414, 3) := by decide +kernel
theorem d_Model_feed_52 : decode prog_14_method_41_code 52 = .ok (.aload_n 0, 1) := by decide +kernel
theorem d_Model_feed_53 : decode prog_14_method_41_code 53 = .ok (.iload 5, 2) := by decide +kernel
theorem d_Model_feed_55 : decode prog_14_method_41_code 55 = .ok (.invokevirtual 414, 3) := by decide +kernel
theorem d_Model_feed_58 : decode prog_14_method_41_code 58 = .ok (.aload_n 0, 1) := by decide +kernel
theorem d_Model_feed_59 : decode prog_14_method_41_code 59 = .ok (.getfield 411, 3) := by decide +kernel
theorem d_Model_feed_62 : decode prog_14_method_41_code 62 = .ok (.ireturn, 1) := by decide +kernel
theorem d_Model_feed_14 : decode prog_14_method_41_code 14 = .ok (.iconst 1, 1) := by decide +kernel
theorem d_Model_feed_15 : decode prog_14_method_41_code 15 = .ok (.goto 4, 3) := by decide +kernel
theorem d_Model_feed_29 : decode prog_14_method_41_code 29 = .ok (.iconst 0, 1) := by decide +kernel
theorem d_Model_feed_30 : decode prog_14_method_41_code 30 = .ok (.ireturn, 1) := by decide +kernel
theorem d_Model_end_0 : decode prog_14_method_43_code 0 = .ok (.aload_n 0, 1) := by decide +kernel
theorem d_Model_end_1 : decode prog_14_method_43_code 1 = .ok (.iload_n 1, 1) := by decide +kernel
theorem d_Model_end_2 : decode prog_14_method_43_code 2 = .ok (.ifCond .lt 11, 3) := by decide +kernel
theorem d_Model_end_5 : decode prog_14_method_43_code 5 = .ok (.iload_n 1, 1) := by decide +kernel
theorem d_Model_end_6 : decode prog_14_method_43_code 6 = .ok (.aload_n 0, 1) := by decide +kernel
theorem d_Model_end_7 : decode prog_14_method_43_code 7 = .ok (.getfield 411, 3) := by decide +kernel
theorem d_Model_end_10 : decode prog_14_method_43_code 10 = .ok (.if_icmp .le 7, 3) := by decide +kernel
theorem d_Model_end_17 : decode prog_14_method_43_code 17 = .ok (.iconst 0, 1) := by decide +kernel
theorem d_Model_end_18 : decode prog_14_method_43_code 18 = .ok (.putfield 46, 3) := by decide +kernel
theorem d_Model_end_21 : decode prog_14_method_43_code 21 = .ok (.aload_n 0, 1) := by decide +kernel
theorem d_Model_end_22 : decode prog_14_method_43_code 22 = .ok (.getfield 46, 3) := by decide +kernel
theorem d_Model_end_25 : decode prog_14_method_43_code 25 = .ok (.ifCond .le 5, 3) := by decide +kernel
theorem d_Model_end_30 : decode prog_14_method_43_code 30 = .ok (.aload_n 0, 1) := by decide +kernel
theorem d_Model_end_31 : decode prog_14_method_43_code 31 = .ok (.iload_n 1, 1) := by decide +kernel
theorem d_Model_end_32 : decode prog_14_method_43_code 32 = .ok (.putfield 411, 3) := by decide +kernel
theorem d_Model_end_35 : decode prog_14_method_43_code 35 = .ok (.iload_n 1, 1) := by decide +kernel
theorem d_Model_end_36 : decode prog_14_method_43_code 36 = .ok (.ireturn, 1) := by decide +kernel
theorem d_Model_end_13 : decode prog_14_method_43_code 13 = .ok (.iconst 1, 1) := by decide +kernel
theorem d_Model_end_14 : decode prog_14_method_43_code 14 = .ok (.goto 4, 3) := by decide +kernel
theorem d_Model_end_28 : decode prog_14_method_43_code 28 = .ok (.iconst 0, 1) := by decide +kernel
theorem d_Model_end_29 : decode prog_14_method_43_code 29 = .ok (.ireturn, 1) := by decide +kernel
theorem d_Model_count_0 : decode prog_14_method_47_code 0 = .ok (.aload_n 0, 1) := by decide +kernel
theorem d_Model_count_1 : decode prog_14_method_47_code 1 = .ok (.aload_n 0, 1) := by decide +kernel
theorem d_Model_count_2 : decode prog_14_method_47_code 2 = .ok (.getfield 423, 3) := by decide +kernel
theorem d_Model_count_5 : decode prog_14_method_47_code 5 = .ok (.ifCond .ne 7, 3) := by decide +kernel
theorem d_Model_count_12 : decode prog_14_method_47_code 12 = .ok (.iload_n 1, 1) := by decide +kernel
theorem d_Model_count_13 : decode prog_14_method_47_code 13 = .ok (.ifCond .lt 9, 3) := by decide +kernel
theorem d_Model_count_22 : decode prog_14_method_47_code 22 = .ok (.iconst 2, 1) := by decide +kernel
theorem d_Model_count_23 : decode prog_14_method_47_code 23 = .ok (.goto 4, 3) := by decide +kernel
theorem d_Model_count_27 : decode prog_14_method_47_code 27 = .ok (.invokevirtual 438, 3) := by decide +kernel
theorem nm_Model_fails : x_nm y_Model_fails 1 = true := by decide +kernel
theorem d_Model_count_30 : decode prog_14_method_47_code 30 = .ok (.ifCond .eq 5, 3) := by decide +kernel
theorem d_Model_count_33 : decode prog_14_method_47_code 33 = .ok (.iconst 0, 1) := by decide +kernel
theorem d_Model_count_34 : decode prog_14_method_47_code 34 = .ok (.ireturn, 1) := by decide +kernel
theorem d_Model_count_16 : decode prog_14_method_47_code 16 = .ok (.iload_n 1, 1) := by decide +kernel
theorem d_Model_count_17 : decode prog_14_method_47_code 17 = .ok (.bipush 10, 2) := by decide +kernel
theorem d_Model_count_19 : decode prog_14_method_47_code 19 = .ok (.if_icmp .le 7, 3) := by decide +kernel
theorem d_Model_count_26 : decode prog_14_method_47_code 26 = .ok (.iconst 0, 1) := by decide +kernel
theorem d_Model_count_35 : decode prog_14_method_47_code 35 = .ok (.iload_n 1, 1) := by decide +kernel
theorem d_Model_count_36 : decode prog_14_method_47_code 36 = .ok (.tableswitch 144 0 9 #[56, 64, 72, 80, 96, 104, 112, 120, 128, 136], 56) := by decide +kernel
theorem d_Model_count_92 : decode prog_14_method_47_code 92 = .ok (.aload_n 0, 1) := by decide +kernel
theorem d_Model_count_93 : decode prog_14_method_47_code 93 = .ok (.getfield 16, 3) := by decide +kernel
theorem d_Model_count_96 : decode prog_14_method_47_code 96 = .ok (.getfield 104, 3) := by decide +kernel
theorem d_Model_count_99 : decode prog_14_method_47_code 99 = .ok (.ireturn, 1) := by decide +kernel
theorem d_Model_count_100 : decode prog_14_method_47_code 100 = .ok (.aload_n 0, 1) := by decide +kernel
theorem d_Model_count_101 : decode prog_14_method_47_code 101 = .ok (.getfield 16, 3) := by decide +kernel
theorem d_Model_count_104 : decode prog_14_method_47_code 104 = .ok (.getfield 107, 3) := by decide +kernel
theorem d_Model_count_107 : decode prog_14_method_47_code 107 = .ok (.ireturn, 1) := by decide +kernel
theorem d_Model_count_108 : decode prog_14_method_47_code 108 = .ok (.aload_n 0, 1) := by decide +kernel
theorem d_Model_count_109 : decode prog_14_method_47_code 109 = .ok (.getfield 16, 3) := by decide +kernel
theorem d_Model_count_112 : decode prog_14_method_47_code 112 = .ok (.getfield 110, 3) := by decide +kernel
theorem d_Model_count_115 : decode prog_14_method_47_code 115 = .ok (.ireturn, 1) := by decide +kernel
theorem d_Model_count_116 : decode prog_14_method_47_code 116 = .ok (.aload_n 0, 1) := by decide +kernel
theorem d_Model_count_117 : decode prog_14_method_47_code 117 = .ok (.getfield 16, 3) := by decide +kernel
theorem d_Model_count_120 : decode prog_14_method_47_code 120 = .ok (.getfield 110, 3) := by decide +kernel
theorem d_Model_count_123 : decode prog_14_method_47_code 123 = .ok (.aload_n 0, 1) := by decide +kernel
theorem d_Model_count_124 : decode prog_14_method_47_code 124 = .ok (.getfield 16, 3) := by decide +kernel
theorem d_Model_count_127 : decode prog_14_method_47_code 127 = .ok (.getfield 134, 3) := by decide +kernel
theorem d_Model_count_130 : decode prog_14_method_47_code 130 = .ok (.isub, 1) := by decide +kernel
theorem d_Model_count_131 : decode prog_14_method_47_code 131 = .ok (.ireturn, 1) := by decide +kernel
theorem d_Model_count_132 : decode prog_14_method_47_code 132 = .ok (.aload_n 0, 1) := by decide +kernel
theorem d_Model_count_133 : decode prog_14_method_47_code 133 = .ok (.getfield 16, 3) := by decide +kernel
theorem d_Model_count_136 : decode prog_14_method_47_code 136 = .ok (.getfield 122, 3) := by decide +kernel
theorem d_Model_count_139 : decode prog_14_method_47_code 139 = .ok (.ireturn, 1) := by decide +kernel
theorem d_Model_count_140 : decode prog_14_method_47_code 140 = .ok (.aload_n 0, 1) := by decide +kernel
theorem d_Model_count_141 : decode prog_14_method_47_code 141 = .ok (.getfield 16, 3) := by decide +kernel
theorem d_Model_count_144 : decode prog_14_method_47_code 144 = .ok (.getfield 125, 3) := by decide +kernel
theorem d_Model_count_147 : decode prog_14_method_47_code 147 = .ok (.ireturn, 1) := by decide +kernel
theorem d_Model_count_148 : decode prog_14_method_47_code 148 = .ok (.aload_n 0, 1) := by decide +kernel
theorem d_Model_count_149 : decode prog_14_method_47_code 149 = .ok (.getfield 16, 3) := by decide +kernel
theorem d_Model_count_152 : decode prog_14_method_47_code 152 = .ok (.getfield 128, 3) := by decide +kernel
theorem d_Model_count_155 : decode prog_14_method_47_code 155 = .ok (.ireturn, 1) := by decide +kernel
theorem d_Model_count_156 : decode prog_14_method_47_code 156 = .ok (.aload_n 0, 1) := by decide +kernel
theorem d_Model_count_157 : decode prog_14_method_47_code 157 = .ok (.getfield 16, 3) := by decide +kernel
theorem d_Model_count_160 : decode prog_14_method_47_code 160 = .ok (.getfield 131, 3) := by decide +kernel
theorem d_Model_count_163 : decode prog_14_method_47_code 163 = .ok (.ireturn, 1) := by decide +kernel
theorem d_Model_count_164 : decode prog_14_method_47_code 164 = .ok (.aload_n 0, 1) := by decide +kernel
theorem d_Model_count_165 : decode prog_14_method_47_code 165 = .ok (.getfield 16, 3) := by decide +kernel
theorem d_Model_count_168 : decode prog_14_method_47_code 168 = .ok (.getfield 116, 3) := by decide +kernel
theorem d_Model_count_171 : decode prog_14_method_47_code 171 = .ok (.ireturn, 1) := by decide +kernel
theorem d_Model_count_172 : decode prog_14_method_47_code 172 = .ok (.aload_n 0, 1) := by decide +kernel
theorem d_Model_count_173 : decode prog_14_method_47_code 173 = .ok (.getfield 16, 3) := by decide +kernel
theorem d_Model_count_176 : decode prog_14_method_47_code 176 = .ok (.getfield 119, 3) := by decide +kernel
theorem d_Model_count_179 : decode prog_14_method_47_code 179 = .ok (.ireturn, 1) := by decide +kernel
theorem d_Model_count_180 : decode prog_14_method_47_code 180 = .ok (.aload_n 0, 1) := by decide +kernel
theorem d_Model_count_181 : decode prog_14_method_47_code 181 = .ok (.getfield 16, 3) := by decide +kernel
theorem d_Model_count_184 : decode prog_14_method_47_code 184 = .ok (.getfield 137, 3) := by decide +kernel
theorem d_Model_count_187 : decode prog_14_method_47_code 187 = .ok (.ireturn, 1) := by decide +kernel
theorem d_Model_count_8 : decode prog_14_method_47_code 8 = .ok (.iconst 1, 1) := by decide +kernel
theorem d_Model_count_9 : decode prog_14_method_47_code 9 = .ok (.goto 18, 3) := by decide +kernel
theorem d_Model_global2_0 : decode prog_14_method_50_code 0 = .ok (.aload_n 0, 1) := by decide +kernel
theorem d_Model_global2_1 : decode prog_14_method_50_code 1 = .ok (.aload_n 0, 1) := by decide +kernel
theorem d_Model_global2_2 : decode prog_14_method_50_code 2 = .ok (.getfield 423, 3) := by decide +kernel
theorem d_Model_global2_5 : decode prog_14_method_50_code 5 = .ok (.ifCond .ne 7, 3) := by decide +kernel
theorem d_Model_global2_12 : decode prog_14_method_50_code 12 = .ok (.iload_n 1, 1) := by decide +kernel
theorem d_Model_global2_13 : decode prog_14_method_50_code 13 = .ok (.ifCond .lt 14, 3) := by decide +kernel
theorem d_Model_global2_27 : decode prog_14_method_50_code 27 = .ok (.iconst 2, 1) := by decide +kernel
theorem d_Model_global2_28 : decode prog_14_method_50_code 28 = .ok (.goto 17, 3) := by decide +kernel
theorem d_Model_global2_45 : decode prog_14_method_50_code 45 = .ok (.invokevirtual 438, 3) := by decide +kernel
theorem d_Model_global2_48 : decode prog_14_method_50_code 48 = .ok (.ifCond .eq 5, 3) := by decide +kernel
theorem d_Model_global2_51 : decode prog_14_method_50_code 51 = .ok (.iconst 0, 1) := by decide +kernel
theorem d_Model_global2_52 : decode prog_14_method_50_code 52 = .ok (.ireturn, 1) := by decide +kernel
theorem d_Model_global2_16 : decode prog_14_method_50_code 16 = .ok (.iload_n 1, 1) := by decide +kernel
theorem d_Model_global2_17 : decode prog_14_method_50_code 17 = .ok (.aload_n 0, 1) := by decide +kernel
theorem d_Model_global2_18 : decode prog_14_method_50_code 18 = .ok (.getfield 16, 3) := by decide +kernel
theorem d_Model_global2_21 : decode prog_14_method_50_code 21 = .ok (.getfield 122, 3) := by decide +kernel
theorem d_Model_global2_24 : decode prog_14_method_50_code 24 = .ok (.if_icmp .lt 7, 3) := by decide +kernel
theorem d_Model_global2_31 : decode prog_14_method_50_code 31 = .ok (.iload_n 2, 1) := by decide +kernel
theorem d_Model_global2_32 : decode prog_14_method_50_code 32 = .ok (.ifCond .lt 8, 3) := by decide +kernel
theorem d_Model_global2_40 : decode prog_14_method_50_code 40 = .ok (.iconst 3, 1) := by decide +kernel
theorem d_Model_global2_41 : decode prog_14_method_50_code 41 = .ok (.goto 4, 3) := by decide +kernel
theorem d_Model_global2_35 : decode prog_14_method_50_code 35 = .ok (.iload_n 2, 1) := by decide +kernel
theorem d_Model_global2_36 : decode prog_14_method_50_code 36 = .ok (.iconst 2, 1) := by decide +kernel
theorem d_Model_global2_37 : decode prog_14_method_50_code 37 = .ok (.if_icmp .le 7, 3) := by decide +kernel
theorem d_Model_global2_44 : decode prog_14_method_50_code 44 = .ok (.iconst 0, 1) := by decide +kernel
theorem d_Model_global2_53 : decode prog_14_method_50_code 53 = .ok (.iload_n 2, 1) := by decide +kernel
theorem d_Model_global2_54 : decode prog_14_method_50_code 54 = .ok (.ifCond .ne 22, 3) := by decide +kernel
theorem d_Model_global2_76 : decode prog_14_method_50_code 76 = .ok (.iload_n 2, 1) := by decide +kernel
theorem d_Model_global2_77 : decode prog_14_method_50_code 77 = .ok (.iconst 1, 1) := by decide +kernel
theorem d_Model_global2_78 : decode prog_14_method_50_code 78 = .ok (.if_icmp .ne 21, 3) := by decide +kernel
theorem d_Model_global2_99 : decode prog_14_method_50_code 99 = .ok (.aload_n 0, 1) := by decide +kernel
theorem d_Model_global2_100 : decode prog_14_method_50_code 100 = .ok (.getfield 16, 3) := by decide +kernel
theorem d_Model_global2_103 : decode prog_14_method_50_code 103 = .ok (.getfield 246, 3) := by decide +kernel
theorem d_Model_global2_106 : decode prog_14_method_50_code 106 = .ok (.iload_n 1, 1) := by decide +kernel
theorem d_Model_global2_107 : decode prog_14_method_50_code 107 = .ok (.iaload, 1) := by decide +kernel
theorem d_Model_global2_108 : decode prog_14_method_50_code 108 = .ok (.ifCond .lt 7, 3) := by decide +kernel
theorem d_Model_global2_115 : decode prog_14_method_50_code 115 = .ok (.aload_n 0, 1) := by decide +kernel
theorem d_Model_global2_116 : decode prog_14_method_50_code 116 = .ok (.getfield 16, 3) := by decide +kernel
theorem d_Model_global2_119 : decode prog_14_method_50_code 119 = .ok (.getfield 185, 3) := by decide +kernel
theorem d_Model_global2_122 : decode prog_14_method_50_code 122 = .ok (.iload_n 1, 1) := by decide +kernel
theorem d_Model_global2_123 : decode prog_14_method_50_code 123 = .ok (.iaload, 1) := by decide +kernel
theorem d_Model_global2_124 : decode prog_14_method_50_code 124 = .ok (.bipush 35, 2) := by decide +kernel
theorem d_Model_global2_126 : decode prog_14_method_50_code 126 = .ok (.if_icmp .ne 7, 3) := by decide +kernel
theorem d_Model_global2_133 : decode prog_14_method_50_code 133 = .ok (.iconst 1, 1) := by decide +kernel
theorem d_Model_global2_134 : decode prog_14_method_50_code 134 = .ok (.ireturn, 1) := by decide +kernel
theorem d_Model_global2_129 : decode prog_14_method_50_code 129 = .ok (.iconst 2, 1) := by decide +kernel
theorem d_Model_global2_130 : decode prog_14_method_50_code 130 = .ok (.goto 4, 3) := by decide +kernel
theorem d_Model_global2_111 : decode prog_14_method_50_code 111 = .ok (.iconst 0, 1) := by decide +kernel
theorem d_Model_global2_112 : decode prog_14_method_50_code 112 = .ok (.goto 22, 3) := by decide +kernel
theorem d_Model_global2_81 : decode prog_14_method_50_code 81 = .ok (.aload_n 0, 1) := by decide +kernel
theorem d_Model_global2_82 : decode prog_14_method_50_code 82 = .ok (.getfield 16, 3) := by decide +kernel
theorem d_Model_global2_85 : decode prog_14_method_50_code 85 = .ok (.getfield 243, 3) := by decide +kernel
theorem d_Model_global2_88 : decode prog_14_method_50_code 88 = .ok (.iload_n 1, 1) := by decide +kernel
theorem d_Model_global2_89 : decode prog_14_method_50_code 89 = .ok (.baload, 1) := by decide +kernel
theorem d_Model_global2_90 : decode prog_14_method_50_code 90 = .ok (.ifCond .eq 7, 3) := by decide +kernel
theorem d_Model_global2_97 : decode prog_14_method_50_code 97 = .ok (.iconst 0, 1) := by decide +kernel
theorem d_Model_global2_98 : decode prog_14_method_50_code 98 = .ok (.ireturn, 1) := by decide +kernel
theorem d_Model_global2_93 : decode prog_14_method_50_code 93 = .ok (.iconst 1, 1) := by decide +kernel
theorem d_Model_global2_94 : decode prog_14_method_50_code 94 = .ok (.goto 4, 3) := by decide +kernel
theorem d_Model_global2_57 : decode prog_14_method_50_code 57 = .ok (.aload_n 0, 1) := by decide +kernel
theorem d_Model_global2_58 : decode prog_14_method_50_code 58 = .ok (.getfield 16, 3) := by decide +kernel
theorem d_Model_global2_61 : decode prog_14_method_50_code 61 = .ok (.getfield 240, 3) := by decide +kernel
theorem d_Model_global2_64 : decode prog_14_method_50_code 64 = .ok (.iload_n 1, 1) := by decide +kernel
theorem d_Model_global2_65 : decode prog_14_method_50_code 65 = .ok (.iaload, 1) := by decide +kernel
theorem d_Model_global2_66 : decode prog_14_method_50_code 66 = .ok (.iconst 2, 1) := by decide +kernel
theorem d_Model_global2_67 : decode prog_14_method_50_code 67 = .ok (.if_icmp .ne 7, 3) := by decide +kernel
theorem d_Model_global2_74 : decode prog_14_method_50_code 74 = .ok (.iconst 0, 1) := by decide +kernel
theorem d_Model_global2_75 : decode prog_14_method_50_code 75 = .ok (.ireturn, 1) := by decide +kernel
theorem d_Model_global2_70 : decode prog_14_method_50_code 70 = .ok (.iconst 1, 1) := by decide +kernel
theorem d_Model_global2_71 : decode prog_14_method_50_code 71 = .ok (.goto 4, 3) := by decide +kernel
theorem d_Model_global2_8 : decode prog_14_method_50_code 8 = .ok (.iconst 1, 1) := by decide +kernel
theorem d_Model_global2_9 : decode prog_14_method_50_code 9 = .ok (.goto 36, 3) := by decide +kernel
theorem d_Model_initial2_0 : decode prog_14_method_51_code 0 = .ok (.aload_n 0, 1) := by decide +kernel
theorem d_Model_initial2_1 : decode prog_14_method_51_code 1 = .ok (.aload_n 0, 1) := by decide +kernel
theorem d_Model_initial2_2 : decode prog_14_method_51_code 2 = .ok (.getfield 423, 3) := by decide +kernel
theorem d_Model_initial2_5 : decode prog_14_method_51_code 5 = .ok (.ifCond .ne 7, 3) := by decide +kernel
theorem d_Model_initial2_12 : decode prog_14_method_51_code 12 = .ok (.iload_n 1, 1) := by decide +kernel
theorem d_Model_initial2_13 : decode prog_14_method_51_code 13 = .ok (.ifCond .lt 14, 3) := by decide +kernel
theorem d_Model_initial2_27 : decode prog_14_method_51_code 27 = .ok (.iconst 2, 1) := by decide +kernel
theorem d_Model_initial2_28 : decode prog_14_method_51_code 28 = .ok (.goto 4, 3) := by decide +kernel
theorem d_Model_initial2_32 : decode prog_14_method_51_code 32 = .ok (.invokevirtual 438, 3) := by decide +kernel
theorem d_Model_initial2_35 : decode prog_14_method_51_code 35 = .ok (.ifCond .eq 5, 3) := by decide +kernel
theorem d_Model_initial2_38 : decode prog_14_method_51_code 38 = .ok (.lconst 0, 1) := by decide +kernel
theorem d_Model_initial2_39 : decode prog_14_method_51_code 39 = .ok (.lreturn, 1) := by decide +kernel
theorem d_Model_initial2_16 : decode prog_14_method_51_code 16 = .ok (.iload_n 1, 1) := by decide +kernel
theorem d_Model_initial2_17 : decode prog_14_method_51_code 17 = .ok (.aload_n 0, 1) := by decide +kernel
theorem d_Model_initial2_18 : decode prog_14_method_51_code 18 = .ok (.getfield 16, 3) := by decide +kernel
theorem d_Model_initial2_21 : decode prog_14_method_51_code 21 = .ok (.getfield 122, 3) := by decide +kernel
theorem d_Model_initial2_24 : decode prog_14_method_51_code 24 = .ok (.if_icmp .lt 7, 3) := by decide +kernel
theorem d_Model_initial2_31 : decode prog_14_method_51_code 31 = .ok (.iconst 0, 1) := by decide +kernel
theorem d_Model_initial2_40 : decode prog_14_method_51_code 40 = .ok (.aload_n 0, 1) := by decide +kernel
theorem d_Model_initial2_41 : decode prog_14_method_51_code 41 = .ok (.getfield 16, 3) := by decide +kernel
theorem d_Model_initial2_44 : decode prog_14_method_51_code 44 = .ok (.getfield 246, 3) := by decide +kernel
theorem d_Model_initial2_47 : decode prog_14_method_51_code 47 = .ok (.iload_n 1, 1) := by decide +kernel
theorem d_Model_initial2_48 : decode prog_14_method_51_code 48 = .ok (.iaload, 1) := by decide +kernel
theorem d_Model_initial2_49 : decode prog_14_method_51_code 49 = .ok (.ifCond .lt 7, 3) := by decide +kernel
theorem d_Model_initial2_56 : decode prog_14_method_51_code 56 = .ok (.aload_n 0, 1) := by decide +kernel
theorem d_Model_initial2_57 : decode prog_14_method_51_code 57 = .ok (.getfield 16, 3) := by decide +kernel
theorem d_Model_initial2_60 : decode prog_14_method_51_code 60 = .ok (.getfield 191, 3) := by decide +kernel
theorem d_Model_initial2_63 : decode prog_14_method_51_code 63 = .ok (.iload_n 1, 1) := by decide +kernel
theorem d_Model_initial2_64 : decode prog_14_method_51_code 64 = .ok (.laload, 1) := by decide +kernel
theorem d_Model_initial2_65 : decode prog_14_method_51_code 65 = .ok (.lreturn, 1) := by decide +kernel
theorem d_Model_initial2_52 : decode prog_14_method_51_code 52 = .ok (.lconst 0, 1) := by decide +kernel
theorem d_Model_initial2_53 : decode prog_14_method_51_code 53 = .ok (.goto 12, 3) := by decide +kernel
theorem d_Model_initial2_8 : decode prog_14_method_51_code 8 = .ok (.iconst 1, 1) := by decide +kernel
theorem d_Model_initial2_9 : decode prog_14_method_51_code 9 = .ok (.goto 23, 3) := by decide +kernel
theorem d_Model_export_0 : decode prog_14_method_49_code 0 = .ok (.aload_n 0, 1) := by decide +kernel
theorem d_Model_export_1 : decode prog_14_method_49_code 1 = .ok (.aload_n 0, 1) := by decide +kernel
theorem d_Model_export_2 : decode prog_14_method_49_code 2 = .ok (.getfield 423, 3) := by decide +kernel
theorem d_Model_export_5 : decode prog_14_method_49_code 5 = .ok (.ifCond .ne 7, 3) := by decide +kernel
theorem d_Model_export_12 : decode prog_14_method_49_code 12 = .ok (.iload_n 1, 1) := by decide +kernel
theorem d_Model_export_13 : decode prog_14_method_49_code 13 = .ok (.ifCond .lt 14, 3) := by decide +kernel
theorem d_Model_export_27 : decode prog_14_method_49_code 27 = .ok (.iconst 2, 1) := by decide +kernel
theorem d_Model_export_28 : decode prog_14_method_49_code 28 = .ok (.goto 39, 3) := by decide +kernel
theorem d_Model_export_67 : decode prog_14_method_49_code 67 = .ok (.invokevirtual 438, 3) := by decide +kernel
theorem d_Model_export_70 : decode prog_14_method_49_code 70 = .ok (.ifCond .eq 5, 3) := by decide +kernel
theorem d_Model_export_73 : decode prog_14_method_49_code 73 = .ok (.iconst 0, 1) := by decide +kernel
theorem d_Model_export_74 : decode prog_14_method_49_code 74 = .ok (.ireturn, 1) := by decide +kernel
theorem d_Model_export_16 : decode prog_14_method_49_code 16 = .ok (.iload_n 1, 1) := by decide +kernel
theorem d_Model_export_17 : decode prog_14_method_49_code 17 = .ok (.aload_n 0, 1) := by decide +kernel
theorem d_Model_export_18 : decode prog_14_method_49_code 18 = .ok (.getfield 16, 3) := by decide +kernel
theorem d_Model_export_21 : decode prog_14_method_49_code 21 = .ok (.getfield 125, 3) := by decide +kernel
theorem d_Model_export_24 : decode prog_14_method_49_code 24 = .ok (.if_icmp .lt 7, 3) := by decide +kernel
theorem d_Model_export_31 : decode prog_14_method_49_code 31 = .ok (.iload_n 2, 1) := by decide +kernel
theorem d_Model_export_32 : decode prog_14_method_49_code 32 = .ok (.ifCond .lt 8, 3) := by decide +kernel
theorem d_Model_export_40 : decode prog_14_method_49_code 40 = .ok (.iload_n 2, 1) := by decide +kernel
theorem d_Model_export_41 : decode prog_14_method_49_code 41 = .ok (.bipush 10, 2) := by decide +kernel
theorem d_Model_export_43 : decode prog_14_method_49_code 43 = .ok (.if_icmp .lt 23, 3) := by decide +kernel
theorem d_Model_export_66 : decode prog_14_method_49_code 66 = .ok (.iconst 3, 1) := by decide +kernel
theorem d_Model_export_35 : decode prog_14_method_49_code 35 = .ok (.iload_n 2, 1) := by decide +kernel
theorem d_Model_export_36 : decode prog_14_method_49_code 36 = .ok (.iconst 2, 1) := by decide +kernel
theorem d_Model_export_37 : decode prog_14_method_49_code 37 = .ok (.if_icmp .le 25, 3) := by decide +kernel
theorem d_Model_export_62 : decode prog_14_method_49_code 62 = .ok (.iconst 0, 1) := by decide +kernel
theorem d_Model_export_63 : decode prog_14_method_49_code 63 = .ok (.goto 4, 3) := by decide +kernel
theorem d_Model_export_75 : decode prog_14_method_49_code 75 = .ok (.iload_n 2, 1) := by decide +kernel
theorem d_Model_export_76 : decode prog_14_method_49_code 76 = .ok (.ifCond .ne 15, 3) := by decide +kernel
theorem d_Model_export_91 : decode prog_14_method_49_code 91 = .ok (.iload_n 2, 1) := by decide +kernel
theorem d_Model_export_92 : decode prog_14_method_49_code 92 = .ok (.iconst 1, 1) := by decide +kernel
theorem d_Model_export_93 : decode prog_14_method_49_code 93 = .ok (.if_icmp .ne 15, 3) := by decide +kernel
theorem d_Model_export_108 : decode prog_14_method_49_code 108 = .ok (.iload_n 2, 1) := by decide +kernel
theorem d_Model_export_109 : decode prog_14_method_49_code 109 = .ok (.iconst 2, 1) := by decide +kernel
theorem d_Model_export_110 : decode prog_14_method_49_code 110 = .ok (.if_icmp .ne 15, 3) := by decide +kernel
theorem d_Model_export_125 : decode prog_14_method_49_code 125 = .ok (.aload_n 0, 1) := by decide +kernel
theorem d_Model_export_126 : decode prog_14_method_49_code 126 = .ok (.getfield 16, 3) := by decide +kernel
theorem d_Model_export_129 : decode prog_14_method_49_code 129 = .ok (.getfield 61, 3) := by decide +kernel
theorem d_Model_export_132 : decode prog_14_method_49_code 132 = .ok (.aload_n 0, 1) := by decide +kernel
theorem d_Model_export_133 : decode prog_14_method_49_code 133 = .ok (.getfield 16, 3) := by decide +kernel
theorem d_Model_export_136 : decode prog_14_method_49_code 136 = .ok (.getfield 202, 3) := by decide +kernel
theorem d_Model_export_139 : decode prog_14_method_49_code 139 = .ok (.iload_n 1, 1) := by decide +kernel
theorem d_Model_export_140 : decode prog_14_method_49_code 140 = .ok (.iaload, 1) := by decide +kernel
theorem d_Model_export_141 : decode prog_14_method_49_code 141 = .ok (.iload_n 2, 1) := by decide +kernel
theorem d_Model_export_142 : decode prog_14_method_49_code 142 = .ok (.iadd, 1) := by decide +kernel
theorem d_Model_export_143 : decode prog_14_method_49_code 143 = .ok (.bipush 10, 2) := by decide +kernel
theorem d_Model_export_145 : decode prog_14_method_49_code 145 = .ok (.isub, 1) := by decide +kernel
theorem d_Model_export_146 : decode prog_14_method_49_code 146 = .ok (.baload, 1) := by decide +kernel
theorem d_Model_export_147 : decode prog_14_method_49_code 147 = .ok (.sipush 255, 3) := by decide +kernel
theorem d_Model_export_150 : decode prog_14_method_49_code 150 = .ok (.iand, 1) := by decide +kernel
theorem d_Model_export_151 : decode prog_14_method_49_code 151 = .ok (.ireturn, 1) := by decide +kernel
theorem d_Model_export_113 : decode prog_14_method_49_code 113 = .ok (.aload_n 0, 1) := by decide +kernel
theorem d_Model_export_114 : decode prog_14_method_49_code 114 = .ok (.getfield 16, 3) := by decide +kernel
theorem d_Model_export_117 : decode prog_14_method_49_code 117 = .ok (.getfield 205, 3) := by decide +kernel
theorem d_Model_export_120 : decode prog_14_method_49_code 120 = .ok (.iload_n 1, 1) := by decide +kernel
theorem d_Model_export_121 : decode prog_14_method_49_code 121 = .ok (.iaload, 1) := by decide +kernel
theorem d_Model_export_122 : decode prog_14_method_49_code 122 = .ok (.goto 29, 3) := by decide +kernel
theorem d_Model_export_96 : decode prog_14_method_49_code 96 = .ok (.aload_n 0, 1) := by decide +kernel
theorem d_Model_export_97 : decode prog_14_method_49_code 97 = .ok (.getfield 16, 3) := by decide +kernel
theorem d_Model_export_100 : decode prog_14_method_49_code 100 = .ok (.getfield 211, 3) := by decide +kernel
theorem d_Model_export_103 : decode prog_14_method_49_code 103 = .ok (.iload_n 1, 1) := by decide +kernel
theorem d_Model_export_104 : decode prog_14_method_49_code 104 = .ok (.iaload, 1) := by decide +kernel
theorem d_Model_export_105 : decode prog_14_method_49_code 105 = .ok (.goto 46, 3) := by decide +kernel
theorem d_Model_export_79 : decode prog_14_method_49_code 79 = .ok (.aload_n 0, 1) := by decide +kernel
theorem d_Model_export_80 : decode prog_14_method_49_code 80 = .ok (.getfield 16, 3) := by decide +kernel
theorem d_Model_export_83 : decode prog_14_method_49_code 83 = .ok (.getfield 208, 3) := by decide +kernel
theorem d_Model_export_86 : decode prog_14_method_49_code 86 = .ok (.iload_n 1, 1) := by decide +kernel
theorem d_Model_export_87 : decode prog_14_method_49_code 87 = .ok (.iaload, 1) := by decide +kernel
theorem d_Model_export_88 : decode prog_14_method_49_code 88 = .ok (.goto 63, 3) := by decide +kernel
theorem d_Model_export_46 : decode prog_14_method_49_code 46 = .ok (.iload_n 2, 1) := by decide +kernel
theorem d_Model_export_47 : decode prog_14_method_49_code 47 = .ok (.bipush 10, 2) := by decide +kernel
theorem d_Model_export_49 : decode prog_14_method_49_code 49 = .ok (.aload_n 0, 1) := by decide +kernel
theorem d_Model_export_50 : decode prog_14_method_49_code 50 = .ok (.getfield 16, 3) := by decide +kernel
theorem d_Model_export_53 : decode prog_14_method_49_code 53 = .ok (.getfield 205, 3) := by decide +kernel
theorem d_Model_export_56 : decode prog_14_method_49_code 56 = .ok (.iload_n 1, 1) := by decide +kernel
theorem d_Model_export_57 : decode prog_14_method_49_code 57 = .ok (.iaload, 1) := by decide +kernel
theorem d_Model_export_58 : decode prog_14_method_49_code 58 = .ok (.iadd, 1) := by decide +kernel
theorem d_Model_export_59 : decode prog_14_method_49_code 59 = .ok (.if_icmp .ge 7, 3) := by decide +kernel
theorem d_Model_export_8 : decode prog_14_method_49_code 8 = .ok (.iconst 1, 1) := by decide +kernel
theorem d_Model_export_9 : decode prog_14_method_49_code 9 = .ok (.goto 58, 3) := by decide +kernel
theorem d_Model_function_0 : decode prog_14_method_48_code 0 = .ok (.aload_n 0, 1) := by decide +kernel
theorem d_Model_function_1 : decode prog_14_method_48_code 1 = .ok (.aload_n 0, 1) := by decide +kernel
theorem d_Model_function_2 : decode prog_14_method_48_code 2 = .ok (.getfield 423, 3) := by decide +kernel
theorem d_Model_function_5 : decode prog_14_method_48_code 5 = .ok (.ifCond .ne 7, 3) := by decide +kernel
theorem d_Model_function_12 : decode prog_14_method_48_code 12 = .ok (.iload_n 1, 1) := by decide +kernel
theorem d_Model_function_13 : decode prog_14_method_48_code 13 = .ok (.ifCond .lt 14, 3) := by decide +kernel
theorem d_Model_function_27 : decode prog_14_method_48_code 27 = .ok (.iconst 2, 1) := by decide +kernel
theorem d_Model_function_28 : decode prog_14_method_48_code 28 = .ok (.goto 4, 3) := by decide +kernel
theorem d_Model_function_32 : decode prog_14_method_48_code 32 = .ok (.invokevirtual 438, 3) := by decide +kernel
theorem d_Model_function_35 : decode prog_14_method_48_code 35 = .ok (.ifCond .eq 5, 3) := by decide +kernel
theorem d_Model_function_38 : decode prog_14_method_48_code 38 = .ok (.iconst 0, 1) := by decide +kernel
theorem d_Model_function_39 : decode prog_14_method_48_code 39 = .ok (.ireturn, 1) := by decide +kernel
theorem d_Model_function_16 : decode prog_14_method_48_code 16 = .ok (.iload_n 1, 1) := by decide +kernel
theorem d_Model_function_17 : decode prog_14_method_48_code 17 = .ok (.aload_n 0, 1) := by decide +kernel
theorem d_Model_function_18 : decode prog_14_method_48_code 18 = .ok (.getfield 16, 3) := by decide +kernel
theorem d_Model_function_21 : decode prog_14_method_48_code 21 = .ok (.getfield 110, 3) := by decide +kernel
theorem d_Model_function_24 : decode prog_14_method_48_code 24 = .ok (.if_icmp .lt 7, 3) := by decide +kernel
theorem d_Model_function_31 : decode prog_14_method_48_code 31 = .ok (.iconst 0, 1) := by decide +kernel
theorem d_Model_function_40 : decode prog_14_method_48_code 40 = .ok (.aload_n 0, 1) := by decide +kernel
theorem d_Model_function_41 : decode prog_14_method_48_code 41 = .ok (.getfield 16, 3) := by decide +kernel
theorem d_Model_function_44 : decode prog_14_method_48_code 44 = .ok (.getfield 234, 3) := by decide +kernel
theorem d_Model_function_47 : decode prog_14_method_48_code 47 = .ok (.iload_n 1, 1) := by decide +kernel
theorem d_Model_function_48 : decode prog_14_method_48_code 48 = .ok (.iaload, 1) := by decide +kernel
theorem d_Model_function_49 : decode prog_14_method_48_code 49 = .ok (.istore_n 3, 1) := by decide +kernel
theorem d_Model_function_50 : decode prog_14_method_48_code 50 = .ok (.iload_n 1, 1) := by decide +kernel
theorem d_Model_function_51 : decode prog_14_method_48_code 51 = .ok (.aload_n 0, 1) := by decide +kernel
theorem d_Model_function_52 : decode prog_14_method_48_code 52 = .ok (.getfield 16, 3) := by decide +kernel
theorem d_Model_function_55 : decode prog_14_method_48_code 55 = .ok (.getfield 110, 3) := by decide +kernel
theorem d_Model_function_58 : decode prog_14_method_48_code 58 = .ok (.aload_n 0, 1) := by decide +kernel
theorem d_Model_function_59 : decode prog_14_method_48_code 59 = .ok (.getfield 16, 3) := by decide +kernel
theorem d_Model_function_62 : decode prog_14_method_48_code 62 = .ok (.getfield 134, 3) := by decide +kernel
theorem d_Model_function_65 : decode prog_14_method_48_code 65 = .ok (.isub, 1) := by decide +kernel
theorem d_Model_function_66 : decode prog_14_method_48_code 66 = .ok (.isub, 1) := by decide +kernel
theorem d_Model_function_67 : decode prog_14_method_48_code 67 = .ok (.istore 4, 2) := by decide +kernel
theorem d_Model_function_69 : decode prog_14_method_48_code 69 = .ok (.aload_n 0, 1) := by decide +kernel
theorem d_Model_function_70 : decode prog_14_method_48_code 70 = .ok (.getfield 16, 3) := by decide +kernel
theorem d_Model_function_73 : decode prog_14_method_48_code 73 = .ok (.getfield 228, 3) := by decide +kernel
theorem d_Model_function_76 : decode prog_14_method_48_code 76 = .ok (.iload_n 3, 1) := by decide +kernel
theorem d_Model_function_77 : decode prog_14_method_48_code 77 = .ok (.iaload, 1) := by decide +kernel
theorem d_Model_function_78 : decode prog_14_method_48_code 78 = .ok (.istore 5, 2) := by decide +kernel
theorem d_Model_function_80 : decode prog_14_method_48_code 80 = .ok (.iload 4, 2) := by decide +kernel
theorem d_Model_function_82 : decode prog_14_method_48_code 82 = .ok (.ifCond .ge 7, 3) := by decide +kernel
theorem d_Model_function_85 : decode prog_14_method_48_code 85 = .ok (.iconst 0, 1) := by decide +kernel
theorem d_Model_function_86 : decode prog_14_method_48_code 86 = .ok (.goto 13, 3) := by decide +kernel
theorem d_Model_function_99 : decode prog_14_method_48_code 99 = .ok (.istore 6, 2) := by decide +kernel
theorem d_Model_function_101 : decode prog_14_method_48_code 101 = .ok (.aload_n 0, 1) := by decide +kernel
theorem d_Model_function_102 : decode prog_14_method_48_code 102 = .ok (.iload_n 2, 1) := by decide +kernel
theorem d_Model_function_103 : decode prog_14_method_48_code 103 = .ok (.ifCond .lt 8, 3) := by decide +kernel
theorem d_Model_function_111 : decode prog_14_method_48_code 111 = .ok (.iload_n 2, 1) := by decide +kernel
theorem d_Model_function_112 : decode prog_14_method_48_code 112 = .ok (.bipush 10, 2) := by decide +kernel
theorem d_Model_function_114 : decode prog_14_method_48_code 114 = .ok (.if_icmp .lt 19, 3) := by decide +kernel
theorem d_Model_function_133 : decode prog_14_method_48_code 133 = .ok (.iconst 3, 1) := by decide +kernel
theorem d_Model_function_134 : decode prog_14_method_48_code 134 = .ok (.invokevirtual 438, 3) := by decide +kernel
theorem d_Model_function_137 : decode prog_14_method_48_code 137 = .ok (.ifCond .eq 5, 3) := by decide +kernel
theorem d_Model_function_140 : decode prog_14_method_48_code 140 = .ok (.iconst 0, 1) := by decide +kernel
theorem d_Model_function_141 : decode prog_14_method_48_code 141 = .ok (.ireturn, 1) := by decide +kernel
theorem d_Model_function_106 : decode prog_14_method_48_code 106 = .ok (.iload_n 2, 1) := by decide +kernel
theorem d_Model_function_107 : decode prog_14_method_48_code 107 = .ok (.iconst 3, 1) := by decide +kernel
theorem d_Model_function_108 : decode prog_14_method_48_code 108 = .ok (.if_icmp .le 21, 3) := by decide +kernel
theorem d_Model_function_129 : decode prog_14_method_48_code 129 = .ok (.iconst 0, 1) := by decide +kernel
theorem d_Model_function_130 : decode prog_14_method_48_code 130 = .ok (.goto 4, 3) := by decide +kernel
theorem d_Model_function_142 : decode prog_14_method_48_code 142 = .ok (.iload_n 2, 1) := by decide +kernel
theorem d_Model_function_143 : decode prog_14_method_48_code 143 = .ok (.ifCond .ne 6, 3) := by decide +kernel
theorem d_Model_function_149 : decode prog_14_method_48_code 149 = .ok (.iload_n 2, 1) := by decide +kernel
theorem d_Model_function_150 : decode prog_14_method_48_code 150 = .ok (.iconst 1, 1) := by decide +kernel
theorem d_Model_function_151 : decode prog_14_method_48_code 151 = .ok (.if_icmp .ne 21, 3) := by decide +kernel
theorem d_Model_function_172 : decode prog_14_method_48_code 172 = .ok (.iload_n 2, 1) := by decide +kernel
theorem d_Model_function_173 : decode prog_14_method_48_code 173 = .ok (.iconst 2, 1) := by decide +kernel
theorem d_Model_function_174 : decode prog_14_method_48_code 174 = .ok (.if_icmp .ne 6, 3) := by decide +kernel
theorem d_Model_function_180 : decode prog_14_method_48_code 180 = .ok (.iload_n 2, 1) := by decide +kernel
theorem d_Model_function_181 : decode prog_14_method_48_code 181 = .ok (.iconst 3, 1) := by decide +kernel
theorem d_Model_function_182 : decode prog_14_method_48_code 182 = .ok (.if_icmp .ne 34, 3) := by decide +kernel
theorem d_Model_function_185 : decode prog_14_method_48_code 185 = .ok (.iload 4, 2) := by decide +kernel
theorem d_Model_function_187 : decode prog_14_method_48_code 187 = .ok (.ifCond .ge 7, 3) := by decide +kernel
theorem d_Model_function_190 : decode prog_14_method_48_code 190 = .ok (.iconst 0, 1) := by decide +kernel
theorem d_Model_function_191 : decode prog_14_method_48_code 191 = .ok (.goto 24, 3) := by decide +kernel
theorem d_Model_function_215 : decode prog_14_method_48_code 215 = .ok (.ireturn, 1) := by decide +kernel
theorem d_Model_function_177 : decode prog_14_method_48_code 177 = .ok (.iload 6, 2) := by decide +kernel
theorem d_Model_function_179 : decode prog_14_method_48_code 179 = .ok (.ireturn, 1) := by decide +kernel
theorem d_Model_function_154 : decode prog_14_method_48_code 154 = .ok (.aload_n 0, 1) := by decide +kernel
theorem d_Model_function_155 : decode prog_14_method_48_code 155 = .ok (.getfield 16, 3) := by decide +kernel
theorem d_Model_function_158 : decode prog_14_method_48_code 158 = .ok (.getfield 231, 3) := by decide +kernel
theorem d_Model_function_161 : decode prog_14_method_48_code 161 = .ok (.iload_n 3, 1) := by decide +kernel
theorem d_Model_function_162 : decode prog_14_method_48_code 162 = .ok (.iaload, 1) := by decide +kernel
theorem d_Model_function_163 : decode prog_14_method_48_code 163 = .ok (.ifCond .le 7, 3) := by decide +kernel
theorem d_Model_function_170 : decode prog_14_method_48_code 170 = .ok (.iconst 0, 1) := by decide +kernel
theorem d_Model_function_171 : decode prog_14_method_48_code 171 = .ok (.ireturn, 1) := by decide +kernel
theorem d_Model_function_166 : decode prog_14_method_48_code 166 = .ok (.iconst 1, 1) := by decide +kernel
theorem d_Model_function_167 : decode prog_14_method_48_code 167 = .ok (.goto 4, 3) := by decide +kernel
theorem d_Model_function_146 : decode prog_14_method_48_code 146 = .ok (.iload 5, 2) := by decide +kernel
theorem d_Model_function_148 : decode prog_14_method_48_code 148 = .ok (.ireturn, 1) := by decide +kernel
theorem d_Model_function_117 : decode prog_14_method_48_code 117 = .ok (.iload_n 2, 1) := by decide +kernel
theorem d_Model_function_118 : decode prog_14_method_48_code 118 = .ok (.bipush 10, 2) := by decide +kernel
theorem d_Model_function_120 : decode prog_14_method_48_code 120 = .ok (.iload 5, 2) := by decide +kernel
theorem d_Model_function_122 : decode prog_14_method_48_code 122 = .ok (.iadd, 1) := by decide +kernel
theorem d_Model_function_123 : decode prog_14_method_48_code 123 = .ok (.iload 6, 2) := by decide +kernel
theorem d_Model_function_125 : decode prog_14_method_48_code 125 = .ok (.iadd, 1) := by decide +kernel
theorem d_Model_function_126 : decode prog_14_method_48_code 126 = .ok (.if_icmp .ge 7, 3) := by decide +kernel
theorem d_Model_function_216 : decode prog_14_method_48_code 216 = .ok (.iload_n 2, 1) := by decide +kernel
theorem d_Model_function_217 : decode prog_14_method_48_code 217 = .ok (.bipush 10, 2) := by decide +kernel
theorem d_Model_function_219 : decode prog_14_method_48_code 219 = .ok (.isub, 1) := by decide +kernel
theorem d_Model_function_220 : decode prog_14_method_48_code 220 = .ok (.istore 7, 2) := by decide +kernel
theorem d_Model_function_222 : decode prog_14_method_48_code 222 = .ok (.iload 7, 2) := by decide +kernel
theorem d_Model_function_224 : decode prog_14_method_48_code 224 = .ok (.iload 5, 2) := by decide +kernel
theorem d_Model_function_226 : decode prog_14_method_48_code 226 = .ok (.if_icmp .ge 21, 3) := by decide +kernel
theorem d_Model_function_229 : decode prog_14_method_48_code 229 = .ok (.aload_n 0, 1) := by decide +kernel
theorem d_Model_function_230 : decode prog_14_method_48_code 230 = .ok (.getfield 16, 3) := by decide +kernel
theorem d_Model_function_233 : decode prog_14_method_48_code 233 = .ok (.getfield 225, 3) := by decide +kernel
theorem d_Model_function_236 : decode prog_14_method_48_code 236 = .ok (.bipush 6, 2) := by decide +kernel
theorem d_Model_function_238 : decode prog_14_method_48_code 238 = .ok (.iload_n 3, 1) := by decide +kernel
theorem d_Model_function_239 : decode prog_14_method_48_code 239 = .ok (.imul, 1) := by decide +kernel
theorem d_Model_function_240 : decode prog_14_method_48_code 240 = .ok (.iload 7, 2) := by decide +kernel
theorem d_Model_function_242 : decode prog_14_method_48_code 242 = .ok (.iadd, 1) := by decide +kernel
theorem d_Model_function_243 : decode prog_14_method_48_code 243 = .ok (.iaload, 1) := by decide +kernel
theorem d_Model_function_244 : decode prog_14_method_48_code 244 = .ok (.goto 22, 3) := by decide +kernel
theorem d_Model_function_266 : decode prog_14_method_48_code 266 = .ok (.iconst 2, 1) := by decide +kernel
theorem d_Model_function_267 : decode prog_14_method_48_code 267 = .ok (.if_icmp .ne 7, 3) := by decide +kernel
theorem d_Model_function_274 : decode prog_14_method_48_code 274 = .ok (.iconst 0, 1) := by decide +kernel
theorem d_Model_function_275 : decode prog_14_method_48_code 275 = .ok (.ireturn, 1) := by decide +kernel
theorem d_Model_function_270 : decode prog_14_method_48_code 270 = .ok (.iconst 1, 1) := by decide +kernel
theorem d_Model_function_271 : decode prog_14_method_48_code 271 = .ok (.goto 4, 3) := by decide +kernel
theorem d_Model_function_89 : decode prog_14_method_48_code 89 = .ok (.aload_n 0, 1) := by decide +kernel
theorem d_Model_function_90 : decode prog_14_method_48_code 90 = .ok (.getfield 16, 3) := by decide +kernel
theorem d_Model_function_93 : decode prog_14_method_48_code 93 = .ok (.getfield 332, 3) := by decide +kernel
theorem d_Model_function_96 : decode prog_14_method_48_code 96 = .ok (.iload 4, 2) := by decide +kernel
theorem d_Model_function_98 : decode prog_14_method_48_code 98 = .ok (.iaload, 1) := by decide +kernel
theorem d_Model_function_194 : decode prog_14_method_48_code 194 = .ok (.aload_n 0, 1) := by decide +kernel
theorem d_Model_function_195 : decode prog_14_method_48_code 195 = .ok (.getfield 16, 3) := by decide +kernel
theorem d_Model_function_198 : decode prog_14_method_48_code 198 = .ok (.getfield 338, 3) := by decide +kernel
theorem d_Model_function_201 : decode prog_14_method_48_code 201 = .ok (.iload 4, 2) := by decide +kernel
theorem d_Model_function_203 : decode prog_14_method_48_code 203 = .ok (.iaload, 1) := by decide +kernel
theorem d_Model_function_204 : decode prog_14_method_48_code 204 = .ok (.aload_n 0, 1) := by decide +kernel
theorem d_Model_function_205 : decode prog_14_method_48_code 205 = .ok (.getfield 16, 3) := by decide +kernel
theorem d_Model_function_208 : decode prog_14_method_48_code 208 = .ok (.getfield 329, 3) := by decide +kernel
theorem d_Model_function_211 : decode prog_14_method_48_code 211 = .ok (.iload 4, 2) := by decide +kernel
theorem d_Model_function_213 : decode prog_14_method_48_code 213 = .ok (.iaload, 1) := by decide +kernel
theorem d_Model_function_214 : decode prog_14_method_48_code 214 = .ok (.isub, 1) := by decide +kernel
theorem d_Model_function_247 : decode prog_14_method_48_code 247 = .ok (.aload_n 0, 1) := by decide +kernel
theorem d_Model_function_248 : decode prog_14_method_48_code 248 = .ok (.getfield 16, 3) := by decide +kernel
theorem d_Model_function_251 : decode prog_14_method_48_code 251 = .ok (.getfield 324, 3) := by decide +kernel
theorem d_Model_function_254 : decode prog_14_method_48_code 254 = .ok (.bipush 30, 2) := by decide +kernel
theorem d_Model_function_256 : decode prog_14_method_48_code 256 = .ok (.iload 4, 2) := by decide +kernel
theorem d_Model_function_258 : decode prog_14_method_48_code 258 = .ok (.imul, 1) := by decide +kernel
theorem d_Model_function_259 : decode prog_14_method_48_code 259 = .ok (.iload 7, 2) := by decide +kernel
theorem d_Model_function_261 : decode prog_14_method_48_code 261 = .ok (.iadd, 1) := by decide +kernel
theorem d_Model_function_262 : decode prog_14_method_48_code 262 = .ok (.iload 5, 2) := by decide +kernel
theorem d_Model_function_264 : decode prog_14_method_48_code 264 = .ok (.isub, 1) := by decide +kernel
theorem d_Model_function_265 : decode prog_14_method_48_code 265 = .ok (.iaload, 1) := by decide +kernel
theorem d_Model_function_8 : decode prog_14_method_48_code 8 = .ok (.iconst 1, 1) := by decide +kernel
theorem d_Model_function_9 : decode prog_14_method_48_code 9 = .ok (.goto 23, 3) := by decide +kernel
