theorem d_Model_valid2_156 : decode prog_14_method_26_code 156 = .ok (.goto (-69), 3) := by decide +kernel
theorem d_Model_valid2_111 : decode prog_14_method_26_code 111 = .ok (.aload_n 0, 1) := by decide +kernel
theorem d_Model_valid2_112 : decode prog_14_method_26_code 112 = .ok (.aload_n 0, 1) := by decide +kernel
theorem d_Model_valid2_113 : decode prog_14_method_26_code 113 = .ok (.getfield 16, 3) := by decide +kernel
theorem d_Model_valid2_116 : decode prog_14_method_26_code 116 = .ok (.getfield 185, 3) := by decide +kernel
theorem d_Model_valid2_119 : decode prog_14_method_26_code 119 = .ok (.iload_n 1, 1) := by decide +kernel
theorem d_Model_valid2_120 : decode prog_14_method_26_code 120 = .ok (.iaload, 1) := by decide +kernel
theorem d_Model_valid2_121 : decode prog_14_method_26_code 121 = .ok (.aload_n 0, 1) := by decide +kernel
theorem d_Model_valid2_122 : decode prog_14_method_26_code 122 = .ok (.getfield 16, 3) := by decide +kernel
theorem d_Model_valid2_125 : decode prog_14_method_26_code 125 = .ok (.getfield 191, 3) := by decide +kernel
theorem d_Model_valid2_128 : decode prog_14_method_26_code 128 = .ok (.iload_n 1, 1) := by decide +kernel
theorem d_Model_valid2_129 : decode prog_14_method_26_code 129 = .ok (.laload, 1) := by decide +kernel
theorem d_Model_valid2_130 : decode prog_14_method_26_code 130 = .ok (.aload_n 0, 1) := by decide +kernel
theorem d_Model_valid2_131 : decode prog_14_method_26_code 131 = .ok (.getfield 16, 3) := by decide +kernel
theorem d_Model_valid2_134 : decode prog_14_method_26_code 134 = .ok (.getfield 240, 3) := by decide +kernel
theorem d_Model_valid2_137 : decode prog_14_method_26_code 137 = .ok (.iload_n 1, 1) := by decide +kernel
theorem d_Model_valid2_138 : decode prog_14_method_26_code 138 = .ok (.iaload, 1) := by decide +kernel
theorem d_Model_valid2_139 : decode prog_14_method_26_code 139 = .ok (.invokevirtual 355, 3) := by decide +kernel
theorem d_Model_valid2_142 : decode prog_14_method_26_code 142 = .ok (.ifCond .eq 7, 3) := by decide +kernel
theorem d_Model_valid2_149 : decode prog_14_method_26_code 149 = .ok (.iconst 0, 1) := by decide +kernel
theorem d_Model_valid2_51 : decode prog_14_method_26_code 51 = .ok (.aload_n 0, 1) := by decide +kernel
theorem d_Model_valid2_52 : decode prog_14_method_26_code 52 = .ok (.aload_n 0, 1) := by decide +kernel
theorem d_Model_valid2_53 : decode prog_14_method_26_code 53 = .ok (.getfield 16, 3) := by decide +kernel
theorem d_Model_valid2_56 : decode prog_14_method_26_code 56 = .ok (.getfield 234, 3) := by decide +kernel
theorem d_Model_valid2_59 : decode prog_14_method_26_code 59 = .ok (.iload_n 1, 1) := by decide +kernel
theorem d_Model_valid2_60 : decode prog_14_method_26_code 60 = .ok (.iaload, 1) := by decide +kernel
theorem d_Model_valid2_61 : decode prog_14_method_26_code 61 = .ok (.aload_n 0, 1) := by decide +kernel
theorem d_Model_valid2_62 : decode prog_14_method_26_code 62 = .ok (.getfield 16, 3) := by decide +kernel
theorem d_Model_valid2_65 : decode prog_14_method_26_code 65 = .ok (.getfield 104, 3) := by decide +kernel
theorem d_Model_valid2_68 : decode prog_14_method_26_code 68 = .ok (.if_icmp .ge 7, 3) := by decide +kernel
theorem d_Model_valid2_75 : decode prog_14_method_26_code 75 = .ok (.iconst 0, 1) := by decide +kernel
theorem d_Model_valid2_76 : decode prog_14_method_26_code 76 = .ok (.invokevirtual 351, 3) := by decide +kernel
theorem d_Model_valid2_71 : decode prog_14_method_26_code 71 = .ok (.iconst 1, 1) := by decide +kernel
theorem d_Model_valid2_72 : decode prog_14_method_26_code 72 = .ok (.goto 4, 3) := by decide +kernel
theorem d_Model_valid2_79 : decode prog_14_method_26_code 79 = .ok (.iinc 1 1, 3) := by decide +kernel
theorem d_Model_valid2_82 : decode prog_14_method_26_code 82 = .ok (.goto (-42), 3) := by decide +kernel
