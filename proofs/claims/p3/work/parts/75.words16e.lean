theorem d_Model_valid_968 : decode prog_14_method_34_code 968 = .ok (.invokevirtual 68, 3) := by decide +kernel
theorem d_Model_valid_971 : decode prog_14_method_34_code 971 = .ok (.lstore 7, 2) := by decide +kernel
theorem d_Model_valid_973 : decode prog_14_method_34_code 973 = .ok (.aload_n 0, 1) := by decide +kernel
theorem d_Model_valid_974 : decode prog_14_method_34_code 974 = .ok (.lload 7, 2) := by decide +kernel
theorem d_Model_valid_976 : decode prog_14_method_34_code 976 = .ok (.aload_n 0, 1) := by decide +kernel
theorem d_Model_valid_977 : decode prog_14_method_34_code 977 = .ok (.getfield 16, 3) := by decide +kernel
theorem d_Model_valid_980 : decode prog_14_method_34_code 980 = .ok (.getfield 122, 3) := by decide +kernel
theorem d_Model_valid_983 : decode prog_14_method_34_code 983 = .ok (.i2l, 1) := by decide +kernel
theorem d_Model_valid_984 : decode prog_14_method_34_code 984 = .ok (.lcmp, 1) := by decide +kernel
theorem d_Model_valid_985 : decode prog_14_method_34_code 985 = .ok (.ifCond .ge 7, 3) := by decide +kernel
theorem d_Model_valid_992 : decode prog_14_method_34_code 992 = .ok (.iconst 0, 1) := by decide +kernel
theorem d_Model_valid_993 : decode prog_14_method_34_code 993 = .ok (.invokevirtual 351, 3) := by decide +kernel
theorem d_Model_valid_988 : decode prog_14_method_34_code 988 = .ok (.iconst 1, 1) := by decide +kernel
theorem d_Model_valid_989 : decode prog_14_method_34_code 989 = .ok (.goto 4, 3) := by decide +kernel
theorem d_Model_valid_996 : decode prog_14_method_34_code 996 = .ok (.iload 6, 2) := by decide +kernel
theorem d_Model_valid_998 : decode prog_14_method_34_code 998 = .ok (.bipush 35, 2) := by decide +kernel
theorem d_Model_valid_1000 : decode prog_14_method_34_code 1000 = .ok (.if_icmp .ne 21, 3) := by decide +kernel
theorem d_Model_valid_1021 : decode prog_14_method_34_code 1021 = .ok (.aload_n 0, 1) := by decide +kernel
theorem d_Model_valid_1022 : decode prog_14_method_34_code 1022 = .ok (.aload_n 0, 1) := by decide +kernel
theorem d_Model_valid_1023 : decode prog_14_method_34_code 1023 = .ok (.getfield 16, 3) := by decide +kernel
theorem d_Model_valid_1026 : decode prog_14_method_34_code 1026 = .ok (.getfield 243, 3) := by decide +kernel
theorem d_Model_valid_1029 : decode prog_14_method_34_code 1029 = .ok (.lload 7, 2) := by decide +kernel
theorem d_Model_valid_1031 : decode prog_14_method_34_code 1031 = .ok (.l2i, 1) := by decide +kernel
theorem d_Model_valid_1032 : decode prog_14_method_34_code 1032 = .ok (.baload, 1) := by decide +kernel
theorem d_Model_valid_1033 : decode prog_14_method_34_code 1033 = .ok (.invokevirtual 351, 3) := by decide +kernel
theorem d_Model_valid_1036 : decode prog_14_method_34_code 1036 = .ok (.aload_n 0, 1) := by decide +kernel
theorem d_Model_valid_1037 : decode prog_14_method_34_code 1037 = .ok (.aload_n 0, 1) := by decide +kernel
theorem d_Model_valid_1038 : decode prog_14_method_34_code 1038 = .ok (.getfield 16, 3) := by decide +kernel
theorem d_Model_valid_1041 : decode prog_14_method_34_code 1041 = .ok (.getfield 240, 3) := by decide +kernel
theorem d_Model_valid_1044 : decode prog_14_method_34_code 1044 = .ok (.lload 7, 2) := by decide +kernel
theorem d_Model_valid_1046 : decode prog_14_method_34_code 1046 = .ok (.l2i, 1) := by decide +kernel
theorem d_Model_valid_1047 : decode prog_14_method_34_code 1047 = .ok (.iaload, 1) := by decide +kernel
theorem d_Model_valid_1048 : decode prog_14_method_34_code 1048 = .ok (.invokevirtual 372, 3) := by decide +kernel
theorem d_Model_valid_1051 : decode prog_14_method_34_code 1051 = .ok (.pop, 1) := by decide +kernel
theorem d_Model_valid_1052 : decode prog_14_method_34_code 1052 = .ok (.goto 101, 3) := by decide +kernel
theorem d_Model_valid_1003 : decode prog_14_method_34_code 1003 = .ok (.aload_n 0, 1) := by decide +kernel
theorem d_Model_valid_1004 : decode prog_14_method_34_code 1004 = .ok (.aload_n 0, 1) := by decide +kernel
theorem d_Model_valid_1005 : decode prog_14_method_34_code 1005 = .ok (.getfield 16, 3) := by decide +kernel
theorem d_Model_valid_1008 : decode prog_14_method_34_code 1008 = .ok (.getfield 240, 3) := by decide +kernel
theorem d_Model_valid_1011 : decode prog_14_method_34_code 1011 = .ok (.lload 7, 2) := by decide +kernel
theorem d_Model_valid_1013 : decode prog_14_method_34_code 1013 = .ok (.l2i, 1) := by decide +kernel
theorem d_Model_valid_1014 : decode prog_14_method_34_code 1014 = .ok (.iaload, 1) := by decide +kernel
theorem d_Model_valid_1015 : decode prog_14_method_34_code 1015 = .ok (.invokevirtual 387, 3) := by decide +kernel
theorem d_Model_valid_1018 : decode prog_14_method_34_code 1018 = .ok (.goto 135, 3) := by decide +kernel
theorem d_Model_valid_1055 : decode prog_14_method_34_code 1055 = .ok (.aload_n 0, 1) := by decide +kernel
theorem d_Model_valid_1056 : decode prog_14_method_34_code 1056 = .ok (.invokevirtual 64, 3) := by decide +kernel
theorem d_Model_valid_1059 : decode prog_14_method_34_code 1059 = .ok (.pop, 1) := by decide +kernel
theorem d_Model_valid_1060 : decode prog_14_method_34_code 1060 = .ok (.aload_n 0, 1) := by decide +kernel
theorem d_Model_valid_1061 : decode prog_14_method_34_code 1061 = .ok (.aload_n 0, 1) := by decide +kernel
theorem d_Model_valid_1062 : decode prog_14_method_34_code 1062 = .ok (.getfield 16, 3) := by decide +kernel
theorem d_Model_valid_1065 : decode prog_14_method_34_code 1065 = .ok (.getfield 119, 3) := by decide +kernel
theorem d_Model_valid_1068 : decode prog_14_method_34_code 1068 = .ok (.iconst 1, 1) := by decide +kernel
theorem d_Model_valid_1069 : decode prog_14_method_34_code 1069 = .ok (.if_icmp .ne 7, 3) := by decide +kernel
theorem d_Model_valid_1076 : decode prog_14_method_34_code 1076 = .ok (.iconst 0, 1) := by decide +kernel
theorem d_Model_valid_1077 : decode prog_14_method_34_code 1077 = .ok (.invokevirtual 351, 3) := by decide +kernel
theorem d_Model_valid_1072 : decode prog_14_method_34_code 1072 = .ok (.iconst 1, 1) := by decide +kernel
theorem d_Model_valid_1073 : decode prog_14_method_34_code 1073 = .ok (.goto 4, 3) := by decide +kernel
theorem d_Model_valid_1080 : decode prog_14_method_34_code 1080 = .ok (.iload 6, 2) := by decide +kernel
theorem d_Model_valid_1082 : decode prog_14_method_34_code 1082 = .ok (.bipush 64, 2) := by decide +kernel
theorem d_Model_valid_1084 : decode prog_14_method_34_code 1084 = .ok (.if_icmp .ne 9, 3) := by decide +kernel
theorem d_Model_valid_1093 : decode prog_14_method_34_code 1093 = .ok (.aload_n 0, 1) := by decide +kernel
theorem d_Model_valid_1094 : decode prog_14_method_34_code 1094 = .ok (.iconst 1, 1) := by decide +kernel
theorem d_Model_valid_1095 : decode prog_14_method_34_code 1095 = .ok (.invokevirtual 387, 3) := by decide +kernel
theorem d_Model_valid_1098 : decode prog_14_method_34_code 1098 = .ok (.goto 55, 3) := by decide +kernel
theorem d_Model_valid_1087 : decode prog_14_method_34_code 1087 = .ok (.aload_n 0, 1) := by decide +kernel
theorem d_Model_valid_1088 : decode prog_14_method_34_code 1088 = .ok (.iconst 1, 1) := by decide +kernel
theorem d_Model_valid_1089 : decode prog_14_method_34_code 1089 = .ok (.invokevirtual 372, 3) := by decide +kernel
theorem d_Model_valid_1092 : decode prog_14_method_34_code 1092 = .ok (.pop, 1) := by decide +kernel
theorem d_Model_valid_1101 : decode prog_14_method_34_code 1101 = .ok (.aload_n 0, 1) := by decide +kernel
theorem d_Model_valid_1102 : decode prog_14_method_34_code 1102 = .ok (.bipush 32, 2) := by decide +kernel
theorem d_Model_valid_1104 : decode prog_14_method_34_code 1104 = .ok (.invokevirtual 288, 3) := by decide +kernel
theorem d_Model_valid_1107 : decode prog_14_method_34_code 1107 = .ok (.pop2, 1) := by decide +kernel
theorem d_Model_valid_1108 : decode prog_14_method_34_code 1108 = .ok (.aload_n 0, 1) := by decide +kernel
theorem d_Model_valid_1109 : decode prog_14_method_34_code 1109 = .ok (.iconst 1, 1) := by decide +kernel
theorem d_Model_valid_1110 : decode prog_14_method_34_code 1110 = .ok (.invokevirtual 387, 3) := by decide +kernel
theorem d_Model_valid_1113 : decode prog_14_method_34_code 1113 = .ok (.goto 40, 3) := by decide +kernel
theorem d_Model_valid_1116 : decode prog_14_method_34_code 1116 = .ok (.aload_n 0, 1) := by decide +kernel
theorem d_Model_valid_1117 : decode prog_14_method_34_code 1117 = .ok (.bipush 64, 2) := by decide +kernel
theorem d_Model_valid_1119 : decode prog_14_method_34_code 1119 = .ok (.invokevirtual 288, 3) := by decide +kernel
theorem d_Model_valid_1122 : decode prog_14_method_34_code 1122 = .ok (.pop2, 1) := by decide +kernel
theorem d_Model_valid_1123 : decode prog_14_method_34_code 1123 = .ok (.aload_n 0, 1) := by decide +kernel
theorem d_Model_valid_1124 : decode prog_14_method_34_code 1124 = .ok (.iconst 2, 1) := by decide +kernel
theorem d_Model_valid_1125 : decode prog_14_method_34_code 1125 = .ok (.invokevirtual 387, 3) := by decide +kernel
theorem d_Model_valid_1128 : decode prog_14_method_34_code 1128 = .ok (.goto 25, 3) := by decide +kernel
