theorem d_Model_code_506 : decode prog_14_method_22_code 506 = .ok (.ifCond .le 8, 3) := by decide +kernel
theorem d_Model_code_514 : decode prog_14_method_22_code 514 = .ok (.lconst 0, 1) := by decide +kernel
theorem d_Model_code_515 : decode prog_14_method_22_code 515 = .ok (.lstore 6, 2) := by decide +kernel
theorem d_Model_code_517 : decode prog_14_method_22_code 517 = .ok (.lload 6, 2) := by decide +kernel
theorem d_Model_code_519 : decode prog_14_method_22_code 519 = .ok (.lload 4, 2) := by decide +kernel
theorem d_Model_code_521 : decode prog_14_method_22_code 521 = .ok (.lcmp, 1) := by decide +kernel
theorem d_Model_code_522 : decode prog_14_method_22_code 522 = .ok (.ifCond .gt 17, 3) := by decide +kernel
theorem d_Model_code_539 : decode prog_14_method_22_code 539 = .ok (.goto 178, 3) := by decide +kernel
theorem d_Model_code_525 : decode prog_14_method_22_code 525 = .ok (.aload_n 0, 1) := by decide +kernel
theorem d_Model_code_526 : decode prog_14_method_22_code 526 = .ok (.invokevirtual 68, 3) := by decide +kernel
theorem d_Model_code_529 : decode prog_14_method_22_code 529 = .ok (.pop2, 1) := by decide +kernel
theorem d_Model_code_530 : decode prog_14_method_22_code 530 = .ok (.lload 6, 2) := by decide +kernel
theorem d_Model_code_532 : decode prog_14_method_22_code 532 = .ok (.lconst 1, 1) := by decide +kernel
theorem d_Model_code_533 : decode prog_14_method_22_code 533 = .ok (.ladd, 1) := by decide +kernel
theorem d_Model_code_534 : decode prog_14_method_22_code 534 = .ok (.lstore 6, 2) := by decide +kernel
theorem d_Model_code_536 : decode prog_14_method_22_code 536 = .ok (.goto (-19), 3) := by decide +kernel
theorem d_Model_code_509 : decode prog_14_method_22_code 509 = .ok (.aload_n 0, 1) := by decide +kernel
theorem d_Model_code_510 : decode prog_14_method_22_code 510 = .ok (.iconst 1, 1) := by decide +kernel
theorem d_Model_code_511 : decode prog_14_method_22_code 511 = .ok (.putfield 77, 3) := by decide +kernel
theorem d_Model_code_550 : decode prog_14_method_22_code 550 = .ok (.aload_n 0, 1) := by decide +kernel
theorem d_Model_code_551 : decode prog_14_method_22_code 551 = .ok (.invokevirtual 68, 3) := by decide +kernel
theorem d_Model_code_554 : decode prog_14_method_22_code 554 = .ok (.pop2, 1) := by decide +kernel
theorem d_Model_code_555 : decode prog_14_method_22_code 555 = .ok (.aload_n 0, 1) := by decide +kernel
theorem d_Model_code_556 : decode prog_14_method_22_code 556 = .ok (.invokevirtual 64, 3) := by decide +kernel
theorem d_Model_code_559 : decode prog_14_method_22_code 559 = .ok (.ifCond .eq 158, 3) := by decide +kernel
theorem d_Model_code_562 : decode prog_14_method_22_code 562 = .ok (.new 56, 3) := by decide +kernel
theorem d_Model_code_565 : decode prog_14_method_22_code 565 = .ok (.dup, 1) := by decide +kernel
theorem d_Model_code_566 : decode prog_14_method_22_code 566 = .ok (.iconst 1, 1) := by decide +kernel
theorem d_Model_code_567 : decode prog_14_method_22_code 567 = .ok (.invokespecial 58, 3) := by decide +kernel
theorem d_Model_code_570 : decode prog_14_method_22_code 570 = .ok (.athrow, 1) := by decide +kernel
theorem d_Model_code_571 : decode prog_14_method_22_code 571 = .ok (.aload_n 0, 1) := by decide +kernel
theorem d_Model_code_572 : decode prog_14_method_22_code 572 = .ok (.invokevirtual 64, 3) := by decide +kernel
theorem d_Model_code_575 : decode prog_14_method_22_code 575 = .ok (.ifCond .eq 142, 3) := by decide +kernel
theorem d_Model_code_578 : decode prog_14_method_22_code 578 = .ok (.new 56, 3) := by decide +kernel
theorem d_Model_code_581 : decode prog_14_method_22_code 581 = .ok (.dup, 1) := by decide +kernel
theorem d_Model_code_582 : decode prog_14_method_22_code 582 = .ok (.iconst 1, 1) := by decide +kernel
theorem d_Model_code_583 : decode prog_14_method_22_code 583 = .ok (.invokespecial 58, 3) := by decide +kernel
theorem d_Model_code_586 : decode prog_14_method_22_code 586 = .ok (.athrow, 1) := by decide +kernel
theorem d_Model_code_587 : decode prog_14_method_22_code 587 = .ok (.aload_n 0, 1) := by decide +kernel
theorem d_Model_code_588 : decode prog_14_method_22_code 588 = .ok (.bipush 32, 2) := by decide +kernel
theorem d_Model_code_590 : decode prog_14_method_22_code 590 = .ok (.invokevirtual 288, 3) := by decide +kernel
theorem d_Model_code_593 : decode prog_14_method_22_code 593 = .ok (.pop2, 1) := by decide +kernel
theorem d_Model_code_594 : decode prog_14_method_22_code 594 = .ok (.goto 123, 3) := by decide +kernel
theorem d_Model_code_597 : decode prog_14_method_22_code 597 = .ok (.aload_n 0, 1) := by decide +kernel
theorem d_Model_code_598 : decode prog_14_method_22_code 598 = .ok (.bipush 64, 2) := by decide +kernel
theorem d_Model_code_600 : decode prog_14_method_22_code 600 = .ok (.invokevirtual 288, 3) := by decide +kernel
theorem d_Model_code_603 : decode prog_14_method_22_code 603 = .ok (.pop2, 1) := by decide +kernel
theorem d_Model_code_604 : decode prog_14_method_22_code 604 = .ok (.goto 113, 3) := by decide +kernel
theorem d_Model_body_0 : decode prog_14_method_21_code 0 = .ok (.aload_n 0, 1) := by decide +kernel
theorem d_Model_body_1 : decode prog_14_method_21_code 1 = .ok (.invokevirtual 68, 3) := by decide +kernel
theorem d_Model_body_4 : decode prog_14_method_21_code 4 = .ok (.lstore_n 1, 1) := by decide +kernel
theorem d_Model_body_5 : decode prog_14_method_21_code 5 = .ok (.lload_n 1, 1) := by decide +kernel
theorem d_Model_body_6 : decode prog_14_method_21_code 6 = .ok (.aload_n 0, 1) := by decide +kernel
theorem d_Model_body_7 : decode prog_14_method_21_code 7 = .ok (.getfield 53, 3) := by decide +kernel
theorem d_Model_body_10 : decode prog_14_method_21_code 10 = .ok (.aload_n 0, 1) := by decide +kernel
theorem d_Model_body_11 : decode prog_14_method_21_code 11 = .ok (.getfield 50, 3) := by decide +kernel
theorem d_Model_body_14 : decode prog_14_method_21_code 14 = .ok (.isub, 1) := by decide +kernel
theorem d_Model_body_15 : decode prog_14_method_21_code 15 = .ok (.i2l, 1) := by decide +kernel
theorem d_Model_body_16 : decode prog_14_method_21_code 16 = .ok (.lcmp, 1) := by decide +kernel
theorem d_Model_body_17 : decode prog_14_method_21_code 17 = .ok (.ifCond .le 12, 3) := by decide +kernel
theorem d_Model_body_29 : decode prog_14_method_21_code 29 = .ok (.aload_n 0, 1) := by decide +kernel
theorem d_Model_body_30 : decode prog_14_method_21_code 30 = .ok (.getfield 16, 3) := by decide +kernel
theorem d_Model_body_33 : decode prog_14_method_21_code 33 = .ok (.getfield 134, 3) := by decide +kernel
theorem d_Model_body_36 : decode prog_14_method_21_code 36 = .ok (.istore_n 3, 1) := by decide +kernel
theorem d_Model_body_37 : decode prog_14_method_21_code 37 = .ok (.aload_n 0, 1) := by decide +kernel
theorem d_Model_body_38 : decode prog_14_method_21_code 38 = .ok (.getfield 53, 3) := by decide +kernel
theorem d_Model_body_41 : decode prog_14_method_21_code 41 = .ok (.istore 4, 2) := by decide +kernel
theorem d_Model_body_43 : decode prog_14_method_21_code 43 = .ok (.aload_n 0, 1) := by decide +kernel
theorem d_Model_body_44 : decode prog_14_method_21_code 44 = .ok (.getfield 50, 3) := by decide +kernel
theorem d_Model_body_47 : decode prog_14_method_21_code 47 = .ok (.lload_n 1, 1) := by decide +kernel
theorem d_Model_body_48 : decode prog_14_method_21_code 48 = .ok (.l2i, 1) := by decide +kernel
theorem d_Model_body_49 : decode prog_14_method_21_code 49 = .ok (.iadd, 1) := by decide +kernel
theorem d_Model_body_50 : decode prog_14_method_21_code 50 = .ok (.istore 5, 2) := by decide +kernel
theorem d_Model_body_52 : decode prog_14_method_21_code 52 = .ok (.aload_n 0, 1) := by decide +kernel
theorem d_Model_body_53 : decode prog_14_method_21_code 53 = .ok (.iload 5, 2) := by decide +kernel
theorem d_Model_body_55 : decode prog_14_method_21_code 55 = .ok (.putfield 53, 3) := by decide +kernel
theorem d_Model_body_58 : decode prog_14_method_21_code 58 = .ok (.aload_n 0, 1) := by decide +kernel
theorem d_Model_body_59 : decode prog_14_method_21_code 59 = .ok (.invokevirtual 68, 3) := by decide +kernel
theorem d_Model_body_62 : decode prog_14_method_21_code 62 = .ok (.lstore 6, 2) := by decide +kernel
theorem d_Model_body_64 : decode prog_14_method_21_code 64 = .ok (.lconst 0, 1) := by decide +kernel
theorem d_Model_body_65 : decode prog_14_method_21_code 65 = .ok (.lstore 8, 2) := by decide +kernel
theorem d_Model_body_67 : decode prog_14_method_21_code 67 = .ok (.iconst 0, 1) := by decide +kernel
theorem d_Model_body_68 : decode prog_14_method_21_code 68 = .ok (.istore 10, 2) := by decide +kernel
theorem d_Model_body_70 : decode prog_14_method_21_code 70 = .ok (.lconst 0, 1) := by decide +kernel
theorem d_Model_body_71 : decode prog_14_method_21_code 71 = .ok (.lstore 11, 2) := by decide +kernel
theorem d_Model_body_73 : decode prog_14_method_21_code 73 = .ok (.lload 11, 2) := by decide +kernel
theorem d_Model_body_75 : decode prog_14_method_21_code 75 = .ok (.lload 6, 2) := by decide +kernel
theorem d_Model_body_77 : decode prog_14_method_21_code 77 = .ok (.lcmp, 1) := by decide +kernel
theorem d_Model_body_78 : decode prog_14_method_21_code 78 = .ok (.ifCond .ge 102, 3) := by decide +kernel
theorem d_Model_body_180 : decode prog_14_method_21_code 180 = .ok (.lload 8, 2) := by decide +kernel
theorem d_Model_body_182 : decode prog_14_method_21_code 182 = .ok (.ldc2_w 327, 3) := by decide +kernel
theorem d_Model_body_185 : decode prog_14_method_21_code 185 = .ok (.lcmp, 1) := by decide +kernel
theorem d_Model_body_186 : decode prog_14_method_21_code 186 = .ok (.ifCond .le 8, 3) := by decide +kernel
theorem d_Model_body_194 : decode prog_14_method_21_code 194 = .ok (.iload_n 3, 1) := by decide +kernel
theorem d_Model_body_195 : decode prog_14_method_21_code 195 = .ok (.bipush 60, 2) := by decide +kernel
theorem d_Model_body_197 : decode prog_14_method_21_code 197 = .ok (.if_icmp .ge 27, 3) := by decide +kernel
theorem d_Model_body_224 : decode prog_14_method_21_code 224 = .ok (.aload_n 0, 1) := by decide +kernel
theorem d_Model_body_225 : decode prog_14_method_21_code 225 = .ok (.invokevirtual 335, 3) := by decide +kernel
theorem nm_Model_code : x_nm y_Model_code 0 = true := by decide +kernel
theorem d_Model_body_228 : decode prog_14_method_21_code 228 = .ok (.aload_n 0, 1) := by decide +kernel
theorem d_Model_body_229 : decode prog_14_method_21_code 229 = .ok (.getfield 50, 3) := by decide +kernel
theorem d_Model_body_232 : decode prog_14_method_21_code 232 = .ok (.iload 5, 2) := by decide +kernel
theorem d_Model_body_234 : decode prog_14_method_21_code 234 = .ok (.if_icmp .eq 12, 3) := by decide +kernel
theorem d_Model_body_246 : decode prog_14_method_21_code 246 = .ok (.iload_n 3, 1) := by decide +kernel
theorem d_Model_body_247 : decode prog_14_method_21_code 247 = .ok (.bipush 60, 2) := by decide +kernel
theorem d_Model_body_249 : decode prog_14_method_21_code 249 = .ok (.if_icmp .ge 16, 3) := by decide +kernel
theorem d_Model_body_265 : decode prog_14_method_21_code 265 = .ok (.aload_n 0, 1) := by decide +kernel
theorem d_Model_body_266 : decode prog_14_method_21_code 266 = .ok (.getfield 16, 3) := by decide +kernel
theorem d_Model_body_269 : decode prog_14_method_21_code 269 = .ok (.dup, 1) := by decide +kernel
theorem d_Model_body_270 : decode prog_14_method_21_code 270 = .ok (.getfield 134, 3) := by decide +kernel
theorem d_Model_body_273 : decode prog_14_method_21_code 273 = .ok (.iconst 1, 1) := by decide +kernel
theorem d_Model_body_274 : decode prog_14_method_21_code 274 = .ok (.iadd, 1) := by decide +kernel
theorem d_Model_body_275 : decode prog_14_method_21_code 275 = .ok (.putfield 134, 3) := by decide +kernel
theorem d_Model_body_278 : decode prog_14_method_21_code 278 = .ok (.aload_n 0, 1) := by decide +kernel
theorem d_Model_body_279 : decode prog_14_method_21_code 279 = .ok (.iload 4, 2) := by decide +kernel
theorem d_Model_body_281 : decode prog_14_method_21_code 281 = .ok (.putfield 53, 3) := by decide +kernel
theorem d_Model_body_284 : decode prog_14_method_21_code 284 = .ok (.return_, 1) := by decide +kernel
theorem d_Model_body_237 : decode prog_14_method_21_code 237 = .ok (.new 56, 3) := by decide +kernel
theorem d_Model_body_240 : decode prog_14_method_21_code 240 = .ok (.dup, 1) := by decide +kernel
theorem d_Model_body_241 : decode prog_14_method_21_code 241 = .ok (.iconst 1, 1) := by decide +kernel
theorem d_Model_body_242 : decode prog_14_method_21_code 242 = .ok (.invokespecial 58, 3) := by decide +kernel
theorem d_Model_body_245 : decode prog_14_method_21_code 245 = .ok (.athrow, 1) := by decide +kernel
theorem d_Model_body_200 : decode prog_14_method_21_code 200 = .ok (.aload_n 0, 1) := by decide +kernel
theorem d_Model_body_201 : decode prog_14_method_21_code 201 = .ok (.getfield 16, 3) := by decide +kernel
theorem d_Model_body_204 : decode prog_14_method_21_code 204 = .ok (.getfield 329, 3) := by decide +kernel
theorem d_Model_body_207 : decode prog_14_method_21_code 207 = .ok (.iload_n 3, 1) := by decide +kernel
theorem d_Model_body_208 : decode prog_14_method_21_code 208 = .ok (.aload_n 0, 1) := by decide +kernel
theorem d_Model_body_209 : decode prog_14_method_21_code 209 = .ok (.getfield 50, 3) := by decide +kernel
theorem d_Model_body_212 : decode prog_14_method_21_code 212 = .ok (.iastore, 1) := by decide +kernel
theorem d_Model_body_213 : decode prog_14_method_21_code 213 = .ok (.aload_n 0, 1) := by decide +kernel
theorem d_Model_body_214 : decode prog_14_method_21_code 214 = .ok (.getfield 16, 3) := by decide +kernel
theorem d_Model_body_217 : decode prog_14_method_21_code 217 = .ok (.getfield 332, 3) := by decide +kernel
theorem d_Model_body_220 : decode prog_14_method_21_code 220 = .ok (.iload_n 3, 1) := by decide +kernel
theorem d_Model_body_221 : decode prog_14_method_21_code 221 = .ok (.iload 10, 2) := by decide +kernel
theorem d_Model_body_223 : decode prog_14_method_21_code 223 = .ok (.iastore, 1) := by decide +kernel
theorem d_Model_body_252 : decode prog_14_method_21_code 252 = .ok (.aload_n 0, 1) := by decide +kernel
theorem d_Model_body_253 : decode prog_14_method_21_code 253 = .ok (.getfield 16, 3) := by decide +kernel
theorem d_Model_body_256 : decode prog_14_method_21_code 256 = .ok (.getfield 338, 3) := by decide +kernel
theorem d_Model_body_259 : decode prog_14_method_21_code 259 = .ok (.iload_n 3, 1) := by decide +kernel
theorem d_Model_body_260 : decode prog_14_method_21_code 260 = .ok (.aload_n 0, 1) := by decide +kernel
theorem d_Model_body_261 : decode prog_14_method_21_code 261 = .ok (.getfield 50, 3) := by decide +kernel
theorem d_Model_body_264 : decode prog_14_method_21_code 264 = .ok (.iastore, 1) := by decide +kernel
theorem d_Model_body_189 : decode prog_14_method_21_code 189 = .ok (.aload_n 0, 1) := by decide +kernel
theorem d_Model_body_190 : decode prog_14_method_21_code 190 = .ok (.iconst 1, 1) := by decide +kernel
theorem d_Model_body_191 : decode prog_14_method_21_code 191 = .ok (.putfield 77, 3) := by decide +kernel
theorem d_Model_body_81 : decode prog_14_method_21_code 81 = .ok (.aload_n 0, 1) := by decide +kernel
theorem d_Model_body_82 : decode prog_14_method_21_code 82 = .ok (.invokevirtual 68, 3) := by decide +kernel
theorem d_Model_body_85 : decode prog_14_method_21_code 85 = .ok (.lstore 13, 2) := by decide +kernel
theorem d_Model_body_87 : decode prog_14_method_21_code 87 = .ok (.aload_n 0, 1) := by decide +kernel
theorem d_Model_body_88 : decode prog_14_method_21_code 88 = .ok (.invokevirtual 179, 3) := by decide +kernel
theorem d_Model_body_91 : decode prog_14_method_21_code 91 = .ok (.istore 15, 2) := by decide +kernel
theorem d_Model_body_93 : decode prog_14_method_21_code 93 = .ok (.lload 8, 2) := by decide +kernel
theorem d_Model_body_95 : decode prog_14_method_21_code 95 = .ok (.lload 13, 2) := by decide +kernel
theorem d_Model_body_97 : decode prog_14_method_21_code 97 = .ok (.ladd, 1) := by decide +kernel
theorem d_Model_body_98 : decode prog_14_method_21_code 98 = .ok (.lstore 8, 2) := by decide +kernel
theorem d_Model_body_100 : decode prog_14_method_21_code 100 = .ok (.lload 8, 2) := by decide +kernel
theorem d_Model_body_102 : decode prog_14_method_21_code 102 = .ok (.ldc2_w 322, 3) := by decide +kernel
theorem d_Model_body_105 : decode prog_14_method_21_code 105 = .ok (.lcmp, 1) := by decide +kernel
theorem d_Model_body_106 : decode prog_14_method_21_code 106 = .ok (.ifCond .le 12, 3) := by decide +kernel
theorem d_Model_body_118 : decode prog_14_method_21_code 118 = .ok (.lconst 0, 1) := by decide +kernel
theorem d_Model_body_119 : decode prog_14_method_21_code 119 = .ok (.lstore 16, 2) := by decide +kernel
theorem d_Model_body_121 : decode prog_14_method_21_code 121 = .ok (.lload 16, 2) := by decide +kernel
theorem d_Model_body_123 : decode prog_14_method_21_code 123 = .ok (.lload 13, 2) := by decide +kernel
theorem d_Model_body_125 : decode prog_14_method_21_code 125 = .ok (.lcmp, 1) := by decide +kernel
theorem d_Model_body_126 : decode prog_14_method_21_code 126 = .ok (.ifCond .ge 45, 3) := by decide +kernel
theorem d_Model_body_171 : decode prog_14_method_21_code 171 = .ok (.lload 11, 2) := by decide +kernel
theorem d_Model_body_173 : decode prog_14_method_21_code 173 = .ok (.lconst 1, 1) := by decide +kernel
theorem d_Model_body_174 : decode prog_14_method_21_code 174 = .ok (.ladd, 1) := by decide +kernel
theorem d_Model_body_175 : decode prog_14_method_21_code 175 = .ok (.lstore 11, 2) := by decide +kernel
theorem d_Model_body_177 : decode prog_14_method_21_code 177 = .ok (.goto (-104), 3) := by decide +kernel
theorem d_Model_body_129 : decode prog_14_method_21_code 129 = .ok (.iload 10, 2) := by decide +kernel
theorem d_Model_body_131 : decode prog_14_method_21_code 131 = .ok (.bipush 30, 2) := by decide +kernel
theorem d_Model_body_133 : decode prog_14_method_21_code 133 = .ok (.if_icmp .ge 38, 3) := by decide +kernel
theorem d_Model_body_136 : decode prog_14_method_21_code 136 = .ok (.iload_n 3, 1) := by decide +kernel
theorem d_Model_body_137 : decode prog_14_method_21_code 137 = .ok (.bipush 60, 2) := by decide +kernel
theorem d_Model_body_139 : decode prog_14_method_21_code 139 = .ok (.if_icmp .ge 32, 3) := by decide +kernel
theorem d_Model_body_142 : decode prog_14_method_21_code 142 = .ok (.aload_n 0, 1) := by decide +kernel
theorem d_Model_body_143 : decode prog_14_method_21_code 143 = .ok (.getfield 16, 3) := by decide +kernel
theorem d_Model_body_146 : decode prog_14_method_21_code 146 = .ok (.getfield 324, 3) := by decide +kernel
theorem d_Model_body_149 : decode prog_14_method_21_code 149 = .ok (.bipush 30, 2) := by decide +kernel
theorem d_Model_body_151 : decode prog_14_method_21_code 151 = .ok (.iload_n 3, 1) := by decide +kernel
theorem d_Model_body_152 : decode prog_14_method_21_code 152 = .ok (.imul, 1) := by decide +kernel
theorem d_Model_body_153 : decode prog_14_method_21_code 153 = .ok (.iload 10, 2) := by decide +kernel
theorem d_Model_body_155 : decode prog_14_method_21_code 155 = .ok (.iadd, 1) := by decide +kernel
theorem d_Model_body_156 : decode prog_14_method_21_code 156 = .ok (.iload 15, 2) := by decide +kernel
theorem d_Model_body_158 : decode prog_14_method_21_code 158 = .ok (.iastore, 1) := by decide +kernel
theorem d_Model_body_159 : decode prog_14_method_21_code 159 = .ok (.iinc 10 1, 3) := by decide +kernel
theorem d_Model_body_162 : decode prog_14_method_21_code 162 = .ok (.lload 16, 2) := by decide +kernel
theorem d_Model_body_164 : decode prog_14_method_21_code 164 = .ok (.lconst 1, 1) := by decide +kernel
theorem d_Model_body_165 : decode prog_14_method_21_code 165 = .ok (.ladd, 1) := by decide +kernel
theorem d_Model_body_166 : decode prog_14_method_21_code 166 = .ok (.lstore 16, 2) := by decide +kernel
theorem d_Model_body_168 : decode prog_14_method_21_code 168 = .ok (.goto (-47), 3) := by decide +kernel
theorem d_Model_body_109 : decode prog_14_method_21_code 109 = .ok (.new 56, 3) := by decide +kernel
theorem d_Model_body_112 : decode prog_14_method_21_code 112 = .ok (.dup, 1) := by decide +kernel
theorem d_Model_body_113 : decode prog_14_method_21_code 113 = .ok (.iconst 1, 1) := by decide +kernel
theorem d_Model_body_114 : decode prog_14_method_21_code 114 = .ok (.invokespecial 58, 3) := by decide +kernel
theorem d_Model_body_117 : decode prog_14_method_21_code 117 = .ok (.athrow, 1) := by decide +kernel
theorem d_Model_body_20 : decode prog_14_method_21_code 20 = .ok (.new 56, 3) := by decide +kernel
theorem d_Model_body_23 : decode prog_14_method_21_code 23 = .ok (.dup, 1) := by decide +kernel
theorem d_Model_body_24 : decode prog_14_method_21_code 24 = .ok (.iconst 1, 1) := by decide +kernel
theorem d_Model_body_25 : decode prog_14_method_21_code 25 = .ok (.invokespecial 58, 3) := by decide +kernel
theorem d_Model_body_28 : decode prog_14_method_21_code 28 = .ok (.athrow, 1) := by decide +kernel
theorem d_Model_item_0 : decode prog_14_method_12_code 0 = .ok (.iload_n 1, 1) := by decide +kernel
theorem d_Model_item_1 : decode prog_14_method_12_code 1 = .ok (.tableswitch 389 1 10 #[55, 60, 65, 91, 91, 148, 220, 389, 379, 384], 55) := by decide +kernel
theorem d_Model_item_56 : decode prog_14_method_12_code 56 = .ok (.aload_n 0, 1) := by decide +kernel
theorem d_Model_item_57 : decode prog_14_method_12_code 57 = .ok (.invokevirtual 157, 3) := by decide +kernel
theorem nm_Model_typeItem : x_nm y_Model_typeItem 0 = true := by decide +kernel
theorem d_Model_item_60 : decode prog_14_method_12_code 60 = .ok (.return_, 1) := by decide +kernel
theorem d_Model_item_61 : decode prog_14_method_12_code 61 = .ok (.aload_n 0, 1) := by decide +kernel
theorem d_Model_item_62 : decode prog_14_method_12_code 62 = .ok (.invokevirtual 160, 3) := by decide +kernel
theorem nm_Model_importItem : x_nm y_Model_importItem 0 = true := by decide +kernel
theorem d_Model_item_65 : decode prog_14_method_12_code 65 = .ok (.return_, 1) := by decide +kernel
theorem d_Model_item_66 : decode prog_14_method_12_code 66 = .ok (.aload_n 0, 1) := by decide +kernel
theorem d_Model_item_67 : decode prog_14_method_12_code 67 = .ok (.aload_n 0, 1) := by decide +kernel
theorem d_Model_item_68 : decode prog_14_method_12_code 68 = .ok (.invokevirtual 68, 3) := by decide +kernel
theorem d_Model_item_71 : decode prog_14_method_12_code 71 = .ok (.invokestatic 150, 3) := by decide +kernel
theorem d_Model_item_74 : decode prog_14_method_12_code 74 = .ok (.iconst (-1), 1) := by decide +kernel
theorem d_Model_item_75 : decode prog_14_method_12_code 75 = .ok (.invokevirtual 163, 3) := by decide +kernel
theorem d_Model_item_78 : decode prog_14_method_12_code 78 = .ok (.aload_n 0, 1) := by decide +kernel
theorem d_Model_item_79 : decode prog_14_method_12_code 79 = .ok (.getfield 16, 3) := by decide +kernel
theorem d_Model_item_82 : decode prog_14_method_12_code 82 = .ok (.dup, 1) := by decide +kernel
theorem d_Model_item_83 : decode prog_14_method_12_code 83 = .ok (.getfield 113, 3) := by decide +kernel
theorem d_Model_item_86 : decode prog_14_method_12_code 86 = .ok (.iconst 1, 1) := by decide +kernel
theorem d_Model_item_87 : decode prog_14_method_12_code 87 = .ok (.iadd, 1) := by decide +kernel
theorem d_Model_item_88 : decode prog_14_method_12_code 88 = .ok (.putfield 113, 3) := by decide +kernel
theorem d_Model_item_91 : decode prog_14_method_12_code 91 = .ok (.return_, 1) := by decide +kernel
theorem d_Model_item_92 : decode prog_14_method_12_code 92 = .ok (.iload_n 1, 1) := by decide +kernel
theorem d_Model_item_93 : decode prog_14_method_12_code 93 = .ok (.iconst 4, 1) := by decide +kernel
theorem d_Model_item_94 : decode prog_14_method_12_code 94 = .ok (.if_icmp .ne 21, 3) := by decide +kernel
theorem d_Model_item_115 : decode prog_14_method_12_code 115 = .ok (.aload_n 0, 1) := by decide +kernel
theorem d_Model_item_116 : decode prog_14_method_12_code 116 = .ok (.iload_n 1, 1) := by decide +kernel
theorem d_Model_item_117 : decode prog_14_method_12_code 117 = .ok (.iconst 4, 1) := by decide +kernel
theorem d_Model_item_118 : decode prog_14_method_12_code 118 = .ok (.if_icmp .ne 9, 3) := by decide +kernel
theorem d_Model_item_127 : decode prog_14_method_12_code 127 = .ok (.ldc2_w 169, 3) := by decide +kernel
theorem d_Model_item_130 : decode prog_14_method_12_code 130 = .ok (.invokevirtual 171, 3) := by decide +kernel
theorem d_Model_item_133 : decode prog_14_method_12_code 133 = .ok (.aload_n 0, 1) := by decide +kernel
theorem d_Model_item_134 : decode prog_14_method_12_code 134 = .ok (.iload_n 1, 1) := by decide +kernel
theorem d_Model_item_135 : decode prog_14_method_12_code 135 = .ok (.iconst 4, 1) := by decide +kernel
theorem d_Model_item_136 : decode prog_14_method_12_code 136 = .ok (.if_icmp .ne 7, 3) := by decide +kernel
theorem d_Model_item_143 : decode prog_14_method_12_code 143 = .ok (.iconst 0, 1) := by decide +kernel
theorem d_Model_item_144 : decode prog_14_method_12_code 144 = .ok (.iconst (-1), 1) := by decide +kernel
theorem d_Model_item_145 : decode prog_14_method_12_code 145 = .ok (.invokevirtual 175, 3) := by decide +kernel
theorem d_Model_item_148 : decode prog_14_method_12_code 148 = .ok (.return_, 1) := by decide +kernel
theorem d_Model_item_97 : decode prog_14_method_12_code 97 = .ok (.aload_n 0, 1) := by decide +kernel
theorem d_Model_item_98 : decode prog_14_method_12_code 98 = .ok (.invokevirtual 64, 3) := by decide +kernel
theorem d_Model_item_101 : decode prog_14_method_12_code 101 = .ok (.bipush 112, 2) := by decide +kernel
theorem d_Model_item_103 : decode prog_14_method_12_code 103 = .ok (.if_icmp .eq 12, 3) := by decide +kernel
theorem d_Model_item_121 : decode prog_14_method_12_code 121 = .ok (.ldc2_w 167, 3) := by decide +kernel
theorem d_Model_item_124 : decode prog_14_method_12_code 124 = .ok (.goto 6, 3) := by decide +kernel
theorem d_Model_item_139 : decode prog_14_method_12_code 139 = .ok (.iconst 1, 1) := by decide +kernel
theorem d_Model_item_140 : decode prog_14_method_12_code 140 = .ok (.goto 4, 3) := by decide +kernel
theorem d_Model_item_106 : decode prog_14_method_12_code 106 = .ok (.new 56, 3) := by decide +kernel
theorem d_Model_item_109 : decode prog_14_method_12_code 109 = .ok (.dup, 1) := by decide +kernel
theorem d_Model_item_110 : decode prog_14_method_12_code 110 = .ok (.iconst 1, 1) := by decide +kernel
theorem d_Model_item_111 : decode prog_14_method_12_code 111 = .ok (.invokespecial 58, 3) := by decide +kernel
theorem d_Model_item_114 : decode prog_14_method_12_code 114 = .ok (.athrow, 1) := by decide +kernel
theorem d_Model_item_149 : decode prog_14_method_12_code 149 = .ok (.aload_n 0, 1) := by decide +kernel
theorem d_Model_item_150 : decode prog_14_method_12_code 150 = .ok (.invokevirtual 179, 3) := by decide +kernel
theorem d_Model_item_153 : decode prog_14_method_12_code 153 = .ok (.istore_n 2, 1) := by decide +kernel
theorem d_Model_item_154 : decode prog_14_method_12_code 154 = .ok (.aload_n 0, 1) := by decide +kernel
theorem d_Model_item_155 : decode prog_14_method_12_code 155 = .ok (.invokevirtual 86, 3) := by decide +kernel
theorem d_Model_item_158 : decode prog_14_method_12_code 158 = .ok (.istore_n 3, 1) := by decide +kernel
theorem d_Model_item_159 : decode prog_14_method_12_code 159 = .ok (.aload_n 0, 1) := by decide +kernel
theorem d_Model_item_160 : decode prog_14_method_12_code 160 = .ok (.invokevirtual 182, 3) := by decide +kernel
theorem d_Model_item_163 : decode prog_14_method_12_code 163 = .ok (.aload_n 0, 1) := by decide +kernel
theorem d_Model_item_164 : decode prog_14_method_12_code 164 = .ok (.getfield 16, 3) := by decide +kernel
theorem d_Model_item_167 : decode prog_14_method_12_code 167 = .ok (.getfield 122, 3) := by decide +kernel
theorem d_Model_item_170 : decode prog_14_method_12_code 170 = .ok (.bipush 30, 2) := by decide +kernel
theorem d_Model_item_172 : decode prog_14_method_12_code 172 = .ok (.if_icmp .ge 41, 3) := by decide +kernel
theorem d_Model_item_213 : decode prog_14_method_12_code 213 = .ok (.aload_n 0, 1) := by decide +kernel
theorem d_Model_item_214 : decode prog_14_method_12_code 214 = .ok (.iload_n 2, 1) := by decide +kernel
theorem d_Model_item_215 : decode prog_14_method_12_code 215 = .ok (.iload_n 3, 1) := by decide +kernel
theorem d_Model_item_216 : decode prog_14_method_12_code 216 = .ok (.iconst (-1), 1) := by decide +kernel
theorem d_Model_item_217 : decode prog_14_method_12_code 217 = .ok (.invokevirtual 198, 3) := by decide +kernel
theorem d_Model_item_220 : decode prog_14_method_12_code 220 = .ok (.return_, 1) := by decide +kernel
theorem d_Model_item_175 : decode prog_14_method_12_code 175 = .ok (.aload_n 0, 1) := by decide +kernel
theorem d_Model_item_176 : decode prog_14_method_12_code 176 = .ok (.getfield 16, 3) := by decide +kernel
theorem d_Model_item_179 : decode prog_14_method_12_code 179 = .ok (.getfield 185, 3) := by decide +kernel
theorem d_Model_item_182 : decode prog_14_method_12_code 182 = .ok (.aload_n 0, 1) := by decide +kernel
theorem d_Model_item_183 : decode prog_14_method_12_code 183 = .ok (.getfield 16, 3) := by decide +kernel
theorem d_Model_item_186 : decode prog_14_method_12_code 186 = .ok (.getfield 122, 3) := by decide +kernel
theorem d_Model_item_189 : decode prog_14_method_12_code 189 = .ok (.aload_n 0, 1) := by decide +kernel
theorem d_Model_item_190 : decode prog_14_method_12_code 190 = .ok (.getfield 188, 3) := by decide +kernel
theorem d_Model_item_193 : decode prog_14_method_12_code 193 = .ok (.iastore, 1) := by decide +kernel
theorem d_Model_item_194 : decode prog_14_method_12_code 194 = .ok (.aload_n 0, 1) := by decide +kernel
theorem d_Model_item_195 : decode prog_14_method_12_code 195 = .ok (.getfield 16, 3) := by decide +kernel
theorem d_Model_item_198 : decode prog_14_method_12_code 198 = .ok (.getfield 191, 3) := by decide +kernel
theorem d_Model_item_201 : decode prog_14_method_12_code 201 = .ok (.aload_n 0, 1) := by decide +kernel
theorem d_Model_item_202 : decode prog_14_method_12_code 202 = .ok (.getfield 16, 3) := by decide +kernel
theorem d_Model_item_205 : decode prog_14_method_12_code 205 = .ok (.getfield 122, 3) := by decide +kernel
theorem d_Model_item_208 : decode prog_14_method_12_code 208 = .ok (.aload_n 0, 1) := by decide +kernel
theorem d_Model_item_209 : decode prog_14_method_12_code 209 = .ok (.getfield 195, 3) := by decide +kernel
theorem d_Model_item_212 : decode prog_14_method_12_code 212 = .ok (.lastore, 1) := by decide +kernel
theorem d_Model_item_221 : decode prog_14_method_12_code 221 = .ok (.aload_n 0, 1) := by decide +kernel
theorem d_Model_item_222 : decode prog_14_method_12_code 222 = .ok (.iconst 1, 1) := by decide +kernel
theorem d_Model_item_223 : decode prog_14_method_12_code 223 = .ok (.invokevirtual 146, 3) := by decide +kernel
theorem d_Model_item_226 : decode prog_14_method_12_code 226 = .ok (.istore_n 2, 1) := by decide +kernel
theorem d_Model_item_227 : decode prog_14_method_12_code 227 = .ok (.aload_n 0, 1) := by decide +kernel
theorem d_Model_item_228 : decode prog_14_method_12_code 228 = .ok (.getfield 72, 3) := by decide +kernel
theorem d_Model_item_231 : decode prog_14_method_12_code 231 = .ok (.istore_n 3, 1) := by decide +kernel
theorem d_Model_item_232 : decode prog_14_method_12_code 232 = .ok (.aload_n 0, 1) := by decide +kernel
theorem d_Model_item_233 : decode prog_14_method_12_code 233 = .ok (.invokevirtual 64, 3) := by decide +kernel
theorem d_Model_item_236 : decode prog_14_method_12_code 236 = .ok (.istore 4, 2) := by decide +kernel
theorem d_Model_item_238 : decode prog_14_method_12_code 238 = .ok (.iload 4, 2) := by decide +kernel
theorem d_Model_item_240 : decode prog_14_method_12_code 240 = .ok (.iconst 3, 1) := by decide +kernel
theorem d_Model_item_241 : decode prog_14_method_12_code 241 = .ok (.if_icmp .le 12, 3) := by decide +kernel
theorem d_Model_item_253 : decode prog_14_method_12_code 253 = .ok (.aload_n 0, 1) := by decide +kernel
theorem d_Model_item_254 : decode prog_14_method_12_code 254 = .ok (.invokevirtual 68, 3) := by decide +kernel
theorem d_Model_item_257 : decode prog_14_method_12_code 257 = .ok (.invokestatic 150, 3) := by decide +kernel
theorem d_Model_item_260 : decode prog_14_method_12_code 260 = .ok (.istore 5, 2) := by decide +kernel
theorem d_Model_item_262 : decode prog_14_method_12_code 262 = .ok (.aload_n 0, 1) := by decide +kernel
theorem d_Model_item_263 : decode prog_14_method_12_code 263 = .ok (.getfield 16, 3) := by decide +kernel
theorem d_Model_item_266 : decode prog_14_method_12_code 266 = .ok (.getfield 125, 3) := by decide +kernel
theorem d_Model_item_269 : decode prog_14_method_12_code 269 = .ok (.bipush 40, 2) := by decide +kernel
theorem d_Model_item_271 : decode prog_14_method_12_code 271 = .ok (.if_icmp .ge 69, 3) := by decide +kernel
theorem d_Model_item_340 : decode prog_14_method_12_code 340 = .ok (.aload_n 0, 1) := by decide +kernel
theorem d_Model_item_341 : decode prog_14_method_12_code 341 = .ok (.getfield 16, 3) := by decide +kernel
theorem d_Model_item_344 : decode prog_14_method_12_code 344 = .ok (.dup, 1) := by decide +kernel
theorem d_Model_item_345 : decode prog_14_method_12_code 345 = .ok (.getfield 125, 3) := by decide +kernel
theorem d_Model_item_348 : decode prog_14_method_12_code 348 = .ok (.iconst 1, 1) := by decide +kernel
theorem d_Model_item_349 : decode prog_14_method_12_code 349 = .ok (.iadd, 1) := by decide +kernel
theorem d_Model_item_350 : decode prog_14_method_12_code 350 = .ok (.putfield 125, 3) := by decide +kernel
theorem d_Model_item_353 : decode prog_14_method_12_code 353 = .ok (.aload_n 0, 1) := by decide +kernel
theorem d_Model_item_354 : decode prog_14_method_12_code 354 = .ok (.dup, 1) := by decide +kernel
theorem d_Model_item_355 : decode prog_14_method_12_code 355 = .ok (.getfield 77, 3) := by decide +kernel
theorem d_Model_item_358 : decode prog_14_method_12_code 358 = .ok (.aload_n 0, 1) := by decide +kernel
theorem d_Model_item_359 : decode prog_14_method_12_code 359 = .ok (.getfield 16, 3) := by decide +kernel
theorem d_Model_item_362 : decode prog_14_method_12_code 362 = .ok (.getfield 125, 3) := by decide +kernel
theorem d_Model_item_365 : decode prog_14_method_12_code 365 = .ok (.bipush 40, 2) := by decide +kernel
theorem d_Model_item_367 : decode prog_14_method_12_code 367 = .ok (.if_icmp .le 7, 3) := by decide +kernel
theorem d_Model_item_374 : decode prog_14_method_12_code 374 = .ok (.iconst 0, 1) := by decide +kernel
theorem d_Model_item_375 : decode prog_14_method_12_code 375 = .ok (.ior, 1) := by decide +kernel
theorem d_Model_item_376 : decode prog_14_method_12_code 376 = .ok (.putfield 77, 3) := by decide +kernel
theorem d_Model_item_379 : decode prog_14_method_12_code 379 = .ok (.return_, 1) := by decide +kernel
theorem d_Model_item_370 : decode prog_14_method_12_code 370 = .ok (.iconst 1, 1) := by decide +kernel
theorem d_Model_item_371 : decode prog_14_method_12_code 371 = .ok (.goto 4, 3) := by decide +kernel
theorem d_Model_item_274 : decode prog_14_method_12_code 274 = .ok (.aload_n 0, 1) := by decide +kernel
theorem d_Model_item_275 : decode prog_14_method_12_code 275 = .ok (.getfield 16, 3) := by decide +kernel
theorem d_Model_item_278 : decode prog_14_method_12_code 278 = .ok (.getfield 202, 3) := by decide +kernel
theorem d_Model_item_281 : decode prog_14_method_12_code 281 = .ok (.aload_n 0, 1) := by decide +kernel
theorem d_Model_item_282 : decode prog_14_method_12_code 282 = .ok (.getfield 16, 3) := by decide +kernel
theorem d_Model_item_285 : decode prog_14_method_12_code 285 = .ok (.getfield 125, 3) := by decide +kernel
theorem d_Model_item_288 : decode prog_14_method_12_code 288 = .ok (.iload_n 3, 1) := by decide +kernel
theorem d_Model_item_289 : decode prog_14_method_12_code 289 = .ok (.iastore, 1) := by decide +kernel
theorem d_Model_item_290 : decode prog_14_method_12_code 290 = .ok (.aload_n 0, 1) := by decide +kernel
theorem d_Model_item_291 : decode prog_14_method_12_code 291 = .ok (.getfield 16, 3) := by decide +kernel
theorem d_Model_item_294 : decode prog_14_method_12_code 294 = .ok (.getfield 205, 3) := by decide +kernel
theorem d_Model_item_297 : decode prog_14_method_12_code 297 = .ok (.aload_n 0, 1) := by decide +kernel
theorem d_Model_item_298 : decode prog_14_method_12_code 298 = .ok (.getfield 16, 3) := by decide +kernel
theorem d_Model_item_301 : decode prog_14_method_12_code 301 = .ok (.getfield 125, 3) := by decide +kernel
theorem d_Model_item_304 : decode prog_14_method_12_code 304 = .ok (.iload_n 2, 1) := by decide +kernel
theorem d_Model_item_305 : decode prog_14_method_12_code 305 = .ok (.iastore, 1) := by decide +kernel
theorem d_Model_item_306 : decode prog_14_method_12_code 306 = .ok (.aload_n 0, 1) := by decide +kernel
theorem d_Model_item_307 : decode prog_14_method_12_code 307 = .ok (.getfield 16, 3) := by decide +kernel
theorem d_Model_item_310 : decode prog_14_method_12_code 310 = .ok (.getfield 208, 3) := by decide +kernel
theorem d_Model_item_313 : decode prog_14_method_12_code 313 = .ok (.aload_n 0, 1) := by decide +kernel
theorem d_Model_item_314 : decode prog_14_method_12_code 314 = .ok (.getfield 16, 3) := by decide +kernel
theorem d_Model_item_317 : decode prog_14_method_12_code 317 = .ok (.getfield 125, 3) := by decide +kernel
theorem d_Model_item_320 : decode prog_14_method_12_code 320 = .ok (.iload 4, 2) := by decide +kernel
theorem d_Model_item_322 : decode prog_14_method_12_code 322 = .ok (.iastore, 1) := by decide +kernel
theorem d_Model_item_323 : decode prog_14_method_12_code 323 = .ok (.aload_n 0, 1) := by decide +kernel
theorem d_Model_item_324 : decode prog_14_method_12_code 324 = .ok (.getfield 16, 3) := by decide +kernel
theorem d_Model_item_327 : decode prog_14_method_12_code 327 = .ok (.getfield 211, 3) := by decide +kernel
theorem d_Model_item_330 : decode prog_14_method_12_code 330 = .ok (.aload_n 0, 1) := by decide +kernel
theorem d_Model_item_331 : decode prog_14_method_12_code 331 = .ok (.getfield 16, 3) := by decide +kernel
theorem d_Model_item_334 : decode prog_14_method_12_code 334 = .ok (.getfield 125, 3) := by decide +kernel
theorem d_Model_item_337 : decode prog_14_method_12_code 337 = .ok (.iload 5, 2) := by decide +kernel
theorem d_Model_item_339 : decode prog_14_method_12_code 339 = .ok (.iastore, 1) := by decide +kernel
theorem d_Model_item_244 : decode prog_14_method_12_code 244 = .ok (.new 56, 3) := by decide +kernel
theorem d_Model_item_247 : decode prog_14_method_12_code 247 = .ok (.dup, 1) := by decide +kernel
theorem d_Model_item_248 : decode prog_14_method_12_code 248 = .ok (.iconst 1, 1) := by decide +kernel
theorem d_Model_item_249 : decode prog_14_method_12_code 249 = .ok (.invokespecial 58, 3) := by decide +kernel
theorem d_Model_item_252 : decode prog_14_method_12_code 252 = .ok (.athrow, 1) := by decide +kernel
theorem d_Model_item_390 : decode prog_14_method_12_code 390 = .ok (.aload_n 0, 1) := by decide +kernel
theorem d_Model_item_391 : decode prog_14_method_12_code 391 = .ok (.invokevirtual 220, 3) := by decide +kernel
theorem nm_Model_data : x_nm y_Model_data 0 = true := by decide +kernel
theorem d_Model_item_394 : decode prog_14_method_12_code 394 = .ok (.return_, 1) := by decide +kernel
theorem d_Model_item_380 : decode prog_14_method_12_code 380 = .ok (.aload_n 0, 1) := by decide +kernel
theorem d_Model_item_381 : decode prog_14_method_12_code 381 = .ok (.invokevirtual 214, 3) := by decide +kernel
theorem nm_Model_element : x_nm y_Model_element 0 = true := by decide +kernel
theorem d_Model_item_384 : decode prog_14_method_12_code 384 = .ok (.return_, 1) := by decide +kernel
theorem d_Model_item_385 : decode prog_14_method_12_code 385 = .ok (.aload_n 0, 1) := by decide +kernel
theorem d_Model_item_386 : decode prog_14_method_12_code 386 = .ok (.invokevirtual 217, 3) := by decide +kernel
theorem nm_Model_body : x_nm y_Model_body 0 = true := by decide +kernel
theorem d_Model_item_389 : decode prog_14_method_12_code 389 = .ok (.return_, 1) := by decide +kernel
