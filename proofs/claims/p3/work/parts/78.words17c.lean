theorem d_Model_valid2_400 : decode prog_14_method_26_code 400 = .ok (.aload_n 0, 1) := by decide +kernel
theorem d_Model_valid2_401 : decode prog_14_method_26_code 401 = .ok (.getfield 16, 3) := by decide +kernel
theorem d_Model_valid2_404 : decode prog_14_method_26_code 404 = .ok (.getfield 137, 3) := by decide +kernel
theorem d_Model_valid2_407 : decode prog_14_method_26_code 407 = .ok (.iaload, 1) := by decide +kernel
theorem d_Model_valid2_408 : decode prog_14_method_26_code 408 = .ok (.iaload, 1) := by decide +kernel
theorem d_Model_valid2_409 : decode prog_14_method_26_code 409 = .ok (.ifCond .ne 7, 3) := by decide +kernel
theorem d_Model_valid2_412 : decode prog_14_method_26_code 412 = .ok (.iconst 1, 1) := by decide +kernel
theorem d_Model_valid2_413 : decode prog_14_method_26_code 413 = .ok (.goto 4, 3) := by decide +kernel
theorem d_Model_valid2_172 : decode prog_14_method_26_code 172 = .ok (.aload_n 0, 1) := by decide +kernel
theorem d_Model_valid2_173 : decode prog_14_method_26_code 173 = .ok (.getfield 16, 3) := by decide +kernel
theorem d_Model_valid2_176 : decode prog_14_method_26_code 176 = .ok (.getfield 208, 3) := by decide +kernel
theorem d_Model_valid2_179 : decode prog_14_method_26_code 179 = .ok (.iload_n 1, 1) := by decide +kernel
theorem d_Model_valid2_180 : decode prog_14_method_26_code 180 = .ok (.iaload, 1) := by decide +kernel
theorem d_Model_valid2_181 : decode prog_14_method_26_code 181 = .ok (.istore_n 2, 1) := by decide +kernel
theorem d_Model_valid2_182 : decode prog_14_method_26_code 182 = .ok (.aload_n 0, 1) := by decide +kernel
theorem d_Model_valid2_183 : decode prog_14_method_26_code 183 = .ok (.aload_n 0, 1) := by decide +kernel
theorem d_Model_valid2_184 : decode prog_14_method_26_code 184 = .ok (.getfield 16, 3) := by decide +kernel
theorem d_Model_valid2_187 : decode prog_14_method_26_code 187 = .ok (.getfield 211, 3) := by decide +kernel
theorem d_Model_valid2_190 : decode prog_14_method_26_code 190 = .ok (.iload_n 1, 1) := by decide +kernel
theorem d_Model_valid2_191 : decode prog_14_method_26_code 191 = .ok (.iaload, 1) := by decide +kernel
theorem d_Model_valid2_192 : decode prog_14_method_26_code 192 = .ok (.iload_n 2, 1) := by decide +kernel
theorem d_Model_valid2_193 : decode prog_14_method_26_code 193 = .ok (.ifCond .ne 13, 3) := by decide +kernel
theorem d_Model_valid2_206 : decode prog_14_method_26_code 206 = .ok (.iload_n 2, 1) := by decide +kernel
theorem d_Model_valid2_207 : decode prog_14_method_26_code 207 = .ok (.iconst 1, 1) := by decide +kernel
theorem d_Model_valid2_208 : decode prog_14_method_26_code 208 = .ok (.if_icmp .ne 13, 3) := by decide +kernel
theorem d_Model_valid2_221 : decode prog_14_method_26_code 221 = .ok (.iload_n 2, 1) := by decide +kernel
theorem d_Model_valid2_222 : decode prog_14_method_26_code 222 = .ok (.iconst 2, 1) := by decide +kernel
theorem d_Model_valid2_223 : decode prog_14_method_26_code 223 = .ok (.if_icmp .ne 13, 3) := by decide +kernel
theorem d_Model_valid2_236 : decode prog_14_method_26_code 236 = .ok (.aload_n 0, 1) := by decide +kernel
theorem d_Model_valid2_237 : decode prog_14_method_26_code 237 = .ok (.getfield 16, 3) := by decide +kernel
theorem d_Model_valid2_240 : decode prog_14_method_26_code 240 = .ok (.getfield 122, 3) := by decide +kernel
theorem d_Model_valid2_243 : decode prog_14_method_26_code 243 = .ok (.if_icmp .ge 7, 3) := by decide +kernel
theorem d_Model_valid2_250 : decode prog_14_method_26_code 250 = .ok (.iconst 0, 1) := by decide +kernel
theorem d_Model_valid2_251 : decode prog_14_method_26_code 251 = .ok (.invokevirtual 351, 3) := by decide +kernel
theorem d_Model_valid2_246 : decode prog_14_method_26_code 246 = .ok (.iconst 1, 1) := by decide +kernel
theorem d_Model_valid2_247 : decode prog_14_method_26_code 247 = .ok (.goto 4, 3) := by decide +kernel
theorem d_Model_valid2_254 : decode prog_14_method_26_code 254 = .ok (.iconst 0, 1) := by decide +kernel
theorem d_Model_valid2_255 : decode prog_14_method_26_code 255 = .ok (.istore_n 3, 1) := by decide +kernel
theorem d_Model_valid2_256 : decode prog_14_method_26_code 256 = .ok (.iload_n 3, 1) := by decide +kernel
theorem d_Model_valid2_257 : decode prog_14_method_26_code 257 = .ok (.iload_n 1, 1) := by decide +kernel
theorem d_Model_valid2_258 : decode prog_14_method_26_code 258 = .ok (.if_icmp .ge 68, 3) := by decide +kernel
theorem d_Model_valid2_326 : decode prog_14_method_26_code 326 = .ok (.iinc 1 1, 3) := by decide +kernel
theorem d_Model_valid2_329 : decode prog_14_method_26_code 329 = .ok (.goto (-168), 3) := by decide +kernel
theorem d_Model_valid2_261 : decode prog_14_method_26_code 261 = .ok (.aload_n 0, 1) := by decide +kernel
theorem d_Model_valid2_262 : decode prog_14_method_26_code 262 = .ok (.aload_n 0, 1) := by decide +kernel
theorem d_Model_valid2_263 : decode prog_14_method_26_code 263 = .ok (.getfield 16, 3) := by decide +kernel
theorem d_Model_valid2_266 : decode prog_14_method_26_code 266 = .ok (.aload_n 0, 1) := by decide +kernel
theorem d_Model_valid2_267 : decode prog_14_method_26_code 267 = .ok (.getfield 16, 3) := by decide +kernel
theorem d_Model_valid2_270 : decode prog_14_method_26_code 270 = .ok (.getfield 202, 3) := by decide +kernel
theorem d_Model_valid2_273 : decode prog_14_method_26_code 273 = .ok (.iload_n 3, 1) := by decide +kernel
theorem d_Model_valid2_274 : decode prog_14_method_26_code 274 = .ok (.iaload, 1) := by decide +kernel
theorem d_Model_valid2_275 : decode prog_14_method_26_code 275 = .ok (.aload_n 0, 1) := by decide +kernel
theorem d_Model_valid2_276 : decode prog_14_method_26_code 276 = .ok (.getfield 16, 3) := by decide +kernel
theorem d_Model_valid2_279 : decode prog_14_method_26_code 279 = .ok (.getfield 205, 3) := by decide +kernel
theorem d_Model_valid2_282 : decode prog_14_method_26_code 282 = .ok (.iload_n 3, 1) := by decide +kernel
theorem d_Model_valid2_283 : decode prog_14_method_26_code 283 = .ok (.iaload, 1) := by decide +kernel
theorem d_Model_valid2_284 : decode prog_14_method_26_code 284 = .ok (.aload_n 0, 1) := by decide +kernel
theorem d_Model_valid2_285 : decode prog_14_method_26_code 285 = .ok (.getfield 16, 3) := by decide +kernel
theorem d_Model_valid2_288 : decode prog_14_method_26_code 288 = .ok (.aload_n 0, 1) := by decide +kernel
theorem d_Model_valid2_289 : decode prog_14_method_26_code 289 = .ok (.getfield 16, 3) := by decide +kernel
theorem d_Model_valid2_292 : decode prog_14_method_26_code 292 = .ok (.getfield 202, 3) := by decide +kernel
theorem d_Model_valid2_295 : decode prog_14_method_26_code 295 = .ok (.iload_n 1, 1) := by decide +kernel
theorem d_Model_valid2_296 : decode prog_14_method_26_code 296 = .ok (.iaload, 1) := by decide +kernel
theorem d_Model_valid2_297 : decode prog_14_method_26_code 297 = .ok (.aload_n 0, 1) := by decide +kernel
theorem d_Model_valid2_298 : decode prog_14_method_26_code 298 = .ok (.getfield 16, 3) := by decide +kernel
theorem d_Model_valid2_301 : decode prog_14_method_26_code 301 = .ok (.getfield 205, 3) := by decide +kernel
theorem d_Model_valid2_304 : decode prog_14_method_26_code 304 = .ok (.iload_n 1, 1) := by decide +kernel
theorem d_Model_valid2_305 : decode prog_14_method_26_code 305 = .ok (.iaload, 1) := by decide +kernel
theorem d_Model_valid2_306 : decode prog_14_method_26_code 306 = .ok (.invokestatic 359, 3) := by decide +kernel
theorem nm_Model_isSame : x_nm y_Model_isSame 6 = true := by decide +kernel
theorem d_Model_valid2_309 : decode prog_14_method_26_code 309 = .ok (.ifCond .ne 7, 3) := by decide +kernel
theorem d_Model_valid2_316 : decode prog_14_method_26_code 316 = .ok (.iconst 0, 1) := by decide +kernel
theorem d_Model_valid2_317 : decode prog_14_method_26_code 317 = .ok (.invokevirtual 351, 3) := by decide +kernel
theorem d_Model_valid2_312 : decode prog_14_method_26_code 312 = .ok (.iconst 1, 1) := by decide +kernel
theorem d_Model_valid2_313 : decode prog_14_method_26_code 313 = .ok (.goto 4, 3) := by decide +kernel
theorem d_Model_valid2_320 : decode prog_14_method_26_code 320 = .ok (.iinc 3 1, 3) := by decide +kernel
theorem d_Model_valid2_323 : decode prog_14_method_26_code 323 = .ok (.goto (-67), 3) := by decide +kernel
theorem d_Model_valid2_226 : decode prog_14_method_26_code 226 = .ok (.aload_n 0, 1) := by decide +kernel
theorem d_Model_valid2_227 : decode prog_14_method_26_code 227 = .ok (.getfield 16, 3) := by decide +kernel
theorem d_Model_valid2_230 : decode prog_14_method_26_code 230 = .ok (.getfield 119, 3) := by decide +kernel
theorem d_Model_valid2_233 : decode prog_14_method_26_code 233 = .ok (.goto 10, 3) := by decide +kernel
theorem d_Model_valid2_211 : decode prog_14_method_26_code 211 = .ok (.aload_n 0, 1) := by decide +kernel
theorem d_Model_valid2_212 : decode prog_14_method_26_code 212 = .ok (.getfield 16, 3) := by decide +kernel
theorem d_Model_valid2_215 : decode prog_14_method_26_code 215 = .ok (.getfield 116, 3) := by decide +kernel
theorem d_Model_valid2_218 : decode prog_14_method_26_code 218 = .ok (.goto 25, 3) := by decide +kernel
theorem d_Model_valid2_196 : decode prog_14_method_26_code 196 = .ok (.aload_n 0, 1) := by decide +kernel
theorem d_Model_valid2_197 : decode prog_14_method_26_code 197 = .ok (.getfield 16, 3) := by decide +kernel
theorem d_Model_valid2_200 : decode prog_14_method_26_code 200 = .ok (.getfield 110, 3) := by decide +kernel
theorem d_Model_valid2_203 : decode prog_14_method_26_code 203 = .ok (.goto 40, 3) := by decide +kernel
theorem d_Model_valid2_98 : decode prog_14_method_26_code 98 = .ok (.aload_n 0, 1) := by decide +kernel
theorem d_Model_valid2_99 : decode prog_14_method_26_code 99 = .ok (.aload_n 0, 1) := by decide +kernel
theorem d_Model_valid2_100 : decode prog_14_method_26_code 100 = .ok (.getfield 16, 3) := by decide +kernel
theorem d_Model_valid2_103 : decode prog_14_method_26_code 103 = .ok (.getfield 246, 3) := by decide +kernel
theorem d_Model_valid2_106 : decode prog_14_method_26_code 106 = .ok (.iload_n 1, 1) := by decide +kernel
theorem d_Model_valid2_107 : decode prog_14_method_26_code 107 = .ok (.iaload, 1) := by decide +kernel
theorem d_Model_valid2_108 : decode prog_14_method_26_code 108 = .ok (.ifCond .ge 37, 3) := by decide +kernel
theorem d_Model_valid2_145 : decode prog_14_method_26_code 145 = .ok (.iconst 1, 1) := by decide +kernel
theorem d_Model_valid2_146 : decode prog_14_method_26_code 146 = .ok (.goto 4, 3) := by decide +kernel
theorem d_Model_valid2_150 : decode prog_14_method_26_code 150 = .ok (.invokevirtual 351, 3) := by decide +kernel
theorem d_Model_valid2_153 : decode prog_14_method_26_code 153 = .ok (.iinc 1 1, 3) := by decide +kernel
