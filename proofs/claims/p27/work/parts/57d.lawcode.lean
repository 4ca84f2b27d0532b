/-! the law: its names, instructions, what its calls need (printed) -/
theorem dL_isLaid_0 : decode cL_isLaid 0 = .ok (.aload_n 0, 1) := by decide +kernel
theorem dL_isLaid_1 : decode cL_isLaid 1 = .ok (.iconst 2, 1) := by decide +kernel
theorem dL_isLaid_2 : decode cL_isLaid 2 = .ok (.invokevirtual 9, 3) := by decide +kernel
theorem dL_isLaid_5 : decode cL_isLaid 5 = .ok (.istore_n 2, 1) := by decide +kernel
theorem dL_isLaid_6 : decode cL_isLaid 6 = .ok (.aload_n 0, 1) := by decide +kernel
theorem dL_isLaid_7 : decode cL_isLaid 7 = .ok (.iconst 5, 1) := by decide +kernel
theorem dL_isLaid_8 : decode cL_isLaid 8 = .ok (.invokevirtual 65, 3) := by decide +kernel
theorem dL_isLaid_11 : decode cL_isLaid 11 = .ok (.istore_n 3, 1) := by decide +kernel
theorem dL_isLaid_12 : decode cL_isLaid 12 = .ok (.aload_n 0, 1) := by decide +kernel
theorem dL_isLaid_13 : decode cL_isLaid 13 = .ok (.iconst 3, 1) := by decide +kernel
theorem dL_isLaid_14 : decode cL_isLaid 14 = .ok (.invokevirtual 9, 3) := by decide +kernel
theorem dL_isLaid_17 : decode cL_isLaid 17 = .ok (.ifCond .ne 81, 3) := by decide +kernel
theorem dL_isLaid_20 : decode cL_isLaid 20 = .ok (.aload_n 0, 1) := by decide +kernel
theorem dL_isLaid_21 : decode cL_isLaid 21 = .ok (.bipush 7, 2) := by decide +kernel
theorem dL_isLaid_23 : decode cL_isLaid 23 = .ok (.invokevirtual 65, 3) := by decide +kernel
theorem dL_isLaid_26 : decode cL_isLaid 26 = .ok (.iconst 1, 1) := by decide +kernel
theorem dL_isLaid_27 : decode cL_isLaid 27 = .ok (.if_icmp .ne 69, 3) := by decide +kernel
theorem dL_isLaid_30 : decode cL_isLaid 30 = .ok (.aload_n 0, 1) := by decide +kernel
theorem dL_isLaid_31 : decode cL_isLaid 31 = .ok (.iconst 4, 1) := by decide +kernel
theorem dL_isLaid_32 : decode cL_isLaid 32 = .ok (.invokevirtual 9, 3) := by decide +kernel
theorem dL_isLaid_35 : decode cL_isLaid 35 = .ok (.bipush (-9), 2) := by decide +kernel
theorem dL_isLaid_37 : decode cL_isLaid 37 = .ok (.if_icmp .ne 59, 3) := by decide +kernel
theorem dL_isLaid_40 : decode cL_isLaid 40 = .ok (.aload_n 0, 1) := by decide +kernel
theorem dL_isLaid_41 : decode cL_isLaid 41 = .ok (.iconst 5, 1) := by decide +kernel
theorem dL_isLaid_42 : decode cL_isLaid 42 = .ok (.invokevirtual 9, 3) := by decide +kernel
theorem dL_isLaid_45 : decode cL_isLaid 45 = .ok (.bipush (-9), 2) := by decide +kernel
theorem dL_isLaid_47 : decode cL_isLaid 47 = .ok (.if_icmp .ne 49, 3) := by decide +kernel
theorem dL_isLaid_50 : decode cL_isLaid 50 = .ok (.aload_n 0, 1) := by decide +kernel
theorem dL_isLaid_51 : decode cL_isLaid 51 = .ok (.iconst 0, 1) := by decide +kernel
theorem dL_isLaid_52 : decode cL_isLaid 52 = .ok (.iconst 2, 1) := by decide +kernel
theorem dL_isLaid_53 : decode cL_isLaid 53 = .ok (.invokevirtual 59, 3) := by decide +kernel
theorem dL_isLaid_56 : decode cL_isLaid 56 = .ok (.bipush (-9), 2) := by decide +kernel
theorem dL_isLaid_58 : decode cL_isLaid 58 = .ok (.if_icmp .ne 38, 3) := by decide +kernel
theorem dL_isLaid_61 : decode cL_isLaid 61 = .ok (.aload_n 0, 1) := by decide +kernel
theorem dL_isLaid_62 : decode cL_isLaid 62 = .ok (.iconst 0, 1) := by decide +kernel
theorem dL_isLaid_63 : decode cL_isLaid 63 = .ok (.iconst 0, 1) := by decide +kernel
theorem dL_isLaid_64 : decode cL_isLaid 64 = .ok (.invokevirtual 71, 3) := by decide +kernel
theorem dL_isLaid_67 : decode cL_isLaid 67 = .ok (.bipush (-9), 2) := by decide +kernel
theorem dL_isLaid_69 : decode cL_isLaid 69 = .ok (.if_icmp .ne 27, 3) := by decide +kernel
theorem dL_isLaid_72 : decode cL_isLaid 72 = .ok (.aload_n 0, 1) := by decide +kernel
theorem dL_isLaid_73 : decode cL_isLaid 73 = .ok (.iconst 0, 1) := by decide +kernel
theorem dL_isLaid_74 : decode cL_isLaid 74 = .ok (.invokevirtual 74, 3) := by decide +kernel
theorem dL_isLaid_77 : decode cL_isLaid 77 = .ok (.ldc 78, 2) := by decide +kernel
theorem dL_isLaid_79 : decode cL_isLaid 79 = .ok (.fcmp .l, 1) := by decide +kernel
theorem dL_isLaid_80 : decode cL_isLaid 80 = .ok (.ifCond .ne 16, 3) := by decide +kernel
theorem dL_isLaid_83 : decode cL_isLaid 83 = .ok (.aload_n 0, 1) := by decide +kernel
theorem dL_isLaid_84 : decode cL_isLaid 84 = .ok (.invokevirtual 79, 3) := by decide +kernel
theorem dL_isLaid_87 : decode cL_isLaid 87 = .ok (.bipush (-9), 2) := by decide +kernel
theorem dL_isLaid_89 : decode cL_isLaid 89 = .ok (.if_icmp .ne 7, 3) := by decide +kernel
theorem dL_isLaid_92 : decode cL_isLaid 92 = .ok (.iconst 1, 1) := by decide +kernel
theorem dL_isLaid_93 : decode cL_isLaid 93 = .ok (.goto 4, 3) := by decide +kernel
theorem dL_isLaid_96 : decode cL_isLaid 96 = .ok (.iconst 0, 1) := by decide +kernel
theorem dL_isLaid_97 : decode cL_isLaid 97 = .ok (.ireturn, 1) := by decide +kernel
theorem dL_isLaid_98 : decode cL_isLaid 98 = .ok (.iconst 0, 1) := by decide +kernel
theorem dL_isLaid_99 : decode cL_isLaid 99 = .ok (.istore 4, 2) := by decide +kernel
theorem dL_isLaid_101 : decode cL_isLaid 101 = .ok (.iconst 0, 1) := by decide +kernel
theorem dL_isLaid_102 : decode cL_isLaid 102 = .ok (.istore 5, 2) := by decide +kernel
theorem dL_isLaid_104 : decode cL_isLaid 104 = .ok (.iconst 0, 1) := by decide +kernel
theorem dL_isLaid_105 : decode cL_isLaid 105 = .ok (.istore 6, 2) := by decide +kernel
theorem dL_isLaid_107 : decode cL_isLaid 107 = .ok (.iconst 0, 1) := by decide +kernel
theorem dL_isLaid_108 : decode cL_isLaid 108 = .ok (.istore 7, 2) := by decide +kernel
theorem dL_isLaid_110 : decode cL_isLaid 110 = .ok (.iload 7, 2) := by decide +kernel
theorem dL_isLaid_112 : decode cL_isLaid 112 = .ok (.iload_n 2, 1) := by decide +kernel
theorem dL_isLaid_113 : decode cL_isLaid 113 = .ok (.if_icmp .ge 383, 3) := by decide +kernel
theorem dL_isLaid_116 : decode cL_isLaid 116 = .ok (.aload_n 0, 1) := by decide +kernel
theorem dL_isLaid_117 : decode cL_isLaid 117 = .ok (.iload 7, 2) := by decide +kernel
theorem dL_isLaid_119 : decode cL_isLaid 119 = .ok (.invokevirtual 62, 3) := by decide +kernel
theorem dL_isLaid_122 : decode cL_isLaid 122 = .ok (.istore 8, 2) := by decide +kernel
theorem dL_isLaid_124 : decode cL_isLaid 124 = .ok (.aload_n 0, 1) := by decide +kernel
theorem dL_isLaid_125 : decode cL_isLaid 125 = .ok (.iload 7, 2) := by decide +kernel
theorem dL_isLaid_127 : decode cL_isLaid 127 = .ok (.iconst 1, 1) := by decide +kernel
theorem dL_isLaid_128 : decode cL_isLaid 128 = .ok (.iadd, 1) := by decide +kernel
theorem dL_isLaid_129 : decode cL_isLaid 129 = .ok (.iload_n 2, 1) := by decide +kernel
theorem dL_isLaid_130 : decode cL_isLaid 130 = .ok (.irem, 1) := by decide +kernel
theorem dL_isLaid_131 : decode cL_isLaid 131 = .ok (.invokevirtual 62, 3) := by decide +kernel
theorem dL_isLaid_134 : decode cL_isLaid 134 = .ok (.istore 9, 2) := by decide +kernel
theorem dL_isLaid_136 : decode cL_isLaid 136 = .ok (.aload_n 0, 1) := by decide +kernel
theorem dL_isLaid_137 : decode cL_isLaid 137 = .ok (.iload 8, 2) := by decide +kernel
theorem dL_isLaid_139 : decode cL_isLaid 139 = .ok (.iconst 2, 1) := by decide +kernel
theorem dL_isLaid_140 : decode cL_isLaid 140 = .ok (.invokevirtual 59, 3) := by decide +kernel
theorem dL_isLaid_143 : decode cL_isLaid 143 = .ok (.istore 10, 2) := by decide +kernel
theorem dL_isLaid_145 : decode cL_isLaid 145 = .ok (.aload_n 0, 1) := by decide +kernel
theorem dL_isLaid_146 : decode cL_isLaid 146 = .ok (.iload 8, 2) := by decide +kernel
theorem dL_isLaid_148 : decode cL_isLaid 148 = .ok (.iconst 1, 1) := by decide +kernel
theorem dL_isLaid_149 : decode cL_isLaid 149 = .ok (.invokevirtual 59, 3) := by decide +kernel
theorem dL_isLaid_152 : decode cL_isLaid 152 = .ok (.istore 11, 2) := by decide +kernel
theorem dL_isLaid_154 : decode cL_isLaid 154 = .ok (.aload_n 0, 1) := by decide +kernel
theorem dL_isLaid_155 : decode cL_isLaid 155 = .ok (.iload 9, 2) := by decide +kernel
theorem dL_isLaid_157 : decode cL_isLaid 157 = .ok (.iconst 2, 1) := by decide +kernel
theorem dL_isLaid_158 : decode cL_isLaid 158 = .ok (.invokevirtual 59, 3) := by decide +kernel
theorem dL_isLaid_161 : decode cL_isLaid 161 = .ok (.istore 12, 2) := by decide +kernel
theorem dL_isLaid_163 : decode cL_isLaid 163 = .ok (.iload 10, 2) := by decide +kernel
theorem dL_isLaid_165 : decode cL_isLaid 165 = .ok (.iload 12, 2) := by decide +kernel
theorem dL_isLaid_167 : decode cL_isLaid 167 = .ok (.if_icmp .ge 8, 3) := by decide +kernel
theorem dL_isLaid_170 : decode cL_isLaid 170 = .ok (.iload 10, 2) := by decide +kernel
theorem dL_isLaid_172 : decode cL_isLaid 172 = .ok (.goto 5, 3) := by decide +kernel
theorem dL_isLaid_175 : decode cL_isLaid 175 = .ok (.iload 12, 2) := by decide +kernel
theorem dL_isLaid_177 : decode cL_isLaid 177 = .ok (.iconst 4, 1) := by decide +kernel
theorem dL_isLaid_178 : decode cL_isLaid 178 = .ok (.idiv, 1) := by decide +kernel
theorem dL_isLaid_179 : decode cL_isLaid 179 = .ok (.istore 13, 2) := by decide +kernel
theorem dL_isLaid_181 : decode cL_isLaid 181 = .ok (.iload 13, 2) := by decide +kernel
theorem dL_isLaid_183 : decode cL_isLaid 183 = .ok (.aload_n 0, 1) := by decide +kernel
theorem dL_isLaid_184 : decode cL_isLaid 184 = .ok (.bipush 8, 2) := by decide +kernel
theorem dL_isLaid_186 : decode cL_isLaid 186 = .ok (.invokevirtual 65, 3) := by decide +kernel
theorem dL_isLaid_189 : decode cL_isLaid 189 = .ok (.if_icmp .ge 8, 3) := by decide +kernel
theorem dL_isLaid_192 : decode cL_isLaid 192 = .ok (.iload 13, 2) := by decide +kernel
theorem dL_isLaid_194 : decode cL_isLaid 194 = .ok (.goto 9, 3) := by decide +kernel
theorem dL_isLaid_197 : decode cL_isLaid 197 = .ok (.aload_n 0, 1) := by decide +kernel
theorem dL_isLaid_198 : decode cL_isLaid 198 = .ok (.bipush 8, 2) := by decide +kernel
theorem dL_isLaid_200 : decode cL_isLaid 200 = .ok (.invokevirtual 65, 3) := by decide +kernel
theorem dL_isLaid_203 : decode cL_isLaid 203 = .ok (.istore 13, 2) := by decide +kernel
theorem dL_isLaid_205 : decode cL_isLaid 205 = .ok (.iload 10, 2) := by decide +kernel
theorem dL_isLaid_207 : decode cL_isLaid 207 = .ok (.iload 11, 2) := by decide +kernel
theorem dL_isLaid_209 : decode cL_isLaid 209 = .ok (.aload_n 0, 1) := by decide +kernel
theorem dL_isLaid_210 : decode cL_isLaid 210 = .ok (.iconst 3, 1) := by decide +kernel
theorem dL_isLaid_211 : decode cL_isLaid 211 = .ok (.invokevirtual 65, 3) := by decide +kernel
theorem dL_isLaid_214 : decode cL_isLaid 214 = .ok (.imul, 1) := by decide +kernel
theorem dL_isLaid_215 : decode cL_isLaid 215 = .ok (.bipush 100, 2) := by decide +kernel
theorem dL_isLaid_217 : decode cL_isLaid 217 = .ok (.idiv, 1) := by decide +kernel
theorem dL_isLaid_218 : decode cL_isLaid 218 = .ok (.if_icmp .lt 28, 3) := by decide +kernel
theorem dL_isLaid_221 : decode cL_isLaid 221 = .ok (.iload 10, 2) := by decide +kernel
theorem dL_isLaid_223 : decode cL_isLaid 223 = .ok (.i2l, 1) := by decide +kernel
theorem dL_isLaid_224 : decode cL_isLaid 224 = .ok (.iload 11, 2) := by decide +kernel
theorem dL_isLaid_226 : decode cL_isLaid 226 = .ok (.i2l, 1) := by decide +kernel
theorem dL_isLaid_227 : decode cL_isLaid 227 = .ok (.aload_n 0, 1) := by decide +kernel
theorem dL_isLaid_228 : decode cL_isLaid 228 = .ok (.iconst 4, 1) := by decide +kernel
theorem dL_isLaid_229 : decode cL_isLaid 229 = .ok (.invokevirtual 65, 3) := by decide +kernel
theorem dL_isLaid_232 : decode cL_isLaid 232 = .ok (.i2l, 1) := by decide +kernel
theorem dL_isLaid_233 : decode cL_isLaid 233 = .ok (.lmul, 1) := by decide +kernel
theorem dL_isLaid_234 : decode cL_isLaid 234 = .ok (.ldc2_w 82, 3) := by decide +kernel
theorem dL_isLaid_237 : decode cL_isLaid 237 = .ok (.ldiv, 1) := by decide +kernel
theorem dL_isLaid_238 : decode cL_isLaid 238 = .ok (.lcmp, 1) := by decide +kernel
theorem dL_isLaid_239 : decode cL_isLaid 239 = .ok (.ifCond .gt 7, 3) := by decide +kernel
theorem dL_isLaid_242 : decode cL_isLaid 242 = .ok (.iconst 1, 1) := by decide +kernel
theorem dL_isLaid_243 : decode cL_isLaid 243 = .ok (.goto 4, 3) := by decide +kernel
theorem dL_isLaid_246 : decode cL_isLaid 246 = .ok (.iconst 0, 1) := by decide +kernel
theorem dL_isLaid_247 : decode cL_isLaid 247 = .ok (.istore 14, 2) := by decide +kernel
theorem dL_isLaid_249 : decode cL_isLaid 249 = .ok (.iload 14, 2) := by decide +kernel
theorem dL_isLaid_251 : decode cL_isLaid 251 = .ok (.ifCond .eq 8, 3) := by decide +kernel
theorem dL_isLaid_254 : decode cL_isLaid 254 = .ok (.iload 6, 2) := by decide +kernel
theorem dL_isLaid_256 : decode cL_isLaid 256 = .ok (.goto 7, 3) := by decide +kernel
theorem dL_isLaid_259 : decode cL_isLaid 259 = .ok (.iload 6, 2) := by decide +kernel
theorem dL_isLaid_261 : decode cL_isLaid 261 = .ok (.iconst 1, 1) := by decide +kernel
theorem dL_isLaid_262 : decode cL_isLaid 262 = .ok (.iadd, 1) := by decide +kernel
theorem dL_isLaid_263 : decode cL_isLaid 263 = .ok (.istore 6, 2) := by decide +kernel
theorem dL_isLaid_265 : decode cL_isLaid 265 = .ok (.iload 5, 2) := by decide +kernel
theorem dL_isLaid_267 : decode cL_isLaid 267 = .ok (.iload 13, 2) := by decide +kernel
theorem dL_isLaid_269 : decode cL_isLaid 269 = .ok (.iadd, 1) := by decide +kernel
theorem dL_isLaid_270 : decode cL_isLaid 270 = .ok (.istore 5, 2) := by decide +kernel
theorem dL_isLaid_272 : decode cL_isLaid 272 = .ok (.aload_n 0, 1) := by decide +kernel
theorem dL_isLaid_273 : decode cL_isLaid 273 = .ok (.iload 8, 2) := by decide +kernel
theorem dL_isLaid_275 : decode cL_isLaid 275 = .ok (.iconst 4, 1) := by decide +kernel
theorem dL_isLaid_276 : decode cL_isLaid 276 = .ok (.invokevirtual 59, 3) := by decide +kernel
theorem dL_isLaid_279 : decode cL_isLaid 279 = .ok (.iload 4, 2) := by decide +kernel
theorem dL_isLaid_281 : decode cL_isLaid 281 = .ok (.if_icmp .ne 72, 3) := by decide +kernel
theorem dL_isLaid_284 : decode cL_isLaid 284 = .ok (.aload_n 0, 1) := by decide +kernel
theorem dL_isLaid_285 : decode cL_isLaid 285 = .ok (.iload 8, 2) := by decide +kernel
theorem dL_isLaid_287 : decode cL_isLaid 287 = .ok (.bipush 6, 2) := by decide +kernel
theorem dL_isLaid_289 : decode cL_isLaid 289 = .ok (.invokevirtual 59, 3) := by decide +kernel
theorem dL_isLaid_292 : decode cL_isLaid 292 = .ok (.iload 13, 2) := by decide +kernel
theorem dL_isLaid_294 : decode cL_isLaid 294 = .ok (.if_icmp .ne 59, 3) := by decide +kernel
theorem dL_isLaid_297 : decode cL_isLaid 297 = .ok (.iload 10, 2) := by decide +kernel
theorem dL_isLaid_299 : decode cL_isLaid 299 = .ok (.ifCond .lt 54, 3) := by decide +kernel
theorem dL_isLaid_302 : decode cL_isLaid 302 = .ok (.aload_n 0, 1) := by decide +kernel
theorem dL_isLaid_303 : decode cL_isLaid 303 = .ok (.iload 8, 2) := by decide +kernel
theorem dL_isLaid_305 : decode cL_isLaid 305 = .ok (.invokevirtual 74, 3) := by decide +kernel
theorem dL_isLaid_308 : decode cL_isLaid 308 = .ok (.iload 10, 2) := by decide +kernel
theorem dL_isLaid_310 : decode cL_isLaid 310 = .ok (.i2f, 1) := by decide +kernel
theorem dL_isLaid_311 : decode cL_isLaid 311 = .ok (.iload 11, 2) := by decide +kernel
theorem dL_isLaid_313 : decode cL_isLaid 313 = .ok (.i2f, 1) := by decide +kernel
theorem dL_isLaid_314 : decode cL_isLaid 314 = .ok (.fdiv, 1) := by decide +kernel
theorem dL_isLaid_315 : decode cL_isLaid 315 = .ok (.fcmp .l, 1) := by decide +kernel
theorem dL_isLaid_316 : decode cL_isLaid 316 = .ok (.ifCond .ne 37, 3) := by decide +kernel
theorem dL_isLaid_319 : decode cL_isLaid 319 = .ok (.aload_n 0, 1) := by decide +kernel
theorem dL_isLaid_320 : decode cL_isLaid 320 = .ok (.iload 8, 2) := by decide +kernel
theorem dL_isLaid_322 : decode cL_isLaid 322 = .ok (.iconst 3, 1) := by decide +kernel
theorem dL_isLaid_323 : decode cL_isLaid 323 = .ok (.invokevirtual 59, 3) := by decide +kernel
theorem dL_isLaid_326 : decode cL_isLaid 326 = .ok (.bipush (-9), 2) := by decide +kernel
theorem dL_isLaid_328 : decode cL_isLaid 328 = .ok (.if_icmp .ne 7, 3) := by decide +kernel
theorem dL_isLaid_331 : decode cL_isLaid 331 = .ok (.iconst 1, 1) := by decide +kernel
theorem dL_isLaid_332 : decode cL_isLaid 332 = .ok (.goto 4, 3) := by decide +kernel
theorem dL_isLaid_335 : decode cL_isLaid 335 = .ok (.iconst 0, 1) := by decide +kernel
theorem dL_isLaid_336 : decode cL_isLaid 336 = .ok (.aload_n 0, 1) := by decide +kernel
theorem dL_isLaid_337 : decode cL_isLaid 337 = .ok (.bipush 7, 2) := by decide +kernel
theorem dL_isLaid_339 : decode cL_isLaid 339 = .ok (.invokevirtual 65, 3) := by decide +kernel
theorem dL_isLaid_342 : decode cL_isLaid 342 = .ok (.ifCond .ne 7, 3) := by decide +kernel
theorem dL_isLaid_345 : decode cL_isLaid 345 = .ok (.iconst 1, 1) := by decide +kernel
theorem dL_isLaid_346 : decode cL_isLaid 346 = .ok (.goto 4, 3) := by decide +kernel
theorem dL_isLaid_349 : decode cL_isLaid 349 = .ok (.iconst 0, 1) := by decide +kernel
theorem dL_isLaid_350 : decode cL_isLaid 350 = .ok (.if_icmp .eq 5, 3) := by decide +kernel
theorem dL_isLaid_353 : decode cL_isLaid 353 = .ok (.iconst 0, 1) := by decide +kernel
theorem dL_isLaid_354 : decode cL_isLaid 354 = .ok (.ireturn, 1) := by decide +kernel
theorem dL_isLaid_355 : decode cL_isLaid 355 = .ok (.iload 10, 2) := by decide +kernel
theorem dL_isLaid_357 : decode cL_isLaid 357 = .ok (.ifCond .le 126, 3) := by decide +kernel
theorem dL_isLaid_360 : decode cL_isLaid 360 = .ok (.iload_n 1, 1) := by decide +kernel
theorem dL_isLaid_361 : decode cL_isLaid 361 = .ok (.iload 7, 2) := by decide +kernel
theorem dL_isLaid_363 : decode cL_isLaid 363 = .ok (.ishr, 1) := by decide +kernel
theorem dL_isLaid_364 : decode cL_isLaid 364 = .ok (.iload 10, 2) := by decide +kernel
theorem dL_isLaid_366 : decode cL_isLaid 366 = .ok (.invokestatic 15, 3) := by decide +kernel
theorem dL_isLaid_369 : decode cL_isLaid 369 = .ok (.istore 15, 2) := by decide +kernel
theorem dL_isLaid_371 : decode cL_isLaid 371 = .ok (.aload_n 0, 1) := by decide +kernel
theorem dL_isLaid_372 : decode cL_isLaid 372 = .ok (.iload 8, 2) := by decide +kernel
theorem dL_isLaid_374 : decode cL_isLaid 374 = .ok (.iconst 0, 1) := by decide +kernel
theorem dL_isLaid_375 : decode cL_isLaid 375 = .ok (.invokevirtual 59, 3) := by decide +kernel
theorem dL_isLaid_378 : decode cL_isLaid 378 = .ok (.aload_n 0, 1) := by decide +kernel
theorem dL_isLaid_379 : decode cL_isLaid 379 = .ok (.iconst 0, 1) := by decide +kernel
theorem dL_isLaid_380 : decode cL_isLaid 380 = .ok (.invokevirtual 65, 3) := by decide +kernel
theorem dL_isLaid_383 : decode cL_isLaid 383 = .ok (.imul, 1) := by decide +kernel
theorem dL_isLaid_384 : decode cL_isLaid 384 = .ok (.istore 16, 2) := by decide +kernel
theorem dL_isLaid_386 : decode cL_isLaid 386 = .ok (.aload_n 0, 1) := by decide +kernel
theorem dL_isLaid_387 : decode cL_isLaid 387 = .ok (.iload 4, 2) := by decide +kernel
theorem dL_isLaid_389 : decode cL_isLaid 389 = .ok (.iload 15, 2) := by decide +kernel
theorem dL_isLaid_391 : decode cL_isLaid 391 = .ok (.iadd, 1) := by decide +kernel
theorem dL_isLaid_392 : decode cL_isLaid 392 = .ok (.iconst 0, 1) := by decide +kernel
theorem dL_isLaid_393 : decode cL_isLaid 393 = .ok (.invokevirtual 71, 3) := by decide +kernel
theorem dL_isLaid_396 : decode cL_isLaid 396 = .ok (.iload 8, 2) := by decide +kernel
theorem dL_isLaid_398 : decode cL_isLaid 398 = .ok (.if_icmp .ne 75, 3) := by decide +kernel
theorem dL_isLaid_401 : decode cL_isLaid 401 = .ok (.aload_n 0, 1) := by decide +kernel
theorem dL_isLaid_402 : decode cL_isLaid 402 = .ok (.iload 4, 2) := by decide +kernel
theorem dL_isLaid_404 : decode cL_isLaid 404 = .ok (.iload 15, 2) := by decide +kernel
theorem dL_isLaid_406 : decode cL_isLaid 406 = .ok (.iadd, 1) := by decide +kernel
theorem dL_isLaid_407 : decode cL_isLaid 407 = .ok (.iconst 1, 1) := by decide +kernel
theorem dL_isLaid_408 : decode cL_isLaid 408 = .ok (.invokevirtual 71, 3) := by decide +kernel
theorem dL_isLaid_411 : decode cL_isLaid 411 = .ok (.iload 16, 2) := by decide +kernel
theorem dL_isLaid_413 : decode cL_isLaid 413 = .ok (.iload 15, 2) := by decide +kernel
theorem dL_isLaid_415 : decode cL_isLaid 415 = .ok (.i2l, 1) := by decide +kernel
theorem dL_isLaid_416 : decode cL_isLaid 416 = .ok (.iload 11, 2) := by decide +kernel
theorem dL_isLaid_418 : decode cL_isLaid 418 = .ok (.i2l, 1) := by decide +kernel
theorem dL_isLaid_419 : decode cL_isLaid 419 = .ok (.lmul, 1) := by decide +kernel
theorem dL_isLaid_420 : decode cL_isLaid 420 = .ok (.iload 10, 2) := by decide +kernel
theorem dL_isLaid_422 : decode cL_isLaid 422 = .ok (.i2l, 1) := by decide +kernel
theorem dL_isLaid_423 : decode cL_isLaid 423 = .ok (.ldiv, 1) := by decide +kernel
theorem dL_isLaid_424 : decode cL_isLaid 424 = .ok (.l2i, 1) := by decide +kernel
theorem dL_isLaid_425 : decode cL_isLaid 425 = .ok (.iadd, 1) := by decide +kernel
theorem dL_isLaid_426 : decode cL_isLaid 426 = .ok (.if_icmp .ne 47, 3) := by decide +kernel
theorem dL_isLaid_429 : decode cL_isLaid 429 = .ok (.aload_n 0, 1) := by decide +kernel
theorem dL_isLaid_430 : decode cL_isLaid 430 = .ok (.iload 4, 2) := by decide +kernel
theorem dL_isLaid_432 : decode cL_isLaid 432 = .ok (.iload 15, 2) := by decide +kernel
theorem dL_isLaid_434 : decode cL_isLaid 434 = .ok (.iadd, 1) := by decide +kernel
theorem dL_isLaid_435 : decode cL_isLaid 435 = .ok (.iconst 2, 1) := by decide +kernel
theorem dL_isLaid_436 : decode cL_isLaid 436 = .ok (.invokevirtual 71, 3) := by decide +kernel
theorem dL_isLaid_439 : decode cL_isLaid 439 = .ok (.iload 15, 2) := by decide +kernel
theorem dL_isLaid_441 : decode cL_isLaid 441 = .ok (.iload 10, 2) := by decide +kernel
theorem dL_isLaid_443 : decode cL_isLaid 443 = .ok (.iload 13, 2) := by decide +kernel
theorem dL_isLaid_445 : decode cL_isLaid 445 = .ok (.isub, 1) := by decide +kernel
theorem dL_isLaid_446 : decode cL_isLaid 446 = .ok (.if_icmp .lt 7, 3) := by decide +kernel
theorem dL_isLaid_449 : decode cL_isLaid 449 = .ok (.iconst 1, 1) := by decide +kernel
theorem dL_isLaid_450 : decode cL_isLaid 450 = .ok (.goto 4, 3) := by decide +kernel
theorem dL_isLaid_453 : decode cL_isLaid 453 = .ok (.iconst 0, 1) := by decide +kernel
theorem dL_isLaid_454 : decode cL_isLaid 454 = .ok (.if_icmp .ne 19, 3) := by decide +kernel
theorem dL_isLaid_457 : decode cL_isLaid 457 = .ok (.aload_n 0, 1) := by decide +kernel
theorem dL_isLaid_458 : decode cL_isLaid 458 = .ok (.iload 4, 2) := by decide +kernel
theorem dL_isLaid_460 : decode cL_isLaid 460 = .ok (.iconst 1, 1) := by decide +kernel
theorem dL_isLaid_461 : decode cL_isLaid 461 = .ok (.invokevirtual 71, 3) := by decide +kernel
theorem dL_isLaid_464 : decode cL_isLaid 464 = .ok (.iload 16, 2) := by decide +kernel
theorem dL_isLaid_466 : decode cL_isLaid 466 = .ok (.if_icmp .ne 7, 3) := by decide +kernel
theorem dL_isLaid_469 : decode cL_isLaid 469 = .ok (.iconst 1, 1) := by decide +kernel
theorem dL_isLaid_470 : decode cL_isLaid 470 = .ok (.goto 4, 3) := by decide +kernel
theorem dL_isLaid_473 : decode cL_isLaid 473 = .ok (.iconst 0, 1) := by decide +kernel
theorem dL_isLaid_474 : decode cL_isLaid 474 = .ok (.istore 17, 2) := by decide +kernel
theorem dL_isLaid_476 : decode cL_isLaid 476 = .ok (.iload 17, 2) := by decide +kernel
theorem dL_isLaid_478 : decode cL_isLaid 478 = .ok (.ifCond .ne 5, 3) := by decide +kernel
theorem dL_isLaid_481 : decode cL_isLaid 481 = .ok (.iconst 0, 1) := by decide +kernel
theorem dL_isLaid_482 : decode cL_isLaid 482 = .ok (.ireturn, 1) := by decide +kernel
theorem dL_isLaid_483 : decode cL_isLaid 483 = .ok (.iload 4, 2) := by decide +kernel
theorem dL_isLaid_485 : decode cL_isLaid 485 = .ok (.iload 10, 2) := by decide +kernel
theorem dL_isLaid_487 : decode cL_isLaid 487 = .ok (.iadd, 1) := by decide +kernel
theorem dL_isLaid_488 : decode cL_isLaid 488 = .ok (.istore 4, 2) := by decide +kernel
theorem dL_isLaid_490 : decode cL_isLaid 490 = .ok (.iinc 7 1, 3) := by decide +kernel
theorem dL_isLaid_493 : decode cL_isLaid 493 = .ok (.goto (-383), 3) := by decide +kernel
theorem dL_isLaid_496 : decode cL_isLaid 496 = .ok (.iload 4, 2) := by decide +kernel
theorem dL_isLaid_498 : decode cL_isLaid 498 = .ok (.iload_n 3, 1) := by decide +kernel
theorem dL_isLaid_499 : decode cL_isLaid 499 = .ok (.if_icmp .ne 51, 3) := by decide +kernel
theorem dL_isLaid_502 : decode cL_isLaid 502 = .ok (.aload_n 0, 1) := by decide +kernel
theorem dL_isLaid_503 : decode cL_isLaid 503 = .ok (.iconst 4, 1) := by decide +kernel
theorem dL_isLaid_504 : decode cL_isLaid 504 = .ok (.invokevirtual 9, 3) := by decide +kernel
theorem dL_isLaid_507 : decode cL_isLaid 507 = .ok (.iload 6, 2) := by decide +kernel
theorem dL_isLaid_509 : decode cL_isLaid 509 = .ok (.if_icmp .ne 41, 3) := by decide +kernel
theorem dL_isLaid_512 : decode cL_isLaid 512 = .ok (.aload_n 0, 1) := by decide +kernel
theorem dL_isLaid_513 : decode cL_isLaid 513 = .ok (.iconst 5, 1) := by decide +kernel
theorem dL_isLaid_514 : decode cL_isLaid 514 = .ok (.invokevirtual 9, 3) := by decide +kernel
theorem dL_isLaid_517 : decode cL_isLaid 517 = .ok (.iload 5, 2) := by decide +kernel
theorem dL_isLaid_519 : decode cL_isLaid 519 = .ok (.if_icmp .ne 31, 3) := by decide +kernel
theorem dL_isLaid_522 : decode cL_isLaid 522 = .ok (.aload_n 0, 1) := by decide +kernel
theorem dL_isLaid_523 : decode cL_isLaid 523 = .ok (.bipush 7, 2) := by decide +kernel
theorem dL_isLaid_525 : decode cL_isLaid 525 = .ok (.invokevirtual 65, 3) := by decide +kernel
theorem dL_isLaid_528 : decode cL_isLaid 528 = .ok (.ifCond .eq 8, 3) := by decide +kernel
theorem dL_isLaid_531 : decode cL_isLaid 531 = .ok (.iload 6, 2) := by decide +kernel
theorem dL_isLaid_533 : decode cL_isLaid 533 = .ok (.ifCond .ne 17, 3) := by decide +kernel
theorem dL_isLaid_536 : decode cL_isLaid 536 = .ok (.aload_n 0, 1) := by decide +kernel
theorem dL_isLaid_537 : decode cL_isLaid 537 = .ok (.iload_n 3, 1) := by decide +kernel
theorem dL_isLaid_538 : decode cL_isLaid 538 = .ok (.iconst 0, 1) := by decide +kernel
theorem dL_isLaid_539 : decode cL_isLaid 539 = .ok (.invokevirtual 71, 3) := by decide +kernel
theorem dL_isLaid_542 : decode cL_isLaid 542 = .ok (.iconst (-1), 1) := by decide +kernel
theorem dL_isLaid_543 : decode cL_isLaid 543 = .ok (.if_icmp .ne 7, 3) := by decide +kernel
theorem dL_isLaid_546 : decode cL_isLaid 546 = .ok (.iconst 1, 1) := by decide +kernel
theorem dL_isLaid_547 : decode cL_isLaid 547 = .ok (.goto 4, 3) := by decide +kernel
theorem dL_isLaid_550 : decode cL_isLaid 550 = .ok (.iconst 0, 1) := by decide +kernel
theorem dL_isLaid_551 : decode cL_isLaid 551 = .ok (.ireturn, 1) := by decide +kernel
