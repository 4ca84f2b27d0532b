/-! the law: its names, instructions, what its calls need (printed) -/
theorem dL_cell_0 : decode cL_cell 0 = .ok (.iload_n 1, 1) := by decide +kernel
theorem dL_cell_1 : decode cL_cell 1 = .ok (.aload_n 0, 1) := by decide +kernel
theorem dL_cell_2 : decode cL_cell 2 = .ok (.arraylength, 1) := by decide +kernel
theorem dL_cell_3 : decode cL_cell 3 = .ok (.if_icmp .ge 9, 3) := by decide +kernel
theorem dL_cell_6 : decode cL_cell 6 = .ok (.aload_n 0, 1) := by decide +kernel
theorem dL_cell_7 : decode cL_cell 7 = .ok (.iload_n 1, 1) := by decide +kernel
theorem dL_cell_8 : decode cL_cell 8 = .ok (.iaload, 1) := by decide +kernel
theorem dL_cell_9 : decode cL_cell 9 = .ok (.goto 9, 3) := by decide +kernel
theorem dL_cell_12 : decode cL_cell 12 = .ok (.ldc 7, 2) := by decide +kernel
theorem dL_cell_14 : decode cL_cell 14 = .ok (.iload_n 1, 1) := by decide +kernel
theorem dL_cell_15 : decode cL_cell 15 = .ok (.iconst 1, 1) := by decide +kernel
theorem dL_cell_16 : decode cL_cell 16 = .ok (.iadd, 1) := by decide +kernel
theorem dL_cell_17 : decode cL_cell 17 = .ok (.imul, 1) := by decide +kernel
theorem dL_cell_18 : decode cL_cell 18 = .ok (.ireturn, 1) := by decide +kernel
theorem dL_low_0 : decode cL_low 0 = .ok (.iload_n 0, 1) := by decide +kernel
theorem dL_low_1 : decode cL_low 1 = .ok (.ldc 8, 2) := by decide +kernel
theorem dL_low_3 : decode cL_low 3 = .ok (.iand, 1) := by decide +kernel
theorem dL_low_4 : decode cL_low 4 = .ok (.iload_n 1, 1) := by decide +kernel
theorem dL_low_5 : decode cL_low 5 = .ok (.irem, 1) := by decide +kernel
theorem dL_low_6 : decode cL_low 6 = .ok (.ireturn, 1) := by decide +kernel
theorem dL_change_0 : decode cL_change 0 = .ok (.aload_n 0, 1) := by decide +kernel
theorem dL_change_1 : decode cL_change 1 = .ok (.iconst 0, 1) := by decide +kernel
theorem dL_change_2 : decode cL_change 2 = .ok (.invokevirtual 9, 3) := by decide +kernel
theorem dL_change_5 : decode cL_change 5 = .ok (.istore_n 3, 1) := by decide +kernel
theorem dL_change_6 : decode cL_change 6 = .ok (.aload_n 0, 1) := by decide +kernel
theorem dL_change_7 : decode cL_change 7 = .ok (.iconst 2, 1) := by decide +kernel
theorem dL_change_8 : decode cL_change 8 = .ok (.invokevirtual 9, 3) := by decide +kernel
theorem dL_change_11 : decode cL_change 11 = .ok (.istore 4, 2) := by decide +kernel
theorem dL_change_13 : decode cL_change 13 = .ok (.iload_n 1, 1) := by decide +kernel
theorem dL_change_14 : decode cL_change 14 = .ok (.bipush 22, 2) := by decide +kernel
theorem dL_change_16 : decode cL_change 16 = .ok (.invokestatic 15, 3) := by decide +kernel
theorem dL_change_19 : decode cL_change 19 = .ok (.tableswitch 429 0 20 #[97, 127, 127, 127, 165, 180, 195, 208, 253, 268, 283, 283, 295, 309, 314, 314, 314, 324, 353, 390, 424], 97) := by decide +kernel
theorem dL_change_116 : decode cL_change 116 = .ok (.iload_n 2, 1) := by decide +kernel
theorem dL_change_117 : decode cL_change 117 = .ok (.iconst 4, 1) := by decide +kernel
theorem dL_change_118 : decode cL_change 118 = .ok (.invokestatic 15, 3) := by decide +kernel
theorem dL_change_121 : decode cL_change 121 = .ok (.ifCond .ne 20, 3) := by decide +kernel
theorem dL_change_124 : decode cL_change 124 = .ok (.aload_n 0, 1) := by decide +kernel
theorem dL_change_125 : decode cL_change 125 = .ok (.iconst 1, 1) := by decide +kernel
theorem dL_change_126 : decode cL_change 126 = .ok (.iload_n 2, 1) := by decide +kernel
theorem dL_change_127 : decode cL_change 127 = .ok (.iconst 2, 1) := by decide +kernel
theorem dL_change_128 : decode cL_change 128 = .ok (.ishr, 1) := by decide +kernel
theorem dL_change_129 : decode cL_change 129 = .ok (.bipush 64, 2) := by decide +kernel
theorem dL_change_131 : decode cL_change 131 = .ok (.invokestatic 15, 3) := by decide +kernel
theorem dL_change_134 : decode cL_change 134 = .ok (.iadd, 1) := by decide +kernel
theorem dL_change_135 : decode cL_change 135 = .ok (.invokevirtual 21, 3) := by decide +kernel
theorem dL_change_138 : decode cL_change 138 = .ok (.goto 7, 3) := by decide +kernel
theorem dL_change_141 : decode cL_change 141 = .ok (.aload_n 0, 1) := by decide +kernel
theorem dL_change_142 : decode cL_change 142 = .ok (.invokevirtual 24, 3) := by decide +kernel
theorem dL_change_145 : decode cL_change 145 = .ok (.ireturn, 1) := by decide +kernel
theorem dL_change_146 : decode cL_change 146 = .ok (.iload_n 2, 1) := by decide +kernel
theorem dL_change_147 : decode cL_change 147 = .ok (.iload_n 3, 1) := by decide +kernel
theorem dL_change_148 : decode cL_change 148 = .ok (.invokestatic 15, 3) := by decide +kernel
theorem dL_change_151 : decode cL_change 151 = .ok (.istore 5, 2) := by decide +kernel
theorem dL_change_153 : decode cL_change 153 = .ok (.aload_n 0, 1) := by decide +kernel
theorem dL_change_154 : decode cL_change 154 = .ok (.iload 5, 2) := by decide +kernel
theorem dL_change_156 : decode cL_change 156 = .ok (.iload 5, 2) := by decide +kernel
theorem dL_change_158 : decode cL_change 158 = .ok (.iload_n 2, 1) := by decide +kernel
theorem dL_change_159 : decode cL_change 159 = .ok (.bipush 6, 2) := by decide +kernel
theorem dL_change_161 : decode cL_change 161 = .ok (.ishr, 1) := by decide +kernel
theorem dL_change_162 : decode cL_change 162 = .ok (.iload_n 3, 1) := by decide +kernel
theorem dL_change_163 : decode cL_change 163 = .ok (.iload 5, 2) := by decide +kernel
theorem dL_change_165 : decode cL_change 165 = .ok (.isub, 1) := by decide +kernel
theorem dL_change_166 : decode cL_change 166 = .ok (.invokestatic 15, 3) := by decide +kernel
theorem dL_change_169 : decode cL_change 169 = .ok (.iadd, 1) := by decide +kernel
theorem dL_change_170 : decode cL_change 170 = .ok (.iload_n 2, 1) := by decide +kernel
theorem dL_change_171 : decode cL_change 171 = .ok (.bipush 12, 2) := by decide +kernel
theorem dL_change_173 : decode cL_change 173 = .ok (.ishr, 1) := by decide +kernel
theorem dL_change_174 : decode cL_change 174 = .ok (.sipush 1000, 3) := by decide +kernel
theorem dL_change_177 : decode cL_change 177 = .ok (.invokestatic 15, 3) := by decide +kernel
theorem dL_change_180 : decode cL_change 180 = .ok (.invokevirtual 28, 3) := by decide +kernel
theorem dL_change_183 : decode cL_change 183 = .ok (.ireturn, 1) := by decide +kernel
theorem dL_change_184 : decode cL_change 184 = .ok (.aload_n 0, 1) := by decide +kernel
theorem dL_change_185 : decode cL_change 185 = .ok (.iconst 0, 1) := by decide +kernel
theorem dL_change_186 : decode cL_change 186 = .ok (.iconst 1, 1) := by decide +kernel
theorem dL_change_187 : decode cL_change 187 = .ok (.iload_n 2, 1) := by decide +kernel
theorem dL_change_188 : decode cL_change 188 = .ok (.sipush 300, 3) := by decide +kernel
theorem dL_change_191 : decode cL_change 191 = .ok (.invokestatic 15, 3) := by decide +kernel
theorem dL_change_194 : decode cL_change 194 = .ok (.iadd, 1) := by decide +kernel
theorem dL_change_195 : decode cL_change 195 = .ok (.invokevirtual 32, 3) := by decide +kernel
theorem dL_change_198 : decode cL_change 198 = .ok (.ireturn, 1) := by decide +kernel
theorem dL_change_199 : decode cL_change 199 = .ok (.aload_n 0, 1) := by decide +kernel
theorem dL_change_200 : decode cL_change 200 = .ok (.iconst 1, 1) := by decide +kernel
theorem dL_change_201 : decode cL_change 201 = .ok (.iconst 1, 1) := by decide +kernel
theorem dL_change_202 : decode cL_change 202 = .ok (.iload_n 2, 1) := by decide +kernel
theorem dL_change_203 : decode cL_change 203 = .ok (.sipush 600, 3) := by decide +kernel
theorem dL_change_206 : decode cL_change 206 = .ok (.invokestatic 15, 3) := by decide +kernel
theorem dL_change_209 : decode cL_change 209 = .ok (.iadd, 1) := by decide +kernel
theorem dL_change_210 : decode cL_change 210 = .ok (.invokevirtual 32, 3) := by decide +kernel
theorem dL_change_213 : decode cL_change 213 = .ok (.ireturn, 1) := by decide +kernel
theorem dL_change_214 : decode cL_change 214 = .ok (.aload_n 0, 1) := by decide +kernel
theorem dL_change_215 : decode cL_change 215 = .ok (.iconst 2, 1) := by decide +kernel
theorem dL_change_216 : decode cL_change 216 = .ok (.iconst 1, 1) := by decide +kernel
theorem dL_change_217 : decode cL_change 217 = .ok (.iload_n 2, 1) := by decide +kernel
theorem dL_change_218 : decode cL_change 218 = .ok (.iconst 5, 1) := by decide +kernel
theorem dL_change_219 : decode cL_change 219 = .ok (.invokestatic 15, 3) := by decide +kernel
theorem dL_change_222 : decode cL_change 222 = .ok (.iadd, 1) := by decide +kernel
theorem dL_change_223 : decode cL_change 223 = .ok (.invokevirtual 32, 3) := by decide +kernel
theorem dL_change_226 : decode cL_change 226 = .ok (.ireturn, 1) := by decide +kernel
theorem dL_change_227 : decode cL_change 227 = .ok (.iload_n 2, 1) := by decide +kernel
theorem dL_change_228 : decode cL_change 228 = .ok (.iconst 2, 1) := by decide +kernel
theorem dL_change_229 : decode cL_change 229 = .ok (.invokestatic 15, 3) := by decide +kernel
theorem dL_change_232 : decode cL_change 232 = .ok (.ifCond .ne 22, 3) := by decide +kernel
theorem dL_change_235 : decode cL_change 235 = .ok (.aload_n 0, 1) := by decide +kernel
theorem dL_change_236 : decode cL_change 236 = .ok (.iconst 3, 1) := by decide +kernel
theorem dL_change_237 : decode cL_change 237 = .ok (.bipush 10, 2) := by decide +kernel
theorem dL_change_239 : decode cL_change 239 = .ok (.iload_n 2, 1) := by decide +kernel
theorem dL_change_240 : decode cL_change 240 = .ok (.iconst 1, 1) := by decide +kernel
theorem dL_change_241 : decode cL_change 241 = .ok (.ishr, 1) := by decide +kernel
theorem dL_change_242 : decode cL_change 242 = .ok (.bipush 91, 2) := by decide +kernel
theorem dL_change_244 : decode cL_change 244 = .ok (.invokestatic 15, 3) := by decide +kernel
theorem dL_change_247 : decode cL_change 247 = .ok (.iadd, 1) := by decide +kernel
theorem dL_change_248 : decode cL_change 248 = .ok (.invokevirtual 32, 3) := by decide +kernel
theorem dL_change_251 : decode cL_change 251 = .ok (.goto 20, 3) := by decide +kernel
theorem dL_change_254 : decode cL_change 254 = .ok (.aload_n 0, 1) := by decide +kernel
theorem dL_change_255 : decode cL_change 255 = .ok (.iconst 4, 1) := by decide +kernel
theorem dL_change_256 : decode cL_change 256 = .ok (.bipush 100, 2) := by decide +kernel
theorem dL_change_258 : decode cL_change 258 = .ok (.iload_n 2, 1) := by decide +kernel
theorem dL_change_259 : decode cL_change 259 = .ok (.iconst 1, 1) := by decide +kernel
theorem dL_change_260 : decode cL_change 260 = .ok (.ishr, 1) := by decide +kernel
theorem dL_change_261 : decode cL_change 261 = .ok (.sipush 901, 3) := by decide +kernel
theorem dL_change_264 : decode cL_change 264 = .ok (.invokestatic 15, 3) := by decide +kernel
theorem dL_change_267 : decode cL_change 267 = .ok (.iadd, 1) := by decide +kernel
theorem dL_change_268 : decode cL_change 268 = .ok (.invokevirtual 32, 3) := by decide +kernel
theorem dL_change_271 : decode cL_change 271 = .ok (.ireturn, 1) := by decide +kernel
theorem dL_change_272 : decode cL_change 272 = .ok (.aload_n 0, 1) := by decide +kernel
theorem dL_change_273 : decode cL_change 273 = .ok (.iconst 5, 1) := by decide +kernel
theorem dL_change_274 : decode cL_change 274 = .ok (.iconst 1, 1) := by decide +kernel
theorem dL_change_275 : decode cL_change 275 = .ok (.iload_n 2, 1) := by decide +kernel
theorem dL_change_276 : decode cL_change 276 = .ok (.sipush 9000, 3) := by decide +kernel
theorem dL_change_279 : decode cL_change 279 = .ok (.invokestatic 15, 3) := by decide +kernel
theorem dL_change_282 : decode cL_change 282 = .ok (.iadd, 1) := by decide +kernel
theorem dL_change_283 : decode cL_change 283 = .ok (.invokevirtual 32, 3) := by decide +kernel
theorem dL_change_286 : decode cL_change 286 = .ok (.ireturn, 1) := by decide +kernel
theorem dL_change_287 : decode cL_change 287 = .ok (.aload_n 0, 1) := by decide +kernel
theorem dL_change_288 : decode cL_change 288 = .ok (.bipush 6, 2) := by decide +kernel
theorem dL_change_290 : decode cL_change 290 = .ok (.iconst 1, 1) := by decide +kernel
theorem dL_change_291 : decode cL_change 291 = .ok (.iload_n 2, 1) := by decide +kernel
theorem dL_change_292 : decode cL_change 292 = .ok (.bipush 32, 2) := by decide +kernel
theorem dL_change_294 : decode cL_change 294 = .ok (.invokestatic 15, 3) := by decide +kernel
theorem dL_change_297 : decode cL_change 297 = .ok (.iadd, 1) := by decide +kernel
theorem dL_change_298 : decode cL_change 298 = .ok (.invokevirtual 32, 3) := by decide +kernel
theorem dL_change_301 : decode cL_change 301 = .ok (.ireturn, 1) := by decide +kernel
theorem dL_change_302 : decode cL_change 302 = .ok (.aload_n 0, 1) := by decide +kernel
theorem dL_change_303 : decode cL_change 303 = .ok (.bipush 7, 2) := by decide +kernel
theorem dL_change_305 : decode cL_change 305 = .ok (.iload_n 2, 1) := by decide +kernel
theorem dL_change_306 : decode cL_change 306 = .ok (.iconst 2, 1) := by decide +kernel
theorem dL_change_307 : decode cL_change 307 = .ok (.invokestatic 15, 3) := by decide +kernel
theorem dL_change_310 : decode cL_change 310 = .ok (.invokevirtual 32, 3) := by decide +kernel
theorem dL_change_313 : decode cL_change 313 = .ok (.ireturn, 1) := by decide +kernel
theorem dL_change_314 : decode cL_change 314 = .ok (.aload_n 0, 1) := by decide +kernel
theorem dL_change_315 : decode cL_change 315 = .ok (.bipush 8, 2) := by decide +kernel
theorem dL_change_317 : decode cL_change 317 = .ok (.iload_n 2, 1) := by decide +kernel
theorem dL_change_318 : decode cL_change 318 = .ok (.sipush 501, 3) := by decide +kernel
theorem dL_change_321 : decode cL_change 321 = .ok (.invokestatic 15, 3) := by decide +kernel
theorem dL_change_324 : decode cL_change 324 = .ok (.invokevirtual 32, 3) := by decide +kernel
theorem dL_change_327 : decode cL_change 327 = .ok (.ireturn, 1) := by decide +kernel
theorem dL_change_328 : decode cL_change 328 = .ok (.aload_n 0, 1) := by decide +kernel
theorem dL_change_329 : decode cL_change 329 = .ok (.invokevirtual 24, 3) := by decide +kernel
theorem dL_change_332 : decode cL_change 332 = .ok (.ireturn, 1) := by decide +kernel
theorem dL_change_333 : decode cL_change 333 = .ok (.aload_n 0, 1) := by decide +kernel
theorem dL_change_334 : decode cL_change 334 = .ok (.iload_n 2, 1) := by decide +kernel
theorem dL_change_335 : decode cL_change 335 = .ok (.iload_n 3, 1) := by decide +kernel
theorem dL_change_336 : decode cL_change 336 = .ok (.invokestatic 15, 3) := by decide +kernel
theorem dL_change_339 : decode cL_change 339 = .ok (.invokevirtual 35, 3) := by decide +kernel
theorem dL_change_342 : decode cL_change 342 = .ok (.ireturn, 1) := by decide +kernel
theorem dL_change_343 : decode cL_change 343 = .ok (.iload 4, 2) := by decide +kernel
theorem dL_change_345 : decode cL_change 345 = .ok (.iconst 2, 1) := by decide +kernel
theorem dL_change_346 : decode cL_change 346 = .ok (.if_icmp .ge 11, 3) := by decide +kernel
theorem dL_change_349 : decode cL_change 349 = .ok (.aload_n 0, 1) := by decide +kernel
theorem dL_change_350 : decode cL_change 350 = .ok (.iconst 0, 1) := by decide +kernel
theorem dL_change_351 : decode cL_change 351 = .ok (.invokevirtual 38, 3) := by decide +kernel
theorem dL_change_354 : decode cL_change 354 = .ok (.goto 17, 3) := by decide +kernel
theorem dL_change_357 : decode cL_change 357 = .ok (.aload_n 0, 1) := by decide +kernel
theorem dL_change_358 : decode cL_change 358 = .ok (.iconst 1, 1) := by decide +kernel
theorem dL_change_359 : decode cL_change 359 = .ok (.iload_n 2, 1) := by decide +kernel
theorem dL_change_360 : decode cL_change 360 = .ok (.iload 4, 2) := by decide +kernel
theorem dL_change_362 : decode cL_change 362 = .ok (.iconst 1, 1) := by decide +kernel
theorem dL_change_363 : decode cL_change 363 = .ok (.isub, 1) := by decide +kernel
theorem dL_change_364 : decode cL_change 364 = .ok (.invokestatic 15, 3) := by decide +kernel
theorem dL_change_367 : decode cL_change 367 = .ok (.iadd, 1) := by decide +kernel
theorem dL_change_368 : decode cL_change 368 = .ok (.invokevirtual 38, 3) := by decide +kernel
theorem dL_change_371 : decode cL_change 371 = .ok (.ireturn, 1) := by decide +kernel
theorem dL_change_372 : decode cL_change 372 = .ok (.iload 4, 2) := by decide +kernel
theorem dL_change_374 : decode cL_change 374 = .ok (.iconst 2, 1) := by decide +kernel
theorem dL_change_375 : decode cL_change 375 = .ok (.if_icmp .ge 12, 3) := by decide +kernel
theorem dL_change_378 : decode cL_change 378 = .ok (.aload_n 0, 1) := by decide +kernel
theorem dL_change_379 : decode cL_change 379 = .ok (.iconst 0, 1) := by decide +kernel
theorem dL_change_380 : decode cL_change 380 = .ok (.iconst 0, 1) := by decide +kernel
theorem dL_change_381 : decode cL_change 381 = .ok (.invokevirtual 41, 3) := by decide +kernel
theorem dL_change_384 : decode cL_change 384 = .ok (.goto 24, 3) := by decide +kernel
theorem dL_change_387 : decode cL_change 387 = .ok (.aload_n 0, 1) := by decide +kernel
theorem dL_change_388 : decode cL_change 388 = .ok (.iconst 1, 1) := by decide +kernel
theorem dL_change_389 : decode cL_change 389 = .ok (.iload_n 2, 1) := by decide +kernel
theorem dL_change_390 : decode cL_change 390 = .ok (.iload 4, 2) := by decide +kernel
theorem dL_change_392 : decode cL_change 392 = .ok (.iconst 1, 1) := by decide +kernel
theorem dL_change_393 : decode cL_change 393 = .ok (.isub, 1) := by decide +kernel
theorem dL_change_394 : decode cL_change 394 = .ok (.invokestatic 15, 3) := by decide +kernel
theorem dL_change_397 : decode cL_change 397 = .ok (.iadd, 1) := by decide +kernel
theorem dL_change_398 : decode cL_change 398 = .ok (.iload_n 2, 1) := by decide +kernel
theorem dL_change_399 : decode cL_change 399 = .ok (.iconst 4, 1) := by decide +kernel
theorem dL_change_400 : decode cL_change 400 = .ok (.ishr, 1) := by decide +kernel
theorem dL_change_401 : decode cL_change 401 = .ok (.iload_n 3, 1) := by decide +kernel
theorem dL_change_402 : decode cL_change 402 = .ok (.invokestatic 15, 3) := by decide +kernel
theorem dL_change_405 : decode cL_change 405 = .ok (.invokevirtual 41, 3) := by decide +kernel
theorem dL_change_408 : decode cL_change 408 = .ok (.ireturn, 1) := by decide +kernel
theorem dL_change_409 : decode cL_change 409 = .ok (.iload_n 2, 1) := by decide +kernel
theorem dL_change_410 : decode cL_change 410 = .ok (.iconst 3, 1) := by decide +kernel
theorem dL_change_411 : decode cL_change 411 = .ok (.invokestatic 15, 3) := by decide +kernel
theorem dL_change_414 : decode cL_change 414 = .ok (.ifCond .ne 10, 3) := by decide +kernel
theorem dL_change_417 : decode cL_change 417 = .ok (.aload_n 0, 1) := by decide +kernel
theorem dL_change_418 : decode cL_change 418 = .ok (.invokevirtual 44, 3) := by decide +kernel
theorem dL_change_421 : decode cL_change 421 = .ok (.goto 21, 3) := by decide +kernel
theorem dL_change_424 : decode cL_change 424 = .ok (.aload_n 0, 1) := by decide +kernel
theorem dL_change_425 : decode cL_change 425 = .ok (.iload_n 2, 1) := by decide +kernel
theorem dL_change_426 : decode cL_change 426 = .ok (.iload 4, 2) := by decide +kernel
theorem dL_change_428 : decode cL_change 428 = .ok (.invokestatic 15, 3) := by decide +kernel
theorem dL_change_431 : decode cL_change 431 = .ok (.iload_n 2, 1) := by decide +kernel
theorem dL_change_432 : decode cL_change 432 = .ok (.iconst 4, 1) := by decide +kernel
theorem dL_change_433 : decode cL_change 433 = .ok (.ishr, 1) := by decide +kernel
theorem dL_change_434 : decode cL_change 434 = .ok (.iload 4, 2) := by decide +kernel
theorem dL_change_436 : decode cL_change 436 = .ok (.invokestatic 15, 3) := by decide +kernel
theorem dL_change_439 : decode cL_change 439 = .ok (.invokevirtual 47, 3) := by decide +kernel
theorem dL_change_442 : decode cL_change 442 = .ok (.ireturn, 1) := by decide +kernel
theorem dL_change_443 : decode cL_change 443 = .ok (.aload_n 0, 1) := by decide +kernel
theorem dL_change_444 : decode cL_change 444 = .ok (.invokevirtual 50, 3) := by decide +kernel
theorem dL_change_447 : decode cL_change 447 = .ok (.ireturn, 1) := by decide +kernel
theorem dL_change_448 : decode cL_change 448 = .ok (.iload_n 2, 1) := by decide +kernel
theorem dL_change_449 : decode cL_change 449 = .ok (.iconst 2, 1) := by decide +kernel
theorem dL_change_450 : decode cL_change 450 = .ok (.invokestatic 15, 3) := by decide +kernel
theorem dL_change_453 : decode cL_change 453 = .ok (.ifCond .ne 17, 3) := by decide +kernel
theorem dL_change_456 : decode cL_change 456 = .ok (.aload_n 0, 1) := by decide +kernel
theorem dL_change_457 : decode cL_change 457 = .ok (.iload_n 2, 1) := by decide +kernel
theorem dL_change_458 : decode cL_change 458 = .ok (.iconst 1, 1) := by decide +kernel
theorem dL_change_459 : decode cL_change 459 = .ok (.ishr, 1) := by decide +kernel
theorem dL_change_460 : decode cL_change 460 = .ok (.iconst 2, 1) := by decide +kernel
theorem dL_change_461 : decode cL_change 461 = .ok (.invokestatic 15, 3) := by decide +kernel
theorem dL_change_464 : decode cL_change 464 = .ok (.invokevirtual 53, 3) := by decide +kernel
theorem dL_change_467 : decode cL_change 467 = .ok (.goto 14, 3) := by decide +kernel
theorem dL_change_470 : decode cL_change 470 = .ok (.aload_n 0, 1) := by decide +kernel
theorem dL_change_471 : decode cL_change 471 = .ok (.iload_n 2, 1) := by decide +kernel
theorem dL_change_472 : decode cL_change 472 = .ok (.iconst 1, 1) := by decide +kernel
theorem dL_change_473 : decode cL_change 473 = .ok (.ishr, 1) := by decide +kernel
theorem dL_change_474 : decode cL_change 474 = .ok (.iconst 2, 1) := by decide +kernel
theorem dL_change_475 : decode cL_change 475 = .ok (.invokestatic 15, 3) := by decide +kernel
theorem dL_change_478 : decode cL_change 478 = .ok (.invokevirtual 56, 3) := by decide +kernel
theorem dL_change_481 : decode cL_change 481 = .ok (.ireturn, 1) := by decide +kernel
