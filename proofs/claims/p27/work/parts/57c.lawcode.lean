/-! the law: its names, instructions, what its calls need (printed) -/
theorem dL_areSlices_0 : decode cL_areSlices 0 = .ok (.aload_n 0, 1) := by decide +kernel
theorem dL_areSlices_1 : decode cL_areSlices 1 = .ok (.iconst 2, 1) := by decide +kernel
theorem dL_areSlices_2 : decode cL_areSlices 2 = .ok (.invokevirtual 9, 3) := by decide +kernel
theorem dL_areSlices_5 : decode cL_areSlices 5 = .ok (.istore_n 1, 1) := by decide +kernel
theorem dL_areSlices_6 : decode cL_areSlices 6 = .ok (.iconst 0, 1) := by decide +kernel
theorem dL_areSlices_7 : decode cL_areSlices 7 = .ok (.istore_n 2, 1) := by decide +kernel
theorem dL_areSlices_8 : decode cL_areSlices 8 = .ok (.iconst 0, 1) := by decide +kernel
theorem dL_areSlices_9 : decode cL_areSlices 9 = .ok (.istore_n 3, 1) := by decide +kernel
theorem dL_areSlices_10 : decode cL_areSlices 10 = .ok (.iconst 0, 1) := by decide +kernel
theorem dL_areSlices_11 : decode cL_areSlices 11 = .ok (.istore 4, 2) := by decide +kernel
theorem dL_areSlices_13 : decode cL_areSlices 13 = .ok (.iload 4, 2) := by decide +kernel
theorem dL_areSlices_15 : decode cL_areSlices 15 = .ok (.iload_n 1, 1) := by decide +kernel
theorem dL_areSlices_16 : decode cL_areSlices 16 = .ok (.if_icmp .ge 217, 3) := by decide +kernel
theorem dL_areSlices_19 : decode cL_areSlices 19 = .ok (.aload_n 0, 1) := by decide +kernel
theorem dL_areSlices_20 : decode cL_areSlices 20 = .ok (.iload 4, 2) := by decide +kernel
theorem dL_areSlices_22 : decode cL_areSlices 22 = .ok (.iconst 0, 1) := by decide +kernel
theorem dL_areSlices_23 : decode cL_areSlices 23 = .ok (.invokevirtual 59, 3) := by decide +kernel
theorem dL_areSlices_26 : decode cL_areSlices 26 = .ok (.istore 5, 2) := by decide +kernel
theorem dL_areSlices_28 : decode cL_areSlices 28 = .ok (.iload 4, 2) := by decide +kernel
theorem dL_areSlices_30 : decode cL_areSlices 30 = .ok (.iconst 1, 1) := by decide +kernel
theorem dL_areSlices_31 : decode cL_areSlices 31 = .ok (.iadd, 1) := by decide +kernel
theorem dL_areSlices_32 : decode cL_areSlices 32 = .ok (.iload_n 1, 1) := by decide +kernel
theorem dL_areSlices_33 : decode cL_areSlices 33 = .ok (.if_icmp .ge 15, 3) := by decide +kernel
theorem dL_areSlices_36 : decode cL_areSlices 36 = .ok (.aload_n 0, 1) := by decide +kernel
theorem dL_areSlices_37 : decode cL_areSlices 37 = .ok (.iload 4, 2) := by decide +kernel
theorem dL_areSlices_39 : decode cL_areSlices 39 = .ok (.iconst 1, 1) := by decide +kernel
theorem dL_areSlices_40 : decode cL_areSlices 40 = .ok (.iadd, 1) := by decide +kernel
theorem dL_areSlices_41 : decode cL_areSlices 41 = .ok (.iconst 0, 1) := by decide +kernel
theorem dL_areSlices_42 : decode cL_areSlices 42 = .ok (.invokevirtual 59, 3) := by decide +kernel
theorem dL_areSlices_45 : decode cL_areSlices 45 = .ok (.goto 8, 3) := by decide +kernel
theorem dL_areSlices_48 : decode cL_areSlices 48 = .ok (.aload_n 0, 1) := by decide +kernel
theorem dL_areSlices_49 : decode cL_areSlices 49 = .ok (.iconst 0, 1) := by decide +kernel
theorem dL_areSlices_50 : decode cL_areSlices 50 = .ok (.invokevirtual 9, 3) := by decide +kernel
theorem dL_areSlices_53 : decode cL_areSlices 53 = .ok (.istore 6, 2) := by decide +kernel
theorem dL_areSlices_55 : decode cL_areSlices 55 = .ok (.iload_n 2, 1) := by decide +kernel
theorem dL_areSlices_56 : decode cL_areSlices 56 = .ok (.aload_n 0, 1) := by decide +kernel
theorem dL_areSlices_57 : decode cL_areSlices 57 = .ok (.iload 4, 2) := by decide +kernel
theorem dL_areSlices_59 : decode cL_areSlices 59 = .ok (.iconst 1, 1) := by decide +kernel
theorem dL_areSlices_60 : decode cL_areSlices 60 = .ok (.invokevirtual 59, 3) := by decide +kernel
theorem dL_areSlices_63 : decode cL_areSlices 63 = .ok (.iadd, 1) := by decide +kernel
theorem dL_areSlices_64 : decode cL_areSlices 64 = .ok (.istore_n 2, 1) := by decide +kernel
theorem dL_areSlices_65 : decode cL_areSlices 65 = .ok (.iload_n 3, 1) := by decide +kernel
theorem dL_areSlices_66 : decode cL_areSlices 66 = .ok (.iconst 1, 1) := by decide +kernel
theorem dL_areSlices_67 : decode cL_areSlices 67 = .ok (.aload_n 0, 1) := by decide +kernel
theorem dL_areSlices_68 : decode cL_areSlices 68 = .ok (.iload 4, 2) := by decide +kernel
theorem dL_areSlices_70 : decode cL_areSlices 70 = .ok (.invokevirtual 62, 3) := by decide +kernel
theorem dL_areSlices_73 : decode cL_areSlices 73 = .ok (.ishl, 1) := by decide +kernel
theorem dL_areSlices_74 : decode cL_areSlices 74 = .ok (.ior, 1) := by decide +kernel
theorem dL_areSlices_75 : decode cL_areSlices 75 = .ok (.istore_n 3, 1) := by decide +kernel
theorem dL_areSlices_76 : decode cL_areSlices 76 = .ok (.aload_n 0, 1) := by decide +kernel
theorem dL_areSlices_77 : decode cL_areSlices 77 = .ok (.iload 4, 2) := by decide +kernel
theorem dL_areSlices_79 : decode cL_areSlices 79 = .ok (.bipush 7, 2) := by decide +kernel
theorem dL_areSlices_81 : decode cL_areSlices 81 = .ok (.invokevirtual 59, 3) := by decide +kernel
theorem dL_areSlices_84 : decode cL_areSlices 84 = .ok (.istore 7, 2) := by decide +kernel
theorem dL_areSlices_86 : decode cL_areSlices 86 = .ok (.iload 6, 2) := by decide +kernel
theorem dL_areSlices_88 : decode cL_areSlices 88 = .ok (.iload 5, 2) := by decide +kernel
theorem dL_areSlices_90 : decode cL_areSlices 90 = .ok (.if_icmp .le 58, 3) := by decide +kernel
theorem dL_areSlices_93 : decode cL_areSlices 93 = .ok (.aload_n 0, 1) := by decide +kernel
theorem dL_areSlices_94 : decode cL_areSlices 94 = .ok (.iload 4, 2) := by decide +kernel
theorem dL_areSlices_96 : decode cL_areSlices 96 = .ok (.iconst 1, 1) := by decide +kernel
theorem dL_areSlices_97 : decode cL_areSlices 97 = .ok (.invokevirtual 59, 3) := by decide +kernel
theorem dL_areSlices_100 : decode cL_areSlices 100 = .ok (.iload 6, 2) := by decide +kernel
theorem dL_areSlices_102 : decode cL_areSlices 102 = .ok (.iload 5, 2) := by decide +kernel
theorem dL_areSlices_104 : decode cL_areSlices 104 = .ok (.isub, 1) := by decide +kernel
theorem dL_areSlices_105 : decode cL_areSlices 105 = .ok (.aload_n 0, 1) := by decide +kernel
theorem dL_areSlices_106 : decode cL_areSlices 106 = .ok (.iconst 0, 1) := by decide +kernel
theorem dL_areSlices_107 : decode cL_areSlices 107 = .ok (.invokevirtual 65, 3) := by decide +kernel
theorem dL_areSlices_110 : decode cL_areSlices 110 = .ok (.imul, 1) := by decide +kernel
theorem dL_areSlices_111 : decode cL_areSlices 111 = .ok (.if_icmp .ne 37, 3) := by decide +kernel
theorem dL_areSlices_114 : decode cL_areSlices 114 = .ok (.aload_n 0, 1) := by decide +kernel
theorem dL_areSlices_115 : decode cL_areSlices 115 = .ok (.aload_n 0, 1) := by decide +kernel
theorem dL_areSlices_116 : decode cL_areSlices 116 = .ok (.iload 4, 2) := by decide +kernel
theorem dL_areSlices_118 : decode cL_areSlices 118 = .ok (.iconst 5, 1) := by decide +kernel
theorem dL_areSlices_119 : decode cL_areSlices 119 = .ok (.invokevirtual 59, 3) := by decide +kernel
theorem dL_areSlices_122 : decode cL_areSlices 122 = .ok (.invokevirtual 62, 3) := by decide +kernel
theorem dL_areSlices_125 : decode cL_areSlices 125 = .ok (.iload 4, 2) := by decide +kernel
theorem dL_areSlices_127 : decode cL_areSlices 127 = .ok (.if_icmp .ne 21, 3) := by decide +kernel
theorem dL_areSlices_130 : decode cL_areSlices 130 = .ok (.iload 7, 2) := by decide +kernel
theorem dL_areSlices_132 : decode cL_areSlices 132 = .ok (.iload 5, 2) := by decide +kernel
theorem dL_areSlices_134 : decode cL_areSlices 134 = .ok (.if_icmp .lt 14, 3) := by decide +kernel
theorem dL_areSlices_137 : decode cL_areSlices 137 = .ok (.iload 7, 2) := by decide +kernel
theorem dL_areSlices_139 : decode cL_areSlices 139 = .ok (.iload 6, 2) := by decide +kernel
theorem dL_areSlices_141 : decode cL_areSlices 141 = .ok (.if_icmp .ge 7, 3) := by decide +kernel
theorem dL_areSlices_144 : decode cL_areSlices 144 = .ok (.iconst 1, 1) := by decide +kernel
theorem dL_areSlices_145 : decode cL_areSlices 145 = .ok (.goto 4, 3) := by decide +kernel
theorem dL_areSlices_148 : decode cL_areSlices 148 = .ok (.iconst 0, 1) := by decide +kernel
theorem dL_areSlices_149 : decode cL_areSlices 149 = .ok (.istore 8, 2) := by decide +kernel
theorem dL_areSlices_151 : decode cL_areSlices 151 = .ok (.iload 5, 2) := by decide +kernel
theorem dL_areSlices_153 : decode cL_areSlices 153 = .ok (.istore 9, 2) := by decide +kernel
theorem dL_areSlices_155 : decode cL_areSlices 155 = .ok (.iload 9, 2) := by decide +kernel
theorem dL_areSlices_157 : decode cL_areSlices 157 = .ok (.iload 6, 2) := by decide +kernel
theorem dL_areSlices_159 : decode cL_areSlices 159 = .ok (.if_icmp .ge 61, 3) := by decide +kernel
theorem dL_areSlices_162 : decode cL_areSlices 162 = .ok (.iload 8, 2) := by decide +kernel
theorem dL_areSlices_164 : decode cL_areSlices 164 = .ok (.ifCond .eq 47, 3) := by decide +kernel
theorem dL_areSlices_167 : decode cL_areSlices 167 = .ok (.iload 9, 2) := by decide +kernel
theorem dL_areSlices_169 : decode cL_areSlices 169 = .ok (.iload 7, 2) := by decide +kernel
theorem dL_areSlices_171 : decode cL_areSlices 171 = .ok (.if_icmp .ge 21, 3) := by decide +kernel
theorem dL_areSlices_174 : decode cL_areSlices 174 = .ok (.aload_n 0, 1) := by decide +kernel
theorem dL_areSlices_175 : decode cL_areSlices 175 = .ok (.iload 9, 2) := by decide +kernel
theorem dL_areSlices_177 : decode cL_areSlices 177 = .ok (.invokevirtual 68, 3) := by decide +kernel
theorem dL_areSlices_180 : decode cL_areSlices 180 = .ok (.aload_n 0, 1) := by decide +kernel
theorem dL_areSlices_181 : decode cL_areSlices 181 = .ok (.iload 7, 2) := by decide +kernel
theorem dL_areSlices_183 : decode cL_areSlices 183 = .ok (.invokevirtual 68, 3) := by decide +kernel
theorem dL_areSlices_186 : decode cL_areSlices 186 = .ok (.if_icmp .ge 25, 3) := by decide +kernel
theorem dL_areSlices_189 : decode cL_areSlices 189 = .ok (.goto 18, 3) := by decide +kernel
theorem dL_areSlices_192 : decode cL_areSlices 192 = .ok (.aload_n 0, 1) := by decide +kernel
theorem dL_areSlices_193 : decode cL_areSlices 193 = .ok (.iload 9, 2) := by decide +kernel
theorem dL_areSlices_195 : decode cL_areSlices 195 = .ok (.invokevirtual 68, 3) := by decide +kernel
theorem dL_areSlices_198 : decode cL_areSlices 198 = .ok (.aload_n 0, 1) := by decide +kernel
theorem dL_areSlices_199 : decode cL_areSlices 199 = .ok (.iload 7, 2) := by decide +kernel
theorem dL_areSlices_201 : decode cL_areSlices 201 = .ok (.invokevirtual 68, 3) := by decide +kernel
theorem dL_areSlices_204 : decode cL_areSlices 204 = .ok (.if_icmp .gt 7, 3) := by decide +kernel
theorem dL_areSlices_207 : decode cL_areSlices 207 = .ok (.iconst 1, 1) := by decide +kernel
theorem dL_areSlices_208 : decode cL_areSlices 208 = .ok (.goto 4, 3) := by decide +kernel
theorem dL_areSlices_211 : decode cL_areSlices 211 = .ok (.iconst 0, 1) := by decide +kernel
theorem dL_areSlices_212 : decode cL_areSlices 212 = .ok (.istore 8, 2) := by decide +kernel
theorem dL_areSlices_214 : decode cL_areSlices 214 = .ok (.iinc 9 1, 3) := by decide +kernel
theorem dL_areSlices_217 : decode cL_areSlices 217 = .ok (.goto (-62), 3) := by decide +kernel
theorem dL_areSlices_220 : decode cL_areSlices 220 = .ok (.iload 8, 2) := by decide +kernel
theorem dL_areSlices_222 : decode cL_areSlices 222 = .ok (.ifCond .ne 5, 3) := by decide +kernel
theorem dL_areSlices_225 : decode cL_areSlices 225 = .ok (.iconst 0, 1) := by decide +kernel
theorem dL_areSlices_226 : decode cL_areSlices 226 = .ok (.ireturn, 1) := by decide +kernel
theorem dL_areSlices_227 : decode cL_areSlices 227 = .ok (.iinc 4 1, 3) := by decide +kernel
theorem dL_areSlices_230 : decode cL_areSlices 230 = .ok (.goto (-217), 3) := by decide +kernel
theorem dL_areSlices_233 : decode cL_areSlices 233 = .ok (.aload_n 0, 1) := by decide +kernel
theorem dL_areSlices_234 : decode cL_areSlices 234 = .ok (.iconst 0, 1) := by decide +kernel
theorem dL_areSlices_235 : decode cL_areSlices 235 = .ok (.iconst 0, 1) := by decide +kernel
theorem dL_areSlices_236 : decode cL_areSlices 236 = .ok (.invokevirtual 59, 3) := by decide +kernel
theorem dL_areSlices_239 : decode cL_areSlices 239 = .ok (.ifCond .ne 50, 3) := by decide +kernel
theorem dL_areSlices_242 : decode cL_areSlices 242 = .ok (.iload_n 2, 1) := by decide +kernel
theorem dL_areSlices_243 : decode cL_areSlices 243 = .ok (.aload_n 0, 1) := by decide +kernel
theorem dL_areSlices_244 : decode cL_areSlices 244 = .ok (.iconst 1, 1) := by decide +kernel
theorem dL_areSlices_245 : decode cL_areSlices 245 = .ok (.invokevirtual 9, 3) := by decide +kernel
theorem dL_areSlices_248 : decode cL_areSlices 248 = .ok (.if_icmp .ne 41, 3) := by decide +kernel
theorem dL_areSlices_251 : decode cL_areSlices 251 = .ok (.iload_n 3, 1) := by decide +kernel
theorem dL_areSlices_252 : decode cL_areSlices 252 = .ok (.iconst 1, 1) := by decide +kernel
theorem dL_areSlices_253 : decode cL_areSlices 253 = .ok (.iload_n 1, 1) := by decide +kernel
theorem dL_areSlices_254 : decode cL_areSlices 254 = .ok (.ishl, 1) := by decide +kernel
theorem dL_areSlices_255 : decode cL_areSlices 255 = .ok (.iconst 1, 1) := by decide +kernel
theorem dL_areSlices_256 : decode cL_areSlices 256 = .ok (.isub, 1) := by decide +kernel
theorem dL_areSlices_257 : decode cL_areSlices 257 = .ok (.if_icmp .ne 32, 3) := by decide +kernel
theorem dL_areSlices_260 : decode cL_areSlices 260 = .ok (.iload_n 1, 1) := by decide +kernel
theorem dL_areSlices_261 : decode cL_areSlices 261 = .ok (.bipush 16, 2) := by decide +kernel
theorem dL_areSlices_263 : decode cL_areSlices 263 = .ok (.if_icmp .gt 26, 3) := by decide +kernel
theorem dL_areSlices_266 : decode cL_areSlices 266 = .ok (.aload_n 0, 1) := by decide +kernel
theorem dL_areSlices_267 : decode cL_areSlices 267 = .ok (.iload_n 1, 1) := by decide +kernel
theorem dL_areSlices_268 : decode cL_areSlices 268 = .ok (.iconst 0, 1) := by decide +kernel
theorem dL_areSlices_269 : decode cL_areSlices 269 = .ok (.invokevirtual 59, 3) := by decide +kernel
theorem dL_areSlices_272 : decode cL_areSlices 272 = .ok (.iconst (-1), 1) := by decide +kernel
theorem dL_areSlices_273 : decode cL_areSlices 273 = .ok (.if_icmp .ne 16, 3) := by decide +kernel
theorem dL_areSlices_276 : decode cL_areSlices 276 = .ok (.aload_n 0, 1) := by decide +kernel
theorem dL_areSlices_277 : decode cL_areSlices 277 = .ok (.iload_n 1, 1) := by decide +kernel
theorem dL_areSlices_278 : decode cL_areSlices 278 = .ok (.invokevirtual 62, 3) := by decide +kernel
theorem dL_areSlices_281 : decode cL_areSlices 281 = .ok (.iconst (-1), 1) := by decide +kernel
theorem dL_areSlices_282 : decode cL_areSlices 282 = .ok (.if_icmp .ne 7, 3) := by decide +kernel
theorem dL_areSlices_285 : decode cL_areSlices 285 = .ok (.iconst 1, 1) := by decide +kernel
theorem dL_areSlices_286 : decode cL_areSlices 286 = .ok (.goto 4, 3) := by decide +kernel
theorem dL_areSlices_289 : decode cL_areSlices 289 = .ok (.iconst 0, 1) := by decide +kernel
theorem dL_areSlices_290 : decode cL_areSlices 290 = .ok (.ireturn, 1) := by decide +kernel
theorem dL_areSteps_0 : decode cL_areSteps 0 = .ok (.aload_n 0, 1) := by decide +kernel
theorem dL_areSteps_1 : decode cL_areSteps 1 = .ok (.bipush 7, 2) := by decide +kernel
theorem dL_areSteps_3 : decode cL_areSteps 3 = .ok (.invokevirtual 65, 3) := by decide +kernel
theorem dL_areSteps_6 : decode cL_areSteps 6 = .ok (.ifCond .eq 11, 3) := by decide +kernel
theorem dL_areSteps_9 : decode cL_areSteps 9 = .ok (.aload_n 0, 1) := by decide +kernel
theorem dL_areSteps_10 : decode cL_areSteps 10 = .ok (.iconst 3, 1) := by decide +kernel
theorem dL_areSteps_11 : decode cL_areSteps 11 = .ok (.invokevirtual 9, 3) := by decide +kernel
theorem dL_areSteps_14 : decode cL_areSteps 14 = .ok (.ifCond .ne 5, 3) := by decide +kernel
theorem dL_areSteps_17 : decode cL_areSteps 17 = .ok (.iconst 1, 1) := by decide +kernel
theorem dL_areSteps_18 : decode cL_areSteps 18 = .ok (.ireturn, 1) := by decide +kernel
theorem dL_areSteps_19 : decode cL_areSteps 19 = .ok (.aload_n 0, 1) := by decide +kernel
theorem dL_areSteps_20 : decode cL_areSteps 20 = .ok (.bipush 6, 2) := by decide +kernel
theorem dL_areSteps_22 : decode cL_areSteps 22 = .ok (.invokevirtual 65, 3) := by decide +kernel
theorem dL_areSteps_25 : decode cL_areSteps 25 = .ok (.istore_n 1, 1) := by decide +kernel
theorem dL_areSteps_26 : decode cL_areSteps 26 = .ok (.aload_n 0, 1) := by decide +kernel
theorem dL_areSteps_27 : decode cL_areSteps 27 = .ok (.iconst 5, 1) := by decide +kernel
theorem dL_areSteps_28 : decode cL_areSteps 28 = .ok (.invokevirtual 65, 3) := by decide +kernel
theorem dL_areSteps_31 : decode cL_areSteps 31 = .ok (.istore_n 2, 1) := by decide +kernel
theorem dL_areSteps_32 : decode cL_areSteps 32 = .ok (.iconst (-1), 1) := by decide +kernel
theorem dL_areSteps_33 : decode cL_areSteps 33 = .ok (.istore_n 3, 1) := by decide +kernel
theorem dL_areSteps_34 : decode cL_areSteps 34 = .ok (.lconst 0, 1) := by decide +kernel
theorem dL_areSteps_35 : decode cL_areSteps 35 = .ok (.lstore 4, 2) := by decide +kernel
theorem dL_areSteps_37 : decode cL_areSteps 37 = .ok (.iconst 0, 1) := by decide +kernel
theorem dL_areSteps_38 : decode cL_areSteps 38 = .ok (.istore 6, 2) := by decide +kernel
theorem dL_areSteps_40 : decode cL_areSteps 40 = .ok (.iload 6, 2) := by decide +kernel
theorem dL_areSteps_42 : decode cL_areSteps 42 = .ok (.aload_n 0, 1) := by decide +kernel
theorem dL_areSteps_43 : decode cL_areSteps 43 = .ok (.iconst 2, 1) := by decide +kernel
theorem dL_areSteps_44 : decode cL_areSteps 44 = .ok (.invokevirtual 9, 3) := by decide +kernel
theorem dL_areSteps_47 : decode cL_areSteps 47 = .ok (.if_icmp .ge 99, 3) := by decide +kernel
theorem dL_areSteps_50 : decode cL_areSteps 50 = .ok (.aload_n 0, 1) := by decide +kernel
theorem dL_areSteps_51 : decode cL_areSteps 51 = .ok (.iload 6, 2) := by decide +kernel
theorem dL_areSteps_53 : decode cL_areSteps 53 = .ok (.iconst 3, 1) := by decide +kernel
theorem dL_areSteps_54 : decode cL_areSteps 54 = .ok (.invokevirtual 59, 3) := by decide +kernel
theorem dL_areSteps_57 : decode cL_areSteps 57 = .ok (.istore 7, 2) := by decide +kernel
theorem dL_areSteps_59 : decode cL_areSteps 59 = .ok (.iload 7, 2) := by decide +kernel
theorem dL_areSteps_61 : decode cL_areSteps 61 = .ok (.i2l, 1) := by decide +kernel
theorem dL_areSteps_62 : decode cL_areSteps 62 = .ok (.iload_n 2, 1) := by decide +kernel
theorem dL_areSteps_63 : decode cL_areSteps 63 = .ok (.i2l, 1) := by decide +kernel
theorem dL_areSteps_64 : decode cL_areSteps 64 = .ok (.lmul, 1) := by decide +kernel
theorem dL_areSteps_65 : decode cL_areSteps 65 = .ok (.iload_n 1, 1) := by decide +kernel
theorem dL_areSteps_66 : decode cL_areSteps 66 = .ok (.i2l, 1) := by decide +kernel
theorem dL_areSteps_67 : decode cL_areSteps 67 = .ok (.ldiv, 1) := by decide +kernel
theorem dL_areSteps_68 : decode cL_areSteps 68 = .ok (.lstore 8, 2) := by decide +kernel
theorem dL_areSteps_70 : decode cL_areSteps 70 = .ok (.lload 8, 2) := by decide +kernel
theorem dL_areSteps_72 : decode cL_areSteps 72 = .ok (.aload_n 0, 1) := by decide +kernel
theorem dL_areSteps_73 : decode cL_areSteps 73 = .ok (.iconst 0, 1) := by decide +kernel
theorem dL_areSteps_74 : decode cL_areSteps 74 = .ok (.invokevirtual 9, 3) := by decide +kernel
theorem dL_areSteps_77 : decode cL_areSteps 77 = .ok (.i2l, 1) := by decide +kernel
theorem dL_areSteps_78 : decode cL_areSteps 78 = .ok (.lmul, 1) := by decide +kernel
theorem dL_areSteps_79 : decode cL_areSteps 79 = .ok (.aload_n 0, 1) := by decide +kernel
theorem dL_areSteps_80 : decode cL_areSteps 80 = .ok (.iload 6, 2) := by decide +kernel
theorem dL_areSteps_82 : decode cL_areSteps 82 = .ok (.iconst 0, 1) := by decide +kernel
theorem dL_areSteps_83 : decode cL_areSteps 83 = .ok (.invokevirtual 59, 3) := by decide +kernel
theorem dL_areSteps_86 : decode cL_areSteps 86 = .ok (.i2l, 1) := by decide +kernel
theorem dL_areSteps_87 : decode cL_areSteps 87 = .ok (.iload_n 2, 1) := by decide +kernel
theorem dL_areSteps_88 : decode cL_areSteps 88 = .ok (.i2l, 1) := by decide +kernel
theorem dL_areSteps_89 : decode cL_areSteps 89 = .ok (.lmul, 1) := by decide +kernel
theorem dL_areSteps_90 : decode cL_areSteps 90 = .ok (.lsub, 1) := by decide +kernel
theorem dL_areSteps_91 : decode cL_areSteps 91 = .ok (.lstore 10, 2) := by decide +kernel
theorem dL_areSteps_93 : decode cL_areSteps 93 = .ok (.lload 4, 2) := by decide +kernel
theorem dL_areSteps_95 : decode cL_areSteps 95 = .ok (.lload 10, 2) := by decide +kernel
theorem dL_areSteps_97 : decode cL_areSteps 97 = .ok (.lconst 0, 1) := by decide +kernel
theorem dL_areSteps_98 : decode cL_areSteps 98 = .ok (.lcmp, 1) := by decide +kernel
theorem dL_areSteps_99 : decode cL_areSteps 99 = .ok (.ifCond .ge 9, 3) := by decide +kernel
theorem dL_areSteps_102 : decode cL_areSteps 102 = .ok (.lload 10, 2) := by decide +kernel
theorem dL_areSteps_104 : decode cL_areSteps 104 = .ok (.lneg, 1) := by decide +kernel
theorem dL_areSteps_105 : decode cL_areSteps 105 = .ok (.goto 5, 3) := by decide +kernel
theorem dL_areSteps_108 : decode cL_areSteps 108 = .ok (.lload 10, 2) := by decide +kernel
theorem dL_areSteps_110 : decode cL_areSteps 110 = .ok (.ladd, 1) := by decide +kernel
theorem dL_areSteps_111 : decode cL_areSteps 111 = .ok (.lstore 4, 2) := by decide +kernel
theorem dL_areSteps_113 : decode cL_areSteps 113 = .ok (.iload 7, 2) := by decide +kernel
theorem dL_areSteps_115 : decode cL_areSteps 115 = .ok (.iload_n 3, 1) := by decide +kernel
theorem dL_areSteps_116 : decode cL_areSteps 116 = .ok (.if_icmp .le 19, 3) := by decide +kernel
theorem dL_areSteps_119 : decode cL_areSteps 119 = .ok (.iload 7, 2) := by decide +kernel
theorem dL_areSteps_121 : decode cL_areSteps 121 = .ok (.iload_n 1, 1) := by decide +kernel
theorem dL_areSteps_122 : decode cL_areSteps 122 = .ok (.if_icmp .ge 13, 3) := by decide +kernel
theorem dL_areSteps_125 : decode cL_areSteps 125 = .ok (.iload 6, 2) := by decide +kernel
theorem dL_areSteps_127 : decode cL_areSteps 127 = .ok (.ifCond .ne 10, 3) := by decide +kernel
theorem dL_areSteps_130 : decode cL_areSteps 130 = .ok (.iload 7, 2) := by decide +kernel
theorem dL_areSteps_132 : decode cL_areSteps 132 = .ok (.ifCond .eq 5, 3) := by decide +kernel
theorem dL_areSteps_135 : decode cL_areSteps 135 = .ok (.iconst 0, 1) := by decide +kernel
theorem dL_areSteps_136 : decode cL_areSteps 136 = .ok (.ireturn, 1) := by decide +kernel
theorem dL_areSteps_137 : decode cL_areSteps 137 = .ok (.iload 7, 2) := by decide +kernel
theorem dL_areSteps_139 : decode cL_areSteps 139 = .ok (.istore_n 3, 1) := by decide +kernel
theorem dL_areSteps_140 : decode cL_areSteps 140 = .ok (.iinc 6 1, 3) := by decide +kernel
theorem dL_areSteps_143 : decode cL_areSteps 143 = .ok (.goto (-103), 3) := by decide +kernel
theorem dL_areSteps_146 : decode cL_areSteps 146 = .ok (.aload_n 0, 1) := by decide +kernel
theorem dL_areSteps_147 : decode cL_areSteps 147 = .ok (.invokevirtual 84, 3) := by decide +kernel
theorem dL_areSteps_150 : decode cL_areSteps 150 = .ok (.istore 6, 2) := by decide +kernel
theorem dL_areSteps_152 : decode cL_areSteps 152 = .ok (.aload_n 0, 1) := by decide +kernel
theorem dL_areSteps_153 : decode cL_areSteps 153 = .ok (.invokevirtual 79, 3) := by decide +kernel
theorem dL_areSteps_156 : decode cL_areSteps 156 = .ok (.lload 4, 2) := by decide +kernel
theorem dL_areSteps_158 : decode cL_areSteps 158 = .ok (.aload_n 0, 1) := by decide +kernel
theorem dL_areSteps_159 : decode cL_areSteps 159 = .ok (.iconst 0, 1) := by decide +kernel
theorem dL_areSteps_160 : decode cL_areSteps 160 = .ok (.invokevirtual 9, 3) := by decide +kernel
theorem dL_areSteps_163 : decode cL_areSteps 163 = .ok (.i2l, 1) := by decide +kernel
theorem dL_areSteps_164 : decode cL_areSteps 164 = .ok (.ldiv, 1) := by decide +kernel
theorem dL_areSteps_165 : decode cL_areSteps 165 = .ok (.l2i, 1) := by decide +kernel
theorem dL_areSteps_166 : decode cL_areSteps 166 = .ok (.if_icmp .ne 27, 3) := by decide +kernel
theorem dL_areSteps_169 : decode cL_areSteps 169 = .ok (.iload 6, 2) := by decide +kernel
theorem dL_areSteps_171 : decode cL_areSteps 171 = .ok (.ifCond .le 22, 3) := by decide +kernel
theorem dL_areSteps_174 : decode cL_areSteps 174 = .ok (.iload 6, 2) := by decide +kernel
theorem dL_areSteps_176 : decode cL_areSteps 176 = .ok (.iload_n 1, 1) := by decide +kernel
theorem dL_areSteps_177 : decode cL_areSteps 177 = .ok (.if_icmp .gt 16, 3) := by decide +kernel
theorem dL_areSteps_180 : decode cL_areSteps 180 = .ok (.aload_n 0, 1) := by decide +kernel
theorem dL_areSteps_181 : decode cL_areSteps 181 = .ok (.iconst 0, 1) := by decide +kernel
theorem dL_areSteps_182 : decode cL_areSteps 182 = .ok (.invokevirtual 87, 3) := by decide +kernel
theorem dL_areSteps_185 : decode cL_areSteps 185 = .ok (.iload_n 2, 1) := by decide +kernel
theorem dL_areSteps_186 : decode cL_areSteps 186 = .ok (.if_icmp .ne 7, 3) := by decide +kernel
theorem dL_areSteps_189 : decode cL_areSteps 189 = .ok (.iconst 1, 1) := by decide +kernel
theorem dL_areSteps_190 : decode cL_areSteps 190 = .ok (.goto 4, 3) := by decide +kernel
theorem dL_areSteps_193 : decode cL_areSteps 193 = .ok (.iconst 0, 1) := by decide +kernel
theorem dL_areSteps_194 : decode cL_areSteps 194 = .ok (.ireturn, 1) := by decide +kernel
theorem dL_areAlike_0 : decode cL_areAlike 0 = .ok (.iconst 1, 1) := by decide +kernel
theorem dL_areAlike_1 : decode cL_areAlike 1 = .ok (.istore_n 2, 1) := by decide +kernel
theorem dL_areAlike_2 : decode cL_areAlike 2 = .ok (.iconst 0, 1) := by decide +kernel
theorem dL_areAlike_3 : decode cL_areAlike 3 = .ok (.istore_n 3, 1) := by decide +kernel
theorem dL_areAlike_4 : decode cL_areAlike 4 = .ok (.iload_n 3, 1) := by decide +kernel
theorem dL_areAlike_5 : decode cL_areAlike 5 = .ok (.bipush 6, 2) := by decide +kernel
theorem dL_areAlike_7 : decode cL_areAlike 7 = .ok (.if_icmp .ge 32, 3) := by decide +kernel
theorem dL_areAlike_10 : decode cL_areAlike 10 = .ok (.iload_n 2, 1) := by decide +kernel
theorem dL_areAlike_11 : decode cL_areAlike 11 = .ok (.ifCond .eq 20, 3) := by decide +kernel
theorem dL_areAlike_14 : decode cL_areAlike 14 = .ok (.aload_n 0, 1) := by decide +kernel
theorem dL_areAlike_15 : decode cL_areAlike 15 = .ok (.iload_n 3, 1) := by decide +kernel
theorem dL_areAlike_16 : decode cL_areAlike 16 = .ok (.invokevirtual 9, 3) := by decide +kernel
theorem dL_areAlike_19 : decode cL_areAlike 19 = .ok (.aload_n 1, 1) := by decide +kernel
theorem dL_areAlike_20 : decode cL_areAlike 20 = .ok (.iload_n 3, 1) := by decide +kernel
theorem dL_areAlike_21 : decode cL_areAlike 21 = .ok (.invokevirtual 9, 3) := by decide +kernel
theorem dL_areAlike_24 : decode cL_areAlike 24 = .ok (.if_icmp .ne 7, 3) := by decide +kernel
theorem dL_areAlike_27 : decode cL_areAlike 27 = .ok (.iconst 1, 1) := by decide +kernel
theorem dL_areAlike_28 : decode cL_areAlike 28 = .ok (.goto 4, 3) := by decide +kernel
theorem dL_areAlike_31 : decode cL_areAlike 31 = .ok (.iconst 0, 1) := by decide +kernel
theorem dL_areAlike_32 : decode cL_areAlike 32 = .ok (.istore_n 2, 1) := by decide +kernel
theorem dL_areAlike_33 : decode cL_areAlike 33 = .ok (.iinc 3 1, 3) := by decide +kernel
theorem dL_areAlike_36 : decode cL_areAlike 36 = .ok (.goto (-32), 3) := by decide +kernel
theorem dL_areAlike_39 : decode cL_areAlike 39 = .ok (.iconst 0, 1) := by decide +kernel
theorem dL_areAlike_40 : decode cL_areAlike 40 = .ok (.istore_n 3, 1) := by decide +kernel
theorem dL_areAlike_41 : decode cL_areAlike 41 = .ok (.iload_n 3, 1) := by decide +kernel
theorem dL_areAlike_42 : decode cL_areAlike 42 = .ok (.aload_n 0, 1) := by decide +kernel
theorem dL_areAlike_43 : decode cL_areAlike 43 = .ok (.iconst 2, 1) := by decide +kernel
theorem dL_areAlike_44 : decode cL_areAlike 44 = .ok (.invokevirtual 9, 3) := by decide +kernel
theorem dL_areAlike_47 : decode cL_areAlike 47 = .ok (.if_icmp .ge 52, 3) := by decide +kernel
theorem dL_areAlike_50 : decode cL_areAlike 50 = .ok (.iconst 0, 1) := by decide +kernel
theorem dL_areAlike_51 : decode cL_areAlike 51 = .ok (.istore 4, 2) := by decide +kernel
theorem dL_areAlike_53 : decode cL_areAlike 53 = .ok (.iload 4, 2) := by decide +kernel
theorem dL_areAlike_55 : decode cL_areAlike 55 = .ok (.bipush 8, 2) := by decide +kernel
theorem dL_areAlike_57 : decode cL_areAlike 57 = .ok (.if_icmp .ge 36, 3) := by decide +kernel
theorem dL_areAlike_60 : decode cL_areAlike 60 = .ok (.iload_n 2, 1) := by decide +kernel
theorem dL_areAlike_61 : decode cL_areAlike 61 = .ok (.ifCond .eq 24, 3) := by decide +kernel
theorem dL_areAlike_64 : decode cL_areAlike 64 = .ok (.aload_n 0, 1) := by decide +kernel
theorem dL_areAlike_65 : decode cL_areAlike 65 = .ok (.iload_n 3, 1) := by decide +kernel
theorem dL_areAlike_66 : decode cL_areAlike 66 = .ok (.iload 4, 2) := by decide +kernel
theorem dL_areAlike_68 : decode cL_areAlike 68 = .ok (.invokevirtual 59, 3) := by decide +kernel
theorem dL_areAlike_71 : decode cL_areAlike 71 = .ok (.aload_n 1, 1) := by decide +kernel
theorem dL_areAlike_72 : decode cL_areAlike 72 = .ok (.iload_n 3, 1) := by decide +kernel
theorem dL_areAlike_73 : decode cL_areAlike 73 = .ok (.iload 4, 2) := by decide +kernel
theorem dL_areAlike_75 : decode cL_areAlike 75 = .ok (.invokevirtual 59, 3) := by decide +kernel
theorem dL_areAlike_78 : decode cL_areAlike 78 = .ok (.if_icmp .ne 7, 3) := by decide +kernel
theorem dL_areAlike_81 : decode cL_areAlike 81 = .ok (.iconst 1, 1) := by decide +kernel
theorem dL_areAlike_82 : decode cL_areAlike 82 = .ok (.goto 4, 3) := by decide +kernel
theorem dL_areAlike_85 : decode cL_areAlike 85 = .ok (.iconst 0, 1) := by decide +kernel
theorem dL_areAlike_86 : decode cL_areAlike 86 = .ok (.istore_n 2, 1) := by decide +kernel
theorem dL_areAlike_87 : decode cL_areAlike 87 = .ok (.iinc 4 1, 3) := by decide +kernel
theorem dL_areAlike_90 : decode cL_areAlike 90 = .ok (.goto (-37), 3) := by decide +kernel
theorem dL_areAlike_93 : decode cL_areAlike 93 = .ok (.iinc 3 1, 3) := by decide +kernel
theorem dL_areAlike_96 : decode cL_areAlike 96 = .ok (.goto (-55), 3) := by decide +kernel
theorem dL_areAlike_99 : decode cL_areAlike 99 = .ok (.iload_n 2, 1) := by decide +kernel
theorem dL_areAlike_100 : decode cL_areAlike 100 = .ok (.ifCond .eq 18, 3) := by decide +kernel
theorem dL_areAlike_103 : decode cL_areAlike 103 = .ok (.aload_n 0, 1) := by decide +kernel
theorem dL_areAlike_104 : decode cL_areAlike 104 = .ok (.invokevirtual 84, 3) := by decide +kernel
theorem dL_areAlike_107 : decode cL_areAlike 107 = .ok (.aload_n 1, 1) := by decide +kernel
theorem dL_areAlike_108 : decode cL_areAlike 108 = .ok (.invokevirtual 84, 3) := by decide +kernel
theorem dL_areAlike_111 : decode cL_areAlike 111 = .ok (.if_icmp .ne 7, 3) := by decide +kernel
theorem dL_areAlike_114 : decode cL_areAlike 114 = .ok (.iconst 1, 1) := by decide +kernel
theorem dL_areAlike_115 : decode cL_areAlike 115 = .ok (.goto 4, 3) := by decide +kernel
theorem dL_areAlike_118 : decode cL_areAlike 118 = .ok (.iconst 0, 1) := by decide +kernel
theorem dL_areAlike_119 : decode cL_areAlike 119 = .ok (.ireturn, 1) := by decide +kernel
