theorem dL_isSame_0 : decode cL_isSame 0 = .ok (.iload 5, 2) := by decide +kernel
theorem dL_isSame_2 : decode cL_isSame 2 = .ok (.iconst 5, 1) := by decide +kernel
theorem dL_isSame_3 : decode cL_isSame 3 = .ok (.irem, 1) := by decide +kernel
theorem dL_isSame_4 : decode cL_isSame 4 = .ok (.istore 6, 2) := by decide +kernel
theorem dL_isSame_6 : decode cL_isSame 6 = .ok (.iload 5, 2) := by decide +kernel
theorem dL_isSame_8 : decode cL_isSame 8 = .ok (.iconst 5, 1) := by decide +kernel
theorem dL_isSame_9 : decode cL_isSame 9 = .ok (.idiv, 1) := by decide +kernel
theorem dL_isSame_10 : decode cL_isSame 10 = .ok (.iconst 4, 1) := by decide +kernel
theorem dL_isSame_11 : decode cL_isSame 11 = .ok (.irem, 1) := by decide +kernel
theorem dL_isSame_12 : decode cL_isSame 12 = .ok (.istore 7, 2) := by decide +kernel
theorem dL_isSame_14 : decode cL_isSame 14 = .ok (.aload_n 0, 1) := by decide +kernel
theorem dL_isSame_15 : decode cL_isSame 15 = .ok (.iload 6, 2) := by decide +kernel
theorem dL_isSame_17 : decode cL_isSame 17 = .ok (.iconst 3, 1) := by decide +kernel
theorem dL_isSame_18 : decode cL_isSame 18 = .ok (.invokevirtual 120, 3) := by decide +kernel
theorem dL_isSame_21 : decode cL_isSame 21 = .ok (.aload_n 2, 1) := by decide +kernel
theorem dL_isSame_22 : decode cL_isSame 22 = .ok (.iload 6, 2) := by decide +kernel
theorem dL_isSame_24 : decode cL_isSame 24 = .ok (.invokestatic 25, 3) := by decide +kernel
theorem dL_isSame_27 : decode cL_isSame 27 = .ok (.if_icmp .ne 177, 3) := by decide +kernel
theorem dL_isSame_30 : decode cL_isSame 30 = .ok (.aload_n 0, 1) := by decide +kernel
theorem dL_isSame_31 : decode cL_isSame 31 = .ok (.iload 6, 2) := by decide +kernel
theorem dL_isSame_33 : decode cL_isSame 33 = .ok (.invokevirtual 123, 3) := by decide +kernel
theorem dL_isSame_36 : decode cL_isSame 36 = .ok (.aload_n 1, 1) := by decide +kernel
theorem dL_isSame_37 : decode cL_isSame 37 = .ok (.bipush 12, 2) := by decide +kernel
theorem dL_isSame_39 : decode cL_isSame 39 = .ok (.iload 6, 2) := by decide +kernel
theorem dL_isSame_41 : decode cL_isSame 41 = .ok (.imul, 1) := by decide +kernel
theorem dL_isSame_42 : decode cL_isSame 42 = .ok (.bipush 10, 2) := by decide +kernel
theorem dL_isSame_44 : decode cL_isSame 44 = .ok (.iadd, 1) := by decide +kernel
theorem dL_isSame_45 : decode cL_isSame 45 = .ok (.iaload, 1) := by decide +kernel
theorem dL_isSame_46 : decode cL_isSame 46 = .ok (.aload_n 1, 1) := by decide +kernel
theorem dL_isSame_47 : decode cL_isSame 47 = .ok (.bipush 12, 2) := by decide +kernel
theorem dL_isSame_49 : decode cL_isSame 49 = .ok (.iload 6, 2) := by decide +kernel
theorem dL_isSame_51 : decode cL_isSame 51 = .ok (.imul, 1) := by decide +kernel
theorem dL_isSame_52 : decode cL_isSame 52 = .ok (.bipush 11, 2) := by decide +kernel
theorem dL_isSame_54 : decode cL_isSame 54 = .ok (.iadd, 1) := by decide +kernel
theorem dL_isSame_55 : decode cL_isSame 55 = .ok (.iaload, 1) := by decide +kernel
theorem dL_isSame_56 : decode cL_isSame 56 = .ok (.isub, 1) := by decide +kernel
theorem dL_isSame_57 : decode cL_isSame 57 = .ok (.if_icmp .ne 147, 3) := by decide +kernel
theorem dL_isSame_60 : decode cL_isSame 60 = .ok (.aload_n 0, 1) := by decide +kernel
theorem dL_isSame_61 : decode cL_isSame 61 = .ok (.iload 6, 2) := by decide +kernel
theorem dL_isSame_63 : decode cL_isSame 63 = .ok (.bipush 9, 2) := by decide +kernel
theorem dL_isSame_65 : decode cL_isSame 65 = .ok (.invokevirtual 120, 3) := by decide +kernel
theorem dL_isSame_68 : decode cL_isSame 68 = .ok (.aload_n 1, 1) := by decide +kernel
theorem dL_isSame_69 : decode cL_isSame 69 = .ok (.bipush 12, 2) := by decide +kernel
theorem dL_isSame_71 : decode cL_isSame 71 = .ok (.iload 6, 2) := by decide +kernel
theorem dL_isSame_73 : decode cL_isSame 73 = .ok (.imul, 1) := by decide +kernel
theorem dL_isSame_74 : decode cL_isSame 74 = .ok (.bipush 8, 2) := by decide +kernel
theorem dL_isSame_76 : decode cL_isSame 76 = .ok (.iadd, 1) := by decide +kernel
theorem dL_isSame_77 : decode cL_isSame 77 = .ok (.iaload, 1) := by decide +kernel
theorem dL_isSame_78 : decode cL_isSame 78 = .ok (.iconst 1, 1) := by decide +kernel
theorem dL_isSame_79 : decode cL_isSame 79 = .ok (.isub, 1) := by decide +kernel
theorem dL_isSame_80 : decode cL_isSame 80 = .ok (.if_icmp .ne 124, 3) := by decide +kernel
theorem dL_isSame_83 : decode cL_isSame 83 = .ok (.aload_n 0, 1) := by decide +kernel
theorem dL_isSame_84 : decode cL_isSame 84 = .ok (.iload 6, 2) := by decide +kernel
theorem dL_isSame_86 : decode cL_isSame 86 = .ok (.iload 7, 2) := by decide +kernel
theorem dL_isSame_88 : decode cL_isSame 88 = .ok (.invokevirtual 126, 3) := by decide +kernel
theorem dL_isSame_91 : decode cL_isSame 91 = .ok (.aload_n 3, 1) := by decide +kernel
theorem dL_isSame_92 : decode cL_isSame 92 = .ok (.iconst 4, 1) := by decide +kernel
theorem dL_isSame_93 : decode cL_isSame 93 = .ok (.iload 6, 2) := by decide +kernel
theorem dL_isSame_95 : decode cL_isSame 95 = .ok (.imul, 1) := by decide +kernel
theorem dL_isSame_96 : decode cL_isSame 96 = .ok (.iload 7, 2) := by decide +kernel
theorem dL_isSame_98 : decode cL_isSame 98 = .ok (.iadd, 1) := by decide +kernel
theorem dL_isSame_99 : decode cL_isSame 99 = .ok (.iaload, 1) := by decide +kernel
theorem dL_isSame_100 : decode cL_isSame 100 = .ok (.if_icmp .ne 104, 3) := by decide +kernel
theorem dL_isSame_103 : decode cL_isSame 103 = .ok (.aload_n 0, 1) := by decide +kernel
theorem dL_isSame_104 : decode cL_isSame 104 = .ok (.iload 6, 2) := by decide +kernel
theorem dL_isSame_106 : decode cL_isSame 106 = .ok (.iload 5, 2) := by decide +kernel
theorem dL_isSame_108 : decode cL_isSame 108 = .ok (.bipush 20, 2) := by decide +kernel
theorem dL_isSame_110 : decode cL_isSame 110 = .ok (.idiv, 1) := by decide +kernel
theorem dL_isSame_111 : decode cL_isSame 111 = .ok (.bipush 12, 2) := by decide +kernel
theorem dL_isSame_113 : decode cL_isSame 113 = .ok (.irem, 1) := by decide +kernel
theorem dL_isSame_114 : decode cL_isSame 114 = .ok (.invokevirtual 128, 3) := by decide +kernel
theorem dL_isSame_117 : decode cL_isSame 117 = .ok (.aload_n 2, 1) := by decide +kernel
theorem dL_isSame_118 : decode cL_isSame 118 = .ok (.bipush 12, 2) := by decide +kernel
theorem dL_isSame_120 : decode cL_isSame 120 = .ok (.iload 6, 2) := by decide +kernel
theorem dL_isSame_122 : decode cL_isSame 122 = .ok (.imul, 1) := by decide +kernel
theorem dL_isSame_123 : decode cL_isSame 123 = .ok (.iload 5, 2) := by decide +kernel
theorem dL_isSame_125 : decode cL_isSame 125 = .ok (.bipush 20, 2) := by decide +kernel
theorem dL_isSame_127 : decode cL_isSame 127 = .ok (.idiv, 1) := by decide +kernel
theorem dL_isSame_128 : decode cL_isSame 128 = .ok (.bipush 12, 2) := by decide +kernel
theorem dL_isSame_130 : decode cL_isSame 130 = .ok (.irem, 1) := by decide +kernel
theorem dL_isSame_131 : decode cL_isSame 131 = .ok (.iadd, 1) := by decide +kernel
theorem dL_isSame_132 : decode cL_isSame 132 = .ok (.iaload, 1) := by decide +kernel
theorem dL_isSame_133 : decode cL_isSame 133 = .ok (.if_icmp .ne 71, 3) := by decide +kernel
theorem dL_isSame_136 : decode cL_isSame 136 = .ok (.aload_n 0, 1) := by decide +kernel
theorem dL_isSame_137 : decode cL_isSame 137 = .ok (.iload 6, 2) := by decide +kernel
theorem dL_isSame_139 : decode cL_isSame 139 = .ok (.iload 7, 2) := by decide +kernel
theorem dL_isSame_141 : decode cL_isSame 141 = .ok (.invokevirtual 131, 3) := by decide +kernel
theorem dL_isSame_144 : decode cL_isSame 144 = .ok (.aload_n 1, 1) := by decide +kernel
theorem dL_isSame_145 : decode cL_isSame 145 = .ok (.aload 4, 2) := by decide +kernel
theorem dL_isSame_147 : decode cL_isSame 147 = .ok (.iload 6, 2) := by decide +kernel
theorem dL_isSame_149 : decode cL_isSame 149 = .ok (.iload 7, 2) := by decide +kernel
theorem dL_isSame_151 : decode cL_isSame 151 = .ok (.invokestatic 33, 3) := by decide +kernel
theorem dL_isSame_154 : decode cL_isSame 154 = .ok (.if_icmp .ne 50, 3) := by decide +kernel
theorem dL_isSame_157 : decode cL_isSame 157 = .ok (.aload_n 0, 1) := by decide +kernel
theorem dL_isSame_158 : decode cL_isSame 158 = .ok (.invokevirtual 133, 3) := by decide +kernel
theorem dL_isSame_161 : decode cL_isSame 161 = .ok (.aload 4, 2) := by decide +kernel
theorem dL_isSame_163 : decode cL_isSame 163 = .ok (.bipush 21, 2) := by decide +kernel
theorem dL_isSame_165 : decode cL_isSame 165 = .ok (.iaload, 1) := by decide +kernel
theorem dL_isSame_166 : decode cL_isSame 166 = .ok (.if_icmp .ne 38, 3) := by decide +kernel
theorem dL_isSame_169 : decode cL_isSame 169 = .ok (.aload_n 0, 1) := by decide +kernel
theorem dL_isSame_170 : decode cL_isSame 170 = .ok (.iload 5, 2) := by decide +kernel
theorem dL_isSame_172 : decode cL_isSame 172 = .ok (.sipush 240, 3) := by decide +kernel
theorem dL_isSame_175 : decode cL_isSame 175 = .ok (.idiv, 1) := by decide +kernel
theorem dL_isSame_176 : decode cL_isSame 176 = .ok (.bipush 6, 2) := by decide +kernel
theorem dL_isSame_178 : decode cL_isSame 178 = .ok (.irem, 1) := by decide +kernel
theorem dL_isSame_179 : decode cL_isSame 179 = .ok (.invokevirtual 136, 3) := by decide +kernel
theorem dL_isSame_182 : decode cL_isSame 182 = .ok (.aload 4, 2) := by decide +kernel
theorem dL_isSame_184 : decode cL_isSame 184 = .ok (.bipush 25, 2) := by decide +kernel
theorem dL_isSame_186 : decode cL_isSame 186 = .ok (.iload 5, 2) := by decide +kernel
theorem dL_isSame_188 : decode cL_isSame 188 = .ok (.sipush 240, 3) := by decide +kernel
theorem dL_isSame_191 : decode cL_isSame 191 = .ok (.idiv, 1) := by decide +kernel
theorem dL_isSame_192 : decode cL_isSame 192 = .ok (.bipush 6, 2) := by decide +kernel
theorem dL_isSame_194 : decode cL_isSame 194 = .ok (.irem, 1) := by decide +kernel
theorem dL_isSame_195 : decode cL_isSame 195 = .ok (.iadd, 1) := by decide +kernel
theorem dL_isSame_196 : decode cL_isSame 196 = .ok (.iaload, 1) := by decide +kernel
theorem dL_isSame_197 : decode cL_isSame 197 = .ok (.if_icmp .ne 7, 3) := by decide +kernel
theorem dL_isSame_200 : decode cL_isSame 200 = .ok (.iconst 1, 1) := by decide +kernel
theorem dL_isSame_201 : decode cL_isSame 201 = .ok (.goto 4, 3) := by decide +kernel
theorem dL_isSame_204 : decode cL_isSame 204 = .ok (.iconst 0, 1) := by decide +kernel
theorem dL_isSame_205 : decode cL_isSame 205 = .ok (.istore 8, 2) := by decide +kernel
theorem dL_isSame_207 : decode cL_isSame 207 = .ok (.iconst 0, 1) := by decide +kernel
theorem dL_isSame_208 : decode cL_isSame 208 = .ok (.istore 9, 2) := by decide +kernel
theorem dL_isSame_210 : decode cL_isSame 210 = .ok (.iload 9, 2) := by decide +kernel
theorem dL_isSame_212 : decode cL_isSame 212 = .ok (.bipush 9, 2) := by decide +kernel
theorem dL_isSame_214 : decode cL_isSame 214 = .ok (.if_icmp .ge 95, 3) := by decide +kernel
theorem dL_isSame_217 : decode cL_isSame 217 = .ok (.iload 8, 2) := by decide +kernel
theorem dL_isSame_219 : decode cL_isSame 219 = .ok (.ifCond .eq 90, 3) := by decide +kernel
theorem dL_isSame_222 : decode cL_isSame 222 = .ok (.iload 9, 2) := by decide +kernel
theorem dL_isSame_224 : decode cL_isSame 224 = .ok (.iconst 3, 1) := by decide +kernel
theorem dL_isSame_225 : decode cL_isSame 225 = .ok (.if_icmp .eq 71, 3) := by decide +kernel
theorem dL_isSame_228 : decode cL_isSame 228 = .ok (.aload_n 0, 1) := by decide +kernel
theorem dL_isSame_229 : decode cL_isSame 229 = .ok (.iload 6, 2) := by decide +kernel
theorem dL_isSame_231 : decode cL_isSame 231 = .ok (.iload 9, 2) := by decide +kernel
theorem dL_isSame_233 : decode cL_isSame 233 = .ok (.invokevirtual 120, 3) := by decide +kernel
theorem dL_isSame_236 : decode cL_isSame 236 = .ok (.aload_n 1, 1) := by decide +kernel
theorem dL_isSame_237 : decode cL_isSame 237 = .ok (.bipush 12, 2) := by decide +kernel
theorem dL_isSame_239 : decode cL_isSame 239 = .ok (.iload 6, 2) := by decide +kernel
theorem dL_isSame_241 : decode cL_isSame 241 = .ok (.imul, 1) := by decide +kernel
theorem dL_isSame_242 : decode cL_isSame 242 = .ok (.iload 9, 2) := by decide +kernel
theorem dL_isSame_244 : decode cL_isSame 244 = .ok (.ifCond .ne 7, 3) := by decide +kernel
theorem dL_isSame_247 : decode cL_isSame 247 = .ok (.iconst 0, 1) := by decide +kernel
theorem dL_isSame_248 : decode cL_isSame 248 = .ok (.goto 43, 3) := by decide +kernel
theorem dL_isSame_251 : decode cL_isSame 251 = .ok (.iload 9, 2) := by decide +kernel
theorem dL_isSame_253 : decode cL_isSame 253 = .ok (.iconst 3, 1) := by decide +kernel
theorem dL_isSame_254 : decode cL_isSame 254 = .ok (.if_icmp .ge 8, 3) := by decide +kernel
theorem dL_isSame_257 : decode cL_isSame 257 = .ok (.iload 9, 2) := by decide +kernel
theorem dL_isSame_259 : decode cL_isSame 259 = .ok (.goto 32, 3) := by decide +kernel
theorem dL_isSame_262 : decode cL_isSame 262 = .ok (.iload 9, 2) := by decide +kernel
theorem dL_isSame_264 : decode cL_isSame 264 = .ok (.bipush 6, 2) := by decide +kernel
theorem dL_isSame_266 : decode cL_isSame 266 = .ok (.if_icmp .ge 10, 3) := by decide +kernel
theorem dL_isSame_269 : decode cL_isSame 269 = .ok (.iload 9, 2) := by decide +kernel
theorem dL_isSame_271 : decode cL_isSame 271 = .ok (.iconst 1, 1) := by decide +kernel
theorem dL_isSame_272 : decode cL_isSame 272 = .ok (.isub, 1) := by decide +kernel
theorem dL_isSame_273 : decode cL_isSame 273 = .ok (.goto 18, 3) := by decide +kernel
theorem dL_isSame_276 : decode cL_isSame 276 = .ok (.iload 9, 2) := by decide +kernel
theorem dL_isSame_278 : decode cL_isSame 278 = .ok (.bipush 6, 2) := by decide +kernel
theorem dL_isSame_280 : decode cL_isSame 280 = .ok (.if_icmp .ne 7, 3) := by decide +kernel
theorem dL_isSame_283 : decode cL_isSame 283 = .ok (.iconst 5, 1) := by decide +kernel
theorem dL_isSame_284 : decode cL_isSame 284 = .ok (.goto 7, 3) := by decide +kernel
theorem dL_isSame_287 : decode cL_isSame 287 = .ok (.iload 9, 2) := by decide +kernel
theorem dL_isSame_289 : decode cL_isSame 289 = .ok (.iconst 1, 1) := by decide +kernel
theorem dL_isSame_290 : decode cL_isSame 290 = .ok (.isub, 1) := by decide +kernel
theorem dL_isSame_291 : decode cL_isSame 291 = .ok (.iadd, 1) := by decide +kernel
theorem dL_isSame_292 : decode cL_isSame 292 = .ok (.iaload, 1) := by decide +kernel
theorem dL_isSame_293 : decode cL_isSame 293 = .ok (.if_icmp .ne 7, 3) := by decide +kernel
theorem dL_isSame_296 : decode cL_isSame 296 = .ok (.iconst 1, 1) := by decide +kernel
theorem dL_isSame_297 : decode cL_isSame 297 = .ok (.goto 4, 3) := by decide +kernel
theorem dL_isSame_300 : decode cL_isSame 300 = .ok (.iconst 0, 1) := by decide +kernel
theorem dL_isSame_301 : decode cL_isSame 301 = .ok (.istore 8, 2) := by decide +kernel
theorem dL_isSame_303 : decode cL_isSame 303 = .ok (.iinc 9 1, 3) := by decide +kernel
theorem dL_isSame_306 : decode cL_isSame 306 = .ok (.goto (-96), 3) := by decide +kernel
theorem dL_isSame_309 : decode cL_isSame 309 = .ok (.iconst 0, 1) := by decide +kernel
theorem dL_isSame_310 : decode cL_isSame 310 = .ok (.istore 9, 2) := by decide +kernel
theorem dL_isSame_312 : decode cL_isSame 312 = .ok (.iconst 0, 1) := by decide +kernel
theorem dL_isSame_313 : decode cL_isSame 313 = .ok (.istore 10, 2) := by decide +kernel
theorem dL_isSame_315 : decode cL_isSame 315 = .ok (.iload 10, 2) := by decide +kernel
theorem dL_isSame_317 : decode cL_isSame 317 = .ok (.iconst 4, 1) := by decide +kernel
theorem dL_isSame_318 : decode cL_isSame 318 = .ok (.if_icmp .ge 24, 3) := by decide +kernel
theorem dL_isSame_321 : decode cL_isSame 321 = .ok (.iload 9, 2) := by decide +kernel
theorem dL_isSame_323 : decode cL_isSame 323 = .ok (.aload_n 1, 1) := by decide +kernel
theorem dL_isSame_324 : decode cL_isSame 324 = .ok (.aload 4, 2) := by decide +kernel
theorem dL_isSame_326 : decode cL_isSame 326 = .ok (.iload 6, 2) := by decide +kernel
theorem dL_isSame_328 : decode cL_isSame 328 = .ok (.iload 10, 2) := by decide +kernel
theorem dL_isSame_330 : decode cL_isSame 330 = .ok (.invokestatic 33, 3) := by decide +kernel
theorem dL_isSame_333 : decode cL_isSame 333 = .ok (.iadd, 1) := by decide +kernel
theorem dL_isSame_334 : decode cL_isSame 334 = .ok (.istore 9, 2) := by decide +kernel
theorem dL_isSame_336 : decode cL_isSame 336 = .ok (.iinc 10 1, 3) := by decide +kernel
theorem dL_isSame_339 : decode cL_isSame 339 = .ok (.goto (-24), 3) := by decide +kernel
theorem dL_isSame_342 : decode cL_isSame 342 = .ok (.iload 8, 2) := by decide +kernel
theorem dL_isSame_344 : decode cL_isSame 344 = .ok (.ifCond .eq 29, 3) := by decide +kernel
theorem dL_isSame_347 : decode cL_isSame 347 = .ok (.aload_n 0, 1) := by decide +kernel
theorem dL_isSame_348 : decode cL_isSame 348 = .ok (.iload 6, 2) := by decide +kernel
theorem dL_isSame_350 : decode cL_isSame 350 = .ok (.invokevirtual 139, 3) := by decide +kernel
theorem dL_isSame_353 : decode cL_isSame 353 = .ok (.aload_n 1, 1) := by decide +kernel
theorem dL_isSame_354 : decode cL_isSame 354 = .ok (.bipush 12, 2) := by decide +kernel
theorem dL_isSame_356 : decode cL_isSame 356 = .ok (.iload 6, 2) := by decide +kernel
theorem dL_isSame_358 : decode cL_isSame 358 = .ok (.imul, 1) := by decide +kernel
theorem dL_isSame_359 : decode cL_isSame 359 = .ok (.bipush 7, 2) := by decide +kernel
theorem dL_isSame_361 : decode cL_isSame 361 = .ok (.iadd, 1) := by decide +kernel
theorem dL_isSame_362 : decode cL_isSame 362 = .ok (.iaload, 1) := by decide +kernel
theorem dL_isSame_363 : decode cL_isSame 363 = .ok (.iload 9, 2) := by decide +kernel
theorem dL_isSame_365 : decode cL_isSame 365 = .ok (.idiv, 1) := by decide +kernel
theorem dL_isSame_366 : decode cL_isSame 366 = .ok (.if_icmp .ne 7, 3) := by decide +kernel
theorem dL_isSame_369 : decode cL_isSame 369 = .ok (.iconst 1, 1) := by decide +kernel
theorem dL_isSame_370 : decode cL_isSame 370 = .ok (.goto 4, 3) := by decide +kernel
theorem dL_isSame_373 : decode cL_isSame 373 = .ok (.iconst 0, 1) := by decide +kernel
theorem dL_isSame_374 : decode cL_isSame 374 = .ok (.ireturn, 1) := by decide +kernel
theorem dL_holds_0 : decode cL_holds 0 = .ok (.new 20, 3) := by decide +kernel
theorem dL_holds_3 : decode cL_holds 3 = .ok (.dup, 1) := by decide +kernel
theorem dL_holds_4 : decode cL_holds 4 = .ok (.invokespecial 142, 3) := by decide +kernel
theorem dL_holds_7 : decode cL_holds 7 = .ok (.astore_n 1, 1) := by decide +kernel
theorem dL_holds_8 : decode cL_holds 8 = .ok (.bipush 60, 2) := by decide +kernel
theorem dL_holds_10 : decode cL_holds 10 = .ok (.newarray .int, 2) := by decide +kernel
theorem dL_holds_12 : decode cL_holds 12 = .ok (.astore_n 2, 1) := by decide +kernel
theorem dL_holds_13 : decode cL_holds 13 = .ok (.bipush 60, 2) := by decide +kernel
theorem dL_holds_15 : decode cL_holds 15 = .ok (.newarray .int, 2) := by decide +kernel
theorem dL_holds_17 : decode cL_holds 17 = .ok (.astore_n 3, 1) := by decide +kernel
theorem dL_holds_18 : decode cL_holds 18 = .ok (.bipush 20, 2) := by decide +kernel
theorem dL_holds_20 : decode cL_holds 20 = .ok (.newarray .int, 2) := by decide +kernel
theorem dL_holds_22 : decode cL_holds 22 = .ok (.astore 4, 2) := by decide +kernel
theorem dL_holds_24 : decode cL_holds 24 = .ok (.bipush 31, 2) := by decide +kernel
theorem dL_holds_26 : decode cL_holds 26 = .ok (.newarray .int, 2) := by decide +kernel
theorem dL_holds_28 : decode cL_holds 28 = .ok (.astore 5, 2) := by decide +kernel
theorem dL_holds_30 : decode cL_holds 30 = .ok (.iconst 1, 1) := by decide +kernel
theorem dL_holds_31 : decode cL_holds 31 = .ok (.istore 6, 2) := by decide +kernel
theorem dL_holds_33 : decode cL_holds 33 = .ok (.iconst 0, 1) := by decide +kernel
theorem dL_holds_34 : decode cL_holds 34 = .ok (.istore 7, 2) := by decide +kernel
theorem dL_holds_36 : decode cL_holds 36 = .ok (.iload 7, 2) := by decide +kernel
theorem dL_holds_38 : decode cL_holds 38 = .ok (.iconst 5, 1) := by decide +kernel
theorem dL_holds_39 : decode cL_holds 39 = .ok (.if_icmp .ge 48, 3) := by decide +kernel
theorem dL_holds_42 : decode cL_holds 42 = .ok (.iload 6, 2) := by decide +kernel
theorem dL_holds_44 : decode cL_holds 44 = .ok (.ifCond .eq 43, 3) := by decide +kernel
theorem dL_holds_47 : decode cL_holds 47 = .ok (.aload_n 2, 1) := by decide +kernel
theorem dL_holds_48 : decode cL_holds 48 = .ok (.bipush 12, 2) := by decide +kernel
theorem dL_holds_50 : decode cL_holds 50 = .ok (.iload 7, 2) := by decide +kernel
theorem dL_holds_52 : decode cL_holds 52 = .ok (.imul, 1) := by decide +kernel
theorem dL_holds_53 : decode cL_holds 53 = .ok (.iconst 1, 1) := by decide +kernel
theorem dL_holds_54 : decode cL_holds 54 = .ok (.iastore, 1) := by decide +kernel
theorem dL_holds_55 : decode cL_holds 55 = .ok (.aload_n 2, 1) := by decide +kernel
theorem dL_holds_56 : decode cL_holds 56 = .ok (.bipush 12, 2) := by decide +kernel
theorem dL_holds_58 : decode cL_holds 58 = .ok (.iload 7, 2) := by decide +kernel
theorem dL_holds_60 : decode cL_holds 60 = .ok (.imul, 1) := by decide +kernel
theorem dL_holds_61 : decode cL_holds 61 = .ok (.iconst 5, 1) := by decide +kernel
theorem dL_holds_62 : decode cL_holds 62 = .ok (.iadd, 1) := by decide +kernel
theorem dL_holds_63 : decode cL_holds 63 = .ok (.iconst 1, 1) := by decide +kernel
theorem dL_holds_64 : decode cL_holds 64 = .ok (.iastore, 1) := by decide +kernel
theorem dL_holds_65 : decode cL_holds 65 = .ok (.aload_n 1, 1) := by decide +kernel
theorem dL_holds_66 : decode cL_holds 66 = .ok (.invokevirtual 143, 3) := by decide +kernel
theorem dL_holds_69 : decode cL_holds 69 = .ok (.iload 7, 2) := by decide +kernel
theorem dL_holds_71 : decode cL_holds 71 = .ok (.if_icmp .ne 7, 3) := by decide +kernel
theorem dL_holds_74 : decode cL_holds 74 = .ok (.iconst 1, 1) := by decide +kernel
theorem dL_holds_75 : decode cL_holds 75 = .ok (.goto 4, 3) := by decide +kernel
theorem dL_holds_78 : decode cL_holds 78 = .ok (.iconst 0, 1) := by decide +kernel
theorem dL_holds_79 : decode cL_holds 79 = .ok (.istore 6, 2) := by decide +kernel
theorem dL_holds_81 : decode cL_holds 81 = .ok (.iinc 7 1, 3) := by decide +kernel
theorem dL_holds_84 : decode cL_holds 84 = .ok (.goto (-48), 3) := by decide +kernel
theorem dL_holds_87 : decode cL_holds 87 = .ok (.iconst 5, 1) := by decide +kernel
theorem dL_holds_88 : decode cL_holds 88 = .ok (.istore 7, 2) := by decide +kernel
theorem dL_holds_90 : decode cL_holds 90 = .ok (.iload 7, 2) := by decide +kernel
theorem dL_holds_92 : decode cL_holds 92 = .ok (.bipush 13, 2) := by decide +kernel
theorem dL_holds_94 : decode cL_holds 94 = .ok (.if_icmp .ge 16, 3) := by decide +kernel
theorem dL_holds_97 : decode cL_holds 97 = .ok (.aload 5, 2) := by decide +kernel
theorem dL_holds_99 : decode cL_holds 99 = .ok (.iload 7, 2) := by decide +kernel
theorem dL_holds_101 : decode cL_holds 101 = .ok (.bipush 10, 2) := by decide +kernel
theorem dL_holds_103 : decode cL_holds 103 = .ok (.iastore, 1) := by decide +kernel
theorem dL_holds_104 : decode cL_holds 104 = .ok (.iinc 7 1, 3) := by decide +kernel
theorem dL_holds_107 : decode cL_holds 107 = .ok (.goto (-17), 3) := by decide +kernel
theorem dL_holds_110 : decode cL_holds 110 = .ok (.aload 5, 2) := by decide +kernel
theorem dL_holds_112 : decode cL_holds 112 = .ok (.iconst 0, 1) := by decide +kernel
theorem dL_holds_113 : decode cL_holds 113 = .ok (.bipush 10, 2) := by decide +kernel
theorem dL_holds_115 : decode cL_holds 115 = .ok (.iastore, 1) := by decide +kernel
theorem dL_holds_116 : decode cL_holds 116 = .ok (.aload 5, 2) := by decide +kernel
theorem dL_holds_118 : decode cL_holds 118 = .ok (.iconst 1, 1) := by decide +kernel
theorem dL_holds_119 : decode cL_holds 119 = .ok (.bipush 20, 2) := by decide +kernel
theorem dL_holds_121 : decode cL_holds 121 = .ok (.iastore, 1) := by decide +kernel
theorem dL_holds_122 : decode cL_holds 122 = .ok (.aload 5, 2) := by decide +kernel
theorem dL_holds_124 : decode cL_holds 124 = .ok (.bipush 13, 2) := by decide +kernel
theorem dL_holds_126 : decode cL_holds 126 = .ok (.bipush 10, 2) := by decide +kernel
theorem dL_holds_128 : decode cL_holds 128 = .ok (.iastore, 1) := by decide +kernel
theorem dL_holds_129 : decode cL_holds 129 = .ok (.aload 5, 2) := by decide +kernel
theorem dL_holds_131 : decode cL_holds 131 = .ok (.bipush 15, 2) := by decide +kernel
theorem dL_holds_133 : decode cL_holds 133 = .ok (.sipush 12345, 3) := by decide +kernel
theorem dL_holds_136 : decode cL_holds 136 = .ok (.iastore, 1) := by decide +kernel
theorem dL_holds_137 : decode cL_holds 137 = .ok (.aload 5, 2) := by decide +kernel
theorem dL_holds_139 : decode cL_holds 139 = .ok (.bipush 17, 2) := by decide +kernel
theorem dL_holds_141 : decode cL_holds 141 = .ok (.sipush 200, 3) := by decide +kernel
theorem dL_holds_144 : decode cL_holds 144 = .ok (.iastore, 1) := by decide +kernel
theorem dL_holds_145 : decode cL_holds 145 = .ok (.aload 5, 2) := by decide +kernel
theorem dL_holds_147 : decode cL_holds 147 = .ok (.bipush 18, 2) := by decide +kernel
theorem dL_holds_149 : decode cL_holds 149 = .ok (.bipush 20, 2) := by decide +kernel
theorem dL_holds_151 : decode cL_holds 151 = .ok (.iastore, 1) := by decide +kernel
theorem dL_holds_152 : decode cL_holds 152 = .ok (.iconst 0, 1) := by decide +kernel
theorem dL_holds_153 : decode cL_holds 153 = .ok (.istore 7, 2) := by decide +kernel
theorem dL_holds_155 : decode cL_holds 155 = .ok (.iload 7, 2) := by decide +kernel
theorem dL_holds_157 : decode cL_holds 157 = .ok (.bipush 80, 2) := by decide +kernel
theorem dL_holds_159 : decode cL_holds 159 = .ok (.if_icmp .ge 313, 3) := by decide +kernel
theorem dL_holds_162 : decode cL_holds 162 = .ok (.iload 6, 2) := by decide +kernel
theorem dL_holds_164 : decode cL_holds 164 = .ok (.ifCond .eq 308, 3) := by decide +kernel
theorem dL_holds_167 : decode cL_holds 167 = .ok (.aload_n 0, 1) := by decide +kernel
theorem dL_holds_168 : decode cL_holds 168 = .ok (.iconst 2, 1) := by decide +kernel
theorem dL_holds_169 : decode cL_holds 169 = .ok (.iload 7, 2) := by decide +kernel
theorem dL_holds_171 : decode cL_holds 171 = .ok (.imul, 1) := by decide +kernel
theorem dL_holds_172 : decode cL_holds 172 = .ok (.bipush 32, 2) := by decide +kernel
theorem dL_holds_174 : decode cL_holds 174 = .ok (.invokestatic 146, 3) := by decide +kernel
theorem dL_holds_177 : decode cL_holds 177 = .ok (.istore 8, 2) := by decide +kernel
theorem dL_holds_179 : decode cL_holds 179 = .ok (.aload_n 0, 1) := by decide +kernel
theorem dL_holds_180 : decode cL_holds 180 = .ok (.iconst 2, 1) := by decide +kernel
theorem dL_holds_181 : decode cL_holds 181 = .ok (.iload 7, 2) := by decide +kernel
theorem dL_holds_183 : decode cL_holds 183 = .ok (.imul, 1) := by decide +kernel
theorem dL_holds_184 : decode cL_holds 184 = .ok (.iconst 1, 1) := by decide +kernel
theorem dL_holds_185 : decode cL_holds 185 = .ok (.iadd, 1) := by decide +kernel
theorem dL_holds_186 : decode cL_holds 186 = .ok (.ldc 150, 2) := by decide +kernel
theorem dL_holds_188 : decode cL_holds 188 = .ok (.invokestatic 146, 3) := by decide +kernel
theorem dL_holds_191 : decode cL_holds 191 = .ok (.istore 9, 2) := by decide +kernel
theorem dL_holds_193 : decode cL_holds 193 = .ok (.iload 8, 2) := by decide +kernel
theorem dL_holds_195 : decode cL_holds 195 = .ok (.bipush 8, 2) := by decide +kernel
theorem dL_holds_197 : decode cL_holds 197 = .ok (.if_icmp .ge 17, 3) := by decide +kernel
theorem dL_holds_200 : decode cL_holds 200 = .ok (.aload_n 1, 1) := by decide +kernel
theorem dL_holds_201 : decode cL_holds 201 = .ok (.aload_n 2, 1) := by decide +kernel
theorem dL_holds_202 : decode cL_holds 202 = .ok (.aload 5, 2) := by decide +kernel
theorem dL_holds_204 : decode cL_holds 204 = .ok (.iload 9, 2) := by decide +kernel
theorem dL_holds_206 : decode cL_holds 206 = .ok (.invokestatic 151, 3) := by decide +kernel
theorem dL_holds_209 : decode cL_holds 209 = .ok (.istore 6, 2) := by decide +kernel
theorem dL_holds_211 : decode cL_holds 211 = .ok (.goto 225, 3) := by decide +kernel
theorem dL_holds_214 : decode cL_holds 214 = .ok (.iload 8, 2) := by decide +kernel
theorem dL_holds_216 : decode cL_holds 216 = .ok (.bipush 12, 2) := by decide +kernel
theorem dL_holds_218 : decode cL_holds 218 = .ok (.if_icmp .ge 16, 3) := by decide +kernel
theorem dL_holds_221 : decode cL_holds 221 = .ok (.aload_n 1, 1) := by decide +kernel
theorem dL_holds_222 : decode cL_holds 222 = .ok (.aload_n 2, 1) := by decide +kernel
theorem dL_holds_223 : decode cL_holds 223 = .ok (.aload_n 3, 1) := by decide +kernel
theorem dL_holds_224 : decode cL_holds 224 = .ok (.aload 5, 2) := by decide +kernel
theorem dL_holds_226 : decode cL_holds 226 = .ok (.invokestatic 155, 3) := by decide +kernel
theorem dL_holds_229 : decode cL_holds 229 = .ok (.istore 6, 2) := by decide +kernel
theorem dL_holds_231 : decode cL_holds 231 = .ok (.goto 205, 3) := by decide +kernel
theorem dL_holds_234 : decode cL_holds 234 = .ok (.iload 8, 2) := by decide +kernel
theorem dL_holds_236 : decode cL_holds 236 = .ok (.bipush 18, 2) := by decide +kernel
theorem dL_holds_238 : decode cL_holds 238 = .ok (.if_icmp .ge 20, 3) := by decide +kernel
theorem dL_holds_241 : decode cL_holds 241 = .ok (.aload_n 1, 1) := by decide +kernel
theorem dL_holds_242 : decode cL_holds 242 = .ok (.aload_n 2, 1) := by decide +kernel
theorem dL_holds_243 : decode cL_holds 243 = .ok (.aload_n 3, 1) := by decide +kernel
theorem dL_holds_244 : decode cL_holds 244 = .ok (.aload 4, 2) := by decide +kernel
theorem dL_holds_246 : decode cL_holds 246 = .ok (.aload 5, 2) := by decide +kernel
theorem dL_holds_248 : decode cL_holds 248 = .ok (.iload 9, 2) := by decide +kernel
theorem dL_holds_250 : decode cL_holds 250 = .ok (.invokestatic 159, 3) := by decide +kernel
theorem dL_holds_253 : decode cL_holds 253 = .ok (.istore 6, 2) := by decide +kernel
theorem dL_holds_255 : decode cL_holds 255 = .ok (.goto 181, 3) := by decide +kernel
theorem dL_holds_258 : decode cL_holds 258 = .ok (.iload 8, 2) := by decide +kernel
theorem dL_holds_260 : decode cL_holds 260 = .ok (.bipush 20, 2) := by decide +kernel
theorem dL_holds_262 : decode cL_holds 262 = .ok (.if_icmp .ge 18, 3) := by decide +kernel
theorem dL_holds_265 : decode cL_holds 265 = .ok (.aload_n 1, 1) := by decide +kernel
theorem dL_holds_266 : decode cL_holds 266 = .ok (.aload_n 2, 1) := by decide +kernel
theorem dL_holds_267 : decode cL_holds 267 = .ok (.aload_n 3, 1) := by decide +kernel
theorem dL_holds_268 : decode cL_holds 268 = .ok (.aload 5, 2) := by decide +kernel
theorem dL_holds_270 : decode cL_holds 270 = .ok (.iload 9, 2) := by decide +kernel
theorem dL_holds_272 : decode cL_holds 272 = .ok (.invokestatic 163, 3) := by decide +kernel
theorem dL_holds_275 : decode cL_holds 275 = .ok (.istore 6, 2) := by decide +kernel
theorem dL_holds_277 : decode cL_holds 277 = .ok (.goto 159, 3) := by decide +kernel
theorem dL_holds_280 : decode cL_holds 280 = .ok (.iload 8, 2) := by decide +kernel
theorem dL_holds_282 : decode cL_holds 282 = .ok (.bipush 27, 2) := by decide +kernel
theorem dL_holds_284 : decode cL_holds 284 = .ok (.if_icmp .ge 17, 3) := by decide +kernel
theorem dL_holds_287 : decode cL_holds 287 = .ok (.aload_n 1, 1) := by decide +kernel
theorem dL_holds_288 : decode cL_holds 288 = .ok (.aload_n 2, 1) := by decide +kernel
theorem dL_holds_289 : decode cL_holds 289 = .ok (.aload 5, 2) := by decide +kernel
theorem dL_holds_291 : decode cL_holds 291 = .ok (.iload 9, 2) := by decide +kernel
theorem dL_holds_293 : decode cL_holds 293 = .ok (.invokestatic 167, 3) := by decide +kernel
theorem dL_holds_296 : decode cL_holds 296 = .ok (.istore 6, 2) := by decide +kernel
theorem dL_holds_298 : decode cL_holds 298 = .ok (.goto 138, 3) := by decide +kernel
theorem dL_holds_301 : decode cL_holds 301 = .ok (.iload 8, 2) := by decide +kernel
theorem dL_holds_303 : decode cL_holds 303 = .ok (.bipush 29, 2) := by decide +kernel
theorem dL_holds_305 : decode cL_holds 305 = .ok (.if_icmp .ge 31, 3) := by decide +kernel
theorem dL_holds_308 : decode cL_holds 308 = .ok (.aload_n 1, 1) := by decide +kernel
theorem dL_holds_309 : decode cL_holds 309 = .ok (.aload_n 2, 1) := by decide +kernel
theorem dL_holds_310 : decode cL_holds 310 = .ok (.aload_n 3, 1) := by decide +kernel
theorem dL_holds_311 : decode cL_holds 311 = .ok (.aload 5, 2) := by decide +kernel
theorem dL_holds_313 : decode cL_holds 313 = .ok (.iload 9, 2) := by decide +kernel
theorem dL_holds_315 : decode cL_holds 315 = .ok (.iconst 3, 1) := by decide +kernel
theorem dL_holds_316 : decode cL_holds 316 = .ok (.irem, 1) := by decide +kernel
theorem dL_holds_317 : decode cL_holds 317 = .ok (.ifCond .ne 7, 3) := by decide +kernel
theorem dL_holds_320 : decode cL_holds 320 = .ok (.iconst 0, 1) := by decide +kernel
theorem dL_holds_321 : decode cL_holds 321 = .ok (.goto 7, 3) := by decide +kernel
theorem dL_holds_324 : decode cL_holds 324 = .ok (.iload 9, 2) := by decide +kernel
theorem dL_holds_326 : decode cL_holds 326 = .ok (.iconst 2, 1) := by decide +kernel
theorem dL_holds_327 : decode cL_holds 327 = .ok (.irem, 1) := by decide +kernel
theorem dL_holds_328 : decode cL_holds 328 = .ok (.invokestatic 170, 3) := by decide +kernel
theorem dL_holds_331 : decode cL_holds 331 = .ok (.istore 6, 2) := by decide +kernel
theorem dL_holds_333 : decode cL_holds 333 = .ok (.goto 103, 3) := by decide +kernel
theorem dL_holds_336 : decode cL_holds 336 = .ok (.iload 8, 2) := by decide +kernel
theorem dL_holds_338 : decode cL_holds 338 = .ok (.bipush 29, 2) := by decide +kernel
theorem dL_holds_340 : decode cL_holds 340 = .ok (.if_icmp .ne 17, 3) := by decide +kernel
theorem dL_holds_343 : decode cL_holds 343 = .ok (.aload_n 1, 1) := by decide +kernel
theorem dL_holds_344 : decode cL_holds 344 = .ok (.aload_n 2, 1) := by decide +kernel
theorem dL_holds_345 : decode cL_holds 345 = .ok (.iload 9, 2) := by decide +kernel
theorem dL_holds_347 : decode cL_holds 347 = .ok (.iconst 5, 1) := by decide +kernel
theorem dL_holds_348 : decode cL_holds 348 = .ok (.irem, 1) := by decide +kernel
theorem dL_holds_349 : decode cL_holds 349 = .ok (.invokestatic 173, 3) := by decide +kernel
theorem dL_holds_352 : decode cL_holds 352 = .ok (.istore 6, 2) := by decide +kernel
theorem dL_holds_354 : decode cL_holds 354 = .ok (.goto 82, 3) := by decide +kernel
theorem dL_holds_357 : decode cL_holds 357 = .ok (.iload 8, 2) := by decide +kernel
theorem dL_holds_359 : decode cL_holds 359 = .ok (.bipush 30, 2) := by decide +kernel
theorem dL_holds_361 : decode cL_holds 361 = .ok (.if_icmp .ne 39, 3) := by decide +kernel
theorem dL_holds_364 : decode cL_holds 364 = .ok (.iload 9, 2) := by decide +kernel
theorem dL_holds_366 : decode cL_holds 366 = .ok (.iconst 3, 1) := by decide +kernel
theorem dL_holds_367 : decode cL_holds 367 = .ok (.irem, 1) := by decide +kernel
theorem dL_holds_368 : decode cL_holds 368 = .ok (.ifCond .gt 22, 3) := by decide +kernel
theorem dL_holds_371 : decode cL_holds 371 = .ok (.aload_n 1, 1) := by decide +kernel
theorem dL_holds_372 : decode cL_holds 372 = .ok (.aload_n 2, 1) := by decide +kernel
theorem dL_holds_373 : decode cL_holds 373 = .ok (.aload_n 3, 1) := by decide +kernel
theorem dL_holds_374 : decode cL_holds 374 = .ok (.aload 4, 2) := by decide +kernel
theorem dL_holds_376 : decode cL_holds 376 = .ok (.aload 5, 2) := by decide +kernel
theorem dL_holds_378 : decode cL_holds 378 = .ok (.iload 9, 2) := by decide +kernel
theorem dL_holds_380 : decode cL_holds 380 = .ok (.iconst 3, 1) := by decide +kernel
theorem dL_holds_381 : decode cL_holds 381 = .ok (.idiv, 1) := by decide +kernel
theorem dL_holds_382 : decode cL_holds 382 = .ok (.iconst 5, 1) := by decide +kernel
theorem dL_holds_383 : decode cL_holds 383 = .ok (.irem, 1) := by decide +kernel
theorem dL_holds_384 : decode cL_holds 384 = .ok (.invokestatic 177, 3) := by decide +kernel
theorem dL_holds_387 : decode cL_holds 387 = .ok (.ifCond .eq 7, 3) := by decide +kernel
theorem dL_holds_390 : decode cL_holds 390 = .ok (.iconst 1, 1) := by decide +kernel
theorem dL_holds_391 : decode cL_holds 391 = .ok (.goto 4, 3) := by decide +kernel
theorem dL_holds_394 : decode cL_holds 394 = .ok (.iconst 0, 1) := by decide +kernel
theorem dL_holds_395 : decode cL_holds 395 = .ok (.istore 6, 2) := by decide +kernel
theorem dL_holds_397 : decode cL_holds 397 = .ok (.goto 39, 3) := by decide +kernel
theorem dL_holds_400 : decode cL_holds 400 = .ok (.iload 7, 2) := by decide +kernel
theorem dL_holds_402 : decode cL_holds 402 = .ok (.bipush 40, 2) := by decide +kernel
theorem dL_holds_404 : decode cL_holds 404 = .ok (.if_icmp .lt 25, 3) := by decide +kernel
theorem dL_holds_407 : decode cL_holds 407 = .ok (.iload 9, 2) := by decide +kernel
theorem dL_holds_409 : decode cL_holds 409 = .ok (.iconst 3, 1) := by decide +kernel
theorem dL_holds_410 : decode cL_holds 410 = .ok (.irem, 1) := by decide +kernel
theorem dL_holds_411 : decode cL_holds 411 = .ok (.ifCond .gt 18, 3) := by decide +kernel
theorem dL_holds_414 : decode cL_holds 414 = .ok (.aload_n 1, 1) := by decide +kernel
theorem dL_holds_415 : decode cL_holds 415 = .ok (.aload_n 2, 1) := by decide +kernel
theorem dL_holds_416 : decode cL_holds 416 = .ok (.aload_n 3, 1) := by decide +kernel
theorem dL_holds_417 : decode cL_holds 417 = .ok (.aload 5, 2) := by decide +kernel
theorem dL_holds_419 : decode cL_holds 419 = .ok (.iload 9, 2) := by decide +kernel
theorem dL_holds_421 : decode cL_holds 421 = .ok (.iconst 3, 1) := by decide +kernel
theorem dL_holds_422 : decode cL_holds 422 = .ok (.idiv, 1) := by decide +kernel
theorem dL_holds_423 : decode cL_holds 423 = .ok (.invokestatic 180, 3) := by decide +kernel
theorem dL_holds_426 : decode cL_holds 426 = .ok (.ifCond .eq 7, 3) := by decide +kernel
theorem dL_holds_429 : decode cL_holds 429 = .ok (.iconst 1, 1) := by decide +kernel
theorem dL_holds_430 : decode cL_holds 430 = .ok (.goto 4, 3) := by decide +kernel
theorem dL_holds_433 : decode cL_holds 433 = .ok (.iconst 0, 1) := by decide +kernel
theorem dL_holds_434 : decode cL_holds 434 = .ok (.istore 6, 2) := by decide +kernel
theorem dL_holds_436 : decode cL_holds 436 = .ok (.iload 6, 2) := by decide +kernel
theorem dL_holds_438 : decode cL_holds 438 = .ok (.ifCond .eq 25, 3) := by decide +kernel
theorem dL_holds_441 : decode cL_holds 441 = .ok (.aload_n 1, 1) := by decide +kernel
theorem dL_holds_442 : decode cL_holds 442 = .ok (.aload_n 2, 1) := by decide +kernel
theorem dL_holds_443 : decode cL_holds 443 = .ok (.aload_n 3, 1) := by decide +kernel
theorem dL_holds_444 : decode cL_holds 444 = .ok (.aload 4, 2) := by decide +kernel
theorem dL_holds_446 : decode cL_holds 446 = .ok (.aload 5, 2) := by decide +kernel
theorem dL_holds_448 : decode cL_holds 448 = .ok (.iload 9, 2) := by decide +kernel
theorem dL_holds_450 : decode cL_holds 450 = .ok (.bipush 7, 2) := by decide +kernel
theorem dL_holds_452 : decode cL_holds 452 = .ok (.idiv, 1) := by decide +kernel
theorem dL_holds_453 : decode cL_holds 453 = .ok (.invokestatic 183, 3) := by decide +kernel
theorem dL_holds_456 : decode cL_holds 456 = .ok (.ifCond .eq 7, 3) := by decide +kernel
theorem dL_holds_459 : decode cL_holds 459 = .ok (.iconst 1, 1) := by decide +kernel
theorem dL_holds_460 : decode cL_holds 460 = .ok (.goto 4, 3) := by decide +kernel
theorem dL_holds_463 : decode cL_holds 463 = .ok (.iconst 0, 1) := by decide +kernel
theorem dL_holds_464 : decode cL_holds 464 = .ok (.istore 6, 2) := by decide +kernel
theorem dL_holds_466 : decode cL_holds 466 = .ok (.iinc 7 1, 3) := by decide +kernel
theorem dL_holds_469 : decode cL_holds 469 = .ok (.goto (-314), 3) := by decide +kernel
theorem dL_holds_472 : decode cL_holds 472 = .ok (.iload 6, 2) := by decide +kernel
theorem dL_holds_474 : decode cL_holds 474 = .ok (.ireturn, 1) := by decide +kernel
theorem dL_isHeld_0 : decode cL_isHeld 0 = .ok (.aload_n 0, 1) := by decide +kernel
theorem dL_isHeld_1 : decode cL_isHeld 1 = .ok (.invokestatic 186, 3) := by decide +kernel
theorem dL_isHeld_4 : decode cL_isHeld 4 = .ok (.ireturn, 1) := by decide +kernel
theorem dL_isHeld_5 : decode cL_isHeld 5 = .ok (.astore_n 1, 1) := by decide +kernel
theorem dL_isHeld_6 : decode cL_isHeld 6 = .ok (.iconst 0, 1) := by decide +kernel
theorem dL_isHeld_7 : decode cL_isHeld 7 = .ok (.ireturn, 1) := by decide +kernel
theorem dL_isHeld_8 : decode cL_isHeld 8 = .ok (.astore_n 1, 1) := by decide +kernel
theorem dL_isHeld_9 : decode cL_isHeld 9 = .ok (.iconst 0, 1) := by decide +kernel
theorem dL_isHeld_10 : decode cL_isHeld 10 = .ok (.ireturn, 1) := by decide +kernel
theorem dL_isHeld_11 : decode cL_isHeld 11 = .ok (.astore_n 1, 1) := by decide +kernel
theorem dL_isHeld_12 : decode cL_isHeld 12 = .ok (.iconst 0, 1) := by decide +kernel
theorem dL_isHeld_13 : decode cL_isHeld 13 = .ok (.ireturn, 1) := by decide +kernel
theorem dL_law_0 : decode cL_law 0 = .ok (.aload_n 0, 1) := by decide +kernel
theorem dL_law_1 : decode cL_law 1 = .ok (.invokestatic 196, 3) := by decide +kernel
theorem dL_law_4 : decode cL_law 4 = .ok (.ireturn, 1) := by decide +kernel
