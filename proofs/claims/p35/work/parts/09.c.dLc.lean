theorem dL_isStruck_0 : decode cL_isStruck 0 = .ok (.iload 4, 2) := by decide +kernel
theorem dL_isStruck_2 : decode cL_isStruck 2 = .ok (.ifCond .ne 153, 3) := by decide +kernel
theorem dL_isStruck_5 : decode cL_isStruck 5 = .ok (.iconst 0, 1) := by decide +kernel
theorem dL_isStruck_6 : decode cL_isStruck 6 = .ok (.istore 5, 2) := by decide +kernel
theorem dL_isStruck_8 : decode cL_isStruck 8 = .ok (.iconst 0, 1) := by decide +kernel
theorem dL_isStruck_9 : decode cL_isStruck 9 = .ok (.istore 6, 2) := by decide +kernel
theorem dL_isStruck_11 : decode cL_isStruck 11 = .ok (.iconst 0, 1) := by decide +kernel
theorem dL_isStruck_12 : decode cL_isStruck 12 = .ok (.istore 7, 2) := by decide +kernel
theorem dL_isStruck_14 : decode cL_isStruck 14 = .ok (.iload 7, 2) := by decide +kernel
theorem dL_isStruck_16 : decode cL_isStruck 16 = .ok (.iconst 5, 1) := by decide +kernel
theorem dL_isStruck_17 : decode cL_isStruck 17 = .ok (.if_icmp .ge 78, 3) := by decide +kernel
theorem dL_isStruck_20 : decode cL_isStruck 20 = .ok (.iload 5, 2) := by decide +kernel
theorem dL_isStruck_22 : decode cL_isStruck 22 = .ok (.aload_n 1, 1) := by decide +kernel
theorem dL_isStruck_23 : decode cL_isStruck 23 = .ok (.bipush 12, 2) := by decide +kernel
theorem dL_isStruck_25 : decode cL_isStruck 25 = .ok (.iload 7, 2) := by decide +kernel
theorem dL_isStruck_27 : decode cL_isStruck 27 = .ok (.imul, 1) := by decide +kernel
theorem dL_isStruck_28 : decode cL_isStruck 28 = .ok (.iaload, 1) := by decide +kernel
theorem dL_isStruck_29 : decode cL_isStruck 29 = .ok (.iconst 1, 1) := by decide +kernel
theorem dL_isStruck_30 : decode cL_isStruck 30 = .ok (.if_icmp .ne 21, 3) := by decide +kernel
theorem dL_isStruck_33 : decode cL_isStruck 33 = .ok (.aload_n 1, 1) := by decide +kernel
theorem dL_isStruck_34 : decode cL_isStruck 34 = .ok (.bipush 12, 2) := by decide +kernel
theorem dL_isStruck_36 : decode cL_isStruck 36 = .ok (.iload 7, 2) := by decide +kernel
theorem dL_isStruck_38 : decode cL_isStruck 38 = .ok (.imul, 1) := by decide +kernel
theorem dL_isStruck_39 : decode cL_isStruck 39 = .ok (.bipush 9, 2) := by decide +kernel
theorem dL_isStruck_41 : decode cL_isStruck 41 = .ok (.iadd, 1) := by decide +kernel
theorem dL_isStruck_42 : decode cL_isStruck 42 = .ok (.iaload, 1) := by decide +kernel
theorem dL_isStruck_43 : decode cL_isStruck 43 = .ok (.iconst 1, 1) := by decide +kernel
theorem dL_isStruck_44 : decode cL_isStruck 44 = .ok (.if_icmp .ne 7, 3) := by decide +kernel
theorem dL_isStruck_47 : decode cL_isStruck 47 = .ok (.iconst 1, 1) := by decide +kernel
theorem dL_isStruck_48 : decode cL_isStruck 48 = .ok (.goto 4, 3) := by decide +kernel
theorem dL_isStruck_51 : decode cL_isStruck 51 = .ok (.iconst 0, 1) := by decide +kernel
theorem dL_isStruck_52 : decode cL_isStruck 52 = .ok (.iadd, 1) := by decide +kernel
theorem dL_isStruck_53 : decode cL_isStruck 53 = .ok (.istore 5, 2) := by decide +kernel
theorem dL_isStruck_55 : decode cL_isStruck 55 = .ok (.iload 6, 2) := by decide +kernel
theorem dL_isStruck_57 : decode cL_isStruck 57 = .ok (.aload_n 1, 1) := by decide +kernel
theorem dL_isStruck_58 : decode cL_isStruck 58 = .ok (.bipush 12, 2) := by decide +kernel
theorem dL_isStruck_60 : decode cL_isStruck 60 = .ok (.iload 7, 2) := by decide +kernel
theorem dL_isStruck_62 : decode cL_isStruck 62 = .ok (.imul, 1) := by decide +kernel
theorem dL_isStruck_63 : decode cL_isStruck 63 = .ok (.iaload, 1) := by decide +kernel
theorem dL_isStruck_64 : decode cL_isStruck 64 = .ok (.iconst 1, 1) := by decide +kernel
theorem dL_isStruck_65 : decode cL_isStruck 65 = .ok (.if_icmp .ne 20, 3) := by decide +kernel
theorem dL_isStruck_68 : decode cL_isStruck 68 = .ok (.aload_n 1, 1) := by decide +kernel
theorem dL_isStruck_69 : decode cL_isStruck 69 = .ok (.bipush 12, 2) := by decide +kernel
theorem dL_isStruck_71 : decode cL_isStruck 71 = .ok (.iload 7, 2) := by decide +kernel
theorem dL_isStruck_73 : decode cL_isStruck 73 = .ok (.imul, 1) := by decide +kernel
theorem dL_isStruck_74 : decode cL_isStruck 74 = .ok (.bipush 9, 2) := by decide +kernel
theorem dL_isStruck_76 : decode cL_isStruck 76 = .ok (.iadd, 1) := by decide +kernel
theorem dL_isStruck_77 : decode cL_isStruck 77 = .ok (.iaload, 1) := by decide +kernel
theorem dL_isStruck_78 : decode cL_isStruck 78 = .ok (.ifCond .ne 7, 3) := by decide +kernel
theorem dL_isStruck_81 : decode cL_isStruck 81 = .ok (.iconst 1, 1) := by decide +kernel
theorem dL_isStruck_82 : decode cL_isStruck 82 = .ok (.goto 4, 3) := by decide +kernel
theorem dL_isStruck_85 : decode cL_isStruck 85 = .ok (.iconst 0, 1) := by decide +kernel
theorem dL_isStruck_86 : decode cL_isStruck 86 = .ok (.iadd, 1) := by decide +kernel
theorem dL_isStruck_87 : decode cL_isStruck 87 = .ok (.istore 6, 2) := by decide +kernel
theorem dL_isStruck_89 : decode cL_isStruck 89 = .ok (.iinc 7 1, 3) := by decide +kernel
theorem dL_isStruck_92 : decode cL_isStruck 92 = .ok (.goto (-78), 3) := by decide +kernel
theorem dL_isStruck_95 : decode cL_isStruck 95 = .ok (.aload_n 3, 1) := by decide +kernel
theorem dL_isStruck_96 : decode cL_isStruck 96 = .ok (.bipush 23, 2) := by decide +kernel
theorem dL_isStruck_98 : decode cL_isStruck 98 = .ok (.iaload, 1) := by decide +kernel
theorem dL_isStruck_99 : decode cL_isStruck 99 = .ok (.iconst 1, 1) := by decide +kernel
theorem dL_isStruck_100 : decode cL_isStruck 100 = .ok (.if_icmp .eq 17, 3) := by decide +kernel
theorem dL_isStruck_103 : decode cL_isStruck 103 = .ok (.aload_n 3, 1) := by decide +kernel
theorem dL_isStruck_104 : decode cL_isStruck 104 = .ok (.bipush 22, 2) := by decide +kernel
theorem dL_isStruck_106 : decode cL_isStruck 106 = .ok (.iaload, 1) := by decide +kernel
theorem dL_isStruck_107 : decode cL_isStruck 107 = .ok (.ifCond .ne 12, 3) := by decide +kernel
theorem dL_isStruck_110 : decode cL_isStruck 110 = .ok (.iload 5, 2) := by decide +kernel
theorem dL_isStruck_112 : decode cL_isStruck 112 = .ok (.iload 6, 2) := by decide +kernel
theorem dL_isStruck_114 : decode cL_isStruck 114 = .ok (.if_icmp .gt 5, 3) := by decide +kernel
theorem dL_isStruck_117 : decode cL_isStruck 117 = .ok (.iconst 1, 1) := by decide +kernel
theorem dL_isStruck_118 : decode cL_isStruck 118 = .ok (.ireturn, 1) := by decide +kernel
theorem dL_isStruck_119 : decode cL_isStruck 119 = .ok (.aload_n 3, 1) := by decide +kernel
theorem dL_isStruck_120 : decode cL_isStruck 120 = .ok (.bipush 22, 2) := by decide +kernel
theorem dL_isStruck_122 : decode cL_isStruck 122 = .ok (.iconst 1, 1) := by decide +kernel
theorem dL_isStruck_123 : decode cL_isStruck 123 = .ok (.aload_n 3, 1) := by decide +kernel
theorem dL_isStruck_124 : decode cL_isStruck 124 = .ok (.bipush 22, 2) := by decide +kernel
theorem dL_isStruck_126 : decode cL_isStruck 126 = .ok (.iaload, 1) := by decide +kernel
theorem dL_isStruck_127 : decode cL_isStruck 127 = .ok (.isub, 1) := by decide +kernel
theorem dL_isStruck_128 : decode cL_isStruck 128 = .ok (.iastore, 1) := by decide +kernel
theorem dL_isStruck_129 : decode cL_isStruck 129 = .ok (.aload_n 0, 1) := by decide +kernel
theorem dL_isStruck_130 : decode cL_isStruck 130 = .ok (.invokevirtual 62, 3) := by decide +kernel
theorem dL_isStruck_133 : decode cL_isStruck 133 = .ok (.aload_n 3, 1) := by decide +kernel
theorem dL_isStruck_134 : decode cL_isStruck 134 = .ok (.bipush 22, 2) := by decide +kernel
theorem dL_isStruck_136 : decode cL_isStruck 136 = .ok (.iaload, 1) := by decide +kernel
theorem dL_isStruck_137 : decode cL_isStruck 137 = .ok (.iconst 1, 1) := by decide +kernel
theorem dL_isStruck_138 : decode cL_isStruck 138 = .ok (.if_icmp .ne 7, 3) := by decide +kernel
theorem dL_isStruck_141 : decode cL_isStruck 141 = .ok (.iconst 1, 1) := by decide +kernel
theorem dL_isStruck_142 : decode cL_isStruck 142 = .ok (.goto 4, 3) := by decide +kernel
theorem dL_isStruck_145 : decode cL_isStruck 145 = .ok (.iconst 0, 1) := by decide +kernel
theorem dL_isStruck_146 : decode cL_isStruck 146 = .ok (.if_icmp .ne 7, 3) := by decide +kernel
theorem dL_isStruck_149 : decode cL_isStruck 149 = .ok (.iconst 1, 1) := by decide +kernel
theorem dL_isStruck_150 : decode cL_isStruck 150 = .ok (.goto 4, 3) := by decide +kernel
theorem dL_isStruck_153 : decode cL_isStruck 153 = .ok (.iconst 0, 1) := by decide +kernel
theorem dL_isStruck_154 : decode cL_isStruck 154 = .ok (.ireturn, 1) := by decide +kernel
theorem dL_isStruck_155 : decode cL_isStruck 155 = .ok (.aload_n 3, 1) := by decide +kernel
theorem dL_isStruck_156 : decode cL_isStruck 156 = .ok (.bipush 22, 2) := by decide +kernel
theorem dL_isStruck_158 : decode cL_isStruck 158 = .ok (.iaload, 1) := by decide +kernel
theorem dL_isStruck_159 : decode cL_isStruck 159 = .ok (.ifCond .ne 5, 3) := by decide +kernel
theorem dL_isStruck_162 : decode cL_isStruck 162 = .ok (.iconst 1, 1) := by decide +kernel
theorem dL_isStruck_163 : decode cL_isStruck 163 = .ok (.ireturn, 1) := by decide +kernel
theorem dL_isStruck_164 : decode cL_isStruck 164 = .ok (.iconst 0, 1) := by decide +kernel
theorem dL_isStruck_165 : decode cL_isStruck 165 = .ok (.istore 5, 2) := by decide +kernel
theorem dL_isStruck_167 : decode cL_isStruck 167 = .ok (.aload_n 3, 1) := by decide +kernel
theorem dL_isStruck_168 : decode cL_isStruck 168 = .ok (.bipush 24, 2) := by decide +kernel
theorem dL_isStruck_170 : decode cL_isStruck 170 = .ok (.iaload, 1) := by decide +kernel
theorem dL_isStruck_171 : decode cL_isStruck 171 = .ok (.iconst 2, 1) := by decide +kernel
theorem dL_isStruck_172 : decode cL_isStruck 172 = .ok (.idiv, 1) := by decide +kernel
theorem dL_isStruck_173 : decode cL_isStruck 173 = .ok (.istore 6, 2) := by decide +kernel
theorem dL_isStruck_175 : decode cL_isStruck 175 = .ok (.iconst 0, 1) := by decide +kernel
theorem dL_isStruck_176 : decode cL_isStruck 176 = .ok (.istore 7, 2) := by decide +kernel
theorem dL_isStruck_178 : decode cL_isStruck 178 = .ok (.iload 7, 2) := by decide +kernel
theorem dL_isStruck_180 : decode cL_isStruck 180 = .ok (.iconst 5, 1) := by decide +kernel
theorem dL_isStruck_181 : decode cL_isStruck 181 = .ok (.if_icmp .ge 131, 3) := by decide +kernel
theorem dL_isStruck_184 : decode cL_isStruck 184 = .ok (.iconst 0, 1) := by decide +kernel
theorem dL_isStruck_185 : decode cL_isStruck 185 = .ok (.istore 8, 2) := by decide +kernel
theorem dL_isStruck_187 : decode cL_isStruck 187 = .ok (.iconst 0, 1) := by decide +kernel
theorem dL_isStruck_188 : decode cL_isStruck 188 = .ok (.istore 9, 2) := by decide +kernel
theorem dL_isStruck_190 : decode cL_isStruck 190 = .ok (.iload 9, 2) := by decide +kernel
theorem dL_isStruck_192 : decode cL_isStruck 192 = .ok (.iconst 5, 1) := by decide +kernel
theorem dL_isStruck_193 : decode cL_isStruck 193 = .ok (.if_icmp .ge 82, 3) := by decide +kernel
theorem dL_isStruck_196 : decode cL_isStruck 196 = .ok (.aload_n 1, 1) := by decide +kernel
theorem dL_isStruck_197 : decode cL_isStruck 197 = .ok (.bipush 12, 2) := by decide +kernel
theorem dL_isStruck_199 : decode cL_isStruck 199 = .ok (.iload 9, 2) := by decide +kernel
theorem dL_isStruck_201 : decode cL_isStruck 201 = .ok (.imul, 1) := by decide +kernel
theorem dL_isStruck_202 : decode cL_isStruck 202 = .ok (.iconst 2, 1) := by decide +kernel
theorem dL_isStruck_203 : decode cL_isStruck 203 = .ok (.iadd, 1) := by decide +kernel
theorem dL_isStruck_204 : decode cL_isStruck 204 = .ok (.iaload, 1) := by decide +kernel
theorem dL_isStruck_205 : decode cL_isStruck 205 = .ok (.aload_n 2, 1) := by decide +kernel
theorem dL_isStruck_206 : decode cL_isStruck 206 = .ok (.iload 9, 2) := by decide +kernel
theorem dL_isStruck_208 : decode cL_isStruck 208 = .ok (.invokestatic 25, 3) := by decide +kernel
theorem dL_isStruck_211 : decode cL_isStruck 211 = .ok (.iadd, 1) := by decide +kernel
theorem dL_isStruck_212 : decode cL_isStruck 212 = .ok (.aload_n 1, 1) := by decide +kernel
theorem dL_isStruck_213 : decode cL_isStruck 213 = .ok (.bipush 12, 2) := by decide +kernel
theorem dL_isStruck_215 : decode cL_isStruck 215 = .ok (.iload 7, 2) := by decide +kernel
theorem dL_isStruck_217 : decode cL_isStruck 217 = .ok (.imul, 1) := by decide +kernel
theorem dL_isStruck_218 : decode cL_isStruck 218 = .ok (.iconst 2, 1) := by decide +kernel
theorem dL_isStruck_219 : decode cL_isStruck 219 = .ok (.iadd, 1) := by decide +kernel
theorem dL_isStruck_220 : decode cL_isStruck 220 = .ok (.iaload, 1) := by decide +kernel
theorem dL_isStruck_221 : decode cL_isStruck 221 = .ok (.isub, 1) := by decide +kernel
theorem dL_isStruck_222 : decode cL_isStruck 222 = .ok (.aload_n 2, 1) := by decide +kernel
theorem dL_isStruck_223 : decode cL_isStruck 223 = .ok (.iload 7, 2) := by decide +kernel
theorem dL_isStruck_225 : decode cL_isStruck 225 = .ok (.invokestatic 25, 3) := by decide +kernel
theorem dL_isStruck_228 : decode cL_isStruck 228 = .ok (.isub, 1) := by decide +kernel
theorem dL_isStruck_229 : decode cL_isStruck 229 = .ok (.istore 10, 2) := by decide +kernel
theorem dL_isStruck_231 : decode cL_isStruck 231 = .ok (.iload 8, 2) := by decide +kernel
theorem dL_isStruck_233 : decode cL_isStruck 233 = .ok (.aload_n 1, 1) := by decide +kernel
theorem dL_isStruck_234 : decode cL_isStruck 234 = .ok (.bipush 12, 2) := by decide +kernel
theorem dL_isStruck_236 : decode cL_isStruck 236 = .ok (.iload 9, 2) := by decide +kernel
theorem dL_isStruck_238 : decode cL_isStruck 238 = .ok (.imul, 1) := by decide +kernel
theorem dL_isStruck_239 : decode cL_isStruck 239 = .ok (.iaload, 1) := by decide +kernel
theorem dL_isStruck_240 : decode cL_isStruck 240 = .ok (.iconst 1, 1) := by decide +kernel
theorem dL_isStruck_241 : decode cL_isStruck 241 = .ok (.if_icmp .ne 24, 3) := by decide +kernel
theorem dL_isStruck_244 : decode cL_isStruck 244 = .ok (.iload 10, 2) := by decide +kernel
theorem dL_isStruck_246 : decode cL_isStruck 246 = .ok (.ifCond .lt 15, 3) := by decide +kernel
theorem dL_isStruck_249 : decode cL_isStruck 249 = .ok (.iload 10, 2) := by decide +kernel
theorem dL_isStruck_251 : decode cL_isStruck 251 = .ok (.ifCond .ne 14, 3) := by decide +kernel
theorem dL_isStruck_254 : decode cL_isStruck 254 = .ok (.iload 9, 2) := by decide +kernel
theorem dL_isStruck_256 : decode cL_isStruck 256 = .ok (.iload 7, 2) := by decide +kernel
theorem dL_isStruck_258 : decode cL_isStruck 258 = .ok (.if_icmp .ge 7, 3) := by decide +kernel
theorem dL_isStruck_261 : decode cL_isStruck 261 = .ok (.iconst 1, 1) := by decide +kernel
theorem dL_isStruck_262 : decode cL_isStruck 262 = .ok (.goto 4, 3) := by decide +kernel
theorem dL_isStruck_265 : decode cL_isStruck 265 = .ok (.iconst 0, 1) := by decide +kernel
theorem dL_isStruck_266 : decode cL_isStruck 266 = .ok (.iadd, 1) := by decide +kernel
theorem dL_isStruck_267 : decode cL_isStruck 267 = .ok (.istore 8, 2) := by decide +kernel
theorem dL_isStruck_269 : decode cL_isStruck 269 = .ok (.iinc 9 1, 3) := by decide +kernel
theorem dL_isStruck_272 : decode cL_isStruck 272 = .ok (.goto (-82), 3) := by decide +kernel
theorem dL_isStruck_275 : decode cL_isStruck 275 = .ok (.iload 5, 2) := by decide +kernel
theorem dL_isStruck_277 : decode cL_isStruck 277 = .ok (.aload_n 1, 1) := by decide +kernel
theorem dL_isStruck_278 : decode cL_isStruck 278 = .ok (.bipush 12, 2) := by decide +kernel
theorem dL_isStruck_280 : decode cL_isStruck 280 = .ok (.iload 7, 2) := by decide +kernel
theorem dL_isStruck_282 : decode cL_isStruck 282 = .ok (.imul, 1) := by decide +kernel
theorem dL_isStruck_283 : decode cL_isStruck 283 = .ok (.iaload, 1) := by decide +kernel
theorem dL_isStruck_284 : decode cL_isStruck 284 = .ok (.iconst 1, 1) := by decide +kernel
theorem dL_isStruck_285 : decode cL_isStruck 285 = .ok (.if_icmp .ne 17, 3) := by decide +kernel
theorem dL_isStruck_288 : decode cL_isStruck 288 = .ok (.iload 8, 2) := by decide +kernel
theorem dL_isStruck_290 : decode cL_isStruck 290 = .ok (.iload 6, 2) := by decide +kernel
theorem dL_isStruck_292 : decode cL_isStruck 292 = .ok (.if_icmp .ge 10, 3) := by decide +kernel
theorem dL_isStruck_295 : decode cL_isStruck 295 = .ok (.iconst 1, 1) := by decide +kernel
theorem dL_isStruck_296 : decode cL_isStruck 296 = .ok (.iload 7, 2) := by decide +kernel
theorem dL_isStruck_298 : decode cL_isStruck 298 = .ok (.ishl, 1) := by decide +kernel
theorem dL_isStruck_299 : decode cL_isStruck 299 = .ok (.goto 4, 3) := by decide +kernel
theorem dL_isStruck_302 : decode cL_isStruck 302 = .ok (.iconst 0, 1) := by decide +kernel
theorem dL_isStruck_303 : decode cL_isStruck 303 = .ok (.ior, 1) := by decide +kernel
theorem dL_isStruck_304 : decode cL_isStruck 304 = .ok (.istore 5, 2) := by decide +kernel
theorem dL_isStruck_306 : decode cL_isStruck 306 = .ok (.iinc 7 1, 3) := by decide +kernel
theorem dL_isStruck_309 : decode cL_isStruck 309 = .ok (.goto (-131), 3) := by decide +kernel
theorem dL_isStruck_312 : decode cL_isStruck 312 = .ok (.iconst 0, 1) := by decide +kernel
theorem dL_isStruck_313 : decode cL_isStruck 313 = .ok (.istore 7, 2) := by decide +kernel
theorem dL_isStruck_315 : decode cL_isStruck 315 = .ok (.iload 7, 2) := by decide +kernel
theorem dL_isStruck_317 : decode cL_isStruck 317 = .ok (.iconst 5, 1) := by decide +kernel
theorem dL_isStruck_318 : decode cL_isStruck 318 = .ok (.if_icmp .ge 25, 3) := by decide +kernel
theorem dL_isStruck_321 : decode cL_isStruck 321 = .ok (.aload_n 3, 1) := by decide +kernel
theorem dL_isStruck_322 : decode cL_isStruck 322 = .ok (.bipush 24, 2) := by decide +kernel
theorem dL_isStruck_324 : decode cL_isStruck 324 = .ok (.dup2, 1) := by decide +kernel
theorem dL_isStruck_325 : decode cL_isStruck 325 = .ok (.iaload, 1) := by decide +kernel
theorem dL_isStruck_326 : decode cL_isStruck 326 = .ok (.iconst 2, 1) := by decide +kernel
theorem dL_isStruck_327 : decode cL_isStruck 327 = .ok (.iload 5, 2) := by decide +kernel
theorem dL_isStruck_329 : decode cL_isStruck 329 = .ok (.iload 7, 2) := by decide +kernel
theorem dL_isStruck_331 : decode cL_isStruck 331 = .ok (.ishr, 1) := by decide +kernel
theorem dL_isStruck_332 : decode cL_isStruck 332 = .ok (.iconst 1, 1) := by decide +kernel
theorem dL_isStruck_333 : decode cL_isStruck 333 = .ok (.iand, 1) := by decide +kernel
theorem dL_isStruck_334 : decode cL_isStruck 334 = .ok (.imul, 1) := by decide +kernel
theorem dL_isStruck_335 : decode cL_isStruck 335 = .ok (.isub, 1) := by decide +kernel
theorem dL_isStruck_336 : decode cL_isStruck 336 = .ok (.iastore, 1) := by decide +kernel
theorem dL_isStruck_337 : decode cL_isStruck 337 = .ok (.iinc 7 1, 3) := by decide +kernel
theorem dL_isStruck_340 : decode cL_isStruck 340 = .ok (.goto (-25), 3) := by decide +kernel
theorem dL_isStruck_343 : decode cL_isStruck 343 = .ok (.aload_n 0, 1) := by decide +kernel
theorem dL_isStruck_344 : decode cL_isStruck 344 = .ok (.invokevirtual 66, 3) := by decide +kernel
theorem dL_isStruck_347 : decode cL_isStruck 347 = .ok (.iload 5, 2) := by decide +kernel
theorem dL_isStruck_349 : decode cL_isStruck 349 = .ok (.if_icmp .ne 7, 3) := by decide +kernel
theorem dL_isStruck_352 : decode cL_isStruck 352 = .ok (.iconst 1, 1) := by decide +kernel
theorem dL_isStruck_353 : decode cL_isStruck 353 = .ok (.goto 4, 3) := by decide +kernel
theorem dL_isStruck_356 : decode cL_isStruck 356 = .ok (.iconst 0, 1) := by decide +kernel
theorem dL_isStruck_357 : decode cL_isStruck 357 = .ok (.ireturn, 1) := by decide +kernel
theorem dL_isClosed_0 : decode cL_isClosed 0 = .ok (.aload_n 3, 1) := by decide +kernel
theorem dL_isClosed_1 : decode cL_isClosed 1 = .ok (.bipush 23, 2) := by decide +kernel
theorem dL_isClosed_3 : decode cL_isClosed 3 = .ok (.iaload, 1) := by decide +kernel
theorem dL_isClosed_4 : decode cL_isClosed 4 = .ok (.iconst 1, 1) := by decide +kernel
theorem dL_isClosed_5 : decode cL_isClosed 5 = .ok (.if_icmp .ne 5, 3) := by decide +kernel
theorem dL_isClosed_8 : decode cL_isClosed 8 = .ok (.iconst 1, 1) := by decide +kernel
theorem dL_isClosed_9 : decode cL_isClosed 9 = .ok (.ireturn, 1) := by decide +kernel
theorem dL_isClosed_10 : decode cL_isClosed 10 = .ok (.iload 4, 2) := by decide +kernel
theorem dL_isClosed_12 : decode cL_isClosed 12 = .ok (.iload 4, 2) := by decide +kernel
theorem dL_isClosed_14 : decode cL_isClosed 14 = .ok (.bipush 7, 2) := by decide +kernel
theorem dL_isClosed_16 : decode cL_isClosed 16 = .ok (.idiv, 1) := by decide +kernel
theorem dL_isClosed_17 : decode cL_isClosed 17 = .ok (.iconst 2, 1) := by decide +kernel
theorem dL_isClosed_18 : decode cL_isClosed 18 = .ok (.irem, 1) := by decide +kernel
theorem dL_isClosed_19 : decode cL_isClosed 19 = .ok (.ifCond .ne 9, 3) := by decide +kernel
theorem dL_isClosed_22 : decode cL_isClosed 22 = .ok (.sipush 600, 3) := by decide +kernel
theorem dL_isClosed_25 : decode cL_isClosed 25 = .ok (.goto 5, 3) := by decide +kernel
theorem dL_isClosed_28 : decode cL_isClosed 28 = .ok (.ldc 69, 2) := by decide +kernel
theorem dL_isClosed_30 : decode cL_isClosed 30 = .ok (.irem, 1) := by decide +kernel
theorem dL_isClosed_31 : decode cL_isClosed 31 = .ok (.istore 5, 2) := by decide +kernel
theorem dL_isClosed_33 : decode cL_isClosed 33 = .ok (.iload 5, 2) := by decide +kernel
theorem dL_isClosed_35 : decode cL_isClosed 35 = .ok (.istore 6, 2) := by decide +kernel
theorem dL_isClosed_37 : decode cL_isClosed 37 = .ok (.iconst 0, 1) := by decide +kernel
theorem dL_isClosed_38 : decode cL_isClosed 38 = .ok (.istore 7, 2) := by decide +kernel
theorem dL_isClosed_40 : decode cL_isClosed 40 = .ok (.iload 7, 2) := by decide +kernel
theorem dL_isClosed_42 : decode cL_isClosed 42 = .ok (.bipush 12, 2) := by decide +kernel
theorem dL_isClosed_44 : decode cL_isClosed 44 = .ok (.if_icmp .ge 178, 3) := by decide +kernel
theorem dL_isClosed_47 : decode cL_isClosed 47 = .ok (.lconst 0, 1) := by decide +kernel
theorem dL_isClosed_48 : decode cL_isClosed 48 = .ok (.lstore 8, 2) := by decide +kernel
theorem dL_isClosed_50 : decode cL_isClosed 50 = .ok (.iconst 0, 1) := by decide +kernel
theorem dL_isClosed_51 : decode cL_isClosed 51 = .ok (.istore 10, 2) := by decide +kernel
theorem dL_isClosed_53 : decode cL_isClosed 53 = .ok (.iload 10, 2) := by decide +kernel
theorem dL_isClosed_55 : decode cL_isClosed 55 = .ok (.iconst 5, 1) := by decide +kernel
theorem dL_isClosed_56 : decode cL_isClosed 56 = .ok (.if_icmp .ge 25, 3) := by decide +kernel
theorem dL_isClosed_59 : decode cL_isClosed 59 = .ok (.lload 8, 2) := by decide +kernel
theorem dL_isClosed_61 : decode cL_isClosed 61 = .ok (.aload_n 2, 1) := by decide +kernel
theorem dL_isClosed_62 : decode cL_isClosed 62 = .ok (.bipush 12, 2) := by decide +kernel
theorem dL_isClosed_64 : decode cL_isClosed 64 = .ok (.iload 10, 2) := by decide +kernel
theorem dL_isClosed_66 : decode cL_isClosed 66 = .ok (.imul, 1) := by decide +kernel
theorem dL_isClosed_67 : decode cL_isClosed 67 = .ok (.iload 7, 2) := by decide +kernel
theorem dL_isClosed_69 : decode cL_isClosed 69 = .ok (.iadd, 1) := by decide +kernel
theorem dL_isClosed_70 : decode cL_isClosed 70 = .ok (.iaload, 1) := by decide +kernel
theorem dL_isClosed_71 : decode cL_isClosed 71 = .ok (.i2l, 1) := by decide +kernel
theorem dL_isClosed_72 : decode cL_isClosed 72 = .ok (.ladd, 1) := by decide +kernel
theorem dL_isClosed_73 : decode cL_isClosed 73 = .ok (.lstore 8, 2) := by decide +kernel
theorem dL_isClosed_75 : decode cL_isClosed 75 = .ok (.iinc 10 1, 3) := by decide +kernel
theorem dL_isClosed_78 : decode cL_isClosed 78 = .ok (.goto (-25), 3) := by decide +kernel
theorem dL_isClosed_81 : decode cL_isClosed 81 = .ok (.iload 6, 2) := by decide +kernel
theorem dL_isClosed_83 : decode cL_isClosed 83 = .ok (.i2l, 1) := by decide +kernel
theorem dL_isClosed_84 : decode cL_isClosed 84 = .ok (.lstore 10, 2) := by decide +kernel
theorem dL_isClosed_86 : decode cL_isClosed 86 = .ok (.iconst 0, 1) := by decide +kernel
theorem dL_isClosed_87 : decode cL_isClosed 87 = .ok (.istore 12, 2) := by decide +kernel
theorem dL_isClosed_89 : decode cL_isClosed 89 = .ok (.iload 12, 2) := by decide +kernel
theorem dL_isClosed_91 : decode cL_isClosed 91 = .ok (.iconst 5, 1) := by decide +kernel
theorem dL_isClosed_92 : decode cL_isClosed 92 = .ok (.if_icmp .ge 124, 3) := by decide +kernel
theorem dL_isClosed_95 : decode cL_isClosed 95 = .ok (.lload 8, 2) := by decide +kernel
theorem dL_isClosed_97 : decode cL_isClosed 97 = .ok (.lload 10, 2) := by decide +kernel
theorem dL_isClosed_99 : decode cL_isClosed 99 = .ok (.lcmp, 1) := by decide +kernel
theorem dL_isClosed_100 : decode cL_isClosed 100 = .ok (.ifCond .gt 17, 3) := by decide +kernel
theorem dL_isClosed_103 : decode cL_isClosed 103 = .ok (.aload_n 2, 1) := by decide +kernel
theorem dL_isClosed_104 : decode cL_isClosed 104 = .ok (.bipush 12, 2) := by decide +kernel
theorem dL_isClosed_106 : decode cL_isClosed 106 = .ok (.iload 12, 2) := by decide +kernel
theorem dL_isClosed_108 : decode cL_isClosed 108 = .ok (.imul, 1) := by decide +kernel
theorem dL_isClosed_109 : decode cL_isClosed 109 = .ok (.iload 7, 2) := by decide +kernel
theorem dL_isClosed_111 : decode cL_isClosed 111 = .ok (.iadd, 1) := by decide +kernel
theorem dL_isClosed_112 : decode cL_isClosed 112 = .ok (.iaload, 1) := by decide +kernel
theorem dL_isClosed_113 : decode cL_isClosed 113 = .ok (.i2l, 1) := by decide +kernel
theorem dL_isClosed_114 : decode cL_isClosed 114 = .ok (.goto 20, 3) := by decide +kernel
theorem dL_isClosed_117 : decode cL_isClosed 117 = .ok (.aload_n 2, 1) := by decide +kernel
theorem dL_isClosed_118 : decode cL_isClosed 118 = .ok (.bipush 12, 2) := by decide +kernel
theorem dL_isClosed_120 : decode cL_isClosed 120 = .ok (.iload 12, 2) := by decide +kernel
theorem dL_isClosed_122 : decode cL_isClosed 122 = .ok (.imul, 1) := by decide +kernel
theorem dL_isClosed_123 : decode cL_isClosed 123 = .ok (.iload 7, 2) := by decide +kernel
theorem dL_isClosed_125 : decode cL_isClosed 125 = .ok (.iadd, 1) := by decide +kernel
theorem dL_isClosed_126 : decode cL_isClosed 126 = .ok (.iaload, 1) := by decide +kernel
theorem dL_isClosed_127 : decode cL_isClosed 127 = .ok (.i2l, 1) := by decide +kernel
theorem dL_isClosed_128 : decode cL_isClosed 128 = .ok (.lload 10, 2) := by decide +kernel
theorem dL_isClosed_130 : decode cL_isClosed 130 = .ok (.lmul, 1) := by decide +kernel
theorem dL_isClosed_131 : decode cL_isClosed 131 = .ok (.lload 8, 2) := by decide +kernel
theorem dL_isClosed_133 : decode cL_isClosed 133 = .ok (.ldiv, 1) := by decide +kernel
theorem dL_isClosed_134 : decode cL_isClosed 134 = .ok (.lstore 13, 2) := by decide +kernel
theorem dL_isClosed_136 : decode cL_isClosed 136 = .ok (.aload_n 1, 1) := by decide +kernel
theorem dL_isClosed_137 : decode cL_isClosed 137 = .ok (.bipush 12, 2) := by decide +kernel
theorem dL_isClosed_139 : decode cL_isClosed 139 = .ok (.iload 12, 2) := by decide +kernel
theorem dL_isClosed_141 : decode cL_isClosed 141 = .ok (.imul, 1) := by decide +kernel
theorem dL_isClosed_142 : decode cL_isClosed 142 = .ok (.iconst 2, 1) := by decide +kernel
theorem dL_isClosed_143 : decode cL_isClosed 143 = .ok (.iadd, 1) := by decide +kernel
theorem dL_isClosed_144 : decode cL_isClosed 144 = .ok (.dup2, 1) := by decide +kernel
theorem dL_isClosed_145 : decode cL_isClosed 145 = .ok (.iaload, 1) := by decide +kernel
theorem dL_isClosed_146 : decode cL_isClosed 146 = .ok (.lload 13, 2) := by decide +kernel
theorem dL_isClosed_148 : decode cL_isClosed 148 = .ok (.l2i, 1) := by decide +kernel
theorem dL_isClosed_149 : decode cL_isClosed 149 = .ok (.iadd, 1) := by decide +kernel
theorem dL_isClosed_150 : decode cL_isClosed 150 = .ok (.iastore, 1) := by decide +kernel
theorem dL_isClosed_151 : decode cL_isClosed 151 = .ok (.iload 6, 2) := by decide +kernel
theorem dL_isClosed_153 : decode cL_isClosed 153 = .ok (.lload 13, 2) := by decide +kernel
theorem dL_isClosed_155 : decode cL_isClosed 155 = .ok (.l2i, 1) := by decide +kernel
theorem dL_isClosed_156 : decode cL_isClosed 156 = .ok (.isub, 1) := by decide +kernel
theorem dL_isClosed_157 : decode cL_isClosed 157 = .ok (.istore 6, 2) := by decide +kernel
theorem dL_isClosed_159 : decode cL_isClosed 159 = .ok (.aload_n 1, 1) := by decide +kernel
theorem dL_isClosed_160 : decode cL_isClosed 160 = .ok (.bipush 12, 2) := by decide +kernel
theorem dL_isClosed_162 : decode cL_isClosed 162 = .ok (.iload 12, 2) := by decide +kernel
theorem dL_isClosed_164 : decode cL_isClosed 164 = .ok (.imul, 1) := by decide +kernel
theorem dL_isClosed_165 : decode cL_isClosed 165 = .ok (.bipush 11, 2) := by decide +kernel
theorem dL_isClosed_167 : decode cL_isClosed 167 = .ok (.iadd, 1) := by decide +kernel
theorem dL_isClosed_168 : decode cL_isClosed 168 = .ok (.dup2, 1) := by decide +kernel
theorem dL_isClosed_169 : decode cL_isClosed 169 = .ok (.iaload, 1) := by decide +kernel
theorem dL_isClosed_170 : decode cL_isClosed 170 = .ok (.aload_n 2, 1) := by decide +kernel
theorem dL_isClosed_171 : decode cL_isClosed 171 = .ok (.bipush 12, 2) := by decide +kernel
theorem dL_isClosed_173 : decode cL_isClosed 173 = .ok (.iload 12, 2) := by decide +kernel
theorem dL_isClosed_175 : decode cL_isClosed 175 = .ok (.imul, 1) := by decide +kernel
theorem dL_isClosed_176 : decode cL_isClosed 176 = .ok (.iload 7, 2) := by decide +kernel
theorem dL_isClosed_178 : decode cL_isClosed 178 = .ok (.iadd, 1) := by decide +kernel
theorem dL_isClosed_179 : decode cL_isClosed 179 = .ok (.iaload, 1) := by decide +kernel
theorem dL_isClosed_180 : decode cL_isClosed 180 = .ok (.iadd, 1) := by decide +kernel
theorem dL_isClosed_181 : decode cL_isClosed 181 = .ok (.iastore, 1) := by decide +kernel
theorem dL_isClosed_182 : decode cL_isClosed 182 = .ok (.aload_n 3, 1) := by decide +kernel
theorem dL_isClosed_183 : decode cL_isClosed 183 = .ok (.bipush 30, 2) := by decide +kernel
theorem dL_isClosed_185 : decode cL_isClosed 185 = .ok (.dup2, 1) := by decide +kernel
theorem dL_isClosed_186 : decode cL_isClosed 186 = .ok (.iaload, 1) := by decide +kernel
theorem dL_isClosed_187 : decode cL_isClosed 187 = .ok (.aload_n 2, 1) := by decide +kernel
theorem dL_isClosed_188 : decode cL_isClosed 188 = .ok (.bipush 12, 2) := by decide +kernel
theorem dL_isClosed_190 : decode cL_isClosed 190 = .ok (.iload 12, 2) := by decide +kernel
theorem dL_isClosed_192 : decode cL_isClosed 192 = .ok (.imul, 1) := by decide +kernel
theorem dL_isClosed_193 : decode cL_isClosed 193 = .ok (.iload 7, 2) := by decide +kernel
theorem dL_isClosed_195 : decode cL_isClosed 195 = .ok (.iadd, 1) := by decide +kernel
theorem dL_isClosed_196 : decode cL_isClosed 196 = .ok (.iaload, 1) := by decide +kernel
theorem dL_isClosed_197 : decode cL_isClosed 197 = .ok (.iadd, 1) := by decide +kernel
theorem dL_isClosed_198 : decode cL_isClosed 198 = .ok (.iastore, 1) := by decide +kernel
theorem dL_isClosed_199 : decode cL_isClosed 199 = .ok (.aload_n 2, 1) := by decide +kernel
theorem dL_isClosed_200 : decode cL_isClosed 200 = .ok (.bipush 12, 2) := by decide +kernel
theorem dL_isClosed_202 : decode cL_isClosed 202 = .ok (.iload 12, 2) := by decide +kernel
theorem dL_isClosed_204 : decode cL_isClosed 204 = .ok (.imul, 1) := by decide +kernel
theorem dL_isClosed_205 : decode cL_isClosed 205 = .ok (.iload 7, 2) := by decide +kernel
theorem dL_isClosed_207 : decode cL_isClosed 207 = .ok (.iadd, 1) := by decide +kernel
theorem dL_isClosed_208 : decode cL_isClosed 208 = .ok (.iconst 0, 1) := by decide +kernel
theorem dL_isClosed_209 : decode cL_isClosed 209 = .ok (.iastore, 1) := by decide +kernel
theorem dL_isClosed_210 : decode cL_isClosed 210 = .ok (.iinc 12 1, 3) := by decide +kernel
theorem dL_isClosed_213 : decode cL_isClosed 213 = .ok (.goto (-124), 3) := by decide +kernel
theorem dL_isClosed_216 : decode cL_isClosed 216 = .ok (.iinc 7 1, 3) := by decide +kernel
theorem dL_isClosed_219 : decode cL_isClosed 219 = .ok (.goto (-179), 3) := by decide +kernel
theorem dL_isClosed_222 : decode cL_isClosed 222 = .ok (.aload_n 3, 1) := by decide +kernel
theorem dL_isClosed_223 : decode cL_isClosed 223 = .ok (.bipush 23, 2) := by decide +kernel
theorem dL_isClosed_225 : decode cL_isClosed 225 = .ok (.iconst 1, 1) := by decide +kernel
theorem dL_isClosed_226 : decode cL_isClosed 226 = .ok (.iastore, 1) := by decide +kernel
theorem dL_isClosed_227 : decode cL_isClosed 227 = .ok (.aload_n 3, 1) := by decide +kernel
theorem dL_isClosed_228 : decode cL_isClosed 228 = .ok (.bipush 22, 2) := by decide +kernel
theorem dL_isClosed_230 : decode cL_isClosed 230 = .ok (.iconst 0, 1) := by decide +kernel
theorem dL_isClosed_231 : decode cL_isClosed 231 = .ok (.iastore, 1) := by decide +kernel
theorem dL_isClosed_232 : decode cL_isClosed 232 = .ok (.aload_n 0, 1) := by decide +kernel
theorem dL_isClosed_233 : decode cL_isClosed 233 = .ok (.iload 5, 2) := by decide +kernel
theorem dL_isClosed_235 : decode cL_isClosed 235 = .ok (.invokevirtual 70, 3) := by decide +kernel
theorem dL_isClosed_238 : decode cL_isClosed 238 = .ok (.iload 6, 2) := by decide +kernel
theorem dL_isClosed_240 : decode cL_isClosed 240 = .ok (.if_icmp .ne 7, 3) := by decide +kernel
theorem dL_isClosed_243 : decode cL_isClosed 243 = .ok (.iconst 1, 1) := by decide +kernel
theorem dL_isClosed_244 : decode cL_isClosed 244 = .ok (.goto 4, 3) := by decide +kernel
theorem dL_isClosed_247 : decode cL_isClosed 247 = .ok (.iconst 0, 1) := by decide +kernel
theorem dL_isClosed_248 : decode cL_isClosed 248 = .ok (.ireturn, 1) := by decide +kernel
theorem dL_isHewn_0 : decode cL_isHewn 0 = .ok (.iload_n 3, 1) := by decide +kernel
theorem dL_isHewn_1 : decode cL_isHewn 1 = .ok (.iconst 5, 1) := by decide +kernel
theorem dL_isHewn_2 : decode cL_isHewn 2 = .ok (.irem, 1) := by decide +kernel
theorem dL_isHewn_3 : decode cL_isHewn 3 = .ok (.istore 4, 2) := by decide +kernel
theorem dL_isHewn_5 : decode cL_isHewn 5 = .ok (.iconst 1, 1) := by decide +kernel
theorem dL_isHewn_6 : decode cL_isHewn 6 = .ok (.iload_n 3, 1) := by decide +kernel
theorem dL_isHewn_7 : decode cL_isHewn 7 = .ok (.iconst 5, 1) := by decide +kernel
theorem dL_isHewn_8 : decode cL_isHewn 8 = .ok (.idiv, 1) := by decide +kernel
theorem dL_isHewn_9 : decode cL_isHewn 9 = .ok (.iload_n 3, 1) := by decide +kernel
theorem dL_isHewn_10 : decode cL_isHewn 10 = .ok (.iconst 3, 1) := by decide +kernel
theorem dL_isHewn_11 : decode cL_isHewn 11 = .ok (.idiv, 1) := by decide +kernel
theorem dL_isHewn_12 : decode cL_isHewn 12 = .ok (.iconst 2, 1) := by decide +kernel
theorem dL_isHewn_13 : decode cL_isHewn 13 = .ok (.irem, 1) := by decide +kernel
theorem dL_isHewn_14 : decode cL_isHewn 14 = .ok (.ifCond .ne 9, 3) := by decide +kernel
theorem dL_isHewn_17 : decode cL_isHewn 17 = .ok (.sipush 1000, 3) := by decide +kernel
theorem dL_isHewn_20 : decode cL_isHewn 20 = .ok (.goto 5, 3) := by decide +kernel
theorem dL_isHewn_23 : decode cL_isHewn 23 = .ok (.bipush 60, 2) := by decide +kernel
theorem dL_isHewn_25 : decode cL_isHewn 25 = .ok (.irem, 1) := by decide +kernel
theorem dL_isHewn_26 : decode cL_isHewn 26 = .ok (.iadd, 1) := by decide +kernel
theorem dL_isHewn_27 : decode cL_isHewn 27 = .ok (.istore 5, 2) := by decide +kernel
theorem dL_isHewn_29 : decode cL_isHewn 29 = .ok (.aload_n 1, 1) := by decide +kernel
theorem dL_isHewn_30 : decode cL_isHewn 30 = .ok (.bipush 12, 2) := by decide +kernel
theorem dL_isHewn_32 : decode cL_isHewn 32 = .ok (.iload 4, 2) := by decide +kernel
theorem dL_isHewn_34 : decode cL_isHewn 34 = .ok (.imul, 1) := by decide +kernel
theorem dL_isHewn_35 : decode cL_isHewn 35 = .ok (.iaload, 1) := by decide +kernel
theorem dL_isHewn_36 : decode cL_isHewn 36 = .ok (.ifCond .eq 19, 3) := by decide +kernel
theorem dL_isHewn_39 : decode cL_isHewn 39 = .ok (.aload_n 2, 1) := by decide +kernel
theorem dL_isHewn_40 : decode cL_isHewn 40 = .ok (.bipush 22, 2) := by decide +kernel
theorem dL_isHewn_42 : decode cL_isHewn 42 = .ok (.iaload, 1) := by decide +kernel
theorem dL_isHewn_43 : decode cL_isHewn 43 = .ok (.iconst 1, 1) := by decide +kernel
theorem dL_isHewn_44 : decode cL_isHewn 44 = .ok (.if_icmp .eq 11, 3) := by decide +kernel
theorem dL_isHewn_47 : decode cL_isHewn 47 = .ok (.aload_n 2, 1) := by decide +kernel
theorem dL_isHewn_48 : decode cL_isHewn 48 = .ok (.bipush 23, 2) := by decide +kernel
theorem dL_isHewn_50 : decode cL_isHewn 50 = .ok (.iaload, 1) := by decide +kernel
theorem dL_isHewn_51 : decode cL_isHewn 51 = .ok (.iconst 1, 1) := by decide +kernel
theorem dL_isHewn_52 : decode cL_isHewn 52 = .ok (.if_icmp .ne 5, 3) := by decide +kernel
theorem dL_isHewn_55 : decode cL_isHewn 55 = .ok (.iconst 1, 1) := by decide +kernel
theorem dL_isHewn_56 : decode cL_isHewn 56 = .ok (.ireturn, 1) := by decide +kernel
theorem dL_isHewn_57 : decode cL_isHewn 57 = .ok (.aload_n 1, 1) := by decide +kernel
theorem dL_isHewn_58 : decode cL_isHewn 58 = .ok (.bipush 12, 2) := by decide +kernel
theorem dL_isHewn_60 : decode cL_isHewn 60 = .ok (.iload 4, 2) := by decide +kernel
theorem dL_isHewn_62 : decode cL_isHewn 62 = .ok (.imul, 1) := by decide +kernel
theorem dL_isHewn_63 : decode cL_isHewn 63 = .ok (.iconst 1, 1) := by decide +kernel
theorem dL_isHewn_64 : decode cL_isHewn 64 = .ok (.iadd, 1) := by decide +kernel
theorem dL_isHewn_65 : decode cL_isHewn 65 = .ok (.dup2, 1) := by decide +kernel
theorem dL_isHewn_66 : decode cL_isHewn 66 = .ok (.iaload, 1) := by decide +kernel
theorem dL_isHewn_67 : decode cL_isHewn 67 = .ok (.aload_n 2, 1) := by decide +kernel
theorem dL_isHewn_68 : decode cL_isHewn 68 = .ok (.bipush 14, 2) := by decide +kernel
theorem dL_isHewn_70 : decode cL_isHewn 70 = .ok (.iaload, 1) := by decide +kernel
theorem dL_isHewn_71 : decode cL_isHewn 71 = .ok (.iconst 1, 1) := by decide +kernel
theorem dL_isHewn_72 : decode cL_isHewn 72 = .ok (.if_icmp .ne 8, 3) := by decide +kernel
theorem dL_isHewn_75 : decode cL_isHewn 75 = .ok (.iload 5, 2) := by decide +kernel
theorem dL_isHewn_77 : decode cL_isHewn 77 = .ok (.goto 16, 3) := by decide +kernel
theorem dL_isHewn_80 : decode cL_isHewn 80 = .ok (.iload 5, 2) := by decide +kernel
theorem dL_isHewn_82 : decode cL_isHewn 82 = .ok (.bipush 100, 2) := by decide +kernel
theorem dL_isHewn_84 : decode cL_isHewn 84 = .ok (.aload_n 2, 1) := by decide +kernel
theorem dL_isHewn_85 : decode cL_isHewn 85 = .ok (.bipush 13, 2) := by decide +kernel
theorem dL_isHewn_87 : decode cL_isHewn 87 = .ok (.iaload, 1) := by decide +kernel
theorem dL_isHewn_88 : decode cL_isHewn 88 = .ok (.isub, 1) := by decide +kernel
theorem dL_isHewn_89 : decode cL_isHewn 89 = .ok (.imul, 1) := by decide +kernel
theorem dL_isHewn_90 : decode cL_isHewn 90 = .ok (.bipush 100, 2) := by decide +kernel
theorem dL_isHewn_92 : decode cL_isHewn 92 = .ok (.idiv, 1) := by decide +kernel
theorem dL_isHewn_93 : decode cL_isHewn 93 = .ok (.iadd, 1) := by decide +kernel
theorem dL_isHewn_94 : decode cL_isHewn 94 = .ok (.iastore, 1) := by decide +kernel
theorem dL_isHewn_95 : decode cL_isHewn 95 = .ok (.aload_n 0, 1) := by decide +kernel
theorem dL_isHewn_96 : decode cL_isHewn 96 = .ok (.iload 4, 2) := by decide +kernel
theorem dL_isHewn_98 : decode cL_isHewn 98 = .ok (.iload 5, 2) := by decide +kernel
theorem dL_isHewn_100 : decode cL_isHewn 100 = .ok (.invokevirtual 113, 3) := by decide +kernel
theorem dL_isHewn_103 : decode cL_isHewn 103 = .ok (.aload_n 1, 1) := by decide +kernel
theorem dL_isHewn_104 : decode cL_isHewn 104 = .ok (.bipush 12, 2) := by decide +kernel
theorem dL_isHewn_106 : decode cL_isHewn 106 = .ok (.iload 4, 2) := by decide +kernel
theorem dL_isHewn_108 : decode cL_isHewn 108 = .ok (.imul, 1) := by decide +kernel
theorem dL_isHewn_109 : decode cL_isHewn 109 = .ok (.iconst 1, 1) := by decide +kernel
theorem dL_isHewn_110 : decode cL_isHewn 110 = .ok (.iadd, 1) := by decide +kernel
theorem dL_isHewn_111 : decode cL_isHewn 111 = .ok (.iaload, 1) := by decide +kernel
theorem dL_isHewn_112 : decode cL_isHewn 112 = .ok (.if_icmp .ne 7, 3) := by decide +kernel
theorem dL_isHewn_115 : decode cL_isHewn 115 = .ok (.iconst 1, 1) := by decide +kernel
theorem dL_isHewn_116 : decode cL_isHewn 116 = .ok (.goto 4, 3) := by decide +kernel
theorem dL_isHewn_119 : decode cL_isHewn 119 = .ok (.iconst 0, 1) := by decide +kernel
theorem dL_isHewn_120 : decode cL_isHewn 120 = .ok (.ireturn, 1) := by decide +kernel
theorem dL_isHoused_0 : decode cL_isHoused 0 = .ok (.aload_n 1, 1) := by decide +kernel
theorem dL_isHoused_1 : decode cL_isHoused 1 = .ok (.bipush 12, 2) := by decide +kernel
theorem dL_isHoused_3 : decode cL_isHoused 3 = .ok (.iload_n 2, 1) := by decide +kernel
theorem dL_isHoused_4 : decode cL_isHoused 4 = .ok (.imul, 1) := by decide +kernel
theorem dL_isHoused_5 : decode cL_isHoused 5 = .ok (.iaload, 1) := by decide +kernel
theorem dL_isHoused_6 : decode cL_isHoused 6 = .ok (.iconst 1, 1) := by decide +kernel
theorem dL_isHoused_7 : decode cL_isHoused 7 = .ok (.if_icmp .ne 39, 3) := by decide +kernel
theorem dL_isHoused_10 : decode cL_isHoused 10 = .ok (.aload_n 1, 1) := by decide +kernel
theorem dL_isHoused_11 : decode cL_isHoused 11 = .ok (.bipush 12, 2) := by decide +kernel
theorem dL_isHoused_13 : decode cL_isHoused 13 = .ok (.iload_n 2, 1) := by decide +kernel
theorem dL_isHoused_14 : decode cL_isHoused 14 = .ok (.imul, 1) := by decide +kernel
theorem dL_isHoused_15 : decode cL_isHoused 15 = .ok (.iconst 5, 1) := by decide +kernel
theorem dL_isHoused_16 : decode cL_isHoused 16 = .ok (.iadd, 1) := by decide +kernel
theorem dL_isHoused_17 : decode cL_isHoused 17 = .ok (.iaload, 1) := by decide +kernel
theorem dL_isHoused_18 : decode cL_isHoused 18 = .ok (.ifCond .ne 28, 3) := by decide +kernel
theorem dL_isHoused_21 : decode cL_isHoused 21 = .ok (.aload_n 1, 1) := by decide +kernel
theorem dL_isHoused_22 : decode cL_isHoused 22 = .ok (.bipush 12, 2) := by decide +kernel
theorem dL_isHoused_24 : decode cL_isHoused 24 = .ok (.iload_n 2, 1) := by decide +kernel
theorem dL_isHoused_25 : decode cL_isHoused 25 = .ok (.imul, 1) := by decide +kernel
theorem dL_isHoused_26 : decode cL_isHoused 26 = .ok (.iconst 4, 1) := by decide +kernel
theorem dL_isHoused_27 : decode cL_isHoused 27 = .ok (.iadd, 1) := by decide +kernel
theorem dL_isHoused_28 : decode cL_isHoused 28 = .ok (.iaload, 1) := by decide +kernel
theorem dL_isHoused_29 : decode cL_isHoused 29 = .ok (.ifCond .ne 17, 3) := by decide +kernel
theorem dL_isHoused_32 : decode cL_isHoused 32 = .ok (.aload_n 1, 1) := by decide +kernel
theorem dL_isHoused_33 : decode cL_isHoused 33 = .ok (.bipush 12, 2) := by decide +kernel
theorem dL_isHoused_35 : decode cL_isHoused 35 = .ok (.iload_n 2, 1) := by decide +kernel
theorem dL_isHoused_36 : decode cL_isHoused 36 = .ok (.imul, 1) := by decide +kernel
theorem dL_isHoused_37 : decode cL_isHoused 37 = .ok (.iconst 5, 1) := by decide +kernel
theorem dL_isHoused_38 : decode cL_isHoused 38 = .ok (.iadd, 1) := by decide +kernel
theorem dL_isHoused_39 : decode cL_isHoused 39 = .ok (.iconst 1, 1) := by decide +kernel
theorem dL_isHoused_40 : decode cL_isHoused 40 = .ok (.iastore, 1) := by decide +kernel
theorem dL_isHoused_41 : decode cL_isHoused 41 = .ok (.aload_n 0, 1) := by decide +kernel
theorem dL_isHoused_42 : decode cL_isHoused 42 = .ok (.iload_n 2, 1) := by decide +kernel
theorem dL_isHoused_43 : decode cL_isHoused 43 = .ok (.invokevirtual 116, 3) := by decide +kernel
theorem dL_isHoused_46 : decode cL_isHoused 46 = .ok (.aload_n 0, 1) := by decide +kernel
theorem dL_isHoused_47 : decode cL_isHoused 47 = .ok (.iload_n 2, 1) := by decide +kernel
theorem dL_isHoused_48 : decode cL_isHoused 48 = .ok (.bipush 6, 2) := by decide +kernel
theorem dL_isHoused_50 : decode cL_isHoused 50 = .ok (.invokevirtual 120, 3) := by decide +kernel
theorem dL_isHoused_53 : decode cL_isHoused 53 = .ok (.aload_n 1, 1) := by decide +kernel
theorem dL_isHoused_54 : decode cL_isHoused 54 = .ok (.bipush 12, 2) := by decide +kernel
theorem dL_isHoused_56 : decode cL_isHoused 56 = .ok (.iload_n 2, 1) := by decide +kernel
theorem dL_isHoused_57 : decode cL_isHoused 57 = .ok (.imul, 1) := by decide +kernel
theorem dL_isHoused_58 : decode cL_isHoused 58 = .ok (.iconst 5, 1) := by decide +kernel
theorem dL_isHoused_59 : decode cL_isHoused 59 = .ok (.iadd, 1) := by decide +kernel
theorem dL_isHoused_60 : decode cL_isHoused 60 = .ok (.iaload, 1) := by decide +kernel
theorem dL_isHoused_61 : decode cL_isHoused 61 = .ok (.if_icmp .ne 7, 3) := by decide +kernel
theorem dL_isHoused_64 : decode cL_isHoused 64 = .ok (.iconst 1, 1) := by decide +kernel
theorem dL_isHoused_65 : decode cL_isHoused 65 = .ok (.goto 4, 3) := by decide +kernel
theorem dL_isHoused_68 : decode cL_isHoused 68 = .ok (.iconst 0, 1) := by decide +kernel
theorem dL_isHoused_69 : decode cL_isHoused 69 = .ok (.ireturn, 1) := by decide +kernel
