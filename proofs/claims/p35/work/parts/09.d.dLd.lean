theorem dL_isTold_0 : decode cL_isTold 0 = .ok (.iload_n 3, 1) := by decide +kernel
theorem dL_isTold_1 : decode cL_isTold 1 = .ok (.bipush 11, 2) := by decide +kernel
theorem dL_isTold_3 : decode cL_isTold 3 = .ok (.irem, 1) := by decide +kernel
theorem dL_isTold_4 : decode cL_isTold 4 = .ok (.istore 4, 2) := by decide +kernel
theorem dL_isTold_6 : decode cL_isTold 6 = .ok (.iload_n 3, 1) := by decide +kernel
theorem dL_isTold_7 : decode cL_isTold 7 = .ok (.bipush 11, 2) := by decide +kernel
theorem dL_isTold_9 : decode cL_isTold 9 = .ok (.idiv, 1) := by decide +kernel
theorem dL_isTold_10 : decode cL_isTold 10 = .ok (.istore_n 3, 1) := by decide +kernel
theorem dL_isTold_11 : decode cL_isTold 11 = .ok (.iload 4, 2) := by decide +kernel
theorem dL_isTold_13 : decode cL_isTold 13 = .ok (.ifCond .ne 74, 3) := by decide +kernel
theorem dL_isTold_16 : decode cL_isTold 16 = .ok (.iload_n 3, 1) := by decide +kernel
theorem dL_isTold_17 : decode cL_isTold 17 = .ok (.iconst 5, 1) := by decide +kernel
theorem dL_isTold_18 : decode cL_isTold 18 = .ok (.irem, 1) := by decide +kernel
theorem dL_isTold_19 : decode cL_isTold 19 = .ok (.istore 5, 2) := by decide +kernel
theorem dL_isTold_21 : decode cL_isTold 21 = .ok (.aload_n 2, 1) := by decide +kernel
theorem dL_isTold_22 : decode cL_isTold 22 = .ok (.iload 5, 2) := by decide +kernel
theorem dL_isTold_24 : decode cL_isTold 24 = .ok (.iaload, 1) := by decide +kernel
theorem dL_isTold_25 : decode cL_isTold 25 = .ok (.istore 6, 2) := by decide +kernel
theorem dL_isTold_27 : decode cL_isTold 27 = .ok (.aload_n 2, 1) := by decide +kernel
theorem dL_isTold_28 : decode cL_isTold 28 = .ok (.iload 5, 2) := by decide +kernel
theorem dL_isTold_30 : decode cL_isTold 30 = .ok (.iload 5, 2) := by decide +kernel
theorem dL_isTold_32 : decode cL_isTold 32 = .ok (.ifCond .ne 14, 3) := by decide +kernel
theorem dL_isTold_35 : decode cL_isTold 35 = .ok (.iconst 1, 1) := by decide +kernel
theorem dL_isTold_36 : decode cL_isTold 36 = .ok (.iload_n 3, 1) := by decide +kernel
theorem dL_isTold_37 : decode cL_isTold 37 = .ok (.iconst 5, 1) := by decide +kernel
theorem dL_isTold_38 : decode cL_isTold 38 = .ok (.idiv, 1) := by decide +kernel
theorem dL_isTold_39 : decode cL_isTold 39 = .ok (.bipush 50, 2) := by decide +kernel
theorem dL_isTold_41 : decode cL_isTold 41 = .ok (.irem, 1) := by decide +kernel
theorem dL_isTold_42 : decode cL_isTold 42 = .ok (.iadd, 1) := by decide +kernel
theorem dL_isTold_43 : decode cL_isTold 43 = .ok (.goto 22, 3) := by decide +kernel
theorem dL_isTold_46 : decode cL_isTold 46 = .ok (.iload_n 3, 1) := by decide +kernel
theorem dL_isTold_47 : decode cL_isTold 47 = .ok (.iconst 5, 1) := by decide +kernel
theorem dL_isTold_48 : decode cL_isTold 48 = .ok (.idiv, 1) := by decide +kernel
theorem dL_isTold_49 : decode cL_isTold 49 = .ok (.iload_n 3, 1) := by decide +kernel
theorem dL_isTold_50 : decode cL_isTold 50 = .ok (.iconst 3, 1) := by decide +kernel
theorem dL_isTold_51 : decode cL_isTold 51 = .ok (.idiv, 1) := by decide +kernel
theorem dL_isTold_52 : decode cL_isTold 52 = .ok (.iconst 2, 1) := by decide +kernel
theorem dL_isTold_53 : decode cL_isTold 53 = .ok (.irem, 1) := by decide +kernel
theorem dL_isTold_54 : decode cL_isTold 54 = .ok (.ifCond .ne 8, 3) := by decide +kernel
theorem dL_isTold_57 : decode cL_isTold 57 = .ok (.bipush 101, 2) := by decide +kernel
theorem dL_isTold_59 : decode cL_isTold 59 = .ok (.goto 5, 3) := by decide +kernel
theorem dL_isTold_62 : decode cL_isTold 62 = .ok (.bipush 12, 2) := by decide +kernel
theorem dL_isTold_64 : decode cL_isTold 64 = .ok (.irem, 1) := by decide +kernel
theorem dL_isTold_65 : decode cL_isTold 65 = .ok (.iastore, 1) := by decide +kernel
theorem dL_isTold_66 : decode cL_isTold 66 = .ok (.aload_n 0, 1) := by decide +kernel
theorem dL_isTold_67 : decode cL_isTold 67 = .ok (.iload 5, 2) := by decide +kernel
theorem dL_isTold_69 : decode cL_isTold 69 = .ok (.aload_n 2, 1) := by decide +kernel
theorem dL_isTold_70 : decode cL_isTold 70 = .ok (.iload 5, 2) := by decide +kernel
theorem dL_isTold_72 : decode cL_isTold 72 = .ok (.iaload, 1) := by decide +kernel
theorem dL_isTold_73 : decode cL_isTold 73 = .ok (.invokevirtual 73, 3) := by decide +kernel
theorem dL_isTold_76 : decode cL_isTold 76 = .ok (.iload 6, 2) := by decide +kernel
theorem dL_isTold_78 : decode cL_isTold 78 = .ok (.if_icmp .ne 7, 3) := by decide +kernel
theorem dL_isTold_81 : decode cL_isTold 81 = .ok (.iconst 1, 1) := by decide +kernel
theorem dL_isTold_82 : decode cL_isTold 82 = .ok (.goto 4, 3) := by decide +kernel
theorem dL_isTold_85 : decode cL_isTold 85 = .ok (.iconst 0, 1) := by decide +kernel
theorem dL_isTold_86 : decode cL_isTold 86 = .ok (.ireturn, 1) := by decide +kernel
theorem dL_isTold_87 : decode cL_isTold 87 = .ok (.iload 4, 2) := by decide +kernel
theorem dL_isTold_89 : decode cL_isTold 89 = .ok (.iconst 1, 1) := by decide +kernel
theorem dL_isTold_90 : decode cL_isTold 90 = .ok (.if_icmp .ne 85, 3) := by decide +kernel
theorem dL_isTold_93 : decode cL_isTold 93 = .ok (.iload_n 3, 1) := by decide +kernel
theorem dL_isTold_94 : decode cL_isTold 94 = .ok (.iconst 4, 1) := by decide +kernel
theorem dL_isTold_95 : decode cL_isTold 95 = .ok (.irem, 1) := by decide +kernel
theorem dL_isTold_96 : decode cL_isTold 96 = .ok (.istore 5, 2) := by decide +kernel
theorem dL_isTold_98 : decode cL_isTold 98 = .ok (.iload_n 3, 1) := by decide +kernel
theorem dL_isTold_99 : decode cL_isTold 99 = .ok (.iconst 4, 1) := by decide +kernel
theorem dL_isTold_100 : decode cL_isTold 100 = .ok (.idiv, 1) := by decide +kernel
theorem dL_isTold_101 : decode cL_isTold 101 = .ok (.iconst 2, 1) := by decide +kernel
theorem dL_isTold_102 : decode cL_isTold 102 = .ok (.irem, 1) := by decide +kernel
theorem dL_isTold_103 : decode cL_isTold 103 = .ok (.iconst 1, 1) := by decide +kernel
theorem dL_isTold_104 : decode cL_isTold 104 = .ok (.if_icmp .ne 7, 3) := by decide +kernel
theorem dL_isTold_107 : decode cL_isTold 107 = .ok (.iconst 1, 1) := by decide +kernel
theorem dL_isTold_108 : decode cL_isTold 108 = .ok (.goto 4, 3) := by decide +kernel
theorem dL_isTold_111 : decode cL_isTold 111 = .ok (.iconst 0, 1) := by decide +kernel
theorem dL_isTold_112 : decode cL_isTold 112 = .ok (.istore 6, 2) := by decide +kernel
theorem dL_isTold_114 : decode cL_isTold 114 = .ok (.iload 6, 2) := by decide +kernel
theorem dL_isTold_116 : decode cL_isTold 116 = .ok (.ifCond .eq 11, 3) := by decide +kernel
theorem dL_isTold_119 : decode cL_isTold 119 = .ok (.bipush 9, 2) := by decide +kernel
theorem dL_isTold_121 : decode cL_isTold 121 = .ok (.iload 5, 2) := by decide +kernel
theorem dL_isTold_123 : decode cL_isTold 123 = .ok (.iadd, 1) := by decide +kernel
theorem dL_isTold_124 : decode cL_isTold 124 = .ok (.goto 7, 3) := by decide +kernel
theorem dL_isTold_127 : decode cL_isTold 127 = .ok (.iconst 5, 1) := by decide +kernel
theorem dL_isTold_128 : decode cL_isTold 128 = .ok (.iload 5, 2) := by decide +kernel
theorem dL_isTold_130 : decode cL_isTold 130 = .ok (.iadd, 1) := by decide +kernel
theorem dL_isTold_131 : decode cL_isTold 131 = .ok (.istore 7, 2) := by decide +kernel
theorem dL_isTold_133 : decode cL_isTold 133 = .ok (.aload_n 2, 1) := by decide +kernel
theorem dL_isTold_134 : decode cL_isTold 134 = .ok (.iload 7, 2) := by decide +kernel
theorem dL_isTold_136 : decode cL_isTold 136 = .ok (.iaload, 1) := by decide +kernel
theorem dL_isTold_137 : decode cL_isTold 137 = .ok (.istore 8, 2) := by decide +kernel
theorem dL_isTold_139 : decode cL_isTold 139 = .ok (.aload_n 2, 1) := by decide +kernel
theorem dL_isTold_140 : decode cL_isTold 140 = .ok (.iload 7, 2) := by decide +kernel
theorem dL_isTold_142 : decode cL_isTold 142 = .ok (.iconst 1, 1) := by decide +kernel
theorem dL_isTold_143 : decode cL_isTold 143 = .ok (.iload_n 3, 1) := by decide +kernel
theorem dL_isTold_144 : decode cL_isTold 144 = .ok (.bipush 8, 2) := by decide +kernel
theorem dL_isTold_146 : decode cL_isTold 146 = .ok (.idiv, 1) := by decide +kernel
theorem dL_isTold_147 : decode cL_isTold 147 = .ok (.bipush 100, 2) := by decide +kernel
theorem dL_isTold_149 : decode cL_isTold 149 = .ok (.irem, 1) := by decide +kernel
theorem dL_isTold_150 : decode cL_isTold 150 = .ok (.iadd, 1) := by decide +kernel
theorem dL_isTold_151 : decode cL_isTold 151 = .ok (.iastore, 1) := by decide +kernel
theorem dL_isTold_152 : decode cL_isTold 152 = .ok (.aload_n 0, 1) := by decide +kernel
theorem dL_isTold_153 : decode cL_isTold 153 = .ok (.iload 5, 2) := by decide +kernel
theorem dL_isTold_155 : decode cL_isTold 155 = .ok (.aload_n 2, 1) := by decide +kernel
theorem dL_isTold_156 : decode cL_isTold 156 = .ok (.iload 7, 2) := by decide +kernel
theorem dL_isTold_158 : decode cL_isTold 158 = .ok (.iaload, 1) := by decide +kernel
theorem dL_isTold_159 : decode cL_isTold 159 = .ok (.iload 6, 2) := by decide +kernel
theorem dL_isTold_161 : decode cL_isTold 161 = .ok (.invokevirtual 76, 3) := by decide +kernel
theorem dL_isTold_164 : decode cL_isTold 164 = .ok (.iload 8, 2) := by decide +kernel
theorem dL_isTold_166 : decode cL_isTold 166 = .ok (.if_icmp .ne 7, 3) := by decide +kernel
theorem dL_isTold_169 : decode cL_isTold 169 = .ok (.iconst 1, 1) := by decide +kernel
theorem dL_isTold_170 : decode cL_isTold 170 = .ok (.goto 4, 3) := by decide +kernel
theorem dL_isTold_173 : decode cL_isTold 173 = .ok (.iconst 0, 1) := by decide +kernel
theorem dL_isTold_174 : decode cL_isTold 174 = .ok (.ireturn, 1) := by decide +kernel
theorem dL_isTold_175 : decode cL_isTold 175 = .ok (.iload 4, 2) := by decide +kernel
theorem dL_isTold_177 : decode cL_isTold 177 = .ok (.iconst 2, 1) := by decide +kernel
theorem dL_isTold_178 : decode cL_isTold 178 = .ok (.if_icmp .ne 36, 3) := by decide +kernel
theorem dL_isTold_181 : decode cL_isTold 181 = .ok (.aload_n 2, 1) := by decide +kernel
theorem dL_isTold_182 : decode cL_isTold 182 = .ok (.bipush 13, 2) := by decide +kernel
theorem dL_isTold_184 : decode cL_isTold 184 = .ok (.iaload, 1) := by decide +kernel
theorem dL_isTold_185 : decode cL_isTold 185 = .ok (.istore 5, 2) := by decide +kernel
theorem dL_isTold_187 : decode cL_isTold 187 = .ok (.aload_n 2, 1) := by decide +kernel
theorem dL_isTold_188 : decode cL_isTold 188 = .ok (.bipush 13, 2) := by decide +kernel
theorem dL_isTold_190 : decode cL_isTold 190 = .ok (.iload_n 3, 1) := by decide +kernel
theorem dL_isTold_191 : decode cL_isTold 191 = .ok (.bipush 51, 2) := by decide +kernel
theorem dL_isTold_193 : decode cL_isTold 193 = .ok (.irem, 1) := by decide +kernel
theorem dL_isTold_194 : decode cL_isTold 194 = .ok (.iastore, 1) := by decide +kernel
theorem dL_isTold_195 : decode cL_isTold 195 = .ok (.aload_n 0, 1) := by decide +kernel
theorem dL_isTold_196 : decode cL_isTold 196 = .ok (.aload_n 2, 1) := by decide +kernel
theorem dL_isTold_197 : decode cL_isTold 197 = .ok (.bipush 13, 2) := by decide +kernel
theorem dL_isTold_199 : decode cL_isTold 199 = .ok (.iaload, 1) := by decide +kernel
theorem dL_isTold_200 : decode cL_isTold 200 = .ok (.invokevirtual 80, 3) := by decide +kernel
theorem dL_isTold_203 : decode cL_isTold 203 = .ok (.iload 5, 2) := by decide +kernel
theorem dL_isTold_205 : decode cL_isTold 205 = .ok (.if_icmp .ne 7, 3) := by decide +kernel
theorem dL_isTold_208 : decode cL_isTold 208 = .ok (.iconst 1, 1) := by decide +kernel
theorem dL_isTold_209 : decode cL_isTold 209 = .ok (.goto 4, 3) := by decide +kernel
theorem dL_isTold_212 : decode cL_isTold 212 = .ok (.iconst 0, 1) := by decide +kernel
theorem dL_isTold_213 : decode cL_isTold 213 = .ok (.ireturn, 1) := by decide +kernel
theorem dL_isTold_214 : decode cL_isTold 214 = .ok (.iload 4, 2) := by decide +kernel
theorem dL_isTold_216 : decode cL_isTold 216 = .ok (.iconst 3, 1) := by decide +kernel
theorem dL_isTold_217 : decode cL_isTold 217 = .ok (.if_icmp .ne 53, 3) := by decide +kernel
theorem dL_isTold_220 : decode cL_isTold 220 = .ok (.aload_n 2, 1) := by decide +kernel
theorem dL_isTold_221 : decode cL_isTold 221 = .ok (.bipush 14, 2) := by decide +kernel
theorem dL_isTold_223 : decode cL_isTold 223 = .ok (.iaload, 1) := by decide +kernel
theorem dL_isTold_224 : decode cL_isTold 224 = .ok (.iconst 1, 1) := by decide +kernel
theorem dL_isTold_225 : decode cL_isTold 225 = .ok (.if_icmp .ne 7, 3) := by decide +kernel
theorem dL_isTold_228 : decode cL_isTold 228 = .ok (.iconst 1, 1) := by decide +kernel
theorem dL_isTold_229 : decode cL_isTold 229 = .ok (.goto 4, 3) := by decide +kernel
theorem dL_isTold_232 : decode cL_isTold 232 = .ok (.iconst 0, 1) := by decide +kernel
theorem dL_isTold_233 : decode cL_isTold 233 = .ok (.istore 5, 2) := by decide +kernel
theorem dL_isTold_235 : decode cL_isTold 235 = .ok (.aload_n 2, 1) := by decide +kernel
theorem dL_isTold_236 : decode cL_isTold 236 = .ok (.bipush 14, 2) := by decide +kernel
theorem dL_isTold_238 : decode cL_isTold 238 = .ok (.iload_n 3, 1) := by decide +kernel
theorem dL_isTold_239 : decode cL_isTold 239 = .ok (.iconst 2, 1) := by decide +kernel
theorem dL_isTold_240 : decode cL_isTold 240 = .ok (.irem, 1) := by decide +kernel
theorem dL_isTold_241 : decode cL_isTold 241 = .ok (.iastore, 1) := by decide +kernel
theorem dL_isTold_242 : decode cL_isTold 242 = .ok (.aload_n 0, 1) := by decide +kernel
theorem dL_isTold_243 : decode cL_isTold 243 = .ok (.aload_n 2, 1) := by decide +kernel
theorem dL_isTold_244 : decode cL_isTold 244 = .ok (.bipush 14, 2) := by decide +kernel
theorem dL_isTold_246 : decode cL_isTold 246 = .ok (.iaload, 1) := by decide +kernel
theorem dL_isTold_247 : decode cL_isTold 247 = .ok (.iconst 1, 1) := by decide +kernel
theorem dL_isTold_248 : decode cL_isTold 248 = .ok (.if_icmp .ne 7, 3) := by decide +kernel
theorem dL_isTold_251 : decode cL_isTold 251 = .ok (.iconst 1, 1) := by decide +kernel
theorem dL_isTold_252 : decode cL_isTold 252 = .ok (.goto 4, 3) := by decide +kernel
theorem dL_isTold_255 : decode cL_isTold 255 = .ok (.iconst 0, 1) := by decide +kernel
theorem dL_isTold_256 : decode cL_isTold 256 = .ok (.invokevirtual 83, 3) := by decide +kernel
theorem dL_isTold_259 : decode cL_isTold 259 = .ok (.iload 5, 2) := by decide +kernel
theorem dL_isTold_261 : decode cL_isTold 261 = .ok (.if_icmp .ne 7, 3) := by decide +kernel
theorem dL_isTold_264 : decode cL_isTold 264 = .ok (.iconst 1, 1) := by decide +kernel
theorem dL_isTold_265 : decode cL_isTold 265 = .ok (.goto 4, 3) := by decide +kernel
theorem dL_isTold_268 : decode cL_isTold 268 = .ok (.iconst 0, 1) := by decide +kernel
theorem dL_isTold_269 : decode cL_isTold 269 = .ok (.ireturn, 1) := by decide +kernel
theorem dL_isTold_270 : decode cL_isTold 270 = .ok (.iload 4, 2) := by decide +kernel
theorem dL_isTold_272 : decode cL_isTold 272 = .ok (.iconst 4, 1) := by decide +kernel
theorem dL_isTold_273 : decode cL_isTold 273 = .ok (.if_icmp .ne 94, 3) := by decide +kernel
theorem dL_isTold_276 : decode cL_isTold 276 = .ok (.aload_n 2, 1) := by decide +kernel
theorem dL_isTold_277 : decode cL_isTold 277 = .ok (.bipush 15, 2) := by decide +kernel
theorem dL_isTold_279 : decode cL_isTold 279 = .ok (.iaload, 1) := by decide +kernel
theorem dL_isTold_280 : decode cL_isTold 280 = .ok (.istore 5, 2) := by decide +kernel
theorem dL_isTold_282 : decode cL_isTold 282 = .ok (.iload_n 3, 1) := by decide +kernel
theorem dL_isTold_283 : decode cL_isTold 283 = .ok (.bipush 6, 2) := by decide +kernel
theorem dL_isTold_285 : decode cL_isTold 285 = .ok (.irem, 1) := by decide +kernel
theorem dL_isTold_286 : decode cL_isTold 286 = .ok (.istore 6, 2) := by decide +kernel
theorem dL_isTold_288 : decode cL_isTold 288 = .ok (.aload_n 2, 1) := by decide +kernel
theorem dL_isTold_289 : decode cL_isTold 289 = .ok (.bipush 15, 2) := by decide +kernel
theorem dL_isTold_291 : decode cL_isTold 291 = .ok (.iload 6, 2) := by decide +kernel
theorem dL_isTold_293 : decode cL_isTold 293 = .ok (.ifCond .ne 9, 3) := by decide +kernel
theorem dL_isTold_296 : decode cL_isTold 296 = .ok (.sipush 12345, 3) := by decide +kernel
theorem dL_isTold_299 : decode cL_isTold 299 = .ok (.goto 48, 3) := by decide +kernel
theorem dL_isTold_302 : decode cL_isTold 302 = .ok (.iload 6, 2) := by decide +kernel
theorem dL_isTold_304 : decode cL_isTold 304 = .ok (.iconst 1, 1) := by decide +kernel
theorem dL_isTold_305 : decode cL_isTold 305 = .ok (.if_icmp .ne 8, 3) := by decide +kernel
theorem dL_isTold_308 : decode cL_isTold 308 = .ok (.ldc 87, 2) := by decide +kernel
theorem dL_isTold_310 : decode cL_isTold 310 = .ok (.goto 37, 3) := by decide +kernel
theorem dL_isTold_313 : decode cL_isTold 313 = .ok (.iload 6, 2) := by decide +kernel
theorem dL_isTold_315 : decode cL_isTold 315 = .ok (.iconst 2, 1) := by decide +kernel
theorem dL_isTold_316 : decode cL_isTold 316 = .ok (.if_icmp .ne 7, 3) := by decide +kernel
theorem dL_isTold_319 : decode cL_isTold 319 = .ok (.iconst 0, 1) := by decide +kernel
theorem dL_isTold_320 : decode cL_isTold 320 = .ok (.goto 27, 3) := by decide +kernel
theorem dL_isTold_323 : decode cL_isTold 323 = .ok (.iload 6, 2) := by decide +kernel
theorem dL_isTold_325 : decode cL_isTold 325 = .ok (.iconst 3, 1) := by decide +kernel
theorem dL_isTold_326 : decode cL_isTold 326 = .ok (.if_icmp .ne 7, 3) := by decide +kernel
theorem dL_isTold_329 : decode cL_isTold 329 = .ok (.iconst 5, 1) := by decide +kernel
theorem dL_isTold_330 : decode cL_isTold 330 = .ok (.goto 17, 3) := by decide +kernel
theorem dL_isTold_333 : decode cL_isTold 333 = .ok (.iload 6, 2) := by decide +kernel
theorem dL_isTold_335 : decode cL_isTold 335 = .ok (.iconst 4, 1) := by decide +kernel
theorem dL_isTold_336 : decode cL_isTold 336 = .ok (.if_icmp .ne 9, 3) := by decide +kernel
theorem dL_isTold_339 : decode cL_isTold 339 = .ok (.sipush 2413, 3) := by decide +kernel
theorem dL_isTold_342 : decode cL_isTold 342 = .ok (.goto 5, 3) := by decide +kernel
theorem dL_isTold_345 : decode cL_isTold 345 = .ok (.bipush 31, 2) := by decide +kernel
theorem dL_isTold_347 : decode cL_isTold 347 = .ok (.iastore, 1) := by decide +kernel
theorem dL_isTold_348 : decode cL_isTold 348 = .ok (.aload_n 0, 1) := by decide +kernel
theorem dL_isTold_349 : decode cL_isTold 349 = .ok (.aload_n 2, 1) := by decide +kernel
theorem dL_isTold_350 : decode cL_isTold 350 = .ok (.bipush 15, 2) := by decide +kernel
theorem dL_isTold_352 : decode cL_isTold 352 = .ok (.iaload, 1) := by decide +kernel
theorem dL_isTold_353 : decode cL_isTold 353 = .ok (.invokevirtual 88, 3) := by decide +kernel
theorem dL_isTold_356 : decode cL_isTold 356 = .ok (.iload 5, 2) := by decide +kernel
theorem dL_isTold_358 : decode cL_isTold 358 = .ok (.if_icmp .ne 7, 3) := by decide +kernel
theorem dL_isTold_361 : decode cL_isTold 361 = .ok (.iconst 1, 1) := by decide +kernel
theorem dL_isTold_362 : decode cL_isTold 362 = .ok (.goto 4, 3) := by decide +kernel
theorem dL_isTold_365 : decode cL_isTold 365 = .ok (.iconst 0, 1) := by decide +kernel
theorem dL_isTold_366 : decode cL_isTold 366 = .ok (.ireturn, 1) := by decide +kernel
theorem dL_isTold_367 : decode cL_isTold 367 = .ok (.iload 4, 2) := by decide +kernel
theorem dL_isTold_369 : decode cL_isTold 369 = .ok (.iconst 5, 1) := by decide +kernel
theorem dL_isTold_370 : decode cL_isTold 370 = .ok (.if_icmp .ne 37, 3) := by decide +kernel
theorem dL_isTold_373 : decode cL_isTold 373 = .ok (.aload_n 2, 1) := by decide +kernel
theorem dL_isTold_374 : decode cL_isTold 374 = .ok (.bipush 17, 2) := by decide +kernel
theorem dL_isTold_376 : decode cL_isTold 376 = .ok (.iaload, 1) := by decide +kernel
theorem dL_isTold_377 : decode cL_isTold 377 = .ok (.istore 5, 2) := by decide +kernel
theorem dL_isTold_379 : decode cL_isTold 379 = .ok (.aload_n 2, 1) := by decide +kernel
theorem dL_isTold_380 : decode cL_isTold 380 = .ok (.bipush 17, 2) := by decide +kernel
theorem dL_isTold_382 : decode cL_isTold 382 = .ok (.iload_n 3, 1) := by decide +kernel
theorem dL_isTold_383 : decode cL_isTold 383 = .ok (.sipush 1001, 3) := by decide +kernel
theorem dL_isTold_386 : decode cL_isTold 386 = .ok (.irem, 1) := by decide +kernel
theorem dL_isTold_387 : decode cL_isTold 387 = .ok (.iastore, 1) := by decide +kernel
theorem dL_isTold_388 : decode cL_isTold 388 = .ok (.aload_n 0, 1) := by decide +kernel
theorem dL_isTold_389 : decode cL_isTold 389 = .ok (.aload_n 2, 1) := by decide +kernel
theorem dL_isTold_390 : decode cL_isTold 390 = .ok (.bipush 17, 2) := by decide +kernel
theorem dL_isTold_392 : decode cL_isTold 392 = .ok (.iaload, 1) := by decide +kernel
theorem dL_isTold_393 : decode cL_isTold 393 = .ok (.invokevirtual 91, 3) := by decide +kernel
theorem dL_isTold_396 : decode cL_isTold 396 = .ok (.iload 5, 2) := by decide +kernel
theorem dL_isTold_398 : decode cL_isTold 398 = .ok (.if_icmp .ne 7, 3) := by decide +kernel
theorem dL_isTold_401 : decode cL_isTold 401 = .ok (.iconst 1, 1) := by decide +kernel
theorem dL_isTold_402 : decode cL_isTold 402 = .ok (.goto 4, 3) := by decide +kernel
theorem dL_isTold_405 : decode cL_isTold 405 = .ok (.iconst 0, 1) := by decide +kernel
theorem dL_isTold_406 : decode cL_isTold 406 = .ok (.ireturn, 1) := by decide +kernel
theorem dL_isTold_407 : decode cL_isTold 407 = .ok (.iload 4, 2) := by decide +kernel
theorem dL_isTold_409 : decode cL_isTold 409 = .ok (.bipush 6, 2) := by decide +kernel
theorem dL_isTold_411 : decode cL_isTold 411 = .ok (.if_icmp .ne 36, 3) := by decide +kernel
theorem dL_isTold_414 : decode cL_isTold 414 = .ok (.aload_n 2, 1) := by decide +kernel
theorem dL_isTold_415 : decode cL_isTold 415 = .ok (.bipush 18, 2) := by decide +kernel
theorem dL_isTold_417 : decode cL_isTold 417 = .ok (.iaload, 1) := by decide +kernel
theorem dL_isTold_418 : decode cL_isTold 418 = .ok (.istore 5, 2) := by decide +kernel
theorem dL_isTold_420 : decode cL_isTold 420 = .ok (.aload_n 2, 1) := by decide +kernel
theorem dL_isTold_421 : decode cL_isTold 421 = .ok (.bipush 18, 2) := by decide +kernel
theorem dL_isTold_423 : decode cL_isTold 423 = .ok (.iload_n 3, 1) := by decide +kernel
theorem dL_isTold_424 : decode cL_isTold 424 = .ok (.bipush 91, 2) := by decide +kernel
theorem dL_isTold_426 : decode cL_isTold 426 = .ok (.irem, 1) := by decide +kernel
theorem dL_isTold_427 : decode cL_isTold 427 = .ok (.iastore, 1) := by decide +kernel
theorem dL_isTold_428 : decode cL_isTold 428 = .ok (.aload_n 0, 1) := by decide +kernel
theorem dL_isTold_429 : decode cL_isTold 429 = .ok (.aload_n 2, 1) := by decide +kernel
theorem dL_isTold_430 : decode cL_isTold 430 = .ok (.bipush 18, 2) := by decide +kernel
theorem dL_isTold_432 : decode cL_isTold 432 = .ok (.iaload, 1) := by decide +kernel
theorem dL_isTold_433 : decode cL_isTold 433 = .ok (.invokevirtual 94, 3) := by decide +kernel
theorem dL_isTold_436 : decode cL_isTold 436 = .ok (.iload 5, 2) := by decide +kernel
theorem dL_isTold_438 : decode cL_isTold 438 = .ok (.if_icmp .ne 7, 3) := by decide +kernel
theorem dL_isTold_441 : decode cL_isTold 441 = .ok (.iconst 1, 1) := by decide +kernel
theorem dL_isTold_442 : decode cL_isTold 442 = .ok (.goto 4, 3) := by decide +kernel
theorem dL_isTold_445 : decode cL_isTold 445 = .ok (.iconst 0, 1) := by decide +kernel
theorem dL_isTold_446 : decode cL_isTold 446 = .ok (.ireturn, 1) := by decide +kernel
theorem dL_isTold_447 : decode cL_isTold 447 = .ok (.iload 4, 2) := by decide +kernel
theorem dL_isTold_449 : decode cL_isTold 449 = .ok (.bipush 7, 2) := by decide +kernel
theorem dL_isTold_451 : decode cL_isTold 451 = .ok (.if_icmp .ne 93, 3) := by decide +kernel
theorem dL_isTold_454 : decode cL_isTold 454 = .ok (.iload_n 3, 1) := by decide +kernel
theorem dL_isTold_455 : decode cL_isTold 455 = .ok (.iconst 3, 1) := by decide +kernel
theorem dL_isTold_456 : decode cL_isTold 456 = .ok (.irem, 1) := by decide +kernel
theorem dL_isTold_457 : decode cL_isTold 457 = .ok (.istore 5, 2) := by decide +kernel
theorem dL_isTold_459 : decode cL_isTold 459 = .ok (.aload_n 2, 1) := by decide +kernel
theorem dL_isTold_460 : decode cL_isTold 460 = .ok (.bipush 19, 2) := by decide +kernel
theorem dL_isTold_462 : decode cL_isTold 462 = .ok (.iaload, 1) := by decide +kernel
theorem dL_isTold_463 : decode cL_isTold 463 = .ok (.iload 5, 2) := by decide +kernel
theorem dL_isTold_465 : decode cL_isTold 465 = .ok (.ishr, 1) := by decide +kernel
theorem dL_isTold_466 : decode cL_isTold 466 = .ok (.iconst 1, 1) := by decide +kernel
theorem dL_isTold_467 : decode cL_isTold 467 = .ok (.iand, 1) := by decide +kernel
theorem dL_isTold_468 : decode cL_isTold 468 = .ok (.iconst 1, 1) := by decide +kernel
theorem dL_isTold_469 : decode cL_isTold 469 = .ok (.if_icmp .ne 7, 3) := by decide +kernel
theorem dL_isTold_472 : decode cL_isTold 472 = .ok (.iconst 1, 1) := by decide +kernel
theorem dL_isTold_473 : decode cL_isTold 473 = .ok (.goto 4, 3) := by decide +kernel
theorem dL_isTold_476 : decode cL_isTold 476 = .ok (.iconst 0, 1) := by decide +kernel
theorem dL_isTold_477 : decode cL_isTold 477 = .ok (.istore 6, 2) := by decide +kernel
theorem dL_isTold_479 : decode cL_isTold 479 = .ok (.aload_n 2, 1) := by decide +kernel
theorem dL_isTold_480 : decode cL_isTold 480 = .ok (.bipush 19, 2) := by decide +kernel
theorem dL_isTold_482 : decode cL_isTold 482 = .ok (.iload_n 3, 1) := by decide +kernel
theorem dL_isTold_483 : decode cL_isTold 483 = .ok (.iconst 3, 1) := by decide +kernel
theorem dL_isTold_484 : decode cL_isTold 484 = .ok (.idiv, 1) := by decide +kernel
theorem dL_isTold_485 : decode cL_isTold 485 = .ok (.iconst 3, 1) := by decide +kernel
theorem dL_isTold_486 : decode cL_isTold 486 = .ok (.irem, 1) := by decide +kernel
theorem dL_isTold_487 : decode cL_isTold 487 = .ok (.ifCond .le 15, 3) := by decide +kernel
theorem dL_isTold_490 : decode cL_isTold 490 = .ok (.aload_n 2, 1) := by decide +kernel
theorem dL_isTold_491 : decode cL_isTold 491 = .ok (.bipush 19, 2) := by decide +kernel
theorem dL_isTold_493 : decode cL_isTold 493 = .ok (.iaload, 1) := by decide +kernel
theorem dL_isTold_494 : decode cL_isTold 494 = .ok (.iconst 1, 1) := by decide +kernel
theorem dL_isTold_495 : decode cL_isTold 495 = .ok (.iload 5, 2) := by decide +kernel
theorem dL_isTold_497 : decode cL_isTold 497 = .ok (.ishl, 1) := by decide +kernel
theorem dL_isTold_498 : decode cL_isTold 498 = .ok (.ior, 1) := by decide +kernel
theorem dL_isTold_499 : decode cL_isTold 499 = .ok (.goto 14, 3) := by decide +kernel
theorem dL_isTold_502 : decode cL_isTold 502 = .ok (.aload_n 2, 1) := by decide +kernel
theorem dL_isTold_503 : decode cL_isTold 503 = .ok (.bipush 19, 2) := by decide +kernel
theorem dL_isTold_505 : decode cL_isTold 505 = .ok (.iaload, 1) := by decide +kernel
theorem dL_isTold_506 : decode cL_isTold 506 = .ok (.iconst 1, 1) := by decide +kernel
theorem dL_isTold_507 : decode cL_isTold 507 = .ok (.iload 5, 2) := by decide +kernel
theorem dL_isTold_509 : decode cL_isTold 509 = .ok (.ishl, 1) := by decide +kernel
theorem dL_isTold_510 : decode cL_isTold 510 = .ok (.iconst (-1), 1) := by decide +kernel
theorem dL_isTold_511 : decode cL_isTold 511 = .ok (.ixor, 1) := by decide +kernel
theorem dL_isTold_512 : decode cL_isTold 512 = .ok (.iand, 1) := by decide +kernel
theorem dL_isTold_513 : decode cL_isTold 513 = .ok (.iastore, 1) := by decide +kernel
theorem dL_isTold_514 : decode cL_isTold 514 = .ok (.aload_n 0, 1) := by decide +kernel
theorem dL_isTold_515 : decode cL_isTold 515 = .ok (.iload 5, 2) := by decide +kernel
theorem dL_isTold_517 : decode cL_isTold 517 = .ok (.iload_n 3, 1) := by decide +kernel
theorem dL_isTold_518 : decode cL_isTold 518 = .ok (.iconst 3, 1) := by decide +kernel
theorem dL_isTold_519 : decode cL_isTold 519 = .ok (.idiv, 1) := by decide +kernel
theorem dL_isTold_520 : decode cL_isTold 520 = .ok (.iconst 3, 1) := by decide +kernel
theorem dL_isTold_521 : decode cL_isTold 521 = .ok (.irem, 1) := by decide +kernel
theorem dL_isTold_522 : decode cL_isTold 522 = .ok (.ifCond .le 7, 3) := by decide +kernel
theorem dL_isTold_525 : decode cL_isTold 525 = .ok (.iconst 1, 1) := by decide +kernel
theorem dL_isTold_526 : decode cL_isTold 526 = .ok (.goto 4, 3) := by decide +kernel
theorem dL_isTold_529 : decode cL_isTold 529 = .ok (.iconst 0, 1) := by decide +kernel
theorem dL_isTold_530 : decode cL_isTold 530 = .ok (.invokevirtual 97, 3) := by decide +kernel
theorem dL_isTold_533 : decode cL_isTold 533 = .ok (.iload 6, 2) := by decide +kernel
theorem dL_isTold_535 : decode cL_isTold 535 = .ok (.if_icmp .ne 7, 3) := by decide +kernel
theorem dL_isTold_538 : decode cL_isTold 538 = .ok (.iconst 1, 1) := by decide +kernel
theorem dL_isTold_539 : decode cL_isTold 539 = .ok (.goto 4, 3) := by decide +kernel
theorem dL_isTold_542 : decode cL_isTold 542 = .ok (.iconst 0, 1) := by decide +kernel
theorem dL_isTold_543 : decode cL_isTold 543 = .ok (.ireturn, 1) := by decide +kernel
theorem dL_isTold_544 : decode cL_isTold 544 = .ok (.iload 4, 2) := by decide +kernel
theorem dL_isTold_546 : decode cL_isTold 546 = .ok (.bipush 8, 2) := by decide +kernel
theorem dL_isTold_548 : decode cL_isTold 548 = .ok (.if_icmp .ne 52, 3) := by decide +kernel
theorem dL_isTold_551 : decode cL_isTold 551 = .ok (.aload_n 2, 1) := by decide +kernel
theorem dL_isTold_552 : decode cL_isTold 552 = .ok (.bipush 20, 2) := by decide +kernel
theorem dL_isTold_554 : decode cL_isTold 554 = .ok (.iaload, 1) := by decide +kernel
theorem dL_isTold_555 : decode cL_isTold 555 = .ok (.iconst 1, 1) := by decide +kernel
theorem dL_isTold_556 : decode cL_isTold 556 = .ok (.if_icmp .ne 7, 3) := by decide +kernel
theorem dL_isTold_559 : decode cL_isTold 559 = .ok (.iconst 1, 1) := by decide +kernel
theorem dL_isTold_560 : decode cL_isTold 560 = .ok (.goto 4, 3) := by decide +kernel
theorem dL_isTold_563 : decode cL_isTold 563 = .ok (.iconst 0, 1) := by decide +kernel
theorem dL_isTold_564 : decode cL_isTold 564 = .ok (.istore 5, 2) := by decide +kernel
theorem dL_isTold_566 : decode cL_isTold 566 = .ok (.aload_n 2, 1) := by decide +kernel
theorem dL_isTold_567 : decode cL_isTold 567 = .ok (.bipush 20, 2) := by decide +kernel
theorem dL_isTold_569 : decode cL_isTold 569 = .ok (.iload_n 3, 1) := by decide +kernel
theorem dL_isTold_570 : decode cL_isTold 570 = .ok (.iconst 2, 1) := by decide +kernel
theorem dL_isTold_571 : decode cL_isTold 571 = .ok (.irem, 1) := by decide +kernel
theorem dL_isTold_572 : decode cL_isTold 572 = .ok (.iastore, 1) := by decide +kernel
theorem dL_isTold_573 : decode cL_isTold 573 = .ok (.aload_n 0, 1) := by decide +kernel
theorem dL_isTold_574 : decode cL_isTold 574 = .ok (.iload_n 3, 1) := by decide +kernel
theorem dL_isTold_575 : decode cL_isTold 575 = .ok (.iconst 2, 1) := by decide +kernel
theorem dL_isTold_576 : decode cL_isTold 576 = .ok (.irem, 1) := by decide +kernel
theorem dL_isTold_577 : decode cL_isTold 577 = .ok (.iconst 1, 1) := by decide +kernel
theorem dL_isTold_578 : decode cL_isTold 578 = .ok (.if_icmp .ne 7, 3) := by decide +kernel
theorem dL_isTold_581 : decode cL_isTold 581 = .ok (.iconst 1, 1) := by decide +kernel
theorem dL_isTold_582 : decode cL_isTold 582 = .ok (.goto 4, 3) := by decide +kernel
theorem dL_isTold_585 : decode cL_isTold 585 = .ok (.iconst 0, 1) := by decide +kernel
theorem dL_isTold_586 : decode cL_isTold 586 = .ok (.invokevirtual 101, 3) := by decide +kernel
theorem dL_isTold_589 : decode cL_isTold 589 = .ok (.iload 5, 2) := by decide +kernel
theorem dL_isTold_591 : decode cL_isTold 591 = .ok (.if_icmp .ne 7, 3) := by decide +kernel
theorem dL_isTold_594 : decode cL_isTold 594 = .ok (.iconst 1, 1) := by decide +kernel
theorem dL_isTold_595 : decode cL_isTold 595 = .ok (.goto 4, 3) := by decide +kernel
theorem dL_isTold_598 : decode cL_isTold 598 = .ok (.iconst 0, 1) := by decide +kernel
theorem dL_isTold_599 : decode cL_isTold 599 = .ok (.ireturn, 1) := by decide +kernel
theorem dL_isTold_600 : decode cL_isTold 600 = .ok (.iload_n 3, 1) := by decide +kernel
theorem dL_isTold_601 : decode cL_isTold 601 = .ok (.iconst 5, 1) := by decide +kernel
theorem dL_isTold_602 : decode cL_isTold 602 = .ok (.irem, 1) := by decide +kernel
theorem dL_isTold_603 : decode cL_isTold 603 = .ok (.istore 5, 2) := by decide +kernel
theorem dL_isTold_605 : decode cL_isTold 605 = .ok (.iload 4, 2) := by decide +kernel
theorem dL_isTold_607 : decode cL_isTold 607 = .ok (.bipush 9, 2) := by decide +kernel
theorem dL_isTold_609 : decode cL_isTold 609 = .ok (.if_icmp .ne 118, 3) := by decide +kernel
theorem dL_isTold_612 : decode cL_isTold 612 = .ok (.aload_n 2, 1) := by decide +kernel
theorem dL_isTold_613 : decode cL_isTold 613 = .ok (.bipush 24, 2) := by decide +kernel
theorem dL_isTold_615 : decode cL_isTold 615 = .ok (.dup2, 1) := by decide +kernel
theorem dL_isTold_616 : decode cL_isTold 616 = .ok (.iaload, 1) := by decide +kernel
theorem dL_isTold_617 : decode cL_isTold 617 = .ok (.iconst 1, 1) := by decide +kernel
theorem dL_isTold_618 : decode cL_isTold 618 = .ok (.iload_n 3, 1) := by decide +kernel
theorem dL_isTold_619 : decode cL_isTold 619 = .ok (.iconst 5, 1) := by decide +kernel
theorem dL_isTold_620 : decode cL_isTold 620 = .ok (.idiv, 1) := by decide +kernel
theorem dL_isTold_621 : decode cL_isTold 621 = .ok (.bipush 9, 2) := by decide +kernel
theorem dL_isTold_623 : decode cL_isTold 623 = .ok (.irem, 1) := by decide +kernel
theorem dL_isTold_624 : decode cL_isTold 624 = .ok (.iadd, 1) := by decide +kernel
theorem dL_isTold_625 : decode cL_isTold 625 = .ok (.iadd, 1) := by decide +kernel
theorem dL_isTold_626 : decode cL_isTold 626 = .ok (.iastore, 1) := by decide +kernel
theorem dL_isTold_627 : decode cL_isTold 627 = .ok (.aload_n 1, 1) := by decide +kernel
theorem dL_isTold_628 : decode cL_isTold 628 = .ok (.bipush 12, 2) := by decide +kernel
theorem dL_isTold_630 : decode cL_isTold 630 = .ok (.iload 5, 2) := by decide +kernel
theorem dL_isTold_632 : decode cL_isTold 632 = .ok (.imul, 1) := by decide +kernel
theorem dL_isTold_633 : decode cL_isTold 633 = .ok (.bipush 9, 2) := by decide +kernel
theorem dL_isTold_635 : decode cL_isTold 635 = .ok (.iadd, 1) := by decide +kernel
theorem dL_isTold_636 : decode cL_isTold 636 = .ok (.iaload, 1) := by decide +kernel
theorem dL_isTold_637 : decode cL_isTold 637 = .ok (.iconst 1, 1) := by decide +kernel
theorem dL_isTold_638 : decode cL_isTold 638 = .ok (.if_icmp .ne 7, 3) := by decide +kernel
theorem dL_isTold_641 : decode cL_isTold 641 = .ok (.iconst 1, 1) := by decide +kernel
theorem dL_isTold_642 : decode cL_isTold 642 = .ok (.goto 4, 3) := by decide +kernel
theorem dL_isTold_645 : decode cL_isTold 645 = .ok (.iconst 0, 1) := by decide +kernel
theorem dL_isTold_646 : decode cL_isTold 646 = .ok (.istore 6, 2) := by decide +kernel
theorem dL_isTold_648 : decode cL_isTold 648 = .ok (.aload_n 1, 1) := by decide +kernel
theorem dL_isTold_649 : decode cL_isTold 649 = .ok (.bipush 12, 2) := by decide +kernel
theorem dL_isTold_651 : decode cL_isTold 651 = .ok (.iload 5, 2) := by decide +kernel
theorem dL_isTold_653 : decode cL_isTold 653 = .ok (.imul, 1) := by decide +kernel
theorem dL_isTold_654 : decode cL_isTold 654 = .ok (.bipush 9, 2) := by decide +kernel
theorem dL_isTold_656 : decode cL_isTold 656 = .ok (.iadd, 1) := by decide +kernel
theorem dL_isTold_657 : decode cL_isTold 657 = .ok (.iload_n 3, 1) := by decide +kernel
theorem dL_isTold_658 : decode cL_isTold 658 = .ok (.bipush 45, 2) := by decide +kernel
theorem dL_isTold_660 : decode cL_isTold 660 = .ok (.idiv, 1) := by decide +kernel
theorem dL_isTold_661 : decode cL_isTold 661 = .ok (.iconst 3, 1) := by decide +kernel
theorem dL_isTold_662 : decode cL_isTold 662 = .ok (.irem, 1) := by decide +kernel
theorem dL_isTold_663 : decode cL_isTold 663 = .ok (.ifCond .ne 7, 3) := by decide +kernel
theorem dL_isTold_666 : decode cL_isTold 666 = .ok (.iconst 0, 1) := by decide +kernel
theorem dL_isTold_667 : decode cL_isTold 667 = .ok (.goto 4, 3) := by decide +kernel
theorem dL_isTold_670 : decode cL_isTold 670 = .ok (.iconst 1, 1) := by decide +kernel
theorem dL_isTold_671 : decode cL_isTold 671 = .ok (.iastore, 1) := by decide +kernel
theorem dL_isTold_672 : decode cL_isTold 672 = .ok (.aload_n 0, 1) := by decide +kernel
theorem dL_isTold_673 : decode cL_isTold 673 = .ok (.iconst 1, 1) := by decide +kernel
theorem dL_isTold_674 : decode cL_isTold 674 = .ok (.iload_n 3, 1) := by decide +kernel
theorem dL_isTold_675 : decode cL_isTold 675 = .ok (.iconst 5, 1) := by decide +kernel
theorem dL_isTold_676 : decode cL_isTold 676 = .ok (.idiv, 1) := by decide +kernel
theorem dL_isTold_677 : decode cL_isTold 677 = .ok (.bipush 9, 2) := by decide +kernel
theorem dL_isTold_679 : decode cL_isTold 679 = .ok (.irem, 1) := by decide +kernel
theorem dL_isTold_680 : decode cL_isTold 680 = .ok (.iadd, 1) := by decide +kernel
theorem dL_isTold_681 : decode cL_isTold 681 = .ok (.invokevirtual 104, 3) := by decide +kernel
theorem dL_isTold_684 : decode cL_isTold 684 = .ok (.aload_n 2, 1) := by decide +kernel
theorem dL_isTold_685 : decode cL_isTold 685 = .ok (.bipush 24, 2) := by decide +kernel
theorem dL_isTold_687 : decode cL_isTold 687 = .ok (.iaload, 1) := by decide +kernel
theorem dL_isTold_688 : decode cL_isTold 688 = .ok (.if_icmp .ne 37, 3) := by decide +kernel
theorem dL_isTold_691 : decode cL_isTold 691 = .ok (.aload_n 0, 1) := by decide +kernel
theorem dL_isTold_692 : decode cL_isTold 692 = .ok (.iload 5, 2) := by decide +kernel
theorem dL_isTold_694 : decode cL_isTold 694 = .ok (.aload_n 1, 1) := by decide +kernel
theorem dL_isTold_695 : decode cL_isTold 695 = .ok (.bipush 12, 2) := by decide +kernel
theorem dL_isTold_697 : decode cL_isTold 697 = .ok (.iload 5, 2) := by decide +kernel
theorem dL_isTold_699 : decode cL_isTold 699 = .ok (.imul, 1) := by decide +kernel
theorem dL_isTold_700 : decode cL_isTold 700 = .ok (.bipush 9, 2) := by decide +kernel
theorem dL_isTold_702 : decode cL_isTold 702 = .ok (.iadd, 1) := by decide +kernel
theorem dL_isTold_703 : decode cL_isTold 703 = .ok (.iaload, 1) := by decide +kernel
theorem dL_isTold_704 : decode cL_isTold 704 = .ok (.iconst 1, 1) := by decide +kernel
theorem dL_isTold_705 : decode cL_isTold 705 = .ok (.if_icmp .ne 7, 3) := by decide +kernel
theorem dL_isTold_708 : decode cL_isTold 708 = .ok (.iconst 1, 1) := by decide +kernel
theorem dL_isTold_709 : decode cL_isTold 709 = .ok (.goto 4, 3) := by decide +kernel
theorem dL_isTold_712 : decode cL_isTold 712 = .ok (.iconst 0, 1) := by decide +kernel
theorem dL_isTold_713 : decode cL_isTold 713 = .ok (.invokevirtual 107, 3) := by decide +kernel
theorem dL_isTold_716 : decode cL_isTold 716 = .ok (.iload 6, 2) := by decide +kernel
theorem dL_isTold_718 : decode cL_isTold 718 = .ok (.if_icmp .ne 7, 3) := by decide +kernel
theorem dL_isTold_721 : decode cL_isTold 721 = .ok (.iconst 1, 1) := by decide +kernel
theorem dL_isTold_722 : decode cL_isTold 722 = .ok (.goto 4, 3) := by decide +kernel
theorem dL_isTold_725 : decode cL_isTold 725 = .ok (.iconst 0, 1) := by decide +kernel
theorem dL_isTold_726 : decode cL_isTold 726 = .ok (.ireturn, 1) := by decide +kernel
theorem dL_isTold_727 : decode cL_isTold 727 = .ok (.iload 5, 2) := by decide +kernel
theorem dL_isTold_729 : decode cL_isTold 729 = .ok (.iload_n 3, 1) := by decide +kernel
theorem dL_isTold_730 : decode cL_isTold 730 = .ok (.iconst 5, 1) := by decide +kernel
theorem dL_isTold_731 : decode cL_isTold 731 = .ok (.idiv, 1) := by decide +kernel
theorem dL_isTold_732 : decode cL_isTold 732 = .ok (.iconst 5, 1) := by decide +kernel
theorem dL_isTold_733 : decode cL_isTold 733 = .ok (.irem, 1) := by decide +kernel
theorem dL_isTold_734 : decode cL_isTold 734 = .ok (.iadd, 1) := by decide +kernel
theorem dL_isTold_735 : decode cL_isTold 735 = .ok (.iconst 5, 1) := by decide +kernel
theorem dL_isTold_736 : decode cL_isTold 736 = .ok (.irem, 1) := by decide +kernel
theorem dL_isTold_737 : decode cL_isTold 737 = .ok (.istore 6, 2) := by decide +kernel
theorem dL_isTold_739 : decode cL_isTold 739 = .ok (.aload_n 1, 1) := by decide +kernel
theorem dL_isTold_740 : decode cL_isTold 740 = .ok (.bipush 12, 2) := by decide +kernel
theorem dL_isTold_742 : decode cL_isTold 742 = .ok (.iload 5, 2) := by decide +kernel
theorem dL_isTold_744 : decode cL_isTold 744 = .ok (.imul, 1) := by decide +kernel
theorem dL_isTold_745 : decode cL_isTold 745 = .ok (.bipush 8, 2) := by decide +kernel
theorem dL_isTold_747 : decode cL_isTold 747 = .ok (.iadd, 1) := by decide +kernel
theorem dL_isTold_748 : decode cL_isTold 748 = .ok (.iaload, 1) := by decide +kernel
theorem dL_isTold_749 : decode cL_isTold 749 = .ok (.iconst 1, 1) := by decide +kernel
theorem dL_isTold_750 : decode cL_isTold 750 = .ok (.isub, 1) := by decide +kernel
theorem dL_isTold_751 : decode cL_isTold 751 = .ok (.istore 7, 2) := by decide +kernel
theorem dL_isTold_753 : decode cL_isTold 753 = .ok (.aload_n 1, 1) := by decide +kernel
theorem dL_isTold_754 : decode cL_isTold 754 = .ok (.bipush 12, 2) := by decide +kernel
theorem dL_isTold_756 : decode cL_isTold 756 = .ok (.iload 5, 2) := by decide +kernel
theorem dL_isTold_758 : decode cL_isTold 758 = .ok (.imul, 1) := by decide +kernel
theorem dL_isTold_759 : decode cL_isTold 759 = .ok (.bipush 8, 2) := by decide +kernel
theorem dL_isTold_761 : decode cL_isTold 761 = .ok (.iadd, 1) := by decide +kernel
theorem dL_isTold_762 : decode cL_isTold 762 = .ok (.iload 6, 2) := by decide +kernel
theorem dL_isTold_764 : decode cL_isTold 764 = .ok (.iload 5, 2) := by decide +kernel
theorem dL_isTold_766 : decode cL_isTold 766 = .ok (.if_icmp .ne 7, 3) := by decide +kernel
theorem dL_isTold_769 : decode cL_isTold 769 = .ok (.iconst 0, 1) := by decide +kernel
theorem dL_isTold_770 : decode cL_isTold 770 = .ok (.goto 7, 3) := by decide +kernel
theorem dL_isTold_773 : decode cL_isTold 773 = .ok (.iload 6, 2) := by decide +kernel
theorem dL_isTold_775 : decode cL_isTold 775 = .ok (.iconst 1, 1) := by decide +kernel
theorem dL_isTold_776 : decode cL_isTold 776 = .ok (.iadd, 1) := by decide +kernel
theorem dL_isTold_777 : decode cL_isTold 777 = .ok (.iastore, 1) := by decide +kernel
theorem dL_isTold_778 : decode cL_isTold 778 = .ok (.aload_n 0, 1) := by decide +kernel
theorem dL_isTold_779 : decode cL_isTold 779 = .ok (.iload 5, 2) := by decide +kernel
theorem dL_isTold_781 : decode cL_isTold 781 = .ok (.iload 6, 2) := by decide +kernel
theorem dL_isTold_783 : decode cL_isTold 783 = .ok (.iload 5, 2) := by decide +kernel
theorem dL_isTold_785 : decode cL_isTold 785 = .ok (.if_icmp .ne 7, 3) := by decide +kernel
theorem dL_isTold_788 : decode cL_isTold 788 = .ok (.iconst (-1), 1) := by decide +kernel
theorem dL_isTold_789 : decode cL_isTold 789 = .ok (.goto 5, 3) := by decide +kernel
theorem dL_isTold_792 : decode cL_isTold 792 = .ok (.iload 6, 2) := by decide +kernel
theorem dL_isTold_794 : decode cL_isTold 794 = .ok (.invokevirtual 110, 3) := by decide +kernel
theorem dL_isTold_797 : decode cL_isTold 797 = .ok (.iload 7, 2) := by decide +kernel
theorem dL_isTold_799 : decode cL_isTold 799 = .ok (.if_icmp .ne 7, 3) := by decide +kernel
theorem dL_isTold_802 : decode cL_isTold 802 = .ok (.iconst 1, 1) := by decide +kernel
theorem dL_isTold_803 : decode cL_isTold 803 = .ok (.goto 4, 3) := by decide +kernel
theorem dL_isTold_806 : decode cL_isTold 806 = .ok (.iconst 0, 1) := by decide +kernel
theorem dL_isTold_807 : decode cL_isTold 807 = .ok (.ireturn, 1) := by decide +kernel
