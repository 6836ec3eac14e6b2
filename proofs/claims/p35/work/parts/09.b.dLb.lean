theorem dL_isBought_0 : decode cL_isBought 0 = .ok (.iload 5, 2) := by decide +kernel
theorem dL_isBought_2 : decode cL_isBought 2 = .ok (.iconst 5, 1) := by decide +kernel
theorem dL_isBought_3 : decode cL_isBought 3 = .ok (.irem, 1) := by decide +kernel
theorem dL_isBought_4 : decode cL_isBought 4 = .ok (.istore 6, 2) := by decide +kernel
theorem dL_isBought_6 : decode cL_isBought 6 = .ok (.iload 5, 2) := by decide +kernel
theorem dL_isBought_8 : decode cL_isBought 8 = .ok (.iconst 5, 1) := by decide +kernel
theorem dL_isBought_9 : decode cL_isBought 9 = .ok (.idiv, 1) := by decide +kernel
theorem dL_isBought_10 : decode cL_isBought 10 = .ok (.iconst 4, 1) := by decide +kernel
theorem dL_isBought_11 : decode cL_isBought 11 = .ok (.irem, 1) := by decide +kernel
theorem dL_isBought_12 : decode cL_isBought 12 = .ok (.istore 7, 2) := by decide +kernel
theorem dL_isBought_14 : decode cL_isBought 14 = .ok (.iconst 1, 1) := by decide +kernel
theorem dL_isBought_15 : decode cL_isBought 15 = .ok (.iload 5, 2) := by decide +kernel
theorem dL_isBought_17 : decode cL_isBought 17 = .ok (.bipush 20, 2) := by decide +kernel
theorem dL_isBought_19 : decode cL_isBought 19 = .ok (.idiv, 1) := by decide +kernel
theorem dL_isBought_20 : decode cL_isBought 20 = .ok (.iload 5, 2) := by decide +kernel
theorem dL_isBought_22 : decode cL_isBought 22 = .ok (.bipush 7, 2) := by decide +kernel
theorem dL_isBought_24 : decode cL_isBought 24 = .ok (.idiv, 1) := by decide +kernel
theorem dL_isBought_25 : decode cL_isBought 25 = .ok (.iconst 3, 1) := by decide +kernel
theorem dL_isBought_26 : decode cL_isBought 26 = .ok (.irem, 1) := by decide +kernel
theorem dL_isBought_27 : decode cL_isBought 27 = .ok (.ifCond .ne 8, 3) := by decide +kernel
theorem dL_isBought_30 : decode cL_isBought 30 = .ok (.bipush 50, 2) := by decide +kernel
theorem dL_isBought_32 : decode cL_isBought 32 = .ok (.goto 4, 3) := by decide +kernel
theorem dL_isBought_35 : decode cL_isBought 35 = .ok (.iconst 5, 1) := by decide +kernel
theorem dL_isBought_36 : decode cL_isBought 36 = .ok (.irem, 1) := by decide +kernel
theorem dL_isBought_37 : decode cL_isBought 37 = .ok (.iadd, 1) := by decide +kernel
theorem dL_isBought_38 : decode cL_isBought 38 = .ok (.istore 8, 2) := by decide +kernel
theorem dL_isBought_40 : decode cL_isBought 40 = .ok (.bipush 12, 2) := by decide +kernel
theorem dL_isBought_42 : decode cL_isBought 42 = .ok (.iload 6, 2) := by decide +kernel
theorem dL_isBought_44 : decode cL_isBought 44 = .ok (.imul, 1) := by decide +kernel
theorem dL_isBought_45 : decode cL_isBought 45 = .ok (.istore 9, 2) := by decide +kernel
theorem dL_isBought_47 : decode cL_isBought 47 = .ok (.iload 5, 2) := by decide +kernel
theorem dL_isBought_49 : decode cL_isBought 49 = .ok (.sipush 1000, 3) := by decide +kernel
theorem dL_isBought_52 : decode cL_isBought 52 = .ok (.idiv, 1) := by decide +kernel
theorem dL_isBought_53 : decode cL_isBought 53 = .ok (.iconst 4, 1) := by decide +kernel
theorem dL_isBought_54 : decode cL_isBought 54 = .ok (.irem, 1) := by decide +kernel
theorem dL_isBought_55 : decode cL_isBought 55 = .ok (.ifCond .ne 86, 3) := by decide +kernel
theorem dL_isBought_58 : decode cL_isBought 58 = .ok (.iload 8, 2) := by decide +kernel
theorem dL_isBought_60 : decode cL_isBought 60 = .ok (.aload 4, 2) := by decide +kernel
theorem dL_isBought_62 : decode cL_isBought 62 = .ok (.bipush 9, 2) := by decide +kernel
theorem dL_isBought_64 : decode cL_isBought 64 = .ok (.iload 7, 2) := by decide +kernel
theorem dL_isBought_66 : decode cL_isBought 66 = .ok (.iadd, 1) := by decide +kernel
theorem dL_isBought_67 : decode cL_isBought 67 = .ok (.iaload, 1) := by decide +kernel
theorem dL_isBought_68 : decode cL_isBought 68 = .ok (.imul, 1) := by decide +kernel
theorem dL_isBought_69 : decode cL_isBought 69 = .ok (.istore 10, 2) := by decide +kernel
theorem dL_isBought_71 : decode cL_isBought 71 = .ok (.aload_n 1, 1) := by decide +kernel
theorem dL_isBought_72 : decode cL_isBought 72 = .ok (.iload 9, 2) := by decide +kernel
theorem dL_isBought_74 : decode cL_isBought 74 = .ok (.iaload, 1) := by decide +kernel
theorem dL_isBought_75 : decode cL_isBought 75 = .ok (.ifCond .eq 14, 3) := by decide +kernel
theorem dL_isBought_78 : decode cL_isBought 78 = .ok (.aload_n 1, 1) := by decide +kernel
theorem dL_isBought_79 : decode cL_isBought 79 = .ok (.iload 9, 2) := by decide +kernel
theorem dL_isBought_81 : decode cL_isBought 81 = .ok (.iconst 2, 1) := by decide +kernel
theorem dL_isBought_82 : decode cL_isBought 82 = .ok (.iadd, 1) := by decide +kernel
theorem dL_isBought_83 : decode cL_isBought 83 = .ok (.iaload, 1) := by decide +kernel
theorem dL_isBought_84 : decode cL_isBought 84 = .ok (.iload 10, 2) := by decide +kernel
theorem dL_isBought_86 : decode cL_isBought 86 = .ok (.if_icmp .ge 5, 3) := by decide +kernel
theorem dL_isBought_89 : decode cL_isBought 89 = .ok (.iconst 1, 1) := by decide +kernel
theorem dL_isBought_90 : decode cL_isBought 90 = .ok (.ireturn, 1) := by decide +kernel
theorem dL_isBought_91 : decode cL_isBought 91 = .ok (.aload_n 1, 1) := by decide +kernel
theorem dL_isBought_92 : decode cL_isBought 92 = .ok (.iload 9, 2) := by decide +kernel
theorem dL_isBought_94 : decode cL_isBought 94 = .ok (.iconst 2, 1) := by decide +kernel
theorem dL_isBought_95 : decode cL_isBought 95 = .ok (.iadd, 1) := by decide +kernel
theorem dL_isBought_96 : decode cL_isBought 96 = .ok (.dup2, 1) := by decide +kernel
theorem dL_isBought_97 : decode cL_isBought 97 = .ok (.iaload, 1) := by decide +kernel
theorem dL_isBought_98 : decode cL_isBought 98 = .ok (.iload 10, 2) := by decide +kernel
theorem dL_isBought_100 : decode cL_isBought 100 = .ok (.isub, 1) := by decide +kernel
theorem dL_isBought_101 : decode cL_isBought 101 = .ok (.iastore, 1) := by decide +kernel
theorem dL_isBought_102 : decode cL_isBought 102 = .ok (.aload_n 3, 1) := by decide +kernel
theorem dL_isBought_103 : decode cL_isBought 103 = .ok (.iconst 4, 1) := by decide +kernel
theorem dL_isBought_104 : decode cL_isBought 104 = .ok (.iload 6, 2) := by decide +kernel
theorem dL_isBought_106 : decode cL_isBought 106 = .ok (.imul, 1) := by decide +kernel
theorem dL_isBought_107 : decode cL_isBought 107 = .ok (.iload 7, 2) := by decide +kernel
theorem dL_isBought_109 : decode cL_isBought 109 = .ok (.iadd, 1) := by decide +kernel
theorem dL_isBought_110 : decode cL_isBought 110 = .ok (.dup2, 1) := by decide +kernel
theorem dL_isBought_111 : decode cL_isBought 111 = .ok (.iaload, 1) := by decide +kernel
theorem dL_isBought_112 : decode cL_isBought 112 = .ok (.iload 8, 2) := by decide +kernel
theorem dL_isBought_114 : decode cL_isBought 114 = .ok (.iadd, 1) := by decide +kernel
theorem dL_isBought_115 : decode cL_isBought 115 = .ok (.iastore, 1) := by decide +kernel
theorem dL_isBought_116 : decode cL_isBought 116 = .ok (.aload_n 0, 1) := by decide +kernel
theorem dL_isBought_117 : decode cL_isBought 117 = .ok (.iload 6, 2) := by decide +kernel
theorem dL_isBought_119 : decode cL_isBought 119 = .ok (.iload 7, 2) := by decide +kernel
theorem dL_isBought_121 : decode cL_isBought 121 = .ok (.iload 8, 2) := by decide +kernel
theorem dL_isBought_123 : decode cL_isBought 123 = .ok (.invokevirtual 29, 3) := by decide +kernel
theorem dL_isBought_126 : decode cL_isBought 126 = .ok (.aload_n 1, 1) := by decide +kernel
theorem dL_isBought_127 : decode cL_isBought 127 = .ok (.iload 9, 2) := by decide +kernel
theorem dL_isBought_129 : decode cL_isBought 129 = .ok (.iconst 2, 1) := by decide +kernel
theorem dL_isBought_130 : decode cL_isBought 130 = .ok (.iadd, 1) := by decide +kernel
theorem dL_isBought_131 : decode cL_isBought 131 = .ok (.iaload, 1) := by decide +kernel
theorem dL_isBought_132 : decode cL_isBought 132 = .ok (.if_icmp .ne 7, 3) := by decide +kernel
theorem dL_isBought_135 : decode cL_isBought 135 = .ok (.iconst 1, 1) := by decide +kernel
theorem dL_isBought_136 : decode cL_isBought 136 = .ok (.goto 4, 3) := by decide +kernel
theorem dL_isBought_139 : decode cL_isBought 139 = .ok (.iconst 0, 1) := by decide +kernel
theorem dL_isBought_140 : decode cL_isBought 140 = .ok (.ireturn, 1) := by decide +kernel
theorem dL_isBought_141 : decode cL_isBought 141 = .ok (.iload 8, 2) := by decide +kernel
theorem dL_isBought_143 : decode cL_isBought 143 = .ok (.aload_n 1, 1) := by decide +kernel
theorem dL_isBought_144 : decode cL_isBought 144 = .ok (.aload 4, 2) := by decide +kernel
theorem dL_isBought_146 : decode cL_isBought 146 = .ok (.iload 6, 2) := by decide +kernel
theorem dL_isBought_148 : decode cL_isBought 148 = .ok (.iload 7, 2) := by decide +kernel
theorem dL_isBought_150 : decode cL_isBought 150 = .ok (.invokestatic 33, 3) := by decide +kernel
theorem dL_isBought_153 : decode cL_isBought 153 = .ok (.imul, 1) := by decide +kernel
theorem dL_isBought_154 : decode cL_isBought 154 = .ok (.istore 10, 2) := by decide +kernel
theorem dL_isBought_156 : decode cL_isBought 156 = .ok (.aload_n 1, 1) := by decide +kernel
theorem dL_isBought_157 : decode cL_isBought 157 = .ok (.aload_n 2, 1) := by decide +kernel
theorem dL_isBought_158 : decode cL_isBought 158 = .ok (.aload 4, 2) := by decide +kernel
theorem dL_isBought_160 : decode cL_isBought 160 = .ok (.iload 6, 2) := by decide +kernel
theorem dL_isBought_162 : decode cL_isBought 162 = .ok (.iload 10, 2) := by decide +kernel
theorem dL_isBought_164 : decode cL_isBought 164 = .ok (.invokestatic 37, 3) := by decide +kernel
theorem dL_isBought_167 : decode cL_isBought 167 = .ok (.istore 11, 2) := by decide +kernel
theorem dL_isBought_169 : decode cL_isBought 169 = .ok (.iload 11, 2) := by decide +kernel
theorem dL_isBought_171 : decode cL_isBought 171 = .ok (.ifCond .le 24, 3) := by decide +kernel
theorem dL_isBought_174 : decode cL_isBought 174 = .ok (.aload_n 0, 1) := by decide +kernel
theorem dL_isBought_175 : decode cL_isBought 175 = .ok (.iload 6, 2) := by decide +kernel
theorem dL_isBought_177 : decode cL_isBought 177 = .ok (.iload 7, 2) := by decide +kernel
theorem dL_isBought_179 : decode cL_isBought 179 = .ok (.iload 8, 2) := by decide +kernel
theorem dL_isBought_181 : decode cL_isBought 181 = .ok (.invokevirtual 41, 3) := by decide +kernel
theorem dL_isBought_184 : decode cL_isBought 184 = .ok (.iload 11, 2) := by decide +kernel
theorem dL_isBought_186 : decode cL_isBought 186 = .ok (.if_icmp .ne 7, 3) := by decide +kernel
theorem dL_isBought_189 : decode cL_isBought 189 = .ok (.iconst 1, 1) := by decide +kernel
theorem dL_isBought_190 : decode cL_isBought 190 = .ok (.goto 4, 3) := by decide +kernel
theorem dL_isBought_193 : decode cL_isBought 193 = .ok (.iconst 0, 1) := by decide +kernel
theorem dL_isBought_194 : decode cL_isBought 194 = .ok (.ireturn, 1) := by decide +kernel
theorem dL_isBought_195 : decode cL_isBought 195 = .ok (.aload_n 0, 1) := by decide +kernel
theorem dL_isBought_196 : decode cL_isBought 196 = .ok (.iload 6, 2) := by decide +kernel
theorem dL_isBought_198 : decode cL_isBought 198 = .ok (.iload 7, 2) := by decide +kernel
theorem dL_isBought_200 : decode cL_isBought 200 = .ok (.iload 8, 2) := by decide +kernel
theorem dL_isBought_202 : decode cL_isBought 202 = .ok (.invokevirtual 41, 3) := by decide +kernel
theorem dL_isBought_205 : decode cL_isBought 205 = .ok (.ifCond .ne 7, 3) := by decide +kernel
theorem dL_isBought_208 : decode cL_isBought 208 = .ok (.iconst 1, 1) := by decide +kernel
theorem dL_isBought_209 : decode cL_isBought 209 = .ok (.goto 4, 3) := by decide +kernel
theorem dL_isBought_212 : decode cL_isBought 212 = .ok (.iconst 0, 1) := by decide +kernel
theorem dL_isBought_213 : decode cL_isBought 213 = .ok (.istore 12, 2) := by decide +kernel
theorem dL_isBought_215 : decode cL_isBought 215 = .ok (.aload_n 1, 1) := by decide +kernel
theorem dL_isBought_216 : decode cL_isBought 216 = .ok (.aload_n 2, 1) := by decide +kernel
theorem dL_isBought_217 : decode cL_isBought 217 = .ok (.iload 6, 2) := by decide +kernel
theorem dL_isBought_219 : decode cL_isBought 219 = .ok (.iload 10, 2) := by decide +kernel
theorem dL_isBought_221 : decode cL_isBought 221 = .ok (.invokestatic 44, 3) := by decide +kernel
theorem dL_isBought_224 : decode cL_isBought 224 = .ok (.istore 13, 2) := by decide +kernel
theorem dL_isBought_226 : decode cL_isBought 226 = .ok (.aload 4, 2) := by decide +kernel
theorem dL_isBought_228 : decode cL_isBought 228 = .ok (.bipush 26, 2) := by decide +kernel
theorem dL_isBought_230 : decode cL_isBought 230 = .ok (.dup2, 1) := by decide +kernel
theorem dL_isBought_231 : decode cL_isBought 231 = .ok (.iaload, 1) := by decide +kernel
theorem dL_isBought_232 : decode cL_isBought 232 = .ok (.iload 10, 2) := by decide +kernel
theorem dL_isBought_234 : decode cL_isBought 234 = .ok (.iload 13, 2) := by decide +kernel
theorem dL_isBought_236 : decode cL_isBought 236 = .ok (.isub, 1) := by decide +kernel
theorem dL_isBought_237 : decode cL_isBought 237 = .ok (.iadd, 1) := by decide +kernel
theorem dL_isBought_238 : decode cL_isBought 238 = .ok (.iastore, 1) := by decide +kernel
theorem dL_isBought_239 : decode cL_isBought 239 = .ok (.aload_n 1, 1) := by decide +kernel
theorem dL_isBought_240 : decode cL_isBought 240 = .ok (.iload 9, 2) := by decide +kernel
theorem dL_isBought_242 : decode cL_isBought 242 = .ok (.iconst 2, 1) := by decide +kernel
theorem dL_isBought_243 : decode cL_isBought 243 = .ok (.iadd, 1) := by decide +kernel
theorem dL_isBought_244 : decode cL_isBought 244 = .ok (.iaload, 1) := by decide +kernel
theorem dL_isBought_245 : decode cL_isBought 245 = .ok (.iload 13, 2) := by decide +kernel
theorem dL_isBought_247 : decode cL_isBought 247 = .ok (.if_icmp .le 8, 3) := by decide +kernel
theorem dL_isBought_250 : decode cL_isBought 250 = .ok (.iload 13, 2) := by decide +kernel
theorem dL_isBought_252 : decode cL_isBought 252 = .ok (.goto 9, 3) := by decide +kernel
theorem dL_isBought_255 : decode cL_isBought 255 = .ok (.aload_n 1, 1) := by decide +kernel
theorem dL_isBought_256 : decode cL_isBought 256 = .ok (.iload 9, 2) := by decide +kernel
theorem dL_isBought_258 : decode cL_isBought 258 = .ok (.iconst 2, 1) := by decide +kernel
theorem dL_isBought_259 : decode cL_isBought 259 = .ok (.iadd, 1) := by decide +kernel
theorem dL_isBought_260 : decode cL_isBought 260 = .ok (.iaload, 1) := by decide +kernel
theorem dL_isBought_261 : decode cL_isBought 261 = .ok (.istore 14, 2) := by decide +kernel
theorem dL_isBought_263 : decode cL_isBought 263 = .ok (.aload_n 1, 1) := by decide +kernel
theorem dL_isBought_264 : decode cL_isBought 264 = .ok (.iload 9, 2) := by decide +kernel
theorem dL_isBought_266 : decode cL_isBought 266 = .ok (.iconst 2, 1) := by decide +kernel
theorem dL_isBought_267 : decode cL_isBought 267 = .ok (.iadd, 1) := by decide +kernel
theorem dL_isBought_268 : decode cL_isBought 268 = .ok (.dup2, 1) := by decide +kernel
theorem dL_isBought_269 : decode cL_isBought 269 = .ok (.iaload, 1) := by decide +kernel
theorem dL_isBought_270 : decode cL_isBought 270 = .ok (.iload 14, 2) := by decide +kernel
theorem dL_isBought_272 : decode cL_isBought 272 = .ok (.isub, 1) := by decide +kernel
theorem dL_isBought_273 : decode cL_isBought 273 = .ok (.iastore, 1) := by decide +kernel
theorem dL_isBought_274 : decode cL_isBought 274 = .ok (.aload_n 1, 1) := by decide +kernel
theorem dL_isBought_275 : decode cL_isBought 275 = .ok (.iload 9, 2) := by decide +kernel
theorem dL_isBought_277 : decode cL_isBought 277 = .ok (.iconst 3, 1) := by decide +kernel
theorem dL_isBought_278 : decode cL_isBought 278 = .ok (.iadd, 1) := by decide +kernel
theorem dL_isBought_279 : decode cL_isBought 279 = .ok (.dup2, 1) := by decide +kernel
theorem dL_isBought_280 : decode cL_isBought 280 = .ok (.iaload, 1) := by decide +kernel
theorem dL_isBought_281 : decode cL_isBought 281 = .ok (.iload 13, 2) := by decide +kernel
theorem dL_isBought_283 : decode cL_isBought 283 = .ok (.iload 14, 2) := by decide +kernel
theorem dL_isBought_285 : decode cL_isBought 285 = .ok (.isub, 1) := by decide +kernel
theorem dL_isBought_286 : decode cL_isBought 286 = .ok (.iadd, 1) := by decide +kernel
theorem dL_isBought_287 : decode cL_isBought 287 = .ok (.iastore, 1) := by decide +kernel
theorem dL_isBought_288 : decode cL_isBought 288 = .ok (.aload_n 3, 1) := by decide +kernel
theorem dL_isBought_289 : decode cL_isBought 289 = .ok (.iconst 4, 1) := by decide +kernel
theorem dL_isBought_290 : decode cL_isBought 290 = .ok (.iload 6, 2) := by decide +kernel
theorem dL_isBought_292 : decode cL_isBought 292 = .ok (.imul, 1) := by decide +kernel
theorem dL_isBought_293 : decode cL_isBought 293 = .ok (.iload 7, 2) := by decide +kernel
theorem dL_isBought_295 : decode cL_isBought 295 = .ok (.iadd, 1) := by decide +kernel
theorem dL_isBought_296 : decode cL_isBought 296 = .ok (.dup2, 1) := by decide +kernel
theorem dL_isBought_297 : decode cL_isBought 297 = .ok (.iaload, 1) := by decide +kernel
theorem dL_isBought_298 : decode cL_isBought 298 = .ok (.iload 8, 2) := by decide +kernel
theorem dL_isBought_300 : decode cL_isBought 300 = .ok (.iadd, 1) := by decide +kernel
theorem dL_isBought_301 : decode cL_isBought 301 = .ok (.iastore, 1) := by decide +kernel
theorem dL_isBought_302 : decode cL_isBought 302 = .ok (.iload 12, 2) := by decide +kernel
theorem dL_isBought_304 : decode cL_isBought 304 = .ok (.ifCond .eq 26, 3) := by decide +kernel
theorem dL_isBought_307 : decode cL_isBought 307 = .ok (.aload_n 0, 1) := by decide +kernel
theorem dL_isBought_308 : decode cL_isBought 308 = .ok (.iload 6, 2) := by decide +kernel
theorem dL_isBought_310 : decode cL_isBought 310 = .ok (.iload 7, 2) := by decide +kernel
theorem dL_isBought_312 : decode cL_isBought 312 = .ok (.iload 8, 2) := by decide +kernel
theorem dL_isBought_314 : decode cL_isBought 314 = .ok (.invokevirtual 47, 3) := by decide +kernel
theorem dL_isBought_317 : decode cL_isBought 317 = .ok (.aload_n 1, 1) := by decide +kernel
theorem dL_isBought_318 : decode cL_isBought 318 = .ok (.iload 9, 2) := by decide +kernel
theorem dL_isBought_320 : decode cL_isBought 320 = .ok (.iconst 3, 1) := by decide +kernel
theorem dL_isBought_321 : decode cL_isBought 321 = .ok (.iadd, 1) := by decide +kernel
theorem dL_isBought_322 : decode cL_isBought 322 = .ok (.iaload, 1) := by decide +kernel
theorem dL_isBought_323 : decode cL_isBought 323 = .ok (.if_icmp .ne 7, 3) := by decide +kernel
theorem dL_isBought_326 : decode cL_isBought 326 = .ok (.iconst 1, 1) := by decide +kernel
theorem dL_isBought_327 : decode cL_isBought 327 = .ok (.goto 4, 3) := by decide +kernel
theorem dL_isBought_330 : decode cL_isBought 330 = .ok (.iconst 0, 1) := by decide +kernel
theorem dL_isBought_331 : decode cL_isBought 331 = .ok (.ireturn, 1) := by decide +kernel
theorem dL_isChanged_0 : decode cL_isChanged 0 = .ok (.iload 4, 2) := by decide +kernel
theorem dL_isChanged_2 : decode cL_isChanged 2 = .ok (.iconst 5, 1) := by decide +kernel
theorem dL_isChanged_3 : decode cL_isChanged 3 = .ok (.irem, 1) := by decide +kernel
theorem dL_isChanged_4 : decode cL_isChanged 4 = .ok (.istore 5, 2) := by decide +kernel
theorem dL_isChanged_6 : decode cL_isChanged 6 = .ok (.aload_n 2, 1) := by decide +kernel
theorem dL_isChanged_7 : decode cL_isChanged 7 = .ok (.iload 5, 2) := by decide +kernel
theorem dL_isChanged_9 : decode cL_isChanged 9 = .ok (.invokestatic 25, 3) := by decide +kernel
theorem dL_isChanged_12 : decode cL_isChanged 12 = .ok (.istore 6, 2) := by decide +kernel
theorem dL_isChanged_14 : decode cL_isChanged 14 = .ok (.aload_n 1, 1) := by decide +kernel
theorem dL_isChanged_15 : decode cL_isChanged 15 = .ok (.bipush 12, 2) := by decide +kernel
theorem dL_isChanged_17 : decode cL_isChanged 17 = .ok (.iload 5, 2) := by decide +kernel
theorem dL_isChanged_19 : decode cL_isChanged 19 = .ok (.imul, 1) := by decide +kernel
theorem dL_isChanged_20 : decode cL_isChanged 20 = .ok (.iaload, 1) := by decide +kernel
theorem dL_isChanged_21 : decode cL_isChanged 21 = .ok (.ifCond .eq 8, 3) := by decide +kernel
theorem dL_isChanged_24 : decode cL_isChanged 24 = .ok (.iload 6, 2) := by decide +kernel
theorem dL_isChanged_26 : decode cL_isChanged 26 = .ok (.ifCond .ne 5, 3) := by decide +kernel
theorem dL_isChanged_29 : decode cL_isChanged 29 = .ok (.iconst 1, 1) := by decide +kernel
theorem dL_isChanged_30 : decode cL_isChanged 30 = .ok (.ireturn, 1) := by decide +kernel
theorem dL_isChanged_31 : decode cL_isChanged 31 = .ok (.iconst 1, 1) := by decide +kernel
theorem dL_isChanged_32 : decode cL_isChanged 32 = .ok (.iload 4, 2) := by decide +kernel
theorem dL_isChanged_34 : decode cL_isChanged 34 = .ok (.iconst 5, 1) := by decide +kernel
theorem dL_isChanged_35 : decode cL_isChanged 35 = .ok (.idiv, 1) := by decide +kernel
theorem dL_isChanged_36 : decode cL_isChanged 36 = .ok (.iload 6, 2) := by decide +kernel
theorem dL_isChanged_38 : decode cL_isChanged 38 = .ok (.ldc 50, 2) := by decide +kernel
theorem dL_isChanged_40 : decode cL_isChanged 40 = .ok (.if_icmp .le 8, 3) := by decide +kernel
theorem dL_isChanged_43 : decode cL_isChanged 43 = .ok (.ldc 50, 2) := by decide +kernel
theorem dL_isChanged_45 : decode cL_isChanged 45 = .ok (.goto 5, 3) := by decide +kernel
theorem dL_isChanged_48 : decode cL_isChanged 48 = .ok (.iload 6, 2) := by decide +kernel
theorem dL_isChanged_50 : decode cL_isChanged 50 = .ok (.irem, 1) := by decide +kernel
theorem dL_isChanged_51 : decode cL_isChanged 51 = .ok (.iadd, 1) := by decide +kernel
theorem dL_isChanged_52 : decode cL_isChanged 52 = .ok (.istore 7, 2) := by decide +kernel
theorem dL_isChanged_54 : decode cL_isChanged 54 = .ok (.iload 7, 2) := by decide +kernel
theorem dL_isChanged_56 : decode cL_isChanged 56 = .ok (.bipush 100, 2) := by decide +kernel
theorem dL_isChanged_58 : decode cL_isChanged 58 = .ok (.aload_n 3, 1) := by decide +kernel
theorem dL_isChanged_59 : decode cL_isChanged 59 = .ok (.bipush 18, 2) := by decide +kernel
theorem dL_isChanged_61 : decode cL_isChanged 61 = .ok (.iaload, 1) := by decide +kernel
theorem dL_isChanged_62 : decode cL_isChanged 62 = .ok (.isub, 1) := by decide +kernel
theorem dL_isChanged_63 : decode cL_isChanged 63 = .ok (.imul, 1) := by decide +kernel
theorem dL_isChanged_64 : decode cL_isChanged 64 = .ok (.bipush 100, 2) := by decide +kernel
theorem dL_isChanged_66 : decode cL_isChanged 66 = .ok (.idiv, 1) := by decide +kernel
theorem dL_isChanged_67 : decode cL_isChanged 67 = .ok (.istore 8, 2) := by decide +kernel
theorem dL_isChanged_69 : decode cL_isChanged 69 = .ok (.aload_n 1, 1) := by decide +kernel
theorem dL_isChanged_70 : decode cL_isChanged 70 = .ok (.aload_n 2, 1) := by decide +kernel
theorem dL_isChanged_71 : decode cL_isChanged 71 = .ok (.iload 5, 2) := by decide +kernel
theorem dL_isChanged_73 : decode cL_isChanged 73 = .ok (.iload 7, 2) := by decide +kernel
theorem dL_isChanged_75 : decode cL_isChanged 75 = .ok (.invokestatic 44, 3) := by decide +kernel
theorem dL_isChanged_78 : decode cL_isChanged 78 = .ok (.istore 9, 2) := by decide +kernel
theorem dL_isChanged_80 : decode cL_isChanged 80 = .ok (.aload_n 3, 1) := by decide +kernel
theorem dL_isChanged_81 : decode cL_isChanged 81 = .ok (.bipush 27, 2) := by decide +kernel
theorem dL_isChanged_83 : decode cL_isChanged 83 = .ok (.dup2, 1) := by decide +kernel
theorem dL_isChanged_84 : decode cL_isChanged 84 = .ok (.iaload, 1) := by decide +kernel
theorem dL_isChanged_85 : decode cL_isChanged 85 = .ok (.iload 7, 2) := by decide +kernel
theorem dL_isChanged_87 : decode cL_isChanged 87 = .ok (.iload 9, 2) := by decide +kernel
theorem dL_isChanged_89 : decode cL_isChanged 89 = .ok (.isub, 1) := by decide +kernel
theorem dL_isChanged_90 : decode cL_isChanged 90 = .ok (.iadd, 1) := by decide +kernel
theorem dL_isChanged_91 : decode cL_isChanged 91 = .ok (.iastore, 1) := by decide +kernel
theorem dL_isChanged_92 : decode cL_isChanged 92 = .ok (.aload_n 1, 1) := by decide +kernel
theorem dL_isChanged_93 : decode cL_isChanged 93 = .ok (.bipush 12, 2) := by decide +kernel
theorem dL_isChanged_95 : decode cL_isChanged 95 = .ok (.iload 5, 2) := by decide +kernel
theorem dL_isChanged_97 : decode cL_isChanged 97 = .ok (.imul, 1) := by decide +kernel
theorem dL_isChanged_98 : decode cL_isChanged 98 = .ok (.iconst 2, 1) := by decide +kernel
theorem dL_isChanged_99 : decode cL_isChanged 99 = .ok (.iadd, 1) := by decide +kernel
theorem dL_isChanged_100 : decode cL_isChanged 100 = .ok (.dup2, 1) := by decide +kernel
theorem dL_isChanged_101 : decode cL_isChanged 101 = .ok (.iaload, 1) := by decide +kernel
theorem dL_isChanged_102 : decode cL_isChanged 102 = .ok (.iload 8, 2) := by decide +kernel
theorem dL_isChanged_104 : decode cL_isChanged 104 = .ok (.iadd, 1) := by decide +kernel
theorem dL_isChanged_105 : decode cL_isChanged 105 = .ok (.iastore, 1) := by decide +kernel
theorem dL_isChanged_106 : decode cL_isChanged 106 = .ok (.iload 9, 2) := by decide +kernel
theorem dL_isChanged_108 : decode cL_isChanged 108 = .ok (.ifCond .ne 20, 3) := by decide +kernel
theorem dL_isChanged_111 : decode cL_isChanged 111 = .ok (.aload_n 0, 1) := by decide +kernel
theorem dL_isChanged_112 : decode cL_isChanged 112 = .ok (.iload 5, 2) := by decide +kernel
theorem dL_isChanged_114 : decode cL_isChanged 114 = .ok (.iload 7, 2) := by decide +kernel
theorem dL_isChanged_116 : decode cL_isChanged 116 = .ok (.invokevirtual 51, 3) := by decide +kernel
theorem dL_isChanged_119 : decode cL_isChanged 119 = .ok (.iload 8, 2) := by decide +kernel
theorem dL_isChanged_121 : decode cL_isChanged 121 = .ok (.if_icmp .ne 7, 3) := by decide +kernel
theorem dL_isChanged_124 : decode cL_isChanged 124 = .ok (.iconst 1, 1) := by decide +kernel
theorem dL_isChanged_125 : decode cL_isChanged 125 = .ok (.goto 4, 3) := by decide +kernel
theorem dL_isChanged_128 : decode cL_isChanged 128 = .ok (.iconst 0, 1) := by decide +kernel
theorem dL_isChanged_129 : decode cL_isChanged 129 = .ok (.ireturn, 1) := by decide +kernel
theorem dL_heir_0 : decode cL_heir 0 = .ok (.iload_n 1, 1) := by decide +kernel
theorem dL_heir_1 : decode cL_heir 1 = .ok (.istore_n 2, 1) := by decide +kernel
theorem dL_heir_2 : decode cL_heir 2 = .ok (.iconst 0, 1) := by decide +kernel
theorem dL_heir_3 : decode cL_heir 3 = .ok (.istore_n 3, 1) := by decide +kernel
theorem dL_heir_4 : decode cL_heir 4 = .ok (.iload_n 3, 1) := by decide +kernel
theorem dL_heir_5 : decode cL_heir 5 = .ok (.iconst 5, 1) := by decide +kernel
theorem dL_heir_6 : decode cL_heir 6 = .ok (.if_icmp .ge 45, 3) := by decide +kernel
theorem dL_heir_9 : decode cL_heir 9 = .ok (.iload_n 2, 1) := by decide +kernel
theorem dL_heir_10 : decode cL_heir 10 = .ok (.ifCond .ge 7, 3) := by decide +kernel
theorem dL_heir_13 : decode cL_heir 13 = .ok (.iconst (-1), 1) := by decide +kernel
theorem dL_heir_14 : decode cL_heir 14 = .ok (.goto 14, 3) := by decide +kernel
theorem dL_heir_17 : decode cL_heir 17 = .ok (.aload_n 0, 1) := by decide +kernel
theorem dL_heir_18 : decode cL_heir 18 = .ok (.bipush 12, 2) := by decide +kernel
theorem dL_heir_20 : decode cL_heir 20 = .ok (.iload_n 2, 1) := by decide +kernel
theorem dL_heir_21 : decode cL_heir 21 = .ok (.imul, 1) := by decide +kernel
theorem dL_heir_22 : decode cL_heir 22 = .ok (.bipush 8, 2) := by decide +kernel
theorem dL_heir_24 : decode cL_heir 24 = .ok (.iadd, 1) := by decide +kernel
theorem dL_heir_25 : decode cL_heir 25 = .ok (.iaload, 1) := by decide +kernel
theorem dL_heir_26 : decode cL_heir 26 = .ok (.iconst 1, 1) := by decide +kernel
theorem dL_heir_27 : decode cL_heir 27 = .ok (.isub, 1) := by decide +kernel
theorem dL_heir_28 : decode cL_heir 28 = .ok (.istore_n 2, 1) := by decide +kernel
theorem dL_heir_29 : decode cL_heir 29 = .ok (.iload_n 2, 1) := by decide +kernel
theorem dL_heir_30 : decode cL_heir 30 = .ok (.ifCond .lt 15, 3) := by decide +kernel
theorem dL_heir_33 : decode cL_heir 33 = .ok (.aload_n 0, 1) := by decide +kernel
theorem dL_heir_34 : decode cL_heir 34 = .ok (.bipush 12, 2) := by decide +kernel
theorem dL_heir_36 : decode cL_heir 36 = .ok (.iload_n 2, 1) := by decide +kernel
theorem dL_heir_37 : decode cL_heir 37 = .ok (.imul, 1) := by decide +kernel
theorem dL_heir_38 : decode cL_heir 38 = .ok (.iaload, 1) := by decide +kernel
theorem dL_heir_39 : decode cL_heir 39 = .ok (.iconst 1, 1) := by decide +kernel
theorem dL_heir_40 : decode cL_heir 40 = .ok (.if_icmp .ne 5, 3) := by decide +kernel
theorem dL_heir_43 : decode cL_heir 43 = .ok (.iload_n 2, 1) := by decide +kernel
theorem dL_heir_44 : decode cL_heir 44 = .ok (.ireturn, 1) := by decide +kernel
theorem dL_heir_45 : decode cL_heir 45 = .ok (.iinc 3 1, 3) := by decide +kernel
theorem dL_heir_48 : decode cL_heir 48 = .ok (.goto (-44), 3) := by decide +kernel
theorem dL_heir_51 : decode cL_heir 51 = .ok (.iconst (-1), 1) := by decide +kernel
theorem dL_heir_52 : decode cL_heir 52 = .ok (.ireturn, 1) := by decide +kernel
theorem dL_isDead_0 : decode cL_isDead 0 = .ok (.bipush 12, 2) := by decide +kernel
theorem dL_isDead_2 : decode cL_isDead 2 = .ok (.iload 5, 2) := by decide +kernel
theorem dL_isDead_4 : decode cL_isDead 4 = .ok (.imul, 1) := by decide +kernel
theorem dL_isDead_5 : decode cL_isDead 5 = .ok (.istore 6, 2) := by decide +kernel
theorem dL_isDead_7 : decode cL_isDead 7 = .ok (.aload_n 1, 1) := by decide +kernel
theorem dL_isDead_8 : decode cL_isDead 8 = .ok (.iload 6, 2) := by decide +kernel
theorem dL_isDead_10 : decode cL_isDead 10 = .ok (.iaload, 1) := by decide +kernel
theorem dL_isDead_11 : decode cL_isDead 11 = .ok (.ifCond .ne 5, 3) := by decide +kernel
theorem dL_isDead_14 : decode cL_isDead 14 = .ok (.iconst 1, 1) := by decide +kernel
theorem dL_isDead_15 : decode cL_isDead 15 = .ok (.ireturn, 1) := by decide +kernel
theorem dL_isDead_16 : decode cL_isDead 16 = .ok (.aload_n 1, 1) := by decide +kernel
theorem dL_isDead_17 : decode cL_isDead 17 = .ok (.iload 6, 2) := by decide +kernel
theorem dL_isDead_19 : decode cL_isDead 19 = .ok (.iconst 0, 1) := by decide +kernel
theorem dL_isDead_20 : decode cL_isDead 20 = .ok (.iastore, 1) := by decide +kernel
theorem dL_isDead_21 : decode cL_isDead 21 = .ok (.aload_n 1, 1) := by decide +kernel
theorem dL_isDead_22 : decode cL_isDead 22 = .ok (.iload 5, 2) := by decide +kernel
theorem dL_isDead_24 : decode cL_isDead 24 = .ok (.invokestatic 55, 3) := by decide +kernel
theorem dL_isDead_27 : decode cL_isDead 27 = .ok (.istore 7, 2) := by decide +kernel
theorem dL_isDead_29 : decode cL_isDead 29 = .ok (.iconst 0, 1) := by decide +kernel
theorem dL_isDead_30 : decode cL_isDead 30 = .ok (.istore 8, 2) := by decide +kernel
theorem dL_isDead_32 : decode cL_isDead 32 = .ok (.iload 8, 2) := by decide +kernel
theorem dL_isDead_34 : decode cL_isDead 34 = .ok (.bipush 12, 2) := by decide +kernel
theorem dL_isDead_36 : decode cL_isDead 36 = .ok (.if_icmp .ge 92, 3) := by decide +kernel
theorem dL_isDead_39 : decode cL_isDead 39 = .ok (.aload_n 2, 1) := by decide +kernel
theorem dL_isDead_40 : decode cL_isDead 40 = .ok (.bipush 12, 2) := by decide +kernel
theorem dL_isDead_42 : decode cL_isDead 42 = .ok (.iload 5, 2) := by decide +kernel
theorem dL_isDead_44 : decode cL_isDead 44 = .ok (.imul, 1) := by decide +kernel
theorem dL_isDead_45 : decode cL_isDead 45 = .ok (.iload 8, 2) := by decide +kernel
theorem dL_isDead_47 : decode cL_isDead 47 = .ok (.iadd, 1) := by decide +kernel
theorem dL_isDead_48 : decode cL_isDead 48 = .ok (.iaload, 1) := by decide +kernel
theorem dL_isDead_49 : decode cL_isDead 49 = .ok (.istore 9, 2) := by decide +kernel
theorem dL_isDead_51 : decode cL_isDead 51 = .ok (.aload_n 2, 1) := by decide +kernel
theorem dL_isDead_52 : decode cL_isDead 52 = .ok (.bipush 12, 2) := by decide +kernel
theorem dL_isDead_54 : decode cL_isDead 54 = .ok (.iload 5, 2) := by decide +kernel
theorem dL_isDead_56 : decode cL_isDead 56 = .ok (.imul, 1) := by decide +kernel
theorem dL_isDead_57 : decode cL_isDead 57 = .ok (.iload 8, 2) := by decide +kernel
theorem dL_isDead_59 : decode cL_isDead 59 = .ok (.iadd, 1) := by decide +kernel
theorem dL_isDead_60 : decode cL_isDead 60 = .ok (.iconst 0, 1) := by decide +kernel
theorem dL_isDead_61 : decode cL_isDead 61 = .ok (.iastore, 1) := by decide +kernel
theorem dL_isDead_62 : decode cL_isDead 62 = .ok (.aload_n 1, 1) := by decide +kernel
theorem dL_isDead_63 : decode cL_isDead 63 = .ok (.iload 6, 2) := by decide +kernel
theorem dL_isDead_65 : decode cL_isDead 65 = .ok (.bipush 11, 2) := by decide +kernel
theorem dL_isDead_67 : decode cL_isDead 67 = .ok (.iadd, 1) := by decide +kernel
theorem dL_isDead_68 : decode cL_isDead 68 = .ok (.dup2, 1) := by decide +kernel
theorem dL_isDead_69 : decode cL_isDead 69 = .ok (.iaload, 1) := by decide +kernel
theorem dL_isDead_70 : decode cL_isDead 70 = .ok (.iload 9, 2) := by decide +kernel
theorem dL_isDead_72 : decode cL_isDead 72 = .ok (.iadd, 1) := by decide +kernel
theorem dL_isDead_73 : decode cL_isDead 73 = .ok (.iastore, 1) := by decide +kernel
theorem dL_isDead_74 : decode cL_isDead 74 = .ok (.iload 7, 2) := by decide +kernel
theorem dL_isDead_76 : decode cL_isDead 76 = .ok (.ifCond .lt 36, 3) := by decide +kernel
theorem dL_isDead_79 : decode cL_isDead 79 = .ok (.aload_n 2, 1) := by decide +kernel
theorem dL_isDead_80 : decode cL_isDead 80 = .ok (.bipush 12, 2) := by decide +kernel
theorem dL_isDead_82 : decode cL_isDead 82 = .ok (.iload 7, 2) := by decide +kernel
theorem dL_isDead_84 : decode cL_isDead 84 = .ok (.imul, 1) := by decide +kernel
theorem dL_isDead_85 : decode cL_isDead 85 = .ok (.iload 8, 2) := by decide +kernel
theorem dL_isDead_87 : decode cL_isDead 87 = .ok (.iadd, 1) := by decide +kernel
theorem dL_isDead_88 : decode cL_isDead 88 = .ok (.dup2, 1) := by decide +kernel
theorem dL_isDead_89 : decode cL_isDead 89 = .ok (.iaload, 1) := by decide +kernel
theorem dL_isDead_90 : decode cL_isDead 90 = .ok (.iload 9, 2) := by decide +kernel
theorem dL_isDead_92 : decode cL_isDead 92 = .ok (.iadd, 1) := by decide +kernel
theorem dL_isDead_93 : decode cL_isDead 93 = .ok (.iastore, 1) := by decide +kernel
theorem dL_isDead_94 : decode cL_isDead 94 = .ok (.aload_n 1, 1) := by decide +kernel
theorem dL_isDead_95 : decode cL_isDead 95 = .ok (.bipush 12, 2) := by decide +kernel
theorem dL_isDead_97 : decode cL_isDead 97 = .ok (.iload 7, 2) := by decide +kernel
theorem dL_isDead_99 : decode cL_isDead 99 = .ok (.imul, 1) := by decide +kernel
theorem dL_isDead_100 : decode cL_isDead 100 = .ok (.bipush 10, 2) := by decide +kernel
theorem dL_isDead_102 : decode cL_isDead 102 = .ok (.iadd, 1) := by decide +kernel
theorem dL_isDead_103 : decode cL_isDead 103 = .ok (.dup2, 1) := by decide +kernel
theorem dL_isDead_104 : decode cL_isDead 104 = .ok (.iaload, 1) := by decide +kernel
theorem dL_isDead_105 : decode cL_isDead 105 = .ok (.iload 9, 2) := by decide +kernel
theorem dL_isDead_107 : decode cL_isDead 107 = .ok (.iadd, 1) := by decide +kernel
theorem dL_isDead_108 : decode cL_isDead 108 = .ok (.iastore, 1) := by decide +kernel
theorem dL_isDead_109 : decode cL_isDead 109 = .ok (.goto 13, 3) := by decide +kernel
theorem dL_isDead_112 : decode cL_isDead 112 = .ok (.aload 4, 2) := by decide +kernel
theorem dL_isDead_114 : decode cL_isDead 114 = .ok (.bipush 29, 2) := by decide +kernel
theorem dL_isDead_116 : decode cL_isDead 116 = .ok (.dup2, 1) := by decide +kernel
theorem dL_isDead_117 : decode cL_isDead 117 = .ok (.iaload, 1) := by decide +kernel
theorem dL_isDead_118 : decode cL_isDead 118 = .ok (.iload 9, 2) := by decide +kernel
theorem dL_isDead_120 : decode cL_isDead 120 = .ok (.iadd, 1) := by decide +kernel
theorem dL_isDead_121 : decode cL_isDead 121 = .ok (.iastore, 1) := by decide +kernel
theorem dL_isDead_122 : decode cL_isDead 122 = .ok (.iinc 8 1, 3) := by decide +kernel
theorem dL_isDead_125 : decode cL_isDead 125 = .ok (.goto (-93), 3) := by decide +kernel
theorem dL_isDead_128 : decode cL_isDead 128 = .ok (.iconst 0, 1) := by decide +kernel
theorem dL_isDead_129 : decode cL_isDead 129 = .ok (.istore 8, 2) := by decide +kernel
theorem dL_isDead_131 : decode cL_isDead 131 = .ok (.iload 8, 2) := by decide +kernel
theorem dL_isDead_133 : decode cL_isDead 133 = .ok (.iconst 4, 1) := by decide +kernel
theorem dL_isDead_134 : decode cL_isDead 134 = .ok (.if_icmp .ge 35, 3) := by decide +kernel
theorem dL_isDead_137 : decode cL_isDead 137 = .ok (.iload 7, 2) := by decide +kernel
theorem dL_isDead_139 : decode cL_isDead 139 = .ok (.ifCond .lt 30, 3) := by decide +kernel
theorem dL_isDead_142 : decode cL_isDead 142 = .ok (.aload_n 3, 1) := by decide +kernel
theorem dL_isDead_143 : decode cL_isDead 143 = .ok (.iconst 4, 1) := by decide +kernel
theorem dL_isDead_144 : decode cL_isDead 144 = .ok (.iload 7, 2) := by decide +kernel
theorem dL_isDead_146 : decode cL_isDead 146 = .ok (.imul, 1) := by decide +kernel
theorem dL_isDead_147 : decode cL_isDead 147 = .ok (.iload 8, 2) := by decide +kernel
theorem dL_isDead_149 : decode cL_isDead 149 = .ok (.iadd, 1) := by decide +kernel
theorem dL_isDead_150 : decode cL_isDead 150 = .ok (.dup2, 1) := by decide +kernel
theorem dL_isDead_151 : decode cL_isDead 151 = .ok (.iaload, 1) := by decide +kernel
theorem dL_isDead_152 : decode cL_isDead 152 = .ok (.aload_n 3, 1) := by decide +kernel
theorem dL_isDead_153 : decode cL_isDead 153 = .ok (.iconst 4, 1) := by decide +kernel
theorem dL_isDead_154 : decode cL_isDead 154 = .ok (.iload 5, 2) := by decide +kernel
theorem dL_isDead_156 : decode cL_isDead 156 = .ok (.imul, 1) := by decide +kernel
theorem dL_isDead_157 : decode cL_isDead 157 = .ok (.iload 8, 2) := by decide +kernel
theorem dL_isDead_159 : decode cL_isDead 159 = .ok (.iadd, 1) := by decide +kernel
theorem dL_isDead_160 : decode cL_isDead 160 = .ok (.iaload, 1) := by decide +kernel
theorem dL_isDead_161 : decode cL_isDead 161 = .ok (.iadd, 1) := by decide +kernel
theorem dL_isDead_162 : decode cL_isDead 162 = .ok (.iastore, 1) := by decide +kernel
theorem dL_isDead_163 : decode cL_isDead 163 = .ok (.iinc 8 1, 3) := by decide +kernel
theorem dL_isDead_166 : decode cL_isDead 166 = .ok (.goto (-35), 3) := by decide +kernel
theorem dL_isDead_169 : decode cL_isDead 169 = .ok (.iconst 2, 1) := by decide +kernel
theorem dL_isDead_170 : decode cL_isDead 170 = .ok (.istore 8, 2) := by decide +kernel
theorem dL_isDead_172 : decode cL_isDead 172 = .ok (.iload 8, 2) := by decide +kernel
theorem dL_isDead_174 : decode cL_isDead 174 = .ok (.iconst 5, 1) := by decide +kernel
theorem dL_isDead_175 : decode cL_isDead 175 = .ok (.if_icmp .ge 54, 3) := by decide +kernel
theorem dL_isDead_178 : decode cL_isDead 178 = .ok (.iload 7, 2) := by decide +kernel
theorem dL_isDead_180 : decode cL_isDead 180 = .ok (.ifCond .lt 49, 3) := by decide +kernel
theorem dL_isDead_183 : decode cL_isDead 183 = .ok (.aload_n 1, 1) := by decide +kernel
theorem dL_isDead_184 : decode cL_isDead 184 = .ok (.bipush 12, 2) := by decide +kernel
theorem dL_isDead_186 : decode cL_isDead 186 = .ok (.iload 7, 2) := by decide +kernel
theorem dL_isDead_188 : decode cL_isDead 188 = .ok (.imul, 1) := by decide +kernel
theorem dL_isDead_189 : decode cL_isDead 189 = .ok (.iload 8, 2) := by decide +kernel
theorem dL_isDead_191 : decode cL_isDead 191 = .ok (.iadd, 1) := by decide +kernel
theorem dL_isDead_192 : decode cL_isDead 192 = .ok (.dup2, 1) := by decide +kernel
theorem dL_isDead_193 : decode cL_isDead 193 = .ok (.iaload, 1) := by decide +kernel
theorem dL_isDead_194 : decode cL_isDead 194 = .ok (.iload 8, 2) := by decide +kernel
theorem dL_isDead_196 : decode cL_isDead 196 = .ok (.iconst 2, 1) := by decide +kernel
theorem dL_isDead_197 : decode cL_isDead 197 = .ok (.if_icmp .eq 13, 3) := by decide +kernel
theorem dL_isDead_200 : decode cL_isDead 200 = .ok (.aload 4, 2) := by decide +kernel
theorem dL_isDead_202 : decode cL_isDead 202 = .ok (.bipush 19, 2) := by decide +kernel
theorem dL_isDead_204 : decode cL_isDead 204 = .ok (.iaload, 1) := by decide +kernel
theorem dL_isDead_205 : decode cL_isDead 205 = .ok (.iconst 4, 1) := by decide +kernel
theorem dL_isDead_206 : decode cL_isDead 206 = .ok (.iand, 1) := by decide +kernel
theorem dL_isDead_207 : decode cL_isDead 207 = .ok (.ifCond .ne 13, 3) := by decide +kernel
theorem dL_isDead_210 : decode cL_isDead 210 = .ok (.aload_n 1, 1) := by decide +kernel
theorem dL_isDead_211 : decode cL_isDead 211 = .ok (.iload 6, 2) := by decide +kernel
theorem dL_isDead_213 : decode cL_isDead 213 = .ok (.iload 8, 2) := by decide +kernel
theorem dL_isDead_215 : decode cL_isDead 215 = .ok (.iadd, 1) := by decide +kernel
theorem dL_isDead_216 : decode cL_isDead 216 = .ok (.iaload, 1) := by decide +kernel
theorem dL_isDead_217 : decode cL_isDead 217 = .ok (.goto 4, 3) := by decide +kernel
theorem dL_isDead_220 : decode cL_isDead 220 = .ok (.iconst 0, 1) := by decide +kernel
theorem dL_isDead_221 : decode cL_isDead 221 = .ok (.iadd, 1) := by decide +kernel
theorem dL_isDead_222 : decode cL_isDead 222 = .ok (.iastore, 1) := by decide +kernel
theorem dL_isDead_223 : decode cL_isDead 223 = .ok (.iinc 8 1, 3) := by decide +kernel
theorem dL_isDead_226 : decode cL_isDead 226 = .ok (.goto (-54), 3) := by decide +kernel
theorem dL_isDead_229 : decode cL_isDead 229 = .ok (.iconst 1, 1) := by decide +kernel
theorem dL_isDead_230 : decode cL_isDead 230 = .ok (.istore 8, 2) := by decide +kernel
theorem dL_isDead_232 : decode cL_isDead 232 = .ok (.iload 8, 2) := by decide +kernel
theorem dL_isDead_234 : decode cL_isDead 234 = .ok (.bipush 6, 2) := by decide +kernel
theorem dL_isDead_236 : decode cL_isDead 236 = .ok (.if_icmp .ge 29, 3) := by decide +kernel
theorem dL_isDead_239 : decode cL_isDead 239 = .ok (.aload_n 1, 1) := by decide +kernel
theorem dL_isDead_240 : decode cL_isDead 240 = .ok (.iload 6, 2) := by decide +kernel
theorem dL_isDead_242 : decode cL_isDead 242 = .ok (.iload 8, 2) := by decide +kernel
theorem dL_isDead_244 : decode cL_isDead 244 = .ok (.iadd, 1) := by decide +kernel
theorem dL_isDead_245 : decode cL_isDead 245 = .ok (.iconst 0, 1) := by decide +kernel
theorem dL_isDead_246 : decode cL_isDead 246 = .ok (.iastore, 1) := by decide +kernel
theorem dL_isDead_247 : decode cL_isDead 247 = .ok (.aload_n 3, 1) := by decide +kernel
theorem dL_isDead_248 : decode cL_isDead 248 = .ok (.iconst 4, 1) := by decide +kernel
theorem dL_isDead_249 : decode cL_isDead 249 = .ok (.iload 5, 2) := by decide +kernel
theorem dL_isDead_251 : decode cL_isDead 251 = .ok (.imul, 1) := by decide +kernel
theorem dL_isDead_252 : decode cL_isDead 252 = .ok (.iload 8, 2) := by decide +kernel
theorem dL_isDead_254 : decode cL_isDead 254 = .ok (.iconst 4, 1) := by decide +kernel
theorem dL_isDead_255 : decode cL_isDead 255 = .ok (.irem, 1) := by decide +kernel
theorem dL_isDead_256 : decode cL_isDead 256 = .ok (.iadd, 1) := by decide +kernel
theorem dL_isDead_257 : decode cL_isDead 257 = .ok (.iconst 0, 1) := by decide +kernel
theorem dL_isDead_258 : decode cL_isDead 258 = .ok (.iastore, 1) := by decide +kernel
theorem dL_isDead_259 : decode cL_isDead 259 = .ok (.iinc 8 1, 3) := by decide +kernel
theorem dL_isDead_262 : decode cL_isDead 262 = .ok (.goto (-30), 3) := by decide +kernel
theorem dL_isDead_265 : decode cL_isDead 265 = .ok (.aload_n 0, 1) := by decide +kernel
theorem dL_isDead_266 : decode cL_isDead 266 = .ok (.iload 5, 2) := by decide +kernel
theorem dL_isDead_268 : decode cL_isDead 268 = .ok (.invokevirtual 58, 3) := by decide +kernel
theorem dL_isDead_271 : decode cL_isDead 271 = .ok (.iload 7, 2) := by decide +kernel
theorem dL_isDead_273 : decode cL_isDead 273 = .ok (.if_icmp .ne 7, 3) := by decide +kernel
theorem dL_isDead_276 : decode cL_isDead 276 = .ok (.iconst 1, 1) := by decide +kernel
theorem dL_isDead_277 : decode cL_isDead 277 = .ok (.goto 4, 3) := by decide +kernel
theorem dL_isDead_280 : decode cL_isDead 280 = .ok (.iconst 0, 1) := by decide +kernel
theorem dL_isDead_281 : decode cL_isDead 281 = .ok (.ireturn, 1) := by decide +kernel
