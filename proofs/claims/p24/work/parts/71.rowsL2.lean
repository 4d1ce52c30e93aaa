theorem dL_reads_0 : decode cL_reads 0 = .ok (.iload_n 1, 1) := by decide +kernel
theorem dL_reads_1 : decode cL_reads 1 = .ok (.aload_n 3, 1) := by decide +kernel
theorem dL_reads_2 : decode cL_reads 2 = .ok (.iconst 0, 1) := by decide +kernel
theorem dL_reads_3 : decode cL_reads 3 = .ok (.iaload, 1) := by decide +kernel
theorem dL_reads_4 : decode cL_reads 4 = .ok (.irem, 1) := by decide +kernel
theorem dL_reads_5 : decode cL_reads 5 = .ok (.istore 5, 2) := by decide +kernel
theorem dL_reads_7 : decode cL_reads 7 = .ok (.bipush 6, 2) := by decide +kernel
theorem dL_reads_9 : decode cL_reads 9 = .ok (.iload 5, 2) := by decide +kernel
theorem dL_reads_11 : decode cL_reads 11 = .ok (.imul, 1) := by decide +kernel
theorem dL_reads_12 : decode cL_reads 12 = .ok (.istore 6, 2) := by decide +kernel
theorem dL_reads_14 : decode cL_reads 14 = .ok (.aload 4, 2) := by decide +kernel
theorem dL_reads_16 : decode cL_reads 16 = .ok (.iload 6, 2) := by decide +kernel
theorem dL_reads_18 : decode cL_reads 18 = .ok (.iconst 2, 1) := by decide +kernel
theorem dL_reads_19 : decode cL_reads 19 = .ok (.iadd, 1) := by decide +kernel
theorem dL_reads_20 : decode cL_reads 20 = .ok (.iaload, 1) := by decide +kernel
theorem dL_reads_21 : decode cL_reads 21 = .ok (.invokestatic 84, 3) := by decide +kernel
theorem dL_reads_24 : decode cL_reads 24 = .ok (.istore 7, 2) := by decide +kernel
theorem dL_reads_26 : decode cL_reads 26 = .ok (.aload_n 3, 1) := by decide +kernel
theorem dL_reads_27 : decode cL_reads 27 = .ok (.iconst 1, 1) := by decide +kernel
theorem dL_reads_28 : decode cL_reads 28 = .ok (.iaload, 1) := by decide +kernel
theorem dL_reads_29 : decode cL_reads 29 = .ok (.aload 4, 2) := by decide +kernel
theorem dL_reads_31 : decode cL_reads 31 = .ok (.iload 6, 2) := by decide +kernel
theorem dL_reads_33 : decode cL_reads 33 = .ok (.iaload, 1) := by decide +kernel
theorem dL_reads_34 : decode cL_reads 34 = .ok (.isub, 1) := by decide +kernel
theorem dL_reads_35 : decode cL_reads 35 = .ok (.istore 8, 2) := by decide +kernel
theorem dL_reads_37 : decode cL_reads 37 = .ok (.iload_n 2, 1) := by decide +kernel
theorem dL_reads_38 : decode cL_reads 38 = .ok (.iconst 4, 1) := by decide +kernel
theorem dL_reads_39 : decode cL_reads 39 = .ok (.irem, 1) := by decide +kernel
theorem dL_reads_40 : decode cL_reads 40 = .ok (.ifCond .ne 12, 3) := by decide +kernel
theorem dL_reads_43 : decode cL_reads 43 = .ok (.iload_n 2, 1) := by decide +kernel
theorem dL_reads_44 : decode cL_reads 44 = .ok (.iconst 4, 1) := by decide +kernel
theorem dL_reads_45 : decode cL_reads 45 = .ok (.idiv, 1) := by decide +kernel
theorem dL_reads_46 : decode cL_reads 46 = .ok (.iload 7, 2) := by decide +kernel
theorem dL_reads_48 : decode cL_reads 48 = .ok (.irem, 1) := by decide +kernel
theorem dL_reads_49 : decode cL_reads 49 = .ok (.goto 25, 3) := by decide +kernel
theorem dL_reads_52 : decode cL_reads 52 = .ok (.aload 4, 2) := by decide +kernel
theorem dL_reads_54 : decode cL_reads 54 = .ok (.iload 6, 2) := by decide +kernel
theorem dL_reads_56 : decode cL_reads 56 = .ok (.iconst 1, 1) := by decide +kernel
theorem dL_reads_57 : decode cL_reads 57 = .ok (.iadd, 1) := by decide +kernel
theorem dL_reads_58 : decode cL_reads 58 = .ok (.iaload, 1) := by decide +kernel
theorem dL_reads_59 : decode cL_reads 59 = .ok (.iload_n 2, 1) := by decide +kernel
theorem dL_reads_60 : decode cL_reads 60 = .ok (.iconst 4, 1) := by decide +kernel
theorem dL_reads_61 : decode cL_reads 61 = .ok (.idiv, 1) := by decide +kernel
theorem dL_reads_62 : decode cL_reads 62 = .ok (.iconst 1, 1) := by decide +kernel
theorem dL_reads_63 : decode cL_reads 63 = .ok (.bipush 20, 2) := by decide +kernel
theorem dL_reads_65 : decode cL_reads 65 = .ok (.iload 8, 2) := by decide +kernel
theorem dL_reads_67 : decode cL_reads 67 = .ok (.imul, 1) := by decide +kernel
theorem dL_reads_68 : decode cL_reads 68 = .ok (.iadd, 1) := by decide +kernel
theorem dL_reads_69 : decode cL_reads 69 = .ok (.irem, 1) := by decide +kernel
theorem dL_reads_70 : decode cL_reads 70 = .ok (.iadd, 1) := by decide +kernel
theorem dL_reads_71 : decode cL_reads 71 = .ok (.iload 7, 2) := by decide +kernel
theorem dL_reads_73 : decode cL_reads 73 = .ok (.irem, 1) := by decide +kernel
theorem dL_reads_74 : decode cL_reads 74 = .ok (.istore 9, 2) := by decide +kernel
theorem dL_reads_76 : decode cL_reads 76 = .ok (.iload 9, 2) := by decide +kernel
theorem dL_reads_78 : decode cL_reads 78 = .ok (.aload 4, 2) := by decide +kernel
theorem dL_reads_80 : decode cL_reads 80 = .ok (.iload 6, 2) := by decide +kernel
theorem dL_reads_82 : decode cL_reads 82 = .ok (.iconst 1, 1) := by decide +kernel
theorem dL_reads_83 : decode cL_reads 83 = .ok (.iadd, 1) := by decide +kernel
theorem dL_reads_84 : decode cL_reads 84 = .ok (.iaload, 1) := by decide +kernel
theorem dL_reads_85 : decode cL_reads 85 = .ok (.isub, 1) := by decide +kernel
theorem dL_reads_86 : decode cL_reads 86 = .ok (.iload 7, 2) := by decide +kernel
theorem dL_reads_88 : decode cL_reads 88 = .ok (.iadd, 1) := by decide +kernel
theorem dL_reads_89 : decode cL_reads 89 = .ok (.iload 7, 2) := by decide +kernel
theorem dL_reads_91 : decode cL_reads 91 = .ok (.irem, 1) := by decide +kernel
theorem dL_reads_92 : decode cL_reads 92 = .ok (.aload 4, 2) := by decide +kernel
theorem dL_reads_94 : decode cL_reads 94 = .ok (.iload 6, 2) := by decide +kernel
theorem dL_reads_96 : decode cL_reads 96 = .ok (.iconst 3, 1) := by decide +kernel
theorem dL_reads_97 : decode cL_reads 97 = .ok (.iadd, 1) := by decide +kernel
theorem dL_reads_98 : decode cL_reads 98 = .ok (.iaload, 1) := by decide +kernel
theorem dL_reads_99 : decode cL_reads 99 = .ok (.imul, 1) := by decide +kernel
theorem dL_reads_100 : decode cL_reads 100 = .ok (.istore 10, 2) := by decide +kernel
theorem dL_reads_102 : decode cL_reads 102 = .ok (.iload 8, 2) := by decide +kernel
theorem dL_reads_104 : decode cL_reads 104 = .ok (.ifCond .le 7, 3) := by decide +kernel
theorem dL_reads_107 : decode cL_reads 107 = .ok (.iconst 1, 1) := by decide +kernel
theorem dL_reads_108 : decode cL_reads 108 = .ok (.goto 4, 3) := by decide +kernel
theorem dL_reads_111 : decode cL_reads 111 = .ok (.iconst 0, 1) := by decide +kernel
theorem dL_reads_112 : decode cL_reads 112 = .ok (.istore 11, 2) := by decide +kernel
theorem dL_reads_114 : decode cL_reads 114 = .ok (.iload_n 1, 1) := by decide +kernel
theorem dL_reads_115 : decode cL_reads 115 = .ok (.bipush 8, 2) := by decide +kernel
theorem dL_reads_117 : decode cL_reads 117 = .ok (.idiv, 1) := by decide +kernel
theorem dL_reads_118 : decode cL_reads 118 = .ok (.iconst 4, 1) := by decide +kernel
theorem dL_reads_119 : decode cL_reads 119 = .ok (.irem, 1) := by decide +kernel
theorem dL_reads_120 : decode cL_reads 120 = .ok (.ifCond .ne 176, 3) := by decide +kernel
theorem dL_reads_123 : decode cL_reads 123 = .ok (.iconst 3, 1) := by decide +kernel
theorem dL_reads_124 : decode cL_reads 124 = .ok (.iload_n 2, 1) := by decide +kernel
theorem dL_reads_125 : decode cL_reads 125 = .ok (.bipush 16, 2) := by decide +kernel
theorem dL_reads_127 : decode cL_reads 127 = .ok (.idiv, 1) := by decide +kernel
theorem dL_reads_128 : decode cL_reads 128 = .ok (.iconst 4, 1) := by decide +kernel
theorem dL_reads_129 : decode cL_reads 129 = .ok (.irem, 1) := by decide +kernel
theorem dL_reads_130 : decode cL_reads 130 = .ok (.iadd, 1) := by decide +kernel
theorem dL_reads_131 : decode cL_reads 131 = .ok (.istore 12, 2) := by decide +kernel
theorem dL_reads_133 : decode cL_reads 133 = .ok (.iconst 1, 1) := by decide +kernel
theorem dL_reads_134 : decode cL_reads 134 = .ok (.iload_n 2, 1) := by decide +kernel
theorem dL_reads_135 : decode cL_reads 135 = .ok (.bipush 64, 2) := by decide +kernel
theorem dL_reads_137 : decode cL_reads 137 = .ok (.idiv, 1) := by decide +kernel
theorem dL_reads_138 : decode cL_reads 138 = .ok (.bipush 10, 2) := by decide +kernel
theorem dL_reads_140 : decode cL_reads 140 = .ok (.irem, 1) := by decide +kernel
theorem dL_reads_141 : decode cL_reads 141 = .ok (.iadd, 1) := by decide +kernel
theorem dL_reads_142 : decode cL_reads 142 = .ok (.istore 13, 2) := by decide +kernel
theorem dL_reads_144 : decode cL_reads 144 = .ok (.aload_n 0, 1) := by decide +kernel
theorem dL_reads_145 : decode cL_reads 145 = .ok (.iconst 2, 1) := by decide +kernel
theorem dL_reads_146 : decode cL_reads 146 = .ok (.iload 5, 2) := by decide +kernel
theorem dL_reads_148 : decode cL_reads 148 = .ok (.iload 9, 2) := by decide +kernel
theorem dL_reads_150 : decode cL_reads 150 = .ok (.iload_n 2, 1) := by decide +kernel
theorem dL_reads_151 : decode cL_reads 151 = .ok (.bipush 16, 2) := by decide +kernel
theorem dL_reads_153 : decode cL_reads 153 = .ok (.idiv, 1) := by decide +kernel
theorem dL_reads_154 : decode cL_reads 154 = .ok (.iconst 4, 1) := by decide +kernel
theorem dL_reads_155 : decode cL_reads 155 = .ok (.irem, 1) := by decide +kernel
theorem dL_reads_156 : decode cL_reads 156 = .ok (.iconst 4, 1) := by decide +kernel
theorem dL_reads_157 : decode cL_reads 157 = .ok (.iload 13, 2) := by decide +kernel
theorem dL_reads_159 : decode cL_reads 159 = .ok (.iconst 1, 1) := by decide +kernel
theorem dL_reads_160 : decode cL_reads 160 = .ok (.isub, 1) := by decide +kernel
theorem dL_reads_161 : decode cL_reads 161 = .ok (.imul, 1) := by decide +kernel
theorem dL_reads_162 : decode cL_reads 162 = .ok (.iadd, 1) := by decide +kernel
theorem dL_reads_163 : decode cL_reads 163 = .ok (.invokestatic 72, 3) := by decide +kernel
theorem dL_reads_166 : decode cL_reads 166 = .ok (.istore 14, 2) := by decide +kernel
theorem dL_reads_168 : decode cL_reads 168 = .ok (.iload 11, 2) := by decide +kernel
theorem dL_reads_170 : decode cL_reads 170 = .ok (.ifCond .ne 16, 3) := by decide +kernel
theorem dL_reads_173 : decode cL_reads 173 = .ok (.iload 14, 2) := by decide +kernel
theorem dL_reads_175 : decode cL_reads 175 = .ok (.ldc 54, 2) := by decide +kernel
theorem dL_reads_177 : decode cL_reads 177 = .ok (.if_icmp .ne 7, 3) := by decide +kernel
theorem dL_reads_180 : decode cL_reads 180 = .ok (.iconst 1, 1) := by decide +kernel
theorem dL_reads_181 : decode cL_reads 181 = .ok (.goto 4, 3) := by decide +kernel
theorem dL_reads_184 : decode cL_reads 184 = .ok (.iconst 0, 1) := by decide +kernel
theorem dL_reads_185 : decode cL_reads 185 = .ok (.ireturn, 1) := by decide +kernel
theorem dL_reads_186 : decode cL_reads 186 = .ok (.iload 14, 2) := by decide +kernel
theorem dL_reads_188 : decode cL_reads 188 = .ok (.iload 10, 2) := by decide +kernel
theorem dL_reads_190 : decode cL_reads 190 = .ok (.if_icmp .ne 26, 3) := by decide +kernel
theorem dL_reads_193 : decode cL_reads 193 = .ok (.aload_n 0, 1) := by decide +kernel
theorem dL_reads_194 : decode cL_reads 194 = .ok (.iload 5, 2) := by decide +kernel
theorem dL_reads_196 : decode cL_reads 196 = .ok (.aload 4, 2) := by decide +kernel
theorem dL_reads_198 : decode cL_reads 198 = .ok (.iload 6, 2) := by decide +kernel
theorem dL_reads_200 : decode cL_reads 200 = .ok (.iaload, 1) := by decide +kernel
theorem dL_reads_201 : decode cL_reads 201 = .ok (.aload_n 3, 1) := by decide +kernel
theorem dL_reads_202 : decode cL_reads 202 = .ok (.iconst 1, 1) := by decide +kernel
theorem dL_reads_203 : decode cL_reads 203 = .ok (.iaload, 1) := by decide +kernel
theorem dL_reads_204 : decode cL_reads 204 = .ok (.iload 10, 2) := by decide +kernel
theorem dL_reads_206 : decode cL_reads 206 = .ok (.invokestatic 87, 3) := by decide +kernel
theorem dL_reads_209 : decode cL_reads 209 = .ok (.ifCond .eq 7, 3) := by decide +kernel
theorem dL_reads_212 : decode cL_reads 212 = .ok (.iconst 1, 1) := by decide +kernel
theorem dL_reads_213 : decode cL_reads 213 = .ok (.goto 4, 3) := by decide +kernel
theorem dL_reads_216 : decode cL_reads 216 = .ok (.iconst 0, 1) := by decide +kernel
theorem dL_reads_217 : decode cL_reads 217 = .ok (.istore 15, 2) := by decide +kernel
theorem dL_reads_219 : decode cL_reads 219 = .ok (.aload 4, 2) := by decide +kernel
theorem dL_reads_221 : decode cL_reads 221 = .ok (.iload 6, 2) := by decide +kernel
theorem dL_reads_223 : decode cL_reads 223 = .ok (.aload_n 3, 1) := by decide +kernel
theorem dL_reads_224 : decode cL_reads 224 = .ok (.iconst 1, 1) := by decide +kernel
theorem dL_reads_225 : decode cL_reads 225 = .ok (.iaload, 1) := by decide +kernel
theorem dL_reads_226 : decode cL_reads 226 = .ok (.iastore, 1) := by decide +kernel
theorem dL_reads_227 : decode cL_reads 227 = .ok (.aload 4, 2) := by decide +kernel
theorem dL_reads_229 : decode cL_reads 229 = .ok (.iload 6, 2) := by decide +kernel
theorem dL_reads_231 : decode cL_reads 231 = .ok (.iconst 1, 1) := by decide +kernel
theorem dL_reads_232 : decode cL_reads 232 = .ok (.iadd, 1) := by decide +kernel
theorem dL_reads_233 : decode cL_reads 233 = .ok (.iconst 0, 1) := by decide +kernel
theorem dL_reads_234 : decode cL_reads 234 = .ok (.iastore, 1) := by decide +kernel
theorem dL_reads_235 : decode cL_reads 235 = .ok (.aload 4, 2) := by decide +kernel
theorem dL_reads_237 : decode cL_reads 237 = .ok (.iload 6, 2) := by decide +kernel
theorem dL_reads_239 : decode cL_reads 239 = .ok (.iconst 2, 1) := by decide +kernel
theorem dL_reads_240 : decode cL_reads 240 = .ok (.iadd, 1) := by decide +kernel
theorem dL_reads_241 : decode cL_reads 241 = .ok (.iload 12, 2) := by decide +kernel
theorem dL_reads_243 : decode cL_reads 243 = .ok (.iastore, 1) := by decide +kernel
theorem dL_reads_244 : decode cL_reads 244 = .ok (.aload 4, 2) := by decide +kernel
theorem dL_reads_246 : decode cL_reads 246 = .ok (.iload 6, 2) := by decide +kernel
theorem dL_reads_248 : decode cL_reads 248 = .ok (.iconst 3, 1) := by decide +kernel
theorem dL_reads_249 : decode cL_reads 249 = .ok (.iadd, 1) := by decide +kernel
theorem dL_reads_250 : decode cL_reads 250 = .ok (.iload 13, 2) := by decide +kernel
theorem dL_reads_252 : decode cL_reads 252 = .ok (.iastore, 1) := by decide +kernel
theorem dL_reads_253 : decode cL_reads 253 = .ok (.aload 4, 2) := by decide +kernel
theorem dL_reads_255 : decode cL_reads 255 = .ok (.iload 6, 2) := by decide +kernel
theorem dL_reads_257 : decode cL_reads 257 = .ok (.iconst 4, 1) := by decide +kernel
theorem dL_reads_258 : decode cL_reads 258 = .ok (.iadd, 1) := by decide +kernel
theorem dL_reads_259 : decode cL_reads 259 = .ok (.dup2, 1) := by decide +kernel
theorem dL_reads_260 : decode cL_reads 260 = .ok (.iaload, 1) := by decide +kernel
theorem dL_reads_261 : decode cL_reads 261 = .ok (.iconst 1, 1) := by decide +kernel
theorem dL_reads_262 : decode cL_reads 262 = .ok (.iadd, 1) := by decide +kernel
theorem dL_reads_263 : decode cL_reads 263 = .ok (.iastore, 1) := by decide +kernel
theorem dL_reads_264 : decode cL_reads 264 = .ok (.aload 4, 2) := by decide +kernel
theorem dL_reads_266 : decode cL_reads 266 = .ok (.iload 6, 2) := by decide +kernel
theorem dL_reads_268 : decode cL_reads 268 = .ok (.iconst 5, 1) := by decide +kernel
theorem dL_reads_269 : decode cL_reads 269 = .ok (.iadd, 1) := by decide +kernel
theorem dL_reads_270 : decode cL_reads 270 = .ok (.iconst (-1), 1) := by decide +kernel
theorem dL_reads_271 : decode cL_reads 271 = .ok (.iastore, 1) := by decide +kernel
theorem dL_reads_272 : decode cL_reads 272 = .ok (.iload 15, 2) := by decide +kernel
theorem dL_reads_274 : decode cL_reads 274 = .ok (.ifCond .eq 20, 3) := by decide +kernel
theorem dL_reads_277 : decode cL_reads 277 = .ok (.aload_n 0, 1) := by decide +kernel
theorem dL_reads_278 : decode cL_reads 278 = .ok (.iload 5, 2) := by decide +kernel
theorem dL_reads_280 : decode cL_reads 280 = .ok (.iconst 1, 1) := by decide +kernel
theorem dL_reads_281 : decode cL_reads 281 = .ok (.invokevirtual 69, 3) := by decide +kernel
theorem dL_reads_284 : decode cL_reads 284 = .ok (.aload_n 3, 1) := by decide +kernel
theorem dL_reads_285 : decode cL_reads 285 = .ok (.iconst 1, 1) := by decide +kernel
theorem dL_reads_286 : decode cL_reads 286 = .ok (.iaload, 1) := by decide +kernel
theorem dL_reads_287 : decode cL_reads 287 = .ok (.if_icmp .ne 7, 3) := by decide +kernel
theorem dL_reads_290 : decode cL_reads 290 = .ok (.iconst 1, 1) := by decide +kernel
theorem dL_reads_291 : decode cL_reads 291 = .ok (.goto 4, 3) := by decide +kernel
theorem dL_reads_294 : decode cL_reads 294 = .ok (.iconst 0, 1) := by decide +kernel
theorem dL_reads_295 : decode cL_reads 295 = .ok (.ireturn, 1) := by decide +kernel
theorem dL_reads_296 : decode cL_reads 296 = .ok (.aload_n 0, 1) := by decide +kernel
theorem dL_reads_297 : decode cL_reads 297 = .ok (.iconst 0, 1) := by decide +kernel
theorem dL_reads_298 : decode cL_reads 298 = .ok (.iload 5, 2) := by decide +kernel
theorem dL_reads_300 : decode cL_reads 300 = .ok (.iload 9, 2) := by decide +kernel
theorem dL_reads_302 : decode cL_reads 302 = .ok (.iconst 0, 1) := by decide +kernel
theorem dL_reads_303 : decode cL_reads 303 = .ok (.invokestatic 72, 3) := by decide +kernel
theorem dL_reads_306 : decode cL_reads 306 = .ok (.istore 12, 2) := by decide +kernel
theorem dL_reads_308 : decode cL_reads 308 = .ok (.iload 11, 2) := by decide +kernel
theorem dL_reads_310 : decode cL_reads 310 = .ok (.ifCond .ne 16, 3) := by decide +kernel
theorem dL_reads_313 : decode cL_reads 313 = .ok (.iload 12, 2) := by decide +kernel
theorem dL_reads_315 : decode cL_reads 315 = .ok (.ldc 54, 2) := by decide +kernel
theorem dL_reads_317 : decode cL_reads 317 = .ok (.if_icmp .ne 7, 3) := by decide +kernel
theorem dL_reads_320 : decode cL_reads 320 = .ok (.iconst 1, 1) := by decide +kernel
theorem dL_reads_321 : decode cL_reads 321 = .ok (.goto 4, 3) := by decide +kernel
theorem dL_reads_324 : decode cL_reads 324 = .ok (.iconst 0, 1) := by decide +kernel
theorem dL_reads_325 : decode cL_reads 325 = .ok (.ireturn, 1) := by decide +kernel
theorem dL_reads_326 : decode cL_reads 326 = .ok (.iload 12, 2) := by decide +kernel
theorem dL_reads_328 : decode cL_reads 328 = .ok (.iconst (-1), 1) := by decide +kernel
theorem dL_reads_329 : decode cL_reads 329 = .ok (.if_icmp .ne 29, 3) := by decide +kernel
theorem dL_reads_332 : decode cL_reads 332 = .ok (.aload 4, 2) := by decide +kernel
theorem dL_reads_334 : decode cL_reads 334 = .ok (.iload 6, 2) := by decide +kernel
theorem dL_reads_336 : decode cL_reads 336 = .ok (.iconst 5, 1) := by decide +kernel
theorem dL_reads_337 : decode cL_reads 337 = .ok (.iadd, 1) := by decide +kernel
theorem dL_reads_338 : decode cL_reads 338 = .ok (.aload_n 3, 1) := by decide +kernel
theorem dL_reads_339 : decode cL_reads 339 = .ok (.iconst 1, 1) := by decide +kernel
theorem dL_reads_340 : decode cL_reads 340 = .ok (.iaload, 1) := by decide +kernel
theorem dL_reads_341 : decode cL_reads 341 = .ok (.iastore, 1) := by decide +kernel
theorem dL_reads_342 : decode cL_reads 342 = .ok (.iload 10, 2) := by decide +kernel
theorem dL_reads_344 : decode cL_reads 344 = .ok (.bipush 100, 2) := by decide +kernel
theorem dL_reads_346 : decode cL_reads 346 = .ok (.iload 8, 2) := by decide +kernel
theorem dL_reads_348 : decode cL_reads 348 = .ok (.imul, 1) := by decide +kernel
theorem dL_reads_349 : decode cL_reads 349 = .ok (.if_icmp .le 7, 3) := by decide +kernel
theorem dL_reads_352 : decode cL_reads 352 = .ok (.iconst 1, 1) := by decide +kernel
theorem dL_reads_353 : decode cL_reads 353 = .ok (.goto 4, 3) := by decide +kernel
theorem dL_reads_356 : decode cL_reads 356 = .ok (.iconst 0, 1) := by decide +kernel
theorem dL_reads_357 : decode cL_reads 357 = .ok (.ireturn, 1) := by decide +kernel
theorem dL_reads_358 : decode cL_reads 358 = .ok (.iload 12, 2) := by decide +kernel
theorem dL_reads_360 : decode cL_reads 360 = .ok (.iload 10, 2) := by decide +kernel
theorem dL_reads_362 : decode cL_reads 362 = .ok (.if_icmp .ne 37, 3) := by decide +kernel
theorem dL_reads_365 : decode cL_reads 365 = .ok (.iload 10, 2) := by decide +kernel
theorem dL_reads_367 : decode cL_reads 367 = .ok (.sipush 1900, 3) := by decide +kernel
theorem dL_reads_370 : decode cL_reads 370 = .ok (.iload 8, 2) := by decide +kernel
theorem dL_reads_372 : decode cL_reads 372 = .ok (.imul, 1) := by decide +kernel
theorem dL_reads_373 : decode cL_reads 373 = .ok (.if_icmp .gt 26, 3) := by decide +kernel
theorem dL_reads_376 : decode cL_reads 376 = .ok (.aload_n 0, 1) := by decide +kernel
theorem dL_reads_377 : decode cL_reads 377 = .ok (.iload 5, 2) := by decide +kernel
theorem dL_reads_379 : decode cL_reads 379 = .ok (.aload 4, 2) := by decide +kernel
theorem dL_reads_381 : decode cL_reads 381 = .ok (.iload 6, 2) := by decide +kernel
theorem dL_reads_383 : decode cL_reads 383 = .ok (.iaload, 1) := by decide +kernel
theorem dL_reads_384 : decode cL_reads 384 = .ok (.aload_n 3, 1) := by decide +kernel
theorem dL_reads_385 : decode cL_reads 385 = .ok (.iconst 1, 1) := by decide +kernel
theorem dL_reads_386 : decode cL_reads 386 = .ok (.iaload, 1) := by decide +kernel
theorem dL_reads_387 : decode cL_reads 387 = .ok (.iload 10, 2) := by decide +kernel
theorem dL_reads_389 : decode cL_reads 389 = .ok (.invokestatic 87, 3) := by decide +kernel
theorem dL_reads_392 : decode cL_reads 392 = .ok (.ifCond .eq 7, 3) := by decide +kernel
theorem dL_reads_395 : decode cL_reads 395 = .ok (.iconst 1, 1) := by decide +kernel
theorem dL_reads_396 : decode cL_reads 396 = .ok (.goto 4, 3) := by decide +kernel
theorem dL_reads_399 : decode cL_reads 399 = .ok (.iconst 0, 1) := by decide +kernel
theorem dL_reads_400 : decode cL_reads 400 = .ok (.istore 13, 2) := by decide +kernel
theorem dL_reads_402 : decode cL_reads 402 = .ok (.aload 4, 2) := by decide +kernel
theorem dL_reads_404 : decode cL_reads 404 = .ok (.iload 6, 2) := by decide +kernel
theorem dL_reads_406 : decode cL_reads 406 = .ok (.aload_n 3, 1) := by decide +kernel
theorem dL_reads_407 : decode cL_reads 407 = .ok (.iconst 1, 1) := by decide +kernel
theorem dL_reads_408 : decode cL_reads 408 = .ok (.iaload, 1) := by decide +kernel
theorem dL_reads_409 : decode cL_reads 409 = .ok (.iastore, 1) := by decide +kernel
theorem dL_reads_410 : decode cL_reads 410 = .ok (.aload 4, 2) := by decide +kernel
theorem dL_reads_412 : decode cL_reads 412 = .ok (.iload 6, 2) := by decide +kernel
theorem dL_reads_414 : decode cL_reads 414 = .ok (.iconst 1, 1) := by decide +kernel
theorem dL_reads_415 : decode cL_reads 415 = .ok (.iadd, 1) := by decide +kernel
theorem dL_reads_416 : decode cL_reads 416 = .ok (.iload 9, 2) := by decide +kernel
theorem dL_reads_418 : decode cL_reads 418 = .ok (.iastore, 1) := by decide +kernel
theorem dL_reads_419 : decode cL_reads 419 = .ok (.aload 4, 2) := by decide +kernel
theorem dL_reads_421 : decode cL_reads 421 = .ok (.iload 6, 2) := by decide +kernel
theorem dL_reads_423 : decode cL_reads 423 = .ok (.iconst 4, 1) := by decide +kernel
theorem dL_reads_424 : decode cL_reads 424 = .ok (.iadd, 1) := by decide +kernel
theorem dL_reads_425 : decode cL_reads 425 = .ok (.dup2, 1) := by decide +kernel
theorem dL_reads_426 : decode cL_reads 426 = .ok (.iaload, 1) := by decide +kernel
theorem dL_reads_427 : decode cL_reads 427 = .ok (.iconst 1, 1) := by decide +kernel
theorem dL_reads_428 : decode cL_reads 428 = .ok (.iadd, 1) := by decide +kernel
theorem dL_reads_429 : decode cL_reads 429 = .ok (.iastore, 1) := by decide +kernel
theorem dL_reads_430 : decode cL_reads 430 = .ok (.aload 4, 2) := by decide +kernel
theorem dL_reads_432 : decode cL_reads 432 = .ok (.iload 6, 2) := by decide +kernel
theorem dL_reads_434 : decode cL_reads 434 = .ok (.iconst 5, 1) := by decide +kernel
theorem dL_reads_435 : decode cL_reads 435 = .ok (.iadd, 1) := by decide +kernel
theorem dL_reads_436 : decode cL_reads 436 = .ok (.iconst (-1), 1) := by decide +kernel
theorem dL_reads_437 : decode cL_reads 437 = .ok (.iastore, 1) := by decide +kernel
theorem dL_reads_438 : decode cL_reads 438 = .ok (.iload 13, 2) := by decide +kernel
theorem dL_reads_440 : decode cL_reads 440 = .ok (.ireturn, 1) := by decide +kernel
theorem dL_isSound_0 : decode cL_isSound 0 = .ok (.aload_n 2, 1) := by decide +kernel
theorem dL_isSound_1 : decode cL_isSound 1 = .ok (.iconst 2, 1) := by decide +kernel
theorem dL_isSound_2 : decode cL_isSound 2 = .ok (.iaload, 1) := by decide +kernel
theorem dL_isSound_3 : decode cL_isSound 3 = .ok (.i2l, 1) := by decide +kernel
theorem dL_isSound_4 : decode cL_isSound 4 = .ok (.lstore 5, 2) := by decide +kernel
theorem dL_isSound_6 : decode cL_isSound 6 = .ok (.lconst 0, 1) := by decide +kernel
theorem dL_isSound_7 : decode cL_isSound 7 = .ok (.lstore 7, 2) := by decide +kernel
theorem dL_isSound_9 : decode cL_isSound 9 = .ok (.iconst 1, 1) := by decide +kernel
theorem dL_isSound_10 : decode cL_isSound 10 = .ok (.istore 9, 2) := by decide +kernel
theorem dL_isSound_12 : decode cL_isSound 12 = .ok (.iconst 0, 1) := by decide +kernel
theorem dL_isSound_13 : decode cL_isSound 13 = .ok (.istore 10, 2) := by decide +kernel
theorem dL_isSound_15 : decode cL_isSound 15 = .ok (.iload 10, 2) := by decide +kernel
theorem dL_isSound_17 : decode cL_isSound 17 = .ok (.iconst 4, 1) := by decide +kernel
theorem dL_isSound_18 : decode cL_isSound 18 = .ok (.if_icmp .ge 20, 3) := by decide +kernel
theorem dL_isSound_21 : decode cL_isSound 21 = .ok (.lload 7, 2) := by decide +kernel
theorem dL_isSound_23 : decode cL_isSound 23 = .ok (.aload_n 0, 1) := by decide +kernel
theorem dL_isSound_24 : decode cL_isSound 24 = .ok (.iload 10, 2) := by decide +kernel
theorem dL_isSound_26 : decode cL_isSound 26 = .ok (.invokevirtual 62, 3) := by decide +kernel
theorem dL_isSound_29 : decode cL_isSound 29 = .ok (.ladd, 1) := by decide +kernel
theorem dL_isSound_30 : decode cL_isSound 30 = .ok (.lstore 7, 2) := by decide +kernel
theorem dL_isSound_32 : decode cL_isSound 32 = .ok (.iinc 10 1, 3) := by decide +kernel
theorem dL_isSound_35 : decode cL_isSound 35 = .ok (.goto (-20), 3) := by decide +kernel
theorem dL_isSound_38 : decode cL_isSound 38 = .ok (.iconst 0, 1) := by decide +kernel
theorem dL_isSound_39 : decode cL_isSound 39 = .ok (.istore 10, 2) := by decide +kernel
theorem dL_isSound_41 : decode cL_isSound 41 = .ok (.iload 10, 2) := by decide +kernel
theorem dL_isSound_43 : decode cL_isSound 43 = .ok (.aload_n 2, 1) := by decide +kernel
theorem dL_isSound_44 : decode cL_isSound 44 = .ok (.iconst 0, 1) := by decide +kernel
theorem dL_isSound_45 : decode cL_isSound 45 = .ok (.iaload, 1) := by decide +kernel
theorem dL_isSound_46 : decode cL_isSound 46 = .ok (.if_icmp .ge 261, 3) := by decide +kernel
theorem dL_isSound_49 : decode cL_isSound 49 = .ok (.iload 9, 2) := by decide +kernel
theorem dL_isSound_51 : decode cL_isSound 51 = .ok (.ifCond .eq 256, 3) := by decide +kernel
theorem dL_isSound_54 : decode cL_isSound 54 = .ok (.lload 5, 2) := by decide +kernel
theorem dL_isSound_56 : decode cL_isSound 56 = .ok (.aload_n 0, 1) := by decide +kernel
theorem dL_isSound_57 : decode cL_isSound 57 = .ok (.iload 10, 2) := by decide +kernel
theorem dL_isSound_59 : decode cL_isSound 59 = .ok (.invokevirtual 66, 3) := by decide +kernel
theorem dL_isSound_62 : decode cL_isSound 62 = .ok (.ladd, 1) := by decide +kernel
theorem dL_isSound_63 : decode cL_isSound 63 = .ok (.lstore 5, 2) := by decide +kernel
theorem dL_isSound_65 : decode cL_isSound 65 = .ok (.aload_n 0, 1) := by decide +kernel
theorem dL_isSound_66 : decode cL_isSound 66 = .ok (.iload 10, 2) := by decide +kernel
theorem dL_isSound_68 : decode cL_isSound 68 = .ok (.iconst 1, 1) := by decide +kernel
theorem dL_isSound_69 : decode cL_isSound 69 = .ok (.invokevirtual 69, 3) := by decide +kernel
theorem dL_isSound_72 : decode cL_isSound 72 = .ok (.aload 4, 2) := by decide +kernel
theorem dL_isSound_74 : decode cL_isSound 74 = .ok (.bipush 6, 2) := by decide +kernel
theorem dL_isSound_76 : decode cL_isSound 76 = .ok (.iload 10, 2) := by decide +kernel
theorem dL_isSound_78 : decode cL_isSound 78 = .ok (.imul, 1) := by decide +kernel
theorem dL_isSound_79 : decode cL_isSound 79 = .ok (.iaload, 1) := by decide +kernel
theorem dL_isSound_80 : decode cL_isSound 80 = .ok (.if_icmp .ne 115, 3) := by decide +kernel
theorem dL_isSound_83 : decode cL_isSound 83 = .ok (.aload_n 0, 1) := by decide +kernel
theorem dL_isSound_84 : decode cL_isSound 84 = .ok (.iload 10, 2) := by decide +kernel
theorem dL_isSound_86 : decode cL_isSound 86 = .ok (.iconst 2, 1) := by decide +kernel
theorem dL_isSound_87 : decode cL_isSound 87 = .ok (.invokevirtual 69, 3) := by decide +kernel
theorem dL_isSound_90 : decode cL_isSound 90 = .ok (.aload 4, 2) := by decide +kernel
theorem dL_isSound_92 : decode cL_isSound 92 = .ok (.bipush 6, 2) := by decide +kernel
theorem dL_isSound_94 : decode cL_isSound 94 = .ok (.iload 10, 2) := by decide +kernel
theorem dL_isSound_96 : decode cL_isSound 96 = .ok (.imul, 1) := by decide +kernel
theorem dL_isSound_97 : decode cL_isSound 97 = .ok (.iconst 4, 1) := by decide +kernel
theorem dL_isSound_98 : decode cL_isSound 98 = .ok (.iadd, 1) := by decide +kernel
theorem dL_isSound_99 : decode cL_isSound 99 = .ok (.iaload, 1) := by decide +kernel
theorem dL_isSound_100 : decode cL_isSound 100 = .ok (.if_icmp .ne 95, 3) := by decide +kernel
theorem dL_isSound_103 : decode cL_isSound 103 = .ok (.aload_n 0, 1) := by decide +kernel
theorem dL_isSound_104 : decode cL_isSound 104 = .ok (.iload 10, 2) := by decide +kernel
theorem dL_isSound_106 : decode cL_isSound 106 = .ok (.iconst 4, 1) := by decide +kernel
theorem dL_isSound_107 : decode cL_isSound 107 = .ok (.invokevirtual 69, 3) := by decide +kernel
theorem dL_isSound_110 : decode cL_isSound 110 = .ok (.aload 4, 2) := by decide +kernel
theorem dL_isSound_112 : decode cL_isSound 112 = .ok (.bipush 6, 2) := by decide +kernel
theorem dL_isSound_114 : decode cL_isSound 114 = .ok (.iload 10, 2) := by decide +kernel
theorem dL_isSound_116 : decode cL_isSound 116 = .ok (.imul, 1) := by decide +kernel
theorem dL_isSound_117 : decode cL_isSound 117 = .ok (.iconst 5, 1) := by decide +kernel
theorem dL_isSound_118 : decode cL_isSound 118 = .ok (.iadd, 1) := by decide +kernel
theorem dL_isSound_119 : decode cL_isSound 119 = .ok (.iaload, 1) := by decide +kernel
theorem dL_isSound_120 : decode cL_isSound 120 = .ok (.if_icmp .ne 75, 3) := by decide +kernel
theorem dL_isSound_123 : decode cL_isSound 123 = .ok (.aload_n 0, 1) := by decide +kernel
theorem dL_isSound_124 : decode cL_isSound 124 = .ok (.iload 10, 2) := by decide +kernel
theorem dL_isSound_126 : decode cL_isSound 126 = .ok (.iconst 3, 1) := by decide +kernel
theorem dL_isSound_127 : decode cL_isSound 127 = .ok (.invokevirtual 69, 3) := by decide +kernel
theorem dL_isSound_130 : decode cL_isSound 130 = .ok (.ifCond .lt 65, 3) := by decide +kernel
theorem dL_isSound_133 : decode cL_isSound 133 = .ok (.aload_n 0, 1) := by decide +kernel
theorem dL_isSound_134 : decode cL_isSound 134 = .ok (.iload 10, 2) := by decide +kernel
theorem dL_isSound_136 : decode cL_isSound 136 = .ok (.iconst 3, 1) := by decide +kernel
theorem dL_isSound_137 : decode cL_isSound 137 = .ok (.invokevirtual 69, 3) := by decide +kernel
theorem dL_isSound_140 : decode cL_isSound 140 = .ok (.iconst 4, 1) := by decide +kernel
theorem dL_isSound_141 : decode cL_isSound 141 = .ok (.if_icmp .ge 54, 3) := by decide +kernel
theorem dL_isSound_144 : decode cL_isSound 144 = .ok (.aload_n 0, 1) := by decide +kernel
theorem dL_isSound_145 : decode cL_isSound 145 = .ok (.iload 10, 2) := by decide +kernel
theorem dL_isSound_147 : decode cL_isSound 147 = .ok (.iconst 0, 1) := by decide +kernel
theorem dL_isSound_148 : decode cL_isSound 148 = .ok (.invokevirtual 69, 3) := by decide +kernel
theorem dL_isSound_151 : decode cL_isSound 151 = .ok (.ifCond .lt 44, 3) := by decide +kernel
theorem dL_isSound_154 : decode cL_isSound 154 = .ok (.aload_n 0, 1) := by decide +kernel
theorem dL_isSound_155 : decode cL_isSound 155 = .ok (.bipush 9, 2) := by decide +kernel
theorem dL_isSound_157 : decode cL_isSound 157 = .ok (.iload 10, 2) := by decide +kernel
theorem dL_isSound_159 : decode cL_isSound 159 = .ok (.aload_n 2, 1) := by decide +kernel
theorem dL_isSound_160 : decode cL_isSound 160 = .ok (.iconst 1, 1) := by decide +kernel
theorem dL_isSound_161 : decode cL_isSound 161 = .ok (.iaload, 1) := by decide +kernel
theorem dL_isSound_162 : decode cL_isSound 162 = .ok (.iconst 0, 1) := by decide +kernel
theorem dL_isSound_163 : decode cL_isSound 163 = .ok (.invokestatic 72, 3) := by decide +kernel
theorem dL_isSound_166 : decode cL_isSound 166 = .ok (.ldc 48, 2) := by decide +kernel
theorem dL_isSound_168 : decode cL_isSound 168 = .ok (.if_icmp .ne 27, 3) := by decide +kernel
theorem dL_isSound_171 : decode cL_isSound 171 = .ok (.aload_n 0, 1) := by decide +kernel
theorem dL_isSound_172 : decode cL_isSound 172 = .ok (.bipush 9, 2) := by decide +kernel
theorem dL_isSound_174 : decode cL_isSound 174 = .ok (.iload 10, 2) := by decide +kernel
theorem dL_isSound_176 : decode cL_isSound 176 = .ok (.aload_n 3, 1) := by decide +kernel
theorem dL_isSound_177 : decode cL_isSound 177 = .ok (.iload 10, 2) := by decide +kernel
theorem dL_isSound_179 : decode cL_isSound 179 = .ok (.iaload, 1) := by decide +kernel
theorem dL_isSound_180 : decode cL_isSound 180 = .ok (.iconst 1, 1) := by decide +kernel
theorem dL_isSound_181 : decode cL_isSound 181 = .ok (.isub, 1) := by decide +kernel
theorem dL_isSound_182 : decode cL_isSound 182 = .ok (.iconst 0, 1) := by decide +kernel
theorem dL_isSound_183 : decode cL_isSound 183 = .ok (.invokestatic 72, 3) := by decide +kernel
theorem dL_isSound_186 : decode cL_isSound 186 = .ok (.ldc 48, 2) := by decide +kernel
theorem dL_isSound_188 : decode cL_isSound 188 = .ok (.if_icmp .ne 7, 3) := by decide +kernel
theorem dL_isSound_191 : decode cL_isSound 191 = .ok (.iconst 1, 1) := by decide +kernel
theorem dL_isSound_192 : decode cL_isSound 192 = .ok (.goto 4, 3) := by decide +kernel
theorem dL_isSound_195 : decode cL_isSound 195 = .ok (.iconst 0, 1) := by decide +kernel
theorem dL_isSound_196 : decode cL_isSound 196 = .ok (.istore 9, 2) := by decide +kernel
theorem dL_isSound_198 : decode cL_isSound 198 = .ok (.aload_n 2, 1) := by decide +kernel
theorem dL_isSound_199 : decode cL_isSound 199 = .ok (.iconst 1, 1) := by decide +kernel
theorem dL_isSound_200 : decode cL_isSound 200 = .ok (.iaload, 1) := by decide +kernel
theorem dL_isSound_201 : decode cL_isSound 201 = .ok (.aload_n 3, 1) := by decide +kernel
theorem dL_isSound_202 : decode cL_isSound 202 = .ok (.iload 10, 2) := by decide +kernel
theorem dL_isSound_204 : decode cL_isSound 204 = .ok (.iaload, 1) := by decide +kernel
theorem dL_isSound_205 : decode cL_isSound 205 = .ok (.if_icmp .le 96, 3) := by decide +kernel
theorem dL_isSound_208 : decode cL_isSound 208 = .ok (.iload 9, 2) := by decide +kernel
theorem dL_isSound_210 : decode cL_isSound 210 = .ok (.ifCond .eq 91, 3) := by decide +kernel
theorem dL_isSound_213 : decode cL_isSound 213 = .ok (.aload_n 3, 1) := by decide +kernel
theorem dL_isSound_214 : decode cL_isSound 214 = .ok (.iload 10, 2) := by decide +kernel
theorem dL_isSound_216 : decode cL_isSound 216 = .ok (.iaload, 1) := by decide +kernel
theorem dL_isSound_217 : decode cL_isSound 217 = .ok (.iload_n 1, 1) := by decide +kernel
theorem dL_isSound_218 : decode cL_isSound 218 = .ok (.aload_n 2, 1) := by decide +kernel
theorem dL_isSound_219 : decode cL_isSound 219 = .ok (.iconst 1, 1) := by decide +kernel
theorem dL_isSound_220 : decode cL_isSound 220 = .ok (.iaload, 1) := by decide +kernel
theorem dL_isSound_221 : decode cL_isSound 221 = .ok (.aload_n 3, 1) := by decide +kernel
theorem dL_isSound_222 : decode cL_isSound 222 = .ok (.iload 10, 2) := by decide +kernel
theorem dL_isSound_224 : decode cL_isSound 224 = .ok (.iaload, 1) := by decide +kernel
theorem dL_isSound_225 : decode cL_isSound 225 = .ok (.isub, 1) := by decide +kernel
theorem dL_isSound_226 : decode cL_isSound 226 = .ok (.irem, 1) := by decide +kernel
theorem dL_isSound_227 : decode cL_isSound 227 = .ok (.iadd, 1) := by decide +kernel
theorem dL_isSound_228 : decode cL_isSound 228 = .ok (.istore 11, 2) := by decide +kernel
theorem dL_isSound_230 : decode cL_isSound 230 = .ok (.aload_n 0, 1) := by decide +kernel
theorem dL_isSound_231 : decode cL_isSound 231 = .ok (.iload 10, 2) := by decide +kernel
theorem dL_isSound_233 : decode cL_isSound 233 = .ok (.iload 11, 2) := by decide +kernel
theorem dL_isSound_235 : decode cL_isSound 235 = .ok (.iload 11, 2) := by decide +kernel
theorem dL_isSound_237 : decode cL_isSound 237 = .ok (.aload 4, 2) := by decide +kernel
theorem dL_isSound_239 : decode cL_isSound 239 = .ok (.bipush 6, 2) := by decide +kernel
theorem dL_isSound_241 : decode cL_isSound 241 = .ok (.iload 10, 2) := by decide +kernel
theorem dL_isSound_243 : decode cL_isSound 243 = .ok (.imul, 1) := by decide +kernel
theorem dL_isSound_244 : decode cL_isSound 244 = .ok (.iaload, 1) := by decide +kernel
theorem dL_isSound_245 : decode cL_isSound 245 = .ok (.if_icmp .ge 7, 3) := by decide +kernel
theorem dL_isSound_248 : decode cL_isSound 248 = .ok (.iconst 1, 1) := by decide +kernel
theorem dL_isSound_249 : decode cL_isSound 249 = .ok (.goto 4, 3) := by decide +kernel
theorem dL_isSound_252 : decode cL_isSound 252 = .ok (.iconst 0, 1) := by decide +kernel
theorem dL_isSound_253 : decode cL_isSound 253 = .ok (.invokestatic 78, 3) := by decide +kernel
theorem dL_isSound_256 : decode cL_isSound 256 = .ok (.ifCond .eq 42, 3) := by decide +kernel
theorem dL_isSound_259 : decode cL_isSound 259 = .ok (.aload_n 0, 1) := by decide +kernel
theorem dL_isSound_260 : decode cL_isSound 260 = .ok (.iload 10, 2) := by decide +kernel
theorem dL_isSound_262 : decode cL_isSound 262 = .ok (.aload_n 2, 1) := by decide +kernel
theorem dL_isSound_263 : decode cL_isSound 263 = .ok (.iconst 1, 1) := by decide +kernel
theorem dL_isSound_264 : decode cL_isSound 264 = .ok (.iaload, 1) := by decide +kernel
theorem dL_isSound_265 : decode cL_isSound 265 = .ok (.iconst 1, 1) := by decide +kernel
theorem dL_isSound_266 : decode cL_isSound 266 = .ok (.isub, 1) := by decide +kernel
theorem dL_isSound_267 : decode cL_isSound 267 = .ok (.aload_n 2, 1) := by decide +kernel
theorem dL_isSound_268 : decode cL_isSound 268 = .ok (.iconst 1, 1) := by decide +kernel
theorem dL_isSound_269 : decode cL_isSound 269 = .ok (.iaload, 1) := by decide +kernel
theorem dL_isSound_270 : decode cL_isSound 270 = .ok (.iconst 1, 1) := by decide +kernel
theorem dL_isSound_271 : decode cL_isSound 271 = .ok (.isub, 1) := by decide +kernel
theorem dL_isSound_272 : decode cL_isSound 272 = .ok (.aload 4, 2) := by decide +kernel
theorem dL_isSound_274 : decode cL_isSound 274 = .ok (.bipush 6, 2) := by decide +kernel
theorem dL_isSound_276 : decode cL_isSound 276 = .ok (.iload 10, 2) := by decide +kernel
theorem dL_isSound_278 : decode cL_isSound 278 = .ok (.imul, 1) := by decide +kernel
theorem dL_isSound_279 : decode cL_isSound 279 = .ok (.iaload, 1) := by decide +kernel
theorem dL_isSound_280 : decode cL_isSound 280 = .ok (.if_icmp .ge 7, 3) := by decide +kernel
theorem dL_isSound_283 : decode cL_isSound 283 = .ok (.iconst 1, 1) := by decide +kernel
theorem dL_isSound_284 : decode cL_isSound 284 = .ok (.goto 4, 3) := by decide +kernel
theorem dL_isSound_287 : decode cL_isSound 287 = .ok (.iconst 0, 1) := by decide +kernel
theorem dL_isSound_288 : decode cL_isSound 288 = .ok (.invokestatic 78, 3) := by decide +kernel
theorem dL_isSound_291 : decode cL_isSound 291 = .ok (.ifCond .eq 7, 3) := by decide +kernel
theorem dL_isSound_294 : decode cL_isSound 294 = .ok (.iconst 1, 1) := by decide +kernel
theorem dL_isSound_295 : decode cL_isSound 295 = .ok (.goto 4, 3) := by decide +kernel
theorem dL_isSound_298 : decode cL_isSound 298 = .ok (.iconst 0, 1) := by decide +kernel
theorem dL_isSound_299 : decode cL_isSound 299 = .ok (.istore 9, 2) := by decide +kernel
theorem dL_isSound_301 : decode cL_isSound 301 = .ok (.iinc 10 1, 3) := by decide +kernel
theorem dL_isSound_304 : decode cL_isSound 304 = .ok (.goto (-263), 3) := by decide +kernel
theorem dL_isSound_307 : decode cL_isSound 307 = .ok (.iload 9, 2) := by decide +kernel
theorem dL_isSound_309 : decode cL_isSound 309 = .ok (.ifCond .eq 15, 3) := by decide +kernel
theorem dL_isSound_312 : decode cL_isSound 312 = .ok (.lload 5, 2) := by decide +kernel
theorem dL_isSound_314 : decode cL_isSound 314 = .ok (.lload 7, 2) := by decide +kernel
theorem dL_isSound_316 : decode cL_isSound 316 = .ok (.lcmp, 1) := by decide +kernel
theorem dL_isSound_317 : decode cL_isSound 317 = .ok (.ifCond .ne 7, 3) := by decide +kernel
theorem dL_isSound_320 : decode cL_isSound 320 = .ok (.iconst 1, 1) := by decide +kernel
theorem dL_isSound_321 : decode cL_isSound 321 = .ok (.goto 4, 3) := by decide +kernel
theorem dL_isSound_324 : decode cL_isSound 324 = .ok (.iconst 0, 1) := by decide +kernel
theorem dL_isSound_325 : decode cL_isSound 325 = .ok (.ireturn, 1) := by decide +kernel
