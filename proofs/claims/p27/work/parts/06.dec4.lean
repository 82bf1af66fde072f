theorem dL_law_0 : decode cL_law 0 = .ok (.new 38, 3) := by decide +kernel
theorem dL_law_3 : decode cL_law 3 = .ok (.dup, 1) := by decide +kernel
theorem dL_law_4 : decode cL_law 4 = .ok (.invokespecial 109, 3) := by decide +kernel
theorem dL_law_7 : decode cL_law 7 = .ok (.astore_n 1, 1) := by decide +kernel
theorem dL_law_8 : decode cL_law 8 = .ok (.iconst 4, 1) := by decide +kernel
theorem dL_law_9 : decode cL_law 9 = .ok (.newarray .int, 2) := by decide +kernel
theorem dL_law_11 : decode cL_law 11 = .ok (.astore_n 2, 1) := by decide +kernel
theorem dL_law_12 : decode cL_law 12 = .ok (.iconst 3, 1) := by decide +kernel
theorem dL_law_13 : decode cL_law 13 = .ok (.newarray .int, 2) := by decide +kernel
theorem dL_law_15 : decode cL_law 15 = .ok (.astore_n 3, 1) := by decide +kernel
theorem dL_law_16 : decode cL_law 16 = .ok (.bipush 20, 2) := by decide +kernel
theorem dL_law_18 : decode cL_law 18 = .ok (.newarray .int, 2) := by decide +kernel
theorem dL_law_20 : decode cL_law 20 = .ok (.astore 4, 2) := by decide +kernel
theorem dL_law_22 : decode cL_law 22 = .ok (.bipush 20, 2) := by decide +kernel
theorem dL_law_24 : decode cL_law 24 = .ok (.newarray .int, 2) := by decide +kernel
theorem dL_law_26 : decode cL_law 26 = .ok (.astore 5, 2) := by decide +kernel
theorem dL_law_28 : decode cL_law 28 = .ok (.bipush 20, 2) := by decide +kernel
theorem dL_law_30 : decode cL_law 30 = .ok (.newarray .int, 2) := by decide +kernel
theorem dL_law_32 : decode cL_law 32 = .ok (.astore 6, 2) := by decide +kernel
theorem dL_law_34 : decode cL_law 34 = .ok (.bipush 20, 2) := by decide +kernel
theorem dL_law_36 : decode cL_law 36 = .ok (.newarray .int, 2) := by decide +kernel
theorem dL_law_38 : decode cL_law 38 = .ok (.astore 7, 2) := by decide +kernel
theorem dL_law_40 : decode cL_law 40 = .ok (.bipush 60, 2) := by decide +kernel
theorem dL_law_42 : decode cL_law 42 = .ok (.newarray .int, 2) := by decide +kernel
theorem dL_law_44 : decode cL_law 44 = .ok (.astore 8, 2) := by decide +kernel
theorem dL_law_46 : decode cL_law 46 = .ok (.bipush 20, 2) := by decide +kernel
theorem dL_law_48 : decode cL_law 48 = .ok (.newarray .long, 2) := by decide +kernel
theorem dL_law_50 : decode cL_law 50 = .ok (.astore 9, 2) := by decide +kernel
theorem dL_law_52 : decode cL_law 52 = .ok (.bipush 20, 2) := by decide +kernel
theorem dL_law_54 : decode cL_law 54 = .ok (.newarray .long, 2) := by decide +kernel
theorem dL_law_56 : decode cL_law 56 = .ok (.astore 10, 2) := by decide +kernel
theorem dL_law_58 : decode cL_law 58 = .ok (.bipush 8, 2) := by decide +kernel
theorem dL_law_60 : decode cL_law 60 = .ok (.newarray .long, 2) := by decide +kernel
theorem dL_law_62 : decode cL_law 62 = .ok (.astore 11, 2) := by decide +kernel
theorem dL_law_64 : decode cL_law 64 = .ok (.aload_n 3, 1) := by decide +kernel
theorem dL_law_65 : decode cL_law 65 = .ok (.iconst 0, 1) := by decide +kernel
theorem dL_law_66 : decode cL_law 66 = .ok (.bipush 100, 2) := by decide +kernel
theorem dL_law_68 : decode cL_law 68 = .ok (.iastore, 1) := by decide +kernel
theorem dL_law_69 : decode cL_law 69 = .ok (.aload_n 3, 1) := by decide +kernel
theorem dL_law_70 : decode cL_law 70 = .ok (.iconst 1, 1) := by decide +kernel
theorem dL_law_71 : decode cL_law 71 = .ok (.sipush 200, 3) := by decide +kernel
theorem dL_law_74 : decode cL_law 74 = .ok (.iastore, 1) := by decide +kernel
theorem dL_law_75 : decode cL_law 75 = .ok (.aload_n 3, 1) := by decide +kernel
theorem dL_law_76 : decode cL_law 76 = .ok (.iconst 2, 1) := by decide +kernel
theorem dL_law_77 : decode cL_law 77 = .ok (.sipush 300, 3) := by decide +kernel
theorem dL_law_80 : decode cL_law 80 = .ok (.iastore, 1) := by decide +kernel
theorem dL_law_81 : decode cL_law 81 = .ok (.aload_n 2, 1) := by decide +kernel
theorem dL_law_82 : decode cL_law 82 = .ok (.iconst 3, 1) := by decide +kernel
theorem dL_law_83 : decode cL_law 83 = .ok (.sipush 250, 3) := by decide +kernel
theorem dL_law_86 : decode cL_law 86 = .ok (.iastore, 1) := by decide +kernel
theorem dL_law_87 : decode cL_law 87 = .ok (.aload_n 1, 1) := by decide +kernel
theorem dL_law_88 : decode cL_law 88 = .ok (.aload_n 2, 1) := by decide +kernel
theorem dL_law_89 : decode cL_law 89 = .ok (.aload_n 3, 1) := by decide +kernel
theorem dL_law_90 : decode cL_law 90 = .ok (.aload 4, 2) := by decide +kernel
theorem dL_law_92 : decode cL_law 92 = .ok (.aload 5, 2) := by decide +kernel
theorem dL_law_94 : decode cL_law 94 = .ok (.aload 6, 2) := by decide +kernel
theorem dL_law_96 : decode cL_law 96 = .ok (.aload 7, 2) := by decide +kernel
theorem dL_law_98 : decode cL_law 98 = .ok (.aload 9, 2) := by decide +kernel
theorem dL_law_100 : decode cL_law 100 = .ok (.aload 10, 2) := by decide +kernel
theorem dL_law_102 : decode cL_law 102 = .ok (.aload 11, 2) := by decide +kernel
theorem dL_law_104 : decode cL_law 104 = .ok (.invokestatic 110, 3) := by decide +kernel
theorem dL_law_107 : decode cL_law 107 = .ok (.istore 12, 2) := by decide +kernel
theorem dL_law_109 : decode cL_law 109 = .ok (.iconst 0, 1) := by decide +kernel
theorem dL_law_110 : decode cL_law 110 = .ok (.istore 13, 2) := by decide +kernel
theorem dL_law_112 : decode cL_law 112 = .ok (.iload 13, 2) := by decide +kernel
theorem dL_law_114 : decode cL_law 114 = .ok (.bipush 100, 2) := by decide +kernel
theorem dL_law_116 : decode cL_law 116 = .ok (.if_icmp .ge 1923, 3) := by decide +kernel
theorem dL_law_119 : decode cL_law 119 = .ok (.iload 12, 2) := by decide +kernel
theorem dL_law_121 : decode cL_law 121 = .ok (.ifCond .eq 1918, 3) := by decide +kernel
theorem dL_law_124 : decode cL_law 124 = .ok (.iload 13, 2) := by decide +kernel
theorem dL_law_126 : decode cL_law 126 = .ok (.aload_n 0, 1) := by decide +kernel
theorem dL_law_127 : decode cL_law 127 = .ok (.arraylength, 1) := by decide +kernel
theorem dL_law_128 : decode cL_law 128 = .ok (.if_icmp .ge 13, 3) := by decide +kernel
theorem dL_law_131 : decode cL_law 131 = .ok (.aload_n 0, 1) := by decide +kernel
theorem dL_law_132 : decode cL_law 132 = .ok (.iload 13, 2) := by decide +kernel
theorem dL_law_134 : decode cL_law 134 = .ok (.iaload, 1) := by decide +kernel
theorem dL_law_135 : decode cL_law 135 = .ok (.ldc 114, 2) := by decide +kernel
theorem dL_law_137 : decode cL_law 137 = .ok (.iand, 1) := by decide +kernel
theorem dL_law_138 : decode cL_law 138 = .ok (.goto 24, 3) := by decide +kernel
theorem dL_law_141 : decode cL_law 141 = .ok (.ldc 115, 2) := by decide +kernel
theorem dL_law_143 : decode cL_law 143 = .ok (.iload 13, 2) := by decide +kernel
theorem dL_law_145 : decode cL_law 145 = .ok (.imul, 1) := by decide +kernel
theorem dL_law_146 : decode cL_law 146 = .ok (.iload 13, 2) := by decide +kernel
theorem dL_law_148 : decode cL_law 148 = .ok (.imul, 1) := by decide +kernel
theorem dL_law_149 : decode cL_law 149 = .ok (.sipush 5009, 3) := by decide +kernel
theorem dL_law_152 : decode cL_law 152 = .ok (.iload 13, 2) := by decide +kernel
theorem dL_law_154 : decode cL_law 154 = .ok (.imul, 1) := by decide +kernel
theorem dL_law_155 : decode cL_law 155 = .ok (.iadd, 1) := by decide +kernel
theorem dL_law_156 : decode cL_law 156 = .ok (.bipush 29, 2) := by decide +kernel
theorem dL_law_158 : decode cL_law 158 = .ok (.iadd, 1) := by decide +kernel
theorem dL_law_159 : decode cL_law 159 = .ok (.ldc 114, 2) := by decide +kernel
theorem dL_law_161 : decode cL_law 161 = .ok (.iand, 1) := by decide +kernel
theorem dL_law_162 : decode cL_law 162 = .ok (.istore 14, 2) := by decide +kernel
theorem dL_law_164 : decode cL_law 164 = .ok (.iload 13, 2) := by decide +kernel
theorem dL_law_166 : decode cL_law 166 = .ok (.iconst 4, 1) := by decide +kernel
theorem dL_law_167 : decode cL_law 167 = .ok (.if_icmp .ge 10, 3) := by decide +kernel
theorem dL_law_170 : decode cL_law 170 = .ok (.iload 13, 2) := by decide +kernel
theorem dL_law_172 : decode cL_law 172 = .ok (.iconst 2, 1) := by decide +kernel
theorem dL_law_173 : decode cL_law 173 = .ok (.irem, 1) := by decide +kernel
theorem dL_law_174 : decode cL_law 174 = .ok (.goto 8, 3) := by decide +kernel
theorem dL_law_177 : decode cL_law 177 = .ok (.iload 14, 2) := by decide +kernel
theorem dL_law_179 : decode cL_law 179 = .ok (.bipush 20, 2) := by decide +kernel
theorem dL_law_181 : decode cL_law 181 = .ok (.irem, 1) := by decide +kernel
theorem dL_law_182 : decode cL_law 182 = .ok (.istore 15, 2) := by decide +kernel
theorem dL_law_184 : decode cL_law 184 = .ok (.iload 14, 2) := by decide +kernel
theorem dL_law_186 : decode cL_law 186 = .ok (.bipush 20, 2) := by decide +kernel
theorem dL_law_188 : decode cL_law 188 = .ok (.idiv, 1) := by decide +kernel
theorem dL_law_189 : decode cL_law 189 = .ok (.istore 16, 2) := by decide +kernel
theorem dL_law_191 : decode cL_law 191 = .ok (.aload_n 2, 1) := by decide +kernel
theorem dL_law_192 : decode cL_law 192 = .ok (.iconst 0, 1) := by decide +kernel
theorem dL_law_193 : decode cL_law 193 = .ok (.iaload, 1) := by decide +kernel
theorem dL_law_194 : decode cL_law 194 = .ok (.ifCond .ne 7, 3) := by decide +kernel
theorem dL_law_197 : decode cL_law 197 = .ok (.iconst 0, 1) := by decide +kernel
theorem dL_law_198 : decode cL_law 198 = .ok (.goto 9, 3) := by decide +kernel
theorem dL_law_201 : decode cL_law 201 = .ok (.iload 16, 2) := by decide +kernel
theorem dL_law_203 : decode cL_law 203 = .ok (.aload_n 2, 1) := by decide +kernel
theorem dL_law_204 : decode cL_law 204 = .ok (.iconst 0, 1) := by decide +kernel
theorem dL_law_205 : decode cL_law 205 = .ok (.iaload, 1) := by decide +kernel
theorem dL_law_206 : decode cL_law 206 = .ok (.irem, 1) := by decide +kernel
theorem dL_law_207 : decode cL_law 207 = .ok (.istore 17, 2) := by decide +kernel
theorem dL_law_209 : decode cL_law 209 = .ok (.iconst 0, 1) := by decide +kernel
theorem dL_law_210 : decode cL_law 210 = .ok (.istore 18, 2) := by decide +kernel
theorem dL_law_212 : decode cL_law 212 = .ok (.iload 18, 2) := by decide +kernel
theorem dL_law_214 : decode cL_law 214 = .ok (.aload_n 2, 1) := by decide +kernel
theorem dL_law_215 : decode cL_law 215 = .ok (.iconst 0, 1) := by decide +kernel
theorem dL_law_216 : decode cL_law 216 = .ok (.iaload, 1) := by decide +kernel
theorem dL_law_217 : decode cL_law 217 = .ok (.if_icmp .ge 34, 3) := by decide +kernel
theorem dL_law_220 : decode cL_law 220 = .ok (.iload 16, 2) := by decide +kernel
theorem dL_law_222 : decode cL_law 222 = .ok (.iconst 5, 1) := by decide +kernel
theorem dL_law_223 : decode cL_law 223 = .ok (.irem, 1) := by decide +kernel
theorem dL_law_224 : decode cL_law 224 = .ok (.ifCond .le 27, 3) := by decide +kernel
theorem dL_law_227 : decode cL_law 227 = .ok (.aload 5, 2) := by decide +kernel
theorem dL_law_229 : decode cL_law 229 = .ok (.iload 17, 2) := by decide +kernel
theorem dL_law_231 : decode cL_law 231 = .ok (.iaload, 1) := by decide +kernel
theorem dL_law_232 : decode cL_law 232 = .ok (.ifCond .ne 19, 3) := by decide +kernel
theorem dL_law_235 : decode cL_law 235 = .ok (.iload 17, 2) := by decide +kernel
theorem dL_law_237 : decode cL_law 237 = .ok (.iconst 1, 1) := by decide +kernel
theorem dL_law_238 : decode cL_law 238 = .ok (.iadd, 1) := by decide +kernel
theorem dL_law_239 : decode cL_law 239 = .ok (.aload_n 2, 1) := by decide +kernel
theorem dL_law_240 : decode cL_law 240 = .ok (.iconst 0, 1) := by decide +kernel
theorem dL_law_241 : decode cL_law 241 = .ok (.iaload, 1) := by decide +kernel
theorem dL_law_242 : decode cL_law 242 = .ok (.irem, 1) := by decide +kernel
theorem dL_law_243 : decode cL_law 243 = .ok (.istore 17, 2) := by decide +kernel
theorem dL_law_245 : decode cL_law 245 = .ok (.iinc 18 1, 3) := by decide +kernel
theorem dL_law_248 : decode cL_law 248 = .ok (.goto (-36), 3) := by decide +kernel
theorem dL_law_251 : decode cL_law 251 = .ok (.iload 16, 2) := by decide +kernel
theorem dL_law_253 : decode cL_law 253 = .ok (.iconst 3, 1) := by decide +kernel
theorem dL_law_254 : decode cL_law 254 = .ok (.idiv, 1) := by decide +kernel
theorem dL_law_255 : decode cL_law 255 = .ok (.iconst 4, 1) := by decide +kernel
theorem dL_law_256 : decode cL_law 256 = .ok (.irem, 1) := by decide +kernel
theorem dL_law_257 : decode cL_law 257 = .ok (.ifCond .ne 13, 3) := by decide +kernel
theorem dL_law_260 : decode cL_law 260 = .ok (.iload 16, 2) := by decide +kernel
theorem dL_law_262 : decode cL_law 262 = .ok (.bipush 12, 2) := by decide +kernel
theorem dL_law_264 : decode cL_law 264 = .ok (.idiv, 1) := by decide +kernel
theorem dL_law_265 : decode cL_law 265 = .ok (.iconst 4, 1) := by decide +kernel
theorem dL_law_266 : decode cL_law 266 = .ok (.irem, 1) := by decide +kernel
theorem dL_law_267 : decode cL_law 267 = .ok (.goto 4, 3) := by decide +kernel
theorem dL_law_270 : decode cL_law 270 = .ok (.iconst 0, 1) := by decide +kernel
theorem dL_law_271 : decode cL_law 271 = .ok (.istore 18, 2) := by decide +kernel
theorem dL_law_273 : decode cL_law 273 = .ok (.iload 16, 2) := by decide +kernel
theorem dL_law_275 : decode cL_law 275 = .ok (.bipush 7, 2) := by decide +kernel
theorem dL_law_277 : decode cL_law 277 = .ok (.idiv, 1) := by decide +kernel
theorem dL_law_278 : decode cL_law 278 = .ok (.iconst 3, 1) := by decide +kernel
theorem dL_law_279 : decode cL_law 279 = .ok (.irem, 1) := by decide +kernel
theorem dL_law_280 : decode cL_law 280 = .ok (.ifCond .ne 16, 3) := by decide +kernel
theorem dL_law_283 : decode cL_law 283 = .ok (.iconst 1, 1) := by decide +kernel
theorem dL_law_284 : decode cL_law 284 = .ok (.iload 16, 2) := by decide +kernel
theorem dL_law_286 : decode cL_law 286 = .ok (.bipush 21, 2) := by decide +kernel
theorem dL_law_288 : decode cL_law 288 = .ok (.idiv, 1) := by decide +kernel
theorem dL_law_289 : decode cL_law 289 = .ok (.ldc 116, 2) := by decide +kernel
theorem dL_law_291 : decode cL_law 291 = .ok (.irem, 1) := by decide +kernel
theorem dL_law_292 : decode cL_law 292 = .ok (.iadd, 1) := by decide +kernel
theorem dL_law_293 : decode cL_law 293 = .ok (.goto 13, 3) := by decide +kernel
theorem dL_law_296 : decode cL_law 296 = .ok (.iconst 1, 1) := by decide +kernel
theorem dL_law_297 : decode cL_law 297 = .ok (.iload 16, 2) := by decide +kernel
theorem dL_law_299 : decode cL_law 299 = .ok (.bipush 21, 2) := by decide +kernel
theorem dL_law_301 : decode cL_law 301 = .ok (.idiv, 1) := by decide +kernel
theorem dL_law_302 : decode cL_law 302 = .ok (.ldc 117, 2) := by decide +kernel
theorem dL_law_304 : decode cL_law 304 = .ok (.irem, 1) := by decide +kernel
theorem dL_law_305 : decode cL_law 305 = .ok (.iadd, 1) := by decide +kernel
theorem dL_law_306 : decode cL_law 306 = .ok (.istore 19, 2) := by decide +kernel
theorem dL_law_308 : decode cL_law 308 = .ok (.iload 15, 2) := by decide +kernel
theorem dL_law_310 : decode cL_law 310 = .ok (.iconst 4, 1) := by decide +kernel
theorem dL_law_311 : decode cL_law 311 = .ok (.if_icmp .ge 209, 3) := by decide +kernel
theorem dL_law_314 : decode cL_law 314 = .ok (.aload_n 2, 1) := by decide +kernel
theorem dL_law_315 : decode cL_law 315 = .ok (.iconst 0, 1) := by decide +kernel
theorem dL_law_316 : decode cL_law 316 = .ok (.iaload, 1) := by decide +kernel
theorem dL_law_317 : decode cL_law 317 = .ok (.bipush 20, 2) := by decide +kernel
theorem dL_law_319 : decode cL_law 319 = .ok (.if_icmp .ge 201, 3) := by decide +kernel
theorem dL_law_322 : decode cL_law 322 = .ok (.aload_n 2, 1) := by decide +kernel
theorem dL_law_323 : decode cL_law 323 = .ok (.iconst 0, 1) := by decide +kernel
theorem dL_law_324 : decode cL_law 324 = .ok (.iaload, 1) := by decide +kernel
theorem dL_law_325 : decode cL_law 325 = .ok (.istore 20, 2) := by decide +kernel
theorem dL_law_327 : decode cL_law 327 = .ok (.aload_n 2, 1) := by decide +kernel
theorem dL_law_328 : decode cL_law 328 = .ok (.iconst 0, 1) := by decide +kernel
theorem dL_law_329 : decode cL_law 329 = .ok (.dup2, 1) := by decide +kernel
theorem dL_law_330 : decode cL_law 330 = .ok (.iaload, 1) := by decide +kernel
theorem dL_law_331 : decode cL_law 331 = .ok (.iconst 1, 1) := by decide +kernel
theorem dL_law_332 : decode cL_law 332 = .ok (.iadd, 1) := by decide +kernel
theorem dL_law_333 : decode cL_law 333 = .ok (.iastore, 1) := by decide +kernel
theorem dL_law_334 : decode cL_law 334 = .ok (.aload 5, 2) := by decide +kernel
theorem dL_law_336 : decode cL_law 336 = .ok (.iload 20, 2) := by decide +kernel
theorem dL_law_338 : decode cL_law 338 = .ok (.iload 19, 2) := by decide +kernel
theorem dL_law_340 : decode cL_law 340 = .ok (.iastore, 1) := by decide +kernel
theorem dL_law_341 : decode cL_law 341 = .ok (.iload 15, 2) := by decide +kernel
theorem dL_law_343 : decode cL_law 343 = .ok (.iconst 2, 1) := by decide +kernel
theorem dL_law_344 : decode cL_law 344 = .ok (.irem, 1) := by decide +kernel
theorem dL_law_345 : decode cL_law 345 = .ok (.ifCond .ne 34, 3) := by decide +kernel
theorem dL_law_348 : decode cL_law 348 = .ok (.aload 4, 2) := by decide +kernel
theorem dL_law_350 : decode cL_law 350 = .ok (.iload 20, 2) := by decide +kernel
theorem dL_law_352 : decode cL_law 352 = .ok (.iload 18, 2) := by decide +kernel
theorem dL_law_354 : decode cL_law 354 = .ok (.iastore, 1) := by decide +kernel
theorem dL_law_355 : decode cL_law 355 = .ok (.aload_n 1, 1) := by decide +kernel
theorem dL_law_356 : decode cL_law 356 = .ok (.iconst 0, 1) := by decide +kernel
theorem dL_law_357 : decode cL_law 357 = .ok (.iload 18, 2) := by decide +kernel
theorem dL_law_359 : decode cL_law 359 = .ok (.iload 19, 2) := by decide +kernel
theorem dL_law_361 : decode cL_law 361 = .ok (.invokestatic 81, 3) := by decide +kernel
theorem dL_law_364 : decode cL_law 364 = .ok (.iload 20, 2) := by decide +kernel
theorem dL_law_366 : decode cL_law 366 = .ok (.if_icmp .ne 7, 3) := by decide +kernel
theorem dL_law_369 : decode cL_law 369 = .ok (.iconst 1, 1) := by decide +kernel
theorem dL_law_370 : decode cL_law 370 = .ok (.goto 4, 3) := by decide +kernel
theorem dL_law_373 : decode cL_law 373 = .ok (.iconst 0, 1) := by decide +kernel
theorem dL_law_374 : decode cL_law 374 = .ok (.istore 12, 2) := by decide +kernel
theorem dL_law_376 : decode cL_law 376 = .ok (.goto 141, 3) := by decide +kernel
theorem dL_law_379 : decode cL_law 379 = .ok (.iload 16, 2) := by decide +kernel
theorem dL_law_381 : decode cL_law 381 = .ok (.iconst 3, 1) := by decide +kernel
theorem dL_law_382 : decode cL_law 382 = .ok (.irem, 1) := by decide +kernel
theorem dL_law_383 : decode cL_law 383 = .ok (.ifCond .ne 16, 3) := by decide +kernel
theorem dL_law_386 : decode cL_law 386 = .ok (.iconst 1, 1) := by decide +kernel
theorem dL_law_387 : decode cL_law 387 = .ok (.iload 16, 2) := by decide +kernel
theorem dL_law_389 : decode cL_law 389 = .ok (.iconst 5, 1) := by decide +kernel
theorem dL_law_390 : decode cL_law 390 = .ok (.idiv, 1) := by decide +kernel
theorem dL_law_391 : decode cL_law 391 = .ok (.sipush 400, 3) := by decide +kernel
theorem dL_law_394 : decode cL_law 394 = .ok (.irem, 1) := by decide +kernel
theorem dL_law_395 : decode cL_law 395 = .ok (.iadd, 1) := by decide +kernel
theorem dL_law_396 : decode cL_law 396 = .ok (.goto 12, 3) := by decide +kernel
theorem dL_law_399 : decode cL_law 399 = .ok (.iconst 1, 1) := by decide +kernel
theorem dL_law_400 : decode cL_law 400 = .ok (.iload 16, 2) := by decide +kernel
theorem dL_law_402 : decode cL_law 402 = .ok (.iconst 5, 1) := by decide +kernel
theorem dL_law_403 : decode cL_law 403 = .ok (.idiv, 1) := by decide +kernel
theorem dL_law_404 : decode cL_law 404 = .ok (.bipush 20, 2) := by decide +kernel
theorem dL_law_406 : decode cL_law 406 = .ok (.irem, 1) := by decide +kernel
theorem dL_law_407 : decode cL_law 407 = .ok (.iadd, 1) := by decide +kernel
theorem dL_law_408 : decode cL_law 408 = .ok (.istore 21, 2) := by decide +kernel
theorem dL_law_410 : decode cL_law 410 = .ok (.iload 16, 2) := by decide +kernel
theorem dL_law_412 : decode cL_law 412 = .ok (.iconst 5, 1) := by decide +kernel
theorem dL_law_413 : decode cL_law 413 = .ok (.irem, 1) := by decide +kernel
theorem dL_law_414 : decode cL_law 414 = .ok (.ifCond .ne 7, 3) := by decide +kernel
theorem dL_law_417 : decode cL_law 417 = .ok (.iconst 0, 1) := by decide +kernel
theorem dL_law_418 : decode cL_law 418 = .ok (.goto 9, 3) := by decide +kernel
theorem dL_law_421 : decode cL_law 421 = .ok (.iconst 1, 1) := by decide +kernel
theorem dL_law_422 : decode cL_law 422 = .ok (.iload 16, 2) := by decide +kernel
theorem dL_law_424 : decode cL_law 424 = .ok (.iconst 2, 1) := by decide +kernel
theorem dL_law_425 : decode cL_law 425 = .ok (.irem, 1) := by decide +kernel
theorem dL_law_426 : decode cL_law 426 = .ok (.iadd, 1) := by decide +kernel
theorem dL_law_427 : decode cL_law 427 = .ok (.istore 22, 2) := by decide +kernel
theorem dL_law_429 : decode cL_law 429 = .ok (.aload 4, 2) := by decide +kernel
theorem dL_law_431 : decode cL_law 431 = .ok (.iload 20, 2) := by decide +kernel
theorem dL_law_433 : decode cL_law 433 = .ok (.bipush 10, 2) := by decide +kernel
theorem dL_law_435 : decode cL_law 435 = .ok (.iload 18, 2) := by decide +kernel
theorem dL_law_437 : decode cL_law 437 = .ok (.iadd, 1) := by decide +kernel
theorem dL_law_438 : decode cL_law 438 = .ok (.iastore, 1) := by decide +kernel
theorem dL_law_439 : decode cL_law 439 = .ok (.aload 7, 2) := by decide +kernel
theorem dL_law_441 : decode cL_law 441 = .ok (.iload 20, 2) := by decide +kernel
theorem dL_law_443 : decode cL_law 443 = .ok (.aload_n 2, 1) := by decide +kernel
theorem dL_law_444 : decode cL_law 444 = .ok (.iconst 1, 1) := by decide +kernel
theorem dL_law_445 : decode cL_law 445 = .ok (.iaload, 1) := by decide +kernel
theorem dL_law_446 : decode cL_law 446 = .ok (.iload 21, 2) := by decide +kernel
theorem dL_law_448 : decode cL_law 448 = .ok (.iadd, 1) := by decide +kernel
theorem dL_law_449 : decode cL_law 449 = .ok (.iastore, 1) := by decide +kernel
theorem dL_law_450 : decode cL_law 450 = .ok (.aload 9, 2) := by decide +kernel
theorem dL_law_452 : decode cL_law 452 = .ok (.iload 20, 2) := by decide +kernel
theorem dL_law_454 : decode cL_law 454 = .ok (.iload 19, 2) := by decide +kernel
theorem dL_law_456 : decode cL_law 456 = .ok (.i2l, 1) := by decide +kernel
theorem dL_law_457 : decode cL_law 457 = .ok (.aload_n 2, 1) := by decide +kernel
theorem dL_law_458 : decode cL_law 458 = .ok (.iconst 3, 1) := by decide +kernel
theorem dL_law_459 : decode cL_law 459 = .ok (.iaload, 1) := by decide +kernel
theorem dL_law_460 : decode cL_law 460 = .ok (.i2l, 1) := by decide +kernel
theorem dL_law_461 : decode cL_law 461 = .ok (.lmul, 1) := by decide +kernel
theorem dL_law_462 : decode cL_law 462 = .ok (.lastore, 1) := by decide +kernel
theorem dL_law_463 : decode cL_law 463 = .ok (.aload 8, 2) := by decide +kernel
theorem dL_law_465 : decode cL_law 465 = .ok (.iconst 3, 1) := by decide +kernel
theorem dL_law_466 : decode cL_law 466 = .ok (.iload 20, 2) := by decide +kernel
theorem dL_law_468 : decode cL_law 468 = .ok (.imul, 1) := by decide +kernel
theorem dL_law_469 : decode cL_law 469 = .ok (.iload 21, 2) := by decide +kernel
theorem dL_law_471 : decode cL_law 471 = .ok (.iastore, 1) := by decide +kernel
theorem dL_law_472 : decode cL_law 472 = .ok (.aload 8, 2) := by decide +kernel
theorem dL_law_474 : decode cL_law 474 = .ok (.iconst 3, 1) := by decide +kernel
theorem dL_law_475 : decode cL_law 475 = .ok (.iload 20, 2) := by decide +kernel
theorem dL_law_477 : decode cL_law 477 = .ok (.imul, 1) := by decide +kernel
theorem dL_law_478 : decode cL_law 478 = .ok (.iconst 1, 1) := by decide +kernel
theorem dL_law_479 : decode cL_law 479 = .ok (.iadd, 1) := by decide +kernel
theorem dL_law_480 : decode cL_law 480 = .ok (.iload 22, 2) := by decide +kernel
theorem dL_law_482 : decode cL_law 482 = .ok (.iastore, 1) := by decide +kernel
theorem dL_law_483 : decode cL_law 483 = .ok (.aload 8, 2) := by decide +kernel
theorem dL_law_485 : decode cL_law 485 = .ok (.iconst 3, 1) := by decide +kernel
theorem dL_law_486 : decode cL_law 486 = .ok (.iload 20, 2) := by decide +kernel
theorem dL_law_488 : decode cL_law 488 = .ok (.imul, 1) := by decide +kernel
theorem dL_law_489 : decode cL_law 489 = .ok (.iconst 2, 1) := by decide +kernel
theorem dL_law_490 : decode cL_law 490 = .ok (.iadd, 1) := by decide +kernel
theorem dL_law_491 : decode cL_law 491 = .ok (.iconst (-1), 1) := by decide +kernel
theorem dL_law_492 : decode cL_law 492 = .ok (.iastore, 1) := by decide +kernel
theorem dL_law_493 : decode cL_law 493 = .ok (.aload_n 1, 1) := by decide +kernel
theorem dL_law_494 : decode cL_law 494 = .ok (.iload 18, 2) := by decide +kernel
theorem dL_law_496 : decode cL_law 496 = .ok (.iload 19, 2) := by decide +kernel
theorem dL_law_498 : decode cL_law 498 = .ok (.iload 21, 2) := by decide +kernel
theorem dL_law_500 : decode cL_law 500 = .ok (.iload 22, 2) := by decide +kernel
theorem dL_law_502 : decode cL_law 502 = .ok (.invokevirtual 118, 3) := by decide +kernel
theorem dL_law_505 : decode cL_law 505 = .ok (.iload 20, 2) := by decide +kernel
theorem dL_law_507 : decode cL_law 507 = .ok (.if_icmp .ne 7, 3) := by decide +kernel
theorem dL_law_510 : decode cL_law 510 = .ok (.iconst 1, 1) := by decide +kernel
theorem dL_law_511 : decode cL_law 511 = .ok (.goto 4, 3) := by decide +kernel
theorem dL_law_514 : decode cL_law 514 = .ok (.iconst 0, 1) := by decide +kernel
theorem dL_law_515 : decode cL_law 515 = .ok (.istore 12, 2) := by decide +kernel
theorem dL_law_517 : decode cL_law 517 = .ok (.goto 1473, 3) := by decide +kernel
theorem dL_law_520 : decode cL_law 520 = .ok (.iload 15, 2) := by decide +kernel
theorem dL_law_522 : decode cL_law 522 = .ok (.iconst 4, 1) := by decide +kernel
theorem dL_law_523 : decode cL_law 523 = .ok (.if_icmp .ne 50, 3) := by decide +kernel
theorem dL_law_526 : decode cL_law 526 = .ok (.iload 16, 2) := by decide +kernel
theorem dL_law_528 : decode cL_law 528 = .ok (.iconst 3, 1) := by decide +kernel
theorem dL_law_529 : decode cL_law 529 = .ok (.irem, 1) := by decide +kernel
theorem dL_law_530 : decode cL_law 530 = .ok (.istore 20, 2) := by decide +kernel
theorem dL_law_532 : decode cL_law 532 = .ok (.iload 16, 2) := by decide +kernel
theorem dL_law_534 : decode cL_law 534 = .ok (.iconst 3, 1) := by decide +kernel
theorem dL_law_535 : decode cL_law 535 = .ok (.idiv, 1) := by decide +kernel
theorem dL_law_536 : decode cL_law 536 = .ok (.sipush 2001, 3) := by decide +kernel
theorem dL_law_539 : decode cL_law 539 = .ok (.irem, 1) := by decide +kernel
theorem dL_law_540 : decode cL_law 540 = .ok (.istore 21, 2) := by decide +kernel
theorem dL_law_542 : decode cL_law 542 = .ok (.aload_n 1, 1) := by decide +kernel
theorem dL_law_543 : decode cL_law 543 = .ok (.iload 20, 2) := by decide +kernel
theorem dL_law_545 : decode cL_law 545 = .ok (.iload 21, 2) := by decide +kernel
theorem dL_law_547 : decode cL_law 547 = .ok (.invokevirtual 122, 3) := by decide +kernel
theorem dL_law_550 : decode cL_law 550 = .ok (.aload_n 3, 1) := by decide +kernel
theorem dL_law_551 : decode cL_law 551 = .ok (.iload 20, 2) := by decide +kernel
theorem dL_law_553 : decode cL_law 553 = .ok (.iaload, 1) := by decide +kernel
theorem dL_law_554 : decode cL_law 554 = .ok (.if_icmp .ne 7, 3) := by decide +kernel
theorem dL_law_557 : decode cL_law 557 = .ok (.iconst 1, 1) := by decide +kernel
theorem dL_law_558 : decode cL_law 558 = .ok (.goto 4, 3) := by decide +kernel
theorem dL_law_561 : decode cL_law 561 = .ok (.iconst 0, 1) := by decide +kernel
theorem dL_law_562 : decode cL_law 562 = .ok (.istore 12, 2) := by decide +kernel
theorem dL_law_564 : decode cL_law 564 = .ok (.aload_n 3, 1) := by decide +kernel
theorem dL_law_565 : decode cL_law 565 = .ok (.iload 20, 2) := by decide +kernel
theorem dL_law_567 : decode cL_law 567 = .ok (.iload 21, 2) := by decide +kernel
theorem dL_law_569 : decode cL_law 569 = .ok (.iastore, 1) := by decide +kernel
theorem dL_law_570 : decode cL_law 570 = .ok (.goto 1420, 3) := by decide +kernel
theorem dL_law_573 : decode cL_law 573 = .ok (.iload 15, 2) := by decide +kernel
theorem dL_law_575 : decode cL_law 575 = .ok (.iconst 5, 1) := by decide +kernel
theorem dL_law_576 : decode cL_law 576 = .ok (.if_icmp .ne 98, 3) := by decide +kernel
theorem dL_law_579 : decode cL_law 579 = .ok (.aload_n 1, 1) := by decide +kernel
theorem dL_law_580 : decode cL_law 580 = .ok (.iload 16, 2) := by decide +kernel
theorem dL_law_582 : decode cL_law 582 = .ok (.iconst 3, 1) := by decide +kernel
theorem dL_law_583 : decode cL_law 583 = .ok (.irem, 1) := by decide +kernel
theorem dL_law_584 : decode cL_law 584 = .ok (.ifCond .le 7, 3) := by decide +kernel
theorem dL_law_587 : decode cL_law 587 = .ok (.iconst 1, 1) := by decide +kernel
theorem dL_law_588 : decode cL_law 588 = .ok (.goto 4, 3) := by decide +kernel
theorem dL_law_591 : decode cL_law 591 = .ok (.iconst 0, 1) := by decide +kernel
theorem dL_law_592 : decode cL_law 592 = .ok (.invokevirtual 125, 3) := by decide +kernel
theorem dL_law_595 : decode cL_law 595 = .ok (.aload_n 2, 1) := by decide +kernel
theorem dL_law_596 : decode cL_law 596 = .ok (.iconst 2, 1) := by decide +kernel
theorem dL_law_597 : decode cL_law 597 = .ok (.iaload, 1) := by decide +kernel
theorem dL_law_598 : decode cL_law 598 = .ok (.iconst 1, 1) := by decide +kernel
theorem dL_law_599 : decode cL_law 599 = .ok (.if_icmp .ne 7, 3) := by decide +kernel
theorem dL_law_602 : decode cL_law 602 = .ok (.iconst 1, 1) := by decide +kernel
theorem dL_law_603 : decode cL_law 603 = .ok (.goto 4, 3) := by decide +kernel
theorem dL_law_606 : decode cL_law 606 = .ok (.iconst 0, 1) := by decide +kernel
theorem dL_law_607 : decode cL_law 607 = .ok (.if_icmp .ne 7, 3) := by decide +kernel
theorem dL_law_610 : decode cL_law 610 = .ok (.iconst 1, 1) := by decide +kernel
theorem dL_law_611 : decode cL_law 611 = .ok (.goto 4, 3) := by decide +kernel
theorem dL_law_614 : decode cL_law 614 = .ok (.iconst 0, 1) := by decide +kernel
theorem dL_law_615 : decode cL_law 615 = .ok (.istore 12, 2) := by decide +kernel
theorem dL_law_617 : decode cL_law 617 = .ok (.aload_n 2, 1) := by decide +kernel
theorem dL_law_618 : decode cL_law 618 = .ok (.iconst 2, 1) := by decide +kernel
theorem dL_law_619 : decode cL_law 619 = .ok (.iload 16, 2) := by decide +kernel
theorem dL_law_621 : decode cL_law 621 = .ok (.iconst 3, 1) := by decide +kernel
theorem dL_law_622 : decode cL_law 622 = .ok (.irem, 1) := by decide +kernel
theorem dL_law_623 : decode cL_law 623 = .ok (.ifCond .le 7, 3) := by decide +kernel
theorem dL_law_626 : decode cL_law 626 = .ok (.iconst 1, 1) := by decide +kernel
theorem dL_law_627 : decode cL_law 627 = .ok (.goto 4, 3) := by decide +kernel
theorem dL_law_630 : decode cL_law 630 = .ok (.iconst 0, 1) := by decide +kernel
theorem dL_law_631 : decode cL_law 631 = .ok (.iastore, 1) := by decide +kernel
theorem dL_law_632 : decode cL_law 632 = .ok (.iload 16, 2) := by decide +kernel
theorem dL_law_634 : decode cL_law 634 = .ok (.iconst 3, 1) := by decide +kernel
theorem dL_law_635 : decode cL_law 635 = .ok (.idiv, 1) := by decide +kernel
theorem dL_law_636 : decode cL_law 636 = .ok (.sipush 2001, 3) := by decide +kernel
theorem dL_law_639 : decode cL_law 639 = .ok (.irem, 1) := by decide +kernel
theorem dL_law_640 : decode cL_law 640 = .ok (.istore 20, 2) := by decide +kernel
theorem dL_law_642 : decode cL_law 642 = .ok (.iload 12, 2) := by decide +kernel
theorem dL_law_644 : decode cL_law 644 = .ok (.ifCond .eq 19, 3) := by decide +kernel
theorem dL_law_647 : decode cL_law 647 = .ok (.aload_n 1, 1) := by decide +kernel
theorem dL_law_648 : decode cL_law 648 = .ok (.iload 20, 2) := by decide +kernel
theorem dL_law_650 : decode cL_law 650 = .ok (.invokevirtual 129, 3) := by decide +kernel
theorem dL_law_653 : decode cL_law 653 = .ok (.aload_n 2, 1) := by decide +kernel
theorem dL_law_654 : decode cL_law 654 = .ok (.iconst 3, 1) := by decide +kernel
theorem dL_law_655 : decode cL_law 655 = .ok (.iaload, 1) := by decide +kernel
theorem dL_law_656 : decode cL_law 656 = .ok (.if_icmp .ne 7, 3) := by decide +kernel
theorem dL_law_659 : decode cL_law 659 = .ok (.iconst 1, 1) := by decide +kernel
theorem dL_law_660 : decode cL_law 660 = .ok (.goto 4, 3) := by decide +kernel
theorem dL_law_663 : decode cL_law 663 = .ok (.iconst 0, 1) := by decide +kernel
theorem dL_law_664 : decode cL_law 664 = .ok (.istore 12, 2) := by decide +kernel
theorem dL_law_666 : decode cL_law 666 = .ok (.aload_n 2, 1) := by decide +kernel
theorem dL_law_667 : decode cL_law 667 = .ok (.iconst 3, 1) := by decide +kernel
theorem dL_law_668 : decode cL_law 668 = .ok (.iload 20, 2) := by decide +kernel
theorem dL_law_670 : decode cL_law 670 = .ok (.iastore, 1) := by decide +kernel
theorem dL_law_671 : decode cL_law 671 = .ok (.goto 1319, 3) := by decide +kernel
theorem dL_law_674 : decode cL_law 674 = .ok (.iload 15, 2) := by decide +kernel
theorem dL_law_676 : decode cL_law 676 = .ok (.bipush 8, 2) := by decide +kernel
theorem dL_law_678 : decode cL_law 678 = .ok (.if_icmp .ge 186, 3) := by decide +kernel
theorem dL_law_681 : decode cL_law 681 = .ok (.iload 16, 2) := by decide +kernel
theorem dL_law_683 : decode cL_law 683 = .ok (.bipush 6, 2) := by decide +kernel
theorem dL_law_685 : decode cL_law 685 = .ok (.irem, 1) := by decide +kernel
theorem dL_law_686 : decode cL_law 686 = .ok (.ifCond .ne 11, 3) := by decide +kernel
theorem dL_law_689 : decode cL_law 689 = .ok (.aload 5, 2) := by decide +kernel
theorem dL_law_691 : decode cL_law 691 = .ok (.iload 17, 2) := by decide +kernel
theorem dL_law_693 : decode cL_law 693 = .ok (.iaload, 1) := by decide +kernel
theorem dL_law_694 : decode cL_law 694 = .ok (.goto 26, 3) := by decide +kernel
theorem dL_law_697 : decode cL_law 697 = .ok (.iconst 1, 1) := by decide +kernel
theorem dL_law_698 : decode cL_law 698 = .ok (.iload 16, 2) := by decide +kernel
theorem dL_law_700 : decode cL_law 700 = .ok (.bipush 6, 2) := by decide +kernel
theorem dL_law_702 : decode cL_law 702 = .ok (.idiv, 1) := by decide +kernel
theorem dL_law_703 : decode cL_law 703 = .ok (.iload 16, 2) := by decide +kernel
theorem dL_law_705 : decode cL_law 705 = .ok (.iconst 4, 1) := by decide +kernel
theorem dL_law_706 : decode cL_law 706 = .ok (.irem, 1) := by decide +kernel
theorem dL_law_707 : decode cL_law 707 = .ok (.ifCond .ne 8, 3) := by decide +kernel
theorem dL_law_710 : decode cL_law 710 = .ok (.ldc 116, 2) := by decide +kernel
theorem dL_law_712 : decode cL_law 712 = .ok (.goto 6, 3) := by decide +kernel
theorem dL_law_715 : decode cL_law 715 = .ok (.sipush 20000, 3) := by decide +kernel
theorem dL_law_718 : decode cL_law 718 = .ok (.irem, 1) := by decide +kernel
theorem dL_law_719 : decode cL_law 719 = .ok (.iadd, 1) := by decide +kernel
theorem dL_law_720 : decode cL_law 720 = .ok (.istore 20, 2) := by decide +kernel
theorem dL_law_722 : decode cL_law 722 = .ok (.aload 5, 2) := by decide +kernel
theorem dL_law_724 : decode cL_law 724 = .ok (.iload 17, 2) := by decide +kernel
theorem dL_law_726 : decode cL_law 726 = .ok (.iaload, 1) := by decide +kernel
theorem dL_law_727 : decode cL_law 727 = .ok (.ifCond .le 35, 3) := by decide +kernel
theorem dL_law_730 : decode cL_law 730 = .ok (.iload 20, 2) := by decide +kernel
theorem dL_law_732 : decode cL_law 732 = .ok (.aload 5, 2) := by decide +kernel
theorem dL_law_734 : decode cL_law 734 = .ok (.iload 17, 2) := by decide +kernel
theorem dL_law_736 : decode cL_law 736 = .ok (.iaload, 1) := by decide +kernel
theorem dL_law_737 : decode cL_law 737 = .ok (.if_icmp .gt 25, 3) := by decide +kernel
theorem dL_law_740 : decode cL_law 740 = .ok (.aload 4, 2) := by decide +kernel
theorem dL_law_742 : decode cL_law 742 = .ok (.iload 17, 2) := by decide +kernel
theorem dL_law_744 : decode cL_law 744 = .ok (.iaload, 1) := by decide +kernel
theorem dL_law_745 : decode cL_law 745 = .ok (.bipush 10, 2) := by decide +kernel
theorem dL_law_747 : decode cL_law 747 = .ok (.if_icmp .ge 15, 3) := by decide +kernel
theorem dL_law_750 : decode cL_law 750 = .ok (.aload 6, 2) := by decide +kernel
theorem dL_law_752 : decode cL_law 752 = .ok (.iload 17, 2) := by decide +kernel
theorem dL_law_754 : decode cL_law 754 = .ok (.iaload, 1) := by decide +kernel
theorem dL_law_755 : decode cL_law 755 = .ok (.ifCond .ne 7, 3) := by decide +kernel
theorem dL_law_758 : decode cL_law 758 = .ok (.iconst 1, 1) := by decide +kernel
theorem dL_law_759 : decode cL_law 759 = .ok (.goto 4, 3) := by decide +kernel
theorem dL_law_762 : decode cL_law 762 = .ok (.iconst 0, 1) := by decide +kernel
theorem dL_law_763 : decode cL_law 763 = .ok (.istore 21, 2) := by decide +kernel
theorem dL_law_765 : decode cL_law 765 = .ok (.aload 5, 2) := by decide +kernel
theorem dL_law_767 : decode cL_law 767 = .ok (.iload 17, 2) := by decide +kernel
theorem dL_law_769 : decode cL_law 769 = .ok (.iaload, 1) := by decide +kernel
theorem dL_law_770 : decode cL_law 770 = .ok (.ifCond .ne 8, 3) := by decide +kernel
theorem dL_law_773 : decode cL_law 773 = .ok (.bipush (-11), 2) := by decide +kernel
theorem dL_law_775 : decode cL_law 775 = .ok (.goto 34, 3) := by decide +kernel
theorem dL_law_778 : decode cL_law 778 = .ok (.iload 20, 2) := by decide +kernel
theorem dL_law_780 : decode cL_law 780 = .ok (.aload 5, 2) := by decide +kernel
theorem dL_law_782 : decode cL_law 782 = .ok (.iload 17, 2) := by decide +kernel
theorem dL_law_784 : decode cL_law 784 = .ok (.iaload, 1) := by decide +kernel
theorem dL_law_785 : decode cL_law 785 = .ok (.if_icmp .le 8, 3) := by decide +kernel
theorem dL_law_788 : decode cL_law 788 = .ok (.bipush (-12), 2) := by decide +kernel
theorem dL_law_790 : decode cL_law 790 = .ok (.goto 19, 3) := by decide +kernel
theorem dL_law_793 : decode cL_law 793 = .ok (.iload 21, 2) := by decide +kernel
theorem dL_law_795 : decode cL_law 795 = .ok (.ifCond .eq 12, 3) := by decide +kernel
theorem dL_law_798 : decode cL_law 798 = .ok (.aload_n 2, 1) := by decide +kernel
theorem dL_law_799 : decode cL_law 799 = .ok (.iconst 1, 1) := by decide +kernel
theorem dL_law_800 : decode cL_law 800 = .ok (.iaload, 1) := by decide +kernel
theorem dL_law_801 : decode cL_law 801 = .ok (.bipush 32, 2) := by decide +kernel
theorem dL_law_803 : decode cL_law 803 = .ok (.iadd, 1) := by decide +kernel
theorem dL_law_804 : decode cL_law 804 = .ok (.goto 5, 3) := by decide +kernel
theorem dL_law_807 : decode cL_law 807 = .ok (.bipush (-13), 2) := by decide +kernel
theorem dL_law_809 : decode cL_law 809 = .ok (.istore 22, 2) := by decide +kernel
theorem dL_law_811 : decode cL_law 811 = .ok (.iload 21, 2) := by decide +kernel
theorem dL_law_813 : decode cL_law 813 = .ok (.ifCond .eq 18, 3) := by decide +kernel
theorem dL_law_816 : decode cL_law 816 = .ok (.aload 6, 2) := by decide +kernel
theorem dL_law_818 : decode cL_law 818 = .ok (.iload 17, 2) := by decide +kernel
theorem dL_law_820 : decode cL_law 820 = .ok (.iload 20, 2) := by decide +kernel
theorem dL_law_822 : decode cL_law 822 = .ok (.iastore, 1) := by decide +kernel
theorem dL_law_823 : decode cL_law 823 = .ok (.aload 7, 2) := by decide +kernel
theorem dL_law_825 : decode cL_law 825 = .ok (.iload 17, 2) := by decide +kernel
theorem dL_law_827 : decode cL_law 827 = .ok (.aload_n 2, 1) := by decide +kernel
theorem dL_law_828 : decode cL_law 828 = .ok (.iconst 1, 1) := by decide +kernel
theorem dL_law_829 : decode cL_law 829 = .ok (.iaload, 1) := by decide +kernel
theorem dL_law_830 : decode cL_law 830 = .ok (.iastore, 1) := by decide +kernel
theorem dL_law_831 : decode cL_law 831 = .ok (.aload_n 1, 1) := by decide +kernel
theorem dL_law_832 : decode cL_law 832 = .ok (.iconst 1, 1) := by decide +kernel
theorem dL_law_833 : decode cL_law 833 = .ok (.iload 17, 2) := by decide +kernel
theorem dL_law_835 : decode cL_law 835 = .ok (.iload 20, 2) := by decide +kernel
theorem dL_law_837 : decode cL_law 837 = .ok (.ifCond .ne 7, 3) := by decide +kernel
theorem dL_law_840 : decode cL_law 840 = .ok (.iconst 1, 1) := by decide +kernel
theorem dL_law_841 : decode cL_law 841 = .ok (.goto 5, 3) := by decide +kernel
theorem dL_law_844 : decode cL_law 844 = .ok (.iload 20, 2) := by decide +kernel
theorem dL_law_846 : decode cL_law 846 = .ok (.invokestatic 81, 3) := by decide +kernel
theorem dL_law_849 : decode cL_law 849 = .ok (.iload 22, 2) := by decide +kernel
theorem dL_law_851 : decode cL_law 851 = .ok (.if_icmp .ne 7, 3) := by decide +kernel
theorem dL_law_854 : decode cL_law 854 = .ok (.iconst 1, 1) := by decide +kernel
theorem dL_law_855 : decode cL_law 855 = .ok (.goto 4, 3) := by decide +kernel
theorem dL_law_858 : decode cL_law 858 = .ok (.iconst 0, 1) := by decide +kernel
theorem dL_law_859 : decode cL_law 859 = .ok (.istore 12, 2) := by decide +kernel
theorem dL_law_861 : decode cL_law 861 = .ok (.goto 1129, 3) := by decide +kernel
theorem dL_law_864 : decode cL_law 864 = .ok (.iload 15, 2) := by decide +kernel
theorem dL_law_866 : decode cL_law 866 = .ok (.bipush 8, 2) := by decide +kernel
theorem dL_law_868 : decode cL_law 868 = .ok (.if_icmp .ne 88, 3) := by decide +kernel
theorem dL_law_871 : decode cL_law 871 = .ok (.aload 5, 2) := by decide +kernel
theorem dL_law_873 : decode cL_law 873 = .ok (.iload 17, 2) := by decide +kernel
theorem dL_law_875 : decode cL_law 875 = .ok (.iaload, 1) := by decide +kernel
theorem dL_law_876 : decode cL_law 876 = .ok (.ifCond .ne 8, 3) := by decide +kernel
theorem dL_law_879 : decode cL_law 879 = .ok (.bipush (-11), 2) := by decide +kernel
theorem dL_law_881 : decode cL_law 881 = .ok (.goto 31, 3) := by decide +kernel
theorem dL_law_884 : decode cL_law 884 = .ok (.aload 4, 2) := by decide +kernel
theorem dL_law_886 : decode cL_law 886 = .ok (.iload 17, 2) := by decide +kernel
theorem dL_law_888 : decode cL_law 888 = .ok (.iaload, 1) := by decide +kernel
theorem dL_law_889 : decode cL_law 889 = .ok (.bipush 10, 2) := by decide +kernel
theorem dL_law_891 : decode cL_law 891 = .ok (.if_icmp .ge 11, 3) := by decide +kernel
theorem dL_law_894 : decode cL_law 894 = .ok (.aload 6, 2) := by decide +kernel
theorem dL_law_896 : decode cL_law 896 = .ok (.iload 17, 2) := by decide +kernel
theorem dL_law_898 : decode cL_law 898 = .ok (.iaload, 1) := by decide +kernel
theorem dL_law_899 : decode cL_law 899 = .ok (.ifCond .ne 8, 3) := by decide +kernel
theorem dL_law_902 : decode cL_law 902 = .ok (.bipush (-13), 2) := by decide +kernel
theorem dL_law_904 : decode cL_law 904 = .ok (.goto 8, 3) := by decide +kernel
theorem dL_law_907 : decode cL_law 907 = .ok (.aload 6, 2) := by decide +kernel
theorem dL_law_909 : decode cL_law 909 = .ok (.iload 17, 2) := by decide +kernel
theorem dL_law_911 : decode cL_law 911 = .ok (.iaload, 1) := by decide +kernel
theorem dL_law_912 : decode cL_law 912 = .ok (.istore 20, 2) := by decide +kernel
theorem dL_law_914 : decode cL_law 914 = .ok (.aload 6, 2) := by decide +kernel
theorem dL_law_916 : decode cL_law 916 = .ok (.iload 17, 2) := by decide +kernel
theorem dL_law_918 : decode cL_law 918 = .ok (.iload 20, 2) := by decide +kernel
theorem dL_law_920 : decode cL_law 920 = .ok (.ifCond .le 7, 3) := by decide +kernel
theorem dL_law_923 : decode cL_law 923 = .ok (.iconst 0, 1) := by decide +kernel
theorem dL_law_924 : decode cL_law 924 = .ok (.goto 8, 3) := by decide +kernel
theorem dL_law_927 : decode cL_law 927 = .ok (.aload 6, 2) := by decide +kernel
theorem dL_law_929 : decode cL_law 929 = .ok (.iload 17, 2) := by decide +kernel
theorem dL_law_931 : decode cL_law 931 = .ok (.iaload, 1) := by decide +kernel
theorem dL_law_932 : decode cL_law 932 = .ok (.iastore, 1) := by decide +kernel
theorem dL_law_933 : decode cL_law 933 = .ok (.aload_n 1, 1) := by decide +kernel
theorem dL_law_934 : decode cL_law 934 = .ok (.iconst 2, 1) := by decide +kernel
theorem dL_law_935 : decode cL_law 935 = .ok (.iload 17, 2) := by decide +kernel
theorem dL_law_937 : decode cL_law 937 = .ok (.iconst 0, 1) := by decide +kernel
theorem dL_law_938 : decode cL_law 938 = .ok (.invokestatic 81, 3) := by decide +kernel
theorem dL_law_941 : decode cL_law 941 = .ok (.iload 20, 2) := by decide +kernel
theorem dL_law_943 : decode cL_law 943 = .ok (.if_icmp .ne 7, 3) := by decide +kernel
theorem dL_law_946 : decode cL_law 946 = .ok (.iconst 1, 1) := by decide +kernel
theorem dL_law_947 : decode cL_law 947 = .ok (.goto 4, 3) := by decide +kernel
theorem dL_law_950 : decode cL_law 950 = .ok (.iconst 0, 1) := by decide +kernel
theorem dL_law_951 : decode cL_law 951 = .ok (.istore 12, 2) := by decide +kernel
theorem dL_law_953 : decode cL_law 953 = .ok (.goto 1037, 3) := by decide +kernel
theorem dL_law_956 : decode cL_law 956 = .ok (.iload 15, 2) := by decide +kernel
theorem dL_law_958 : decode cL_law 958 = .ok (.bipush 9, 2) := by decide +kernel
theorem dL_law_960 : decode cL_law 960 = .ok (.if_icmp .ne 191, 3) := by decide +kernel
theorem dL_law_963 : decode cL_law 963 = .ok (.aload 5, 2) := by decide +kernel
theorem dL_law_965 : decode cL_law 965 = .ok (.iload 17, 2) := by decide +kernel
theorem dL_law_967 : decode cL_law 967 = .ok (.iaload, 1) := by decide +kernel
theorem dL_law_968 : decode cL_law 968 = .ok (.ifCond .le 39, 3) := by decide +kernel
theorem dL_law_971 : decode cL_law 971 = .ok (.aload 4, 2) := by decide +kernel
theorem dL_law_973 : decode cL_law 973 = .ok (.iload 17, 2) := by decide +kernel
theorem dL_law_975 : decode cL_law 975 = .ok (.iaload, 1) := by decide +kernel
theorem dL_law_976 : decode cL_law 976 = .ok (.bipush 10, 2) := by decide +kernel
theorem dL_law_978 : decode cL_law 978 = .ok (.if_icmp .ge 29, 3) := by decide +kernel
theorem dL_law_981 : decode cL_law 981 = .ok (.aload 6, 2) := by decide +kernel
theorem dL_law_983 : decode cL_law 983 = .ok (.iload 17, 2) := by decide +kernel
theorem dL_law_985 : decode cL_law 985 = .ok (.iaload, 1) := by decide +kernel
theorem dL_law_986 : decode cL_law 986 = .ok (.ifCond .le 21, 3) := by decide +kernel
theorem dL_law_989 : decode cL_law 989 = .ok (.aload_n 2, 1) := by decide +kernel
theorem dL_law_990 : decode cL_law 990 = .ok (.iconst 1, 1) := by decide +kernel
theorem dL_law_991 : decode cL_law 991 = .ok (.iaload, 1) := by decide +kernel
theorem dL_law_992 : decode cL_law 992 = .ok (.aload 7, 2) := by decide +kernel
theorem dL_law_994 : decode cL_law 994 = .ok (.iload 17, 2) := by decide +kernel
theorem dL_law_996 : decode cL_law 996 = .ok (.iaload, 1) := by decide +kernel
theorem dL_law_997 : decode cL_law 997 = .ok (.bipush 32, 2) := by decide +kernel
theorem dL_law_999 : decode cL_law 999 = .ok (.iadd, 1) := by decide +kernel
theorem dL_law_1000 : decode cL_law 1000 = .ok (.if_icmp .lt 7, 3) := by decide +kernel
theorem dL_law_1003 : decode cL_law 1003 = .ok (.iconst 1, 1) := by decide +kernel
theorem dL_law_1004 : decode cL_law 1004 = .ok (.goto 4, 3) := by decide +kernel
theorem dL_law_1007 : decode cL_law 1007 = .ok (.iconst 0, 1) := by decide +kernel
theorem dL_law_1008 : decode cL_law 1008 = .ok (.istore 20, 2) := by decide +kernel
theorem dL_law_1010 : decode cL_law 1010 = .ok (.aload 5, 2) := by decide +kernel
theorem dL_law_1012 : decode cL_law 1012 = .ok (.iload 17, 2) := by decide +kernel
theorem dL_law_1014 : decode cL_law 1014 = .ok (.iaload, 1) := by decide +kernel
theorem dL_law_1015 : decode cL_law 1015 = .ok (.ifCond .ne 8, 3) := by decide +kernel
theorem dL_law_1018 : decode cL_law 1018 = .ok (.bipush (-11), 2) := by decide +kernel
theorem dL_law_1020 : decode cL_law 1020 = .ok (.goto 18, 3) := by decide +kernel
theorem dL_law_1023 : decode cL_law 1023 = .ok (.iload 20, 2) := by decide +kernel
theorem dL_law_1025 : decode cL_law 1025 = .ok (.ifCond .eq 11, 3) := by decide +kernel
theorem dL_law_1028 : decode cL_law 1028 = .ok (.aload 6, 2) := by decide +kernel
theorem dL_law_1030 : decode cL_law 1030 = .ok (.iload 17, 2) := by decide +kernel
theorem dL_law_1032 : decode cL_law 1032 = .ok (.iaload, 1) := by decide +kernel
theorem dL_law_1033 : decode cL_law 1033 = .ok (.goto 5, 3) := by decide +kernel
theorem dL_law_1036 : decode cL_law 1036 = .ok (.bipush (-13), 2) := by decide +kernel
theorem dL_law_1038 : decode cL_law 1038 = .ok (.istore 21, 2) := by decide +kernel
theorem dL_law_1040 : decode cL_law 1040 = .ok (.iload 20, 2) := by decide +kernel
theorem dL_law_1042 : decode cL_law 1042 = .ok (.ifCond .eq 86, 3) := by decide +kernel
theorem dL_law_1045 : decode cL_law 1045 = .ok (.aload 11, 2) := by decide +kernel
theorem dL_law_1047 : decode cL_law 1047 = .ok (.aload 4, 2) := by decide +kernel
theorem dL_law_1049 : decode cL_law 1049 = .ok (.iload 17, 2) := by decide +kernel
theorem dL_law_1051 : decode cL_law 1051 = .ok (.iaload, 1) := by decide +kernel
theorem dL_law_1052 : decode cL_law 1052 = .ok (.dup2, 1) := by decide +kernel
theorem dL_law_1053 : decode cL_law 1053 = .ok (.laload, 1) := by decide +kernel
theorem dL_law_1054 : decode cL_law 1054 = .ok (.aload 6, 2) := by decide +kernel
