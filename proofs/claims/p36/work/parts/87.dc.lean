theorem dL_ends_0 : decode cL_ends 0 = .ok (.aload_n 0, 1) := by decide +kernel
theorem dL_ends_1 : decode cL_ends 1 = .ok (.iload_n 1, 1) := by decide +kernel
theorem dL_ends_2 : decode cL_ends 2 = .ok (.iconst 0, 1) := by decide +kernel
theorem dL_ends_3 : decode cL_ends 3 = .ok (.invokestatic 132, 3) := by decide +kernel
theorem dL_ends_6 : decode cL_ends 6 = .ok (.lstore 4, 2) := by decide +kernel
theorem dL_ends_8 : decode cL_ends 8 = .ok (.aload_n 0, 1) := by decide +kernel
theorem dL_ends_9 : decode cL_ends 9 = .ok (.iload_n 1, 1) := by decide +kernel
theorem dL_ends_10 : decode cL_ends 10 = .ok (.iconst 2, 1) := by decide +kernel
theorem dL_ends_11 : decode cL_ends 11 = .ok (.invokestatic 132, 3) := by decide +kernel
theorem dL_ends_14 : decode cL_ends 14 = .ok (.lstore 6, 2) := by decide +kernel
theorem dL_ends_16 : decode cL_ends 16 = .ok (.aload_n 0, 1) := by decide +kernel
theorem dL_ends_17 : decode cL_ends 17 = .ok (.iload_n 1, 1) := by decide +kernel
theorem dL_ends_18 : decode cL_ends 18 = .ok (.iconst 3, 1) := by decide +kernel
theorem dL_ends_19 : decode cL_ends 19 = .ok (.invokestatic 132, 3) := by decide +kernel
theorem dL_ends_22 : decode cL_ends 22 = .ok (.lstore 8, 2) := by decide +kernel
theorem dL_ends_24 : decode cL_ends 24 = .ok (.aload_n 0, 1) := by decide +kernel
theorem dL_ends_25 : decode cL_ends 25 = .ok (.iload_n 1, 1) := by decide +kernel
theorem dL_ends_26 : decode cL_ends 26 = .ok (.iconst 4, 1) := by decide +kernel
theorem dL_ends_27 : decode cL_ends 27 = .ok (.invokestatic 132, 3) := by decide +kernel
theorem dL_ends_30 : decode cL_ends 30 = .ok (.l2i, 1) := by decide +kernel
theorem dL_ends_31 : decode cL_ends 31 = .ok (.istore 10, 2) := by decide +kernel
theorem dL_ends_33 : decode cL_ends 33 = .ok (.aload_n 0, 1) := by decide +kernel
theorem dL_ends_34 : decode cL_ends 34 = .ok (.iload_n 1, 1) := by decide +kernel
theorem dL_ends_35 : decode cL_ends 35 = .ok (.bipush 8, 2) := by decide +kernel
theorem dL_ends_37 : decode cL_ends 37 = .ok (.invokestatic 132, 3) := by decide +kernel
theorem dL_ends_40 : decode cL_ends 40 = .ok (.lstore 11, 2) := by decide +kernel
theorem dL_ends_42 : decode cL_ends 42 = .ok (.aload_n 0, 1) := by decide +kernel
theorem dL_ends_43 : decode cL_ends 43 = .ok (.iconst 0, 1) := by decide +kernel
theorem dL_ends_44 : decode cL_ends 44 = .ok (.invokestatic 143, 3) := by decide +kernel
theorem dL_ends_47 : decode cL_ends 47 = .ok (.lstore 13, 2) := by decide +kernel
theorem dL_ends_49 : decode cL_ends 49 = .ok (.aload_n 0, 1) := by decide +kernel
theorem dL_ends_50 : decode cL_ends 50 = .ok (.iconst 1, 1) := by decide +kernel
theorem dL_ends_51 : decode cL_ends 51 = .ok (.invokestatic 143, 3) := by decide +kernel
theorem dL_ends_54 : decode cL_ends 54 = .ok (.lstore 15, 2) := by decide +kernel
theorem dL_ends_56 : decode cL_ends 56 = .ok (.iload_n 2, 1) := by decide +kernel
theorem dL_ends_57 : decode cL_ends 57 = .ok (.iconst 2, 1) := by decide +kernel
theorem dL_ends_58 : decode cL_ends 58 = .ok (.if_icmp .ge 108, 3) := by decide +kernel
theorem dL_ends_61 : decode cL_ends 61 = .ok (.aload_n 0, 1) := by decide +kernel
theorem dL_ends_62 : decode cL_ends 62 = .ok (.iload_n 1, 1) := by decide +kernel
theorem dL_ends_63 : decode cL_ends 63 = .ok (.iload 10, 2) := by decide +kernel
theorem dL_ends_65 : decode cL_ends 65 = .ok (.invokestatic 172, 3) := by decide +kernel
theorem dL_ends_68 : decode cL_ends 68 = .ok (.lstore 17, 2) := by decide +kernel
theorem dL_ends_70 : decode cL_ends 70 = .ok (.lload 17, 2) := by decide +kernel
theorem dL_ends_72 : decode cL_ends 72 = .ok (.ldc2_w 25, 3) := by decide +kernel
theorem dL_ends_75 : decode cL_ends 75 = .ok (.lcmp, 1) := by decide +kernel
theorem dL_ends_76 : decode cL_ends 76 = .ok (.ifCond .ne 34, 3) := by decide +kernel
theorem dL_ends_79 : decode cL_ends 79 = .ok (.aload_n 0, 1) := by decide +kernel
theorem dL_ends_80 : decode cL_ends 80 = .ok (.iload_n 1, 1) := by decide +kernel
theorem dL_ends_81 : decode cL_ends 81 = .ok (.iconst 0, 1) := by decide +kernel
theorem dL_ends_82 : decode cL_ends 82 = .ok (.invokestatic 132, 3) := by decide +kernel
theorem dL_ends_85 : decode cL_ends 85 = .ok (.lload 4, 2) := by decide +kernel
theorem dL_ends_87 : decode cL_ends 87 = .ok (.lcmp, 1) := by decide +kernel
theorem dL_ends_88 : decode cL_ends 88 = .ok (.ifCond .ne 18, 3) := by decide +kernel
theorem dL_ends_91 : decode cL_ends 91 = .ok (.aload_n 0, 1) := by decide +kernel
theorem dL_ends_92 : decode cL_ends 92 = .ok (.iconst 0, 1) := by decide +kernel
theorem dL_ends_93 : decode cL_ends 93 = .ok (.invokestatic 143, 3) := by decide +kernel
theorem dL_ends_96 : decode cL_ends 96 = .ok (.lload 13, 2) := by decide +kernel
theorem dL_ends_98 : decode cL_ends 98 = .ok (.lcmp, 1) := by decide +kernel
theorem dL_ends_99 : decode cL_ends 99 = .ok (.ifCond .ne 7, 3) := by decide +kernel
theorem dL_ends_102 : decode cL_ends 102 = .ok (.iconst 1, 1) := by decide +kernel
theorem dL_ends_103 : decode cL_ends 103 = .ok (.goto 62, 3) := by decide +kernel
theorem dL_ends_106 : decode cL_ends 106 = .ok (.iconst 0, 1) := by decide +kernel
theorem dL_ends_107 : decode cL_ends 107 = .ok (.goto 58, 3) := by decide +kernel
theorem dL_ends_110 : decode cL_ends 110 = .ok (.lload 4, 2) := by decide +kernel
theorem dL_ends_112 : decode cL_ends 112 = .ok (.lconst 0, 1) := by decide +kernel
theorem dL_ends_113 : decode cL_ends 113 = .ok (.lcmp, 1) := by decide +kernel
theorem dL_ends_114 : decode cL_ends 114 = .ok (.ifCond .ne 50, 3) := by decide +kernel
theorem dL_ends_117 : decode cL_ends 117 = .ok (.lload 11, 2) := by decide +kernel
theorem dL_ends_119 : decode cL_ends 119 = .ok (.lconst 0, 1) := by decide +kernel
theorem dL_ends_120 : decode cL_ends 120 = .ok (.lcmp, 1) := by decide +kernel
theorem dL_ends_121 : decode cL_ends 121 = .ok (.ifCond .ne 43, 3) := by decide +kernel
theorem dL_ends_124 : decode cL_ends 124 = .ok (.lload 17, 2) := by decide +kernel
theorem dL_ends_126 : decode cL_ends 126 = .ok (.lload 6, 2) := by decide +kernel
theorem dL_ends_128 : decode cL_ends 128 = .ok (.lload 8, 2) := by decide +kernel
theorem dL_ends_130 : decode cL_ends 130 = .ok (.ladd, 1) := by decide +kernel
theorem dL_ends_131 : decode cL_ends 131 = .ok (.lcmp, 1) := by decide +kernel
theorem dL_ends_132 : decode cL_ends 132 = .ok (.ifCond .ne 32, 3) := by decide +kernel
theorem dL_ends_135 : decode cL_ends 135 = .ok (.aload_n 0, 1) := by decide +kernel
theorem dL_ends_136 : decode cL_ends 136 = .ok (.iconst 0, 1) := by decide +kernel
theorem dL_ends_137 : decode cL_ends 137 = .ok (.invokestatic 143, 3) := by decide +kernel
theorem dL_ends_140 : decode cL_ends 140 = .ok (.lload 13, 2) := by decide +kernel
theorem dL_ends_142 : decode cL_ends 142 = .ok (.lload 17, 2) := by decide +kernel
theorem dL_ends_144 : decode cL_ends 144 = .ok (.ladd, 1) := by decide +kernel
theorem dL_ends_145 : decode cL_ends 145 = .ok (.lcmp, 1) := by decide +kernel
theorem dL_ends_146 : decode cL_ends 146 = .ok (.ifCond .ne 18, 3) := by decide +kernel
theorem dL_ends_149 : decode cL_ends 149 = .ok (.aload_n 0, 1) := by decide +kernel
theorem dL_ends_150 : decode cL_ends 150 = .ok (.iload_n 1, 1) := by decide +kernel
theorem dL_ends_151 : decode cL_ends 151 = .ok (.iconst 0, 1) := by decide +kernel
theorem dL_ends_152 : decode cL_ends 152 = .ok (.invokestatic 132, 3) := by decide +kernel
theorem dL_ends_155 : decode cL_ends 155 = .ok (.lconst 1, 1) := by decide +kernel
theorem dL_ends_156 : decode cL_ends 156 = .ok (.lcmp, 1) := by decide +kernel
theorem dL_ends_157 : decode cL_ends 157 = .ok (.ifCond .ne 7, 3) := by decide +kernel
theorem dL_ends_160 : decode cL_ends 160 = .ok (.iconst 1, 1) := by decide +kernel
theorem dL_ends_161 : decode cL_ends 161 = .ok (.goto 4, 3) := by decide +kernel
theorem dL_ends_164 : decode cL_ends 164 = .ok (.iconst 0, 1) := by decide +kernel
theorem dL_ends_165 : decode cL_ends 165 = .ok (.ireturn, 1) := by decide +kernel
theorem dL_ends_166 : decode cL_ends 166 = .ok (.iload_n 2, 1) := by decide +kernel
theorem dL_ends_167 : decode cL_ends 167 = .ok (.iconst 4, 1) := by decide +kernel
theorem dL_ends_168 : decode cL_ends 168 = .ok (.if_icmp .ge 138, 3) := by decide +kernel
theorem dL_ends_171 : decode cL_ends 171 = .ok (.iload_n 3, 1) := by decide +kernel
theorem dL_ends_172 : decode cL_ends 172 = .ok (.i2l, 1) := by decide +kernel
theorem dL_ends_173 : decode cL_ends 173 = .ok (.lload 6, 2) := by decide +kernel
theorem dL_ends_175 : decode cL_ends 175 = .ok (.lrem, 1) := by decide +kernel
theorem dL_ends_176 : decode cL_ends 176 = .ok (.l2i, 1) := by decide +kernel
theorem dL_ends_177 : decode cL_ends 177 = .ok (.istore 17, 2) := by decide +kernel
theorem dL_ends_179 : decode cL_ends 179 = .ok (.aload_n 0, 1) := by decide +kernel
theorem dL_ends_180 : decode cL_ends 180 = .ok (.iload_n 1, 1) := by decide +kernel
theorem dL_ends_181 : decode cL_ends 181 = .ok (.iload 10, 2) := by decide +kernel
theorem dL_ends_183 : decode cL_ends 183 = .ok (.iload 17, 2) := by decide +kernel
theorem dL_ends_185 : decode cL_ends 185 = .ok (.invokestatic 174, 3) := by decide +kernel
theorem dL_ends_188 : decode cL_ends 188 = .ok (.lstore 18, 2) := by decide +kernel
theorem dL_ends_190 : decode cL_ends 190 = .ok (.lload 18, 2) := by decide +kernel
theorem dL_ends_192 : decode cL_ends 192 = .ok (.ldc2_w 25, 3) := by decide +kernel
theorem dL_ends_195 : decode cL_ends 195 = .ok (.lcmp, 1) := by decide +kernel
theorem dL_ends_196 : decode cL_ends 196 = .ok (.ifCond .ne 36, 3) := by decide +kernel
theorem dL_ends_199 : decode cL_ends 199 = .ok (.lload 4, 2) := by decide +kernel
theorem dL_ends_201 : decode cL_ends 201 = .ok (.lconst 0, 1) := by decide +kernel
theorem dL_ends_202 : decode cL_ends 202 = .ok (.lcmp, 1) := by decide +kernel
theorem dL_ends_203 : decode cL_ends 203 = .ok (.ifCond .ne 10, 3) := by decide +kernel
theorem dL_ends_206 : decode cL_ends 206 = .ok (.lload 11, 2) := by decide +kernel
theorem dL_ends_208 : decode cL_ends 208 = .ok (.lconst 0, 1) := by decide +kernel
theorem dL_ends_209 : decode cL_ends 209 = .ok (.lcmp, 1) := by decide +kernel
theorem dL_ends_210 : decode cL_ends 210 = .ok (.ifCond .le 18, 3) := by decide +kernel
theorem dL_ends_213 : decode cL_ends 213 = .ok (.aload_n 0, 1) := by decide +kernel
theorem dL_ends_214 : decode cL_ends 214 = .ok (.iconst 0, 1) := by decide +kernel
theorem dL_ends_215 : decode cL_ends 215 = .ok (.invokestatic 143, 3) := by decide +kernel
theorem dL_ends_218 : decode cL_ends 218 = .ok (.lload 13, 2) := by decide +kernel
theorem dL_ends_220 : decode cL_ends 220 = .ok (.lcmp, 1) := by decide +kernel
theorem dL_ends_221 : decode cL_ends 221 = .ok (.ifCond .ne 7, 3) := by decide +kernel
theorem dL_ends_224 : decode cL_ends 224 = .ok (.iconst 1, 1) := by decide +kernel
theorem dL_ends_225 : decode cL_ends 225 = .ok (.goto 80, 3) := by decide +kernel
theorem dL_ends_228 : decode cL_ends 228 = .ok (.iconst 0, 1) := by decide +kernel
theorem dL_ends_229 : decode cL_ends 229 = .ok (.goto 76, 3) := by decide +kernel
theorem dL_ends_232 : decode cL_ends 232 = .ok (.lload 18, 2) := by decide +kernel
theorem dL_ends_234 : decode cL_ends 234 = .ok (.lload 8, 2) := by decide +kernel
theorem dL_ends_236 : decode cL_ends 236 = .ok (.iload 17, 2) := by decide +kernel
theorem dL_ends_238 : decode cL_ends 238 = .ok (.i2l, 1) := by decide +kernel
theorem dL_ends_239 : decode cL_ends 239 = .ok (.ladd, 1) := by decide +kernel
theorem dL_ends_240 : decode cL_ends 240 = .ok (.lcmp, 1) := by decide +kernel
theorem dL_ends_241 : decode cL_ends 241 = .ok (.ifCond .ne 63, 3) := by decide +kernel
theorem dL_ends_244 : decode cL_ends 244 = .ok (.aload_n 0, 1) := by decide +kernel
theorem dL_ends_245 : decode cL_ends 245 = .ok (.iload_n 1, 1) := by decide +kernel
theorem dL_ends_246 : decode cL_ends 246 = .ok (.iconst 2, 1) := by decide +kernel
theorem dL_ends_247 : decode cL_ends 247 = .ok (.invokestatic 132, 3) := by decide +kernel
theorem dL_ends_250 : decode cL_ends 250 = .ok (.lload 6, 2) := by decide +kernel
theorem dL_ends_252 : decode cL_ends 252 = .ok (.iload 17, 2) := by decide +kernel
theorem dL_ends_254 : decode cL_ends 254 = .ok (.i2l, 1) := by decide +kernel
theorem dL_ends_255 : decode cL_ends 255 = .ok (.lsub, 1) := by decide +kernel
theorem dL_ends_256 : decode cL_ends 256 = .ok (.lcmp, 1) := by decide +kernel
theorem dL_ends_257 : decode cL_ends 257 = .ok (.ifCond .ne 47, 3) := by decide +kernel
theorem dL_ends_260 : decode cL_ends 260 = .ok (.aload_n 0, 1) := by decide +kernel
theorem dL_ends_261 : decode cL_ends 261 = .ok (.iload_n 1, 1) := by decide +kernel
theorem dL_ends_262 : decode cL_ends 262 = .ok (.iconst 3, 1) := by decide +kernel
theorem dL_ends_263 : decode cL_ends 263 = .ok (.invokestatic 132, 3) := by decide +kernel
theorem dL_ends_266 : decode cL_ends 266 = .ok (.lconst 0, 1) := by decide +kernel
theorem dL_ends_267 : decode cL_ends 267 = .ok (.lcmp, 1) := by decide +kernel
theorem dL_ends_268 : decode cL_ends 268 = .ok (.ifCond .ne 36, 3) := by decide +kernel
theorem dL_ends_271 : decode cL_ends 271 = .ok (.aload_n 0, 1) := by decide +kernel
theorem dL_ends_272 : decode cL_ends 272 = .ok (.iload_n 1, 1) := by decide +kernel
theorem dL_ends_273 : decode cL_ends 273 = .ok (.iconst 5, 1) := by decide +kernel
theorem dL_ends_274 : decode cL_ends 274 = .ok (.invokestatic 132, 3) := by decide +kernel
theorem dL_ends_277 : decode cL_ends 277 = .ok (.aload_n 0, 1) := by decide +kernel
theorem dL_ends_278 : decode cL_ends 278 = .ok (.invokevirtual 149, 3) := by decide +kernel
theorem dL_ends_281 : decode cL_ends 281 = .ok (.i2l, 1) := by decide +kernel
theorem dL_ends_282 : decode cL_ends 282 = .ok (.lcmp, 1) := by decide +kernel
theorem dL_ends_283 : decode cL_ends 283 = .ok (.ifCond .ne 21, 3) := by decide +kernel
theorem dL_ends_286 : decode cL_ends 286 = .ok (.aload_n 0, 1) := by decide +kernel
theorem dL_ends_287 : decode cL_ends 287 = .ok (.iconst 0, 1) := by decide +kernel
theorem dL_ends_288 : decode cL_ends 288 = .ok (.invokestatic 143, 3) := by decide +kernel
theorem dL_ends_291 : decode cL_ends 291 = .ok (.lload 13, 2) := by decide +kernel
theorem dL_ends_293 : decode cL_ends 293 = .ok (.lload 18, 2) := by decide +kernel
theorem dL_ends_295 : decode cL_ends 295 = .ok (.ladd, 1) := by decide +kernel
theorem dL_ends_296 : decode cL_ends 296 = .ok (.lcmp, 1) := by decide +kernel
theorem dL_ends_297 : decode cL_ends 297 = .ok (.ifCond .ne 7, 3) := by decide +kernel
theorem dL_ends_300 : decode cL_ends 300 = .ok (.iconst 1, 1) := by decide +kernel
theorem dL_ends_301 : decode cL_ends 301 = .ok (.goto 4, 3) := by decide +kernel
theorem dL_ends_304 : decode cL_ends 304 = .ok (.iconst 0, 1) := by decide +kernel
theorem dL_ends_305 : decode cL_ends 305 = .ok (.ireturn, 1) := by decide +kernel
theorem dL_ends_306 : decode cL_ends 306 = .ok (.iload_n 2, 1) := by decide +kernel
theorem dL_ends_307 : decode cL_ends 307 = .ok (.bipush 7, 2) := by decide +kernel
theorem dL_ends_309 : decode cL_ends 309 = .ok (.if_icmp .ge 320, 3) := by decide +kernel
theorem dL_ends_312 : decode cL_ends 312 = .ok (.aload_n 0, 1) := by decide +kernel
theorem dL_ends_313 : decode cL_ends 313 = .ok (.iload_n 1, 1) := by decide +kernel
theorem dL_ends_314 : decode cL_ends 314 = .ok (.bipush 6, 2) := by decide +kernel
theorem dL_ends_316 : decode cL_ends 316 = .ok (.invokestatic 132, 3) := by decide +kernel
theorem dL_ends_319 : decode cL_ends 319 = .ok (.aload_n 0, 1) := by decide +kernel
theorem dL_ends_320 : decode cL_ends 320 = .ok (.invokevirtual 149, 3) := by decide +kernel
theorem dL_ends_323 : decode cL_ends 323 = .ok (.i2l, 1) := by decide +kernel
theorem dL_ends_324 : decode cL_ends 324 = .ok (.lcmp, 1) := by decide +kernel
theorem dL_ends_325 : decode cL_ends 325 = .ok (.ifCond .ge 7, 3) := by decide +kernel
theorem dL_ends_328 : decode cL_ends 328 = .ok (.iconst 1, 1) := by decide +kernel
theorem dL_ends_329 : decode cL_ends 329 = .ok (.goto 4, 3) := by decide +kernel
theorem dL_ends_332 : decode cL_ends 332 = .ok (.iconst 0, 1) := by decide +kernel
theorem dL_ends_333 : decode cL_ends 333 = .ok (.istore 17, 2) := by decide +kernel
theorem dL_ends_335 : decode cL_ends 335 = .ok (.aload_n 0, 1) := by decide +kernel
theorem dL_ends_336 : decode cL_ends 336 = .ok (.iload_n 1, 1) := by decide +kernel
theorem dL_ends_337 : decode cL_ends 337 = .ok (.bipush 9, 2) := by decide +kernel
theorem dL_ends_339 : decode cL_ends 339 = .ok (.invokestatic 132, 3) := by decide +kernel
theorem dL_ends_342 : decode cL_ends 342 = .ok (.lstore 18, 2) := by decide +kernel
theorem dL_ends_344 : decode cL_ends 344 = .ok (.iload_n 3, 1) := by decide +kernel
theorem dL_ends_345 : decode cL_ends 345 = .ok (.iconst 5, 1) := by decide +kernel
theorem dL_ends_346 : decode cL_ends 346 = .ok (.irem, 1) := by decide +kernel
theorem dL_ends_347 : decode cL_ends 347 = .ok (.ifCond .ne 13, 3) := by decide +kernel
theorem dL_ends_350 : decode cL_ends 350 = .ok (.iload_n 3, 1) := by decide +kernel
theorem dL_ends_351 : decode cL_ends 351 = .ok (.bipush 8, 2) := by decide +kernel
theorem dL_ends_353 : decode cL_ends 353 = .ok (.idiv, 1) := by decide +kernel
theorem dL_ends_354 : decode cL_ends 354 = .ok (.bipush 30, 2) := by decide +kernel
theorem dL_ends_356 : decode cL_ends 356 = .ok (.irem, 1) := by decide +kernel
theorem dL_ends_357 : decode cL_ends 357 = .ok (.goto 11, 3) := by decide +kernel
theorem dL_ends_360 : decode cL_ends 360 = .ok (.iload_n 3, 1) := by decide +kernel
theorem dL_ends_361 : decode cL_ends 361 = .ok (.bipush 8, 2) := by decide +kernel
theorem dL_ends_363 : decode cL_ends 363 = .ok (.idiv, 1) := by decide +kernel
theorem dL_ends_364 : decode cL_ends 364 = .ok (.sipush 4000, 3) := by decide +kernel
theorem dL_ends_367 : decode cL_ends 367 = .ok (.irem, 1) := by decide +kernel
theorem dL_ends_368 : decode cL_ends 368 = .ok (.istore 20, 2) := by decide +kernel
theorem dL_ends_370 : decode cL_ends 370 = .ok (.aload_n 0, 1) := by decide +kernel
theorem dL_ends_371 : decode cL_ends 371 = .ok (.iload_n 1, 1) := by decide +kernel
theorem dL_ends_372 : decode cL_ends 372 = .ok (.iload 20, 2) := by decide +kernel
theorem dL_ends_374 : decode cL_ends 374 = .ok (.invokestatic 197, 3) := by decide +kernel
theorem dL_ends_377 : decode cL_ends 377 = .ok (.lstore 21, 2) := by decide +kernel
theorem dL_ends_379 : decode cL_ends 379 = .ok (.lload 18, 2) := by decide +kernel
theorem dL_ends_381 : decode cL_ends 381 = .ok (.lconst 0, 1) := by decide +kernel
theorem dL_ends_382 : decode cL_ends 382 = .ok (.lcmp, 1) := by decide +kernel
theorem dL_ends_383 : decode cL_ends 383 = .ok (.ifCond .ne 11, 3) := by decide +kernel
theorem dL_ends_386 : decode cL_ends 386 = .ok (.lload 6, 2) := by decide +kernel
theorem dL_ends_388 : decode cL_ends 388 = .ok (.lload 8, 2) := by decide +kernel
theorem dL_ends_390 : decode cL_ends 390 = .ok (.ladd, 1) := by decide +kernel
theorem dL_ends_391 : decode cL_ends 391 = .ok (.goto 16, 3) := by decide +kernel
theorem dL_ends_394 : decode cL_ends 394 = .ok (.lload 18, 2) := by decide +kernel
theorem dL_ends_396 : decode cL_ends 396 = .ok (.lconst 1, 1) := by decide +kernel
theorem dL_ends_397 : decode cL_ends 397 = .ok (.lcmp, 1) := by decide +kernel
theorem dL_ends_398 : decode cL_ends 398 = .ok (.ifCond .ne 8, 3) := by decide +kernel
theorem dL_ends_401 : decode cL_ends 401 = .ok (.lload 6, 2) := by decide +kernel
theorem dL_ends_403 : decode cL_ends 403 = .ok (.goto 4, 3) := by decide +kernel
theorem dL_ends_406 : decode cL_ends 406 = .ok (.lconst 0, 1) := by decide +kernel
theorem dL_ends_407 : decode cL_ends 407 = .ok (.lstore 23, 2) := by decide +kernel
theorem dL_ends_409 : decode cL_ends 409 = .ok (.lload 21, 2) := by decide +kernel
theorem dL_ends_411 : decode cL_ends 411 = .ok (.ldc2_w 25, 3) := by decide +kernel
theorem dL_ends_414 : decode cL_ends 414 = .ok (.lcmp, 1) := by decide +kernel
theorem dL_ends_415 : decode cL_ends 415 = .ok (.ifCond .ne 21, 3) := by decide +kernel
theorem dL_ends_418 : decode cL_ends 418 = .ok (.aload_n 0, 1) := by decide +kernel
theorem dL_ends_419 : decode cL_ends 419 = .ok (.iload_n 1, 1) := by decide +kernel
theorem dL_ends_420 : decode cL_ends 420 = .ok (.iconst 0, 1) := by decide +kernel
theorem dL_ends_421 : decode cL_ends 421 = .ok (.invokestatic 132, 3) := by decide +kernel
theorem dL_ends_424 : decode cL_ends 424 = .ok (.lload 4, 2) := by decide +kernel
theorem dL_ends_426 : decode cL_ends 426 = .ok (.lcmp, 1) := by decide +kernel
theorem dL_ends_427 : decode cL_ends 427 = .ok (.ifCond .ne 7, 3) := by decide +kernel
theorem dL_ends_430 : decode cL_ends 430 = .ok (.iconst 1, 1) := by decide +kernel
theorem dL_ends_431 : decode cL_ends 431 = .ok (.goto 4, 3) := by decide +kernel
theorem dL_ends_434 : decode cL_ends 434 = .ok (.iconst 0, 1) := by decide +kernel
theorem dL_ends_435 : decode cL_ends 435 = .ok (.ireturn, 1) := by decide +kernel
theorem dL_ends_436 : decode cL_ends 436 = .ok (.lload 4, 2) := by decide +kernel
theorem dL_ends_438 : decode cL_ends 438 = .ok (.lconst 0, 1) := by decide +kernel
theorem dL_ends_439 : decode cL_ends 439 = .ok (.lcmp, 1) := by decide +kernel
theorem dL_ends_440 : decode cL_ends 440 = .ok (.ifCond .ne 19, 3) := by decide +kernel
theorem dL_ends_443 : decode cL_ends 443 = .ok (.lload 11, 2) := by decide +kernel
theorem dL_ends_445 : decode cL_ends 445 = .ok (.lconst 0, 1) := by decide +kernel
theorem dL_ends_446 : decode cL_ends 446 = .ok (.lcmp, 1) := by decide +kernel
theorem dL_ends_447 : decode cL_ends 447 = .ok (.ifCond .ne 12, 3) := by decide +kernel
theorem dL_ends_450 : decode cL_ends 450 = .ok (.iload 17, 2) := by decide +kernel
theorem dL_ends_452 : decode cL_ends 452 = .ok (.ifCond .eq 7, 3) := by decide +kernel
theorem dL_ends_455 : decode cL_ends 455 = .ok (.iconst 1, 1) := by decide +kernel
theorem dL_ends_456 : decode cL_ends 456 = .ok (.goto 4, 3) := by decide +kernel
theorem dL_ends_459 : decode cL_ends 459 = .ok (.iconst 0, 1) := by decide +kernel
theorem dL_ends_460 : decode cL_ends 460 = .ok (.istore 25, 2) := by decide +kernel
theorem dL_ends_462 : decode cL_ends 462 = .ok (.iload 20, 2) := by decide +kernel
theorem dL_ends_464 : decode cL_ends 464 = .ok (.i2l, 1) := by decide +kernel
theorem dL_ends_465 : decode cL_ends 465 = .ok (.lload 23, 2) := by decide +kernel
theorem dL_ends_467 : decode cL_ends 467 = .ok (.lcmp, 1) := by decide +kernel
theorem dL_ends_468 : decode cL_ends 468 = .ok (.ifCond .ge 49, 3) := by decide +kernel
theorem dL_ends_471 : decode cL_ends 471 = .ok (.iload 25, 2) := by decide +kernel
theorem dL_ends_473 : decode cL_ends 473 = .ok (.ifCond .eq 42, 3) := by decide +kernel
theorem dL_ends_476 : decode cL_ends 476 = .ok (.lload 21, 2) := by decide +kernel
theorem dL_ends_478 : decode cL_ends 478 = .ok (.ldc2_w 211, 3) := by decide +kernel
theorem dL_ends_481 : decode cL_ends 481 = .ok (.lcmp, 1) := by decide +kernel
theorem dL_ends_482 : decode cL_ends 482 = .ok (.ifCond .ne 33, 3) := by decide +kernel
theorem dL_ends_485 : decode cL_ends 485 = .ok (.aload_n 0, 1) := by decide +kernel
theorem dL_ends_486 : decode cL_ends 486 = .ok (.iload_n 1, 1) := by decide +kernel
theorem dL_ends_487 : decode cL_ends 487 = .ok (.bipush 9, 2) := by decide +kernel
theorem dL_ends_489 : decode cL_ends 489 = .ok (.invokestatic 132, 3) := by decide +kernel
theorem dL_ends_492 : decode cL_ends 492 = .ok (.lload 18, 2) := by decide +kernel
theorem dL_ends_494 : decode cL_ends 494 = .ok (.lconst 1, 1) := by decide +kernel
theorem dL_ends_495 : decode cL_ends 495 = .ok (.ladd, 1) := by decide +kernel
theorem dL_ends_496 : decode cL_ends 496 = .ok (.lcmp, 1) := by decide +kernel
theorem dL_ends_497 : decode cL_ends 497 = .ok (.ifCond .ne 18, 3) := by decide +kernel
theorem dL_ends_500 : decode cL_ends 500 = .ok (.aload_n 0, 1) := by decide +kernel
theorem dL_ends_501 : decode cL_ends 501 = .ok (.iconst 0, 1) := by decide +kernel
theorem dL_ends_502 : decode cL_ends 502 = .ok (.invokestatic 143, 3) := by decide +kernel
theorem dL_ends_505 : decode cL_ends 505 = .ok (.lload 13, 2) := by decide +kernel
theorem dL_ends_507 : decode cL_ends 507 = .ok (.lcmp, 1) := by decide +kernel
theorem dL_ends_508 : decode cL_ends 508 = .ok (.ifCond .ne 7, 3) := by decide +kernel
theorem dL_ends_511 : decode cL_ends 511 = .ok (.iconst 1, 1) := by decide +kernel
theorem dL_ends_512 : decode cL_ends 512 = .ok (.goto 4, 3) := by decide +kernel
theorem dL_ends_515 : decode cL_ends 515 = .ok (.iconst 0, 1) := by decide +kernel
theorem dL_ends_516 : decode cL_ends 516 = .ok (.ireturn, 1) := by decide +kernel
theorem dL_ends_517 : decode cL_ends 517 = .ok (.iload 25, 2) := by decide +kernel
theorem dL_ends_519 : decode cL_ends 519 = .ok (.ifCond .eq 108, 3) := by decide +kernel
theorem dL_ends_522 : decode cL_ends 522 = .ok (.lload 21, 2) := by decide +kernel
theorem dL_ends_524 : decode cL_ends 524 = .ok (.iload 20, 2) := by decide +kernel
theorem dL_ends_526 : decode cL_ends 526 = .ok (.i2l, 1) := by decide +kernel
theorem dL_ends_527 : decode cL_ends 527 = .ok (.lload 6, 2) := by decide +kernel
theorem dL_ends_529 : decode cL_ends 529 = .ok (.lsub, 1) := by decide +kernel
theorem dL_ends_530 : decode cL_ends 530 = .ok (.lload 8, 2) := by decide +kernel
theorem dL_ends_532 : decode cL_ends 532 = .ok (.lsub, 1) := by decide +kernel
theorem dL_ends_533 : decode cL_ends 533 = .ok (.iconst 5, 1) := by decide +kernel
theorem dL_ends_534 : decode cL_ends 534 = .ok (.iload 20, 2) := by decide +kernel
theorem dL_ends_536 : decode cL_ends 536 = .ok (.imul, 1) := by decide +kernel
theorem dL_ends_537 : decode cL_ends 537 = .ok (.bipush 100, 2) := by decide +kernel
theorem dL_ends_539 : decode cL_ends 539 = .ok (.idiv, 1) := by decide +kernel
theorem dL_ends_540 : decode cL_ends 540 = .ok (.i2l, 1) := by decide +kernel
theorem dL_ends_541 : decode cL_ends 541 = .ok (.lsub, 1) := by decide +kernel
theorem dL_ends_542 : decode cL_ends 542 = .ok (.lcmp, 1) := by decide +kernel
theorem dL_ends_543 : decode cL_ends 543 = .ok (.ifCond .ne 84, 3) := by decide +kernel
theorem dL_ends_546 : decode cL_ends 546 = .ok (.aload_n 0, 1) := by decide +kernel
theorem dL_ends_547 : decode cL_ends 547 = .ok (.iload_n 1, 1) := by decide +kernel
theorem dL_ends_548 : decode cL_ends 548 = .ok (.iconst 0, 1) := by decide +kernel
theorem dL_ends_549 : decode cL_ends 549 = .ok (.invokestatic 132, 3) := by decide +kernel
theorem dL_ends_552 : decode cL_ends 552 = .ok (.ldc2_w 139, 3) := by decide +kernel
theorem dL_ends_555 : decode cL_ends 555 = .ok (.lcmp, 1) := by decide +kernel
theorem dL_ends_556 : decode cL_ends 556 = .ok (.ifCond .ne 71, 3) := by decide +kernel
theorem dL_ends_559 : decode cL_ends 559 = .ok (.aload_n 0, 1) := by decide +kernel
theorem dL_ends_560 : decode cL_ends 560 = .ok (.iconst 0, 1) := by decide +kernel
theorem dL_ends_561 : decode cL_ends 561 = .ok (.invokestatic 143, 3) := by decide +kernel
theorem dL_ends_564 : decode cL_ends 564 = .ok (.lload 13, 2) := by decide +kernel
theorem dL_ends_566 : decode cL_ends 566 = .ok (.iload 20, 2) := by decide +kernel
theorem dL_ends_568 : decode cL_ends 568 = .ok (.i2l, 1) := by decide +kernel
theorem dL_ends_569 : decode cL_ends 569 = .ok (.ladd, 1) := by decide +kernel
theorem dL_ends_570 : decode cL_ends 570 = .ok (.lcmp, 1) := by decide +kernel
theorem dL_ends_571 : decode cL_ends 571 = .ok (.ifCond .ne 56, 3) := by decide +kernel
theorem dL_ends_574 : decode cL_ends 574 = .ok (.aload_n 0, 1) := by decide +kernel
theorem dL_ends_575 : decode cL_ends 575 = .ok (.iconst 1, 1) := by decide +kernel
theorem dL_ends_576 : decode cL_ends 576 = .ok (.invokestatic 143, 3) := by decide +kernel
theorem dL_ends_579 : decode cL_ends 579 = .ok (.lload 15, 2) := by decide +kernel
theorem dL_ends_581 : decode cL_ends 581 = .ok (.lload 21, 2) := by decide +kernel
theorem dL_ends_583 : decode cL_ends 583 = .ok (.lconst 0, 1) := by decide +kernel
theorem dL_ends_584 : decode cL_ends 584 = .ok (.lcmp, 1) := by decide +kernel
theorem dL_ends_585 : decode cL_ends 585 = .ok (.ifCond .le 8, 3) := by decide +kernel
theorem dL_ends_588 : decode cL_ends 588 = .ok (.lload 21, 2) := by decide +kernel
theorem dL_ends_590 : decode cL_ends 590 = .ok (.goto 4, 3) := by decide +kernel
theorem dL_ends_593 : decode cL_ends 593 = .ok (.lconst 0, 1) := by decide +kernel
theorem dL_ends_594 : decode cL_ends 594 = .ok (.ladd, 1) := by decide +kernel
theorem dL_ends_595 : decode cL_ends 595 = .ok (.lcmp, 1) := by decide +kernel
theorem dL_ends_596 : decode cL_ends 596 = .ok (.ifCond .ne 31, 3) := by decide +kernel
theorem dL_ends_599 : decode cL_ends 599 = .ok (.aload_n 0, 1) := by decide +kernel
theorem dL_ends_600 : decode cL_ends 600 = .ok (.iload_n 1, 1) := by decide +kernel
theorem dL_ends_601 : decode cL_ends 601 = .ok (.bipush 7, 2) := by decide +kernel
theorem dL_ends_603 : decode cL_ends 603 = .ok (.invokestatic 132, 3) := by decide +kernel
theorem dL_ends_606 : decode cL_ends 606 = .ok (.lload 21, 2) := by decide +kernel
theorem dL_ends_608 : decode cL_ends 608 = .ok (.lconst 0, 1) := by decide +kernel
theorem dL_ends_609 : decode cL_ends 609 = .ok (.lcmp, 1) := by decide +kernel
theorem dL_ends_610 : decode cL_ends 610 = .ok (.ifCond .le 8, 3) := by decide +kernel
theorem dL_ends_613 : decode cL_ends 613 = .ok (.lload 21, 2) := by decide +kernel
theorem dL_ends_615 : decode cL_ends 615 = .ok (.goto 4, 3) := by decide +kernel
theorem dL_ends_618 : decode cL_ends 618 = .ok (.lconst 0, 1) := by decide +kernel
theorem dL_ends_619 : decode cL_ends 619 = .ok (.lcmp, 1) := by decide +kernel
theorem dL_ends_620 : decode cL_ends 620 = .ok (.ifCond .ne 7, 3) := by decide +kernel
theorem dL_ends_623 : decode cL_ends 623 = .ok (.iconst 1, 1) := by decide +kernel
theorem dL_ends_624 : decode cL_ends 624 = .ok (.goto 4, 3) := by decide +kernel
theorem dL_ends_627 : decode cL_ends 627 = .ok (.iconst 0, 1) := by decide +kernel
theorem dL_ends_628 : decode cL_ends 628 = .ok (.ireturn, 1) := by decide +kernel
theorem dL_ends_629 : decode cL_ends 629 = .ok (.aload_n 0, 1) := by decide +kernel
theorem dL_ends_630 : decode cL_ends 630 = .ok (.iload_n 1, 1) := by decide +kernel
theorem dL_ends_631 : decode cL_ends 631 = .ok (.bipush 7, 2) := by decide +kernel
theorem dL_ends_633 : decode cL_ends 633 = .ok (.invokestatic 132, 3) := by decide +kernel
theorem dL_ends_636 : decode cL_ends 636 = .ok (.lstore 17, 2) := by decide +kernel
theorem dL_ends_638 : decode cL_ends 638 = .ok (.aload_n 0, 1) := by decide +kernel
theorem dL_ends_639 : decode cL_ends 639 = .ok (.iload_n 1, 1) := by decide +kernel
theorem dL_ends_640 : decode cL_ends 640 = .ok (.iload 10, 2) := by decide +kernel
theorem dL_ends_642 : decode cL_ends 642 = .ok (.invokestatic 199, 3) := by decide +kernel
theorem dL_ends_645 : decode cL_ends 645 = .ok (.lstore 19, 2) := by decide +kernel
theorem dL_ends_647 : decode cL_ends 647 = .ok (.lload 17, 2) := by decide +kernel
theorem dL_ends_649 : decode cL_ends 649 = .ok (.lconst 0, 1) := by decide +kernel
theorem dL_ends_650 : decode cL_ends 650 = .ok (.lcmp, 1) := by decide +kernel
theorem dL_ends_651 : decode cL_ends 651 = .ok (.ifCond .eq 10, 3) := by decide +kernel
theorem dL_ends_654 : decode cL_ends 654 = .ok (.lload 11, 2) := by decide +kernel
theorem dL_ends_656 : decode cL_ends 656 = .ok (.lconst 0, 1) := by decide +kernel
theorem dL_ends_657 : decode cL_ends 657 = .ok (.lcmp, 1) := by decide +kernel
theorem dL_ends_658 : decode cL_ends 658 = .ok (.ifCond .le 20, 3) := by decide +kernel
theorem dL_ends_661 : decode cL_ends 661 = .ok (.lload 19, 2) := by decide +kernel
theorem dL_ends_663 : decode cL_ends 663 = .ok (.ldc2_w 25, 3) := by decide +kernel
theorem dL_ends_666 : decode cL_ends 666 = .ok (.lcmp, 1) := by decide +kernel
theorem dL_ends_667 : decode cL_ends 667 = .ok (.ifCond .ne 7, 3) := by decide +kernel
theorem dL_ends_670 : decode cL_ends 670 = .ok (.iconst 1, 1) := by decide +kernel
theorem dL_ends_671 : decode cL_ends 671 = .ok (.goto 62, 3) := by decide +kernel
theorem dL_ends_674 : decode cL_ends 674 = .ok (.iconst 0, 1) := by decide +kernel
theorem dL_ends_675 : decode cL_ends 675 = .ok (.goto 58, 3) := by decide +kernel
theorem dL_ends_678 : decode cL_ends 678 = .ok (.lload 19, 2) := by decide +kernel
theorem dL_ends_680 : decode cL_ends 680 = .ok (.lload 17, 2) := by decide +kernel
theorem dL_ends_682 : decode cL_ends 682 = .ok (.lcmp, 1) := by decide +kernel
theorem dL_ends_683 : decode cL_ends 683 = .ok (.ifCond .ne 49, 3) := by decide +kernel
theorem dL_ends_686 : decode cL_ends 686 = .ok (.aload_n 0, 1) := by decide +kernel
theorem dL_ends_687 : decode cL_ends 687 = .ok (.iconst 0, 1) := by decide +kernel
theorem dL_ends_688 : decode cL_ends 688 = .ok (.invokestatic 143, 3) := by decide +kernel
theorem dL_ends_691 : decode cL_ends 691 = .ok (.lload 13, 2) := by decide +kernel
theorem dL_ends_693 : decode cL_ends 693 = .ok (.lload 19, 2) := by decide +kernel
theorem dL_ends_695 : decode cL_ends 695 = .ok (.lsub, 1) := by decide +kernel
theorem dL_ends_696 : decode cL_ends 696 = .ok (.lcmp, 1) := by decide +kernel
theorem dL_ends_697 : decode cL_ends 697 = .ok (.ifCond .ne 35, 3) := by decide +kernel
theorem dL_ends_700 : decode cL_ends 700 = .ok (.aload_n 0, 1) := by decide +kernel
theorem dL_ends_701 : decode cL_ends 701 = .ok (.iconst 1, 1) := by decide +kernel
theorem dL_ends_702 : decode cL_ends 702 = .ok (.invokestatic 143, 3) := by decide +kernel
theorem dL_ends_705 : decode cL_ends 705 = .ok (.lload 15, 2) := by decide +kernel
theorem dL_ends_707 : decode cL_ends 707 = .ok (.lload 19, 2) := by decide +kernel
theorem dL_ends_709 : decode cL_ends 709 = .ok (.lsub, 1) := by decide +kernel
theorem dL_ends_710 : decode cL_ends 710 = .ok (.lcmp, 1) := by decide +kernel
theorem dL_ends_711 : decode cL_ends 711 = .ok (.ifCond .ne 21, 3) := by decide +kernel
theorem dL_ends_714 : decode cL_ends 714 = .ok (.aload_n 0, 1) := by decide +kernel
theorem dL_ends_715 : decode cL_ends 715 = .ok (.iload_n 1, 1) := by decide +kernel
theorem dL_ends_716 : decode cL_ends 716 = .ok (.iload 10, 2) := by decide +kernel
theorem dL_ends_718 : decode cL_ends 718 = .ok (.invokestatic 199, 3) := by decide +kernel
theorem dL_ends_721 : decode cL_ends 721 = .ok (.ldc2_w 25, 3) := by decide +kernel
theorem dL_ends_724 : decode cL_ends 724 = .ok (.lcmp, 1) := by decide +kernel
theorem dL_ends_725 : decode cL_ends 725 = .ok (.ifCond .ne 7, 3) := by decide +kernel
theorem dL_ends_728 : decode cL_ends 728 = .ok (.iconst 1, 1) := by decide +kernel
theorem dL_ends_729 : decode cL_ends 729 = .ok (.goto 4, 3) := by decide +kernel
theorem dL_ends_732 : decode cL_ends 732 = .ok (.iconst 0, 1) := by decide +kernel
theorem dL_ends_733 : decode cL_ends 733 = .ok (.ireturn, 1) := by decide +kernel
