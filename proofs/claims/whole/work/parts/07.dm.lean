theorem dX7_init_0 : decode cX7_init 0 = .ok (.aload_n 0, 1) := by decide +kernel
theorem dX7_init_1 : decode cX7_init 1 = .ok (.invokespecial 1, 3) := by decide +kernel
theorem dX7_init_4 : decode cX7_init 4 = .ok (.aload_n 0, 1) := by decide +kernel
theorem dX7_init_5 : decode cX7_init 5 = .ok (.bipush 40, 2) := by decide +kernel
theorem dX7_init_7 : decode cX7_init 7 = .ok (.newarray .int, 2) := by decide +kernel
theorem dX7_init_9 : decode cX7_init 9 = .ok (.putfield 7, 3) := by decide +kernel
theorem dX7_init_12 : decode cX7_init 12 = .ok (.aload_n 0, 1) := by decide +kernel
theorem dX7_init_13 : decode cX7_init 13 = .ok (.bipush 40, 2) := by decide +kernel
theorem dX7_init_15 : decode cX7_init 15 = .ok (.newarray .int, 2) := by decide +kernel
theorem dX7_init_17 : decode cX7_init 17 = .ok (.putfield 13, 3) := by decide +kernel
theorem dX7_init_20 : decode cX7_init 20 = .ok (.aload_n 0, 1) := by decide +kernel
theorem dX7_init_21 : decode cX7_init 21 = .ok (.bipush 40, 2) := by decide +kernel
theorem dX7_init_23 : decode cX7_init 23 = .ok (.newarray .int, 2) := by decide +kernel
theorem dX7_init_25 : decode cX7_init 25 = .ok (.putfield 16, 3) := by decide +kernel
theorem dX7_init_28 : decode cX7_init 28 = .ok (.aload_n 0, 1) := by decide +kernel
theorem dX7_init_29 : decode cX7_init 29 = .ok (.bipush 40, 2) := by decide +kernel
theorem dX7_init_31 : decode cX7_init 31 = .ok (.newarray .int, 2) := by decide +kernel
theorem dX7_init_33 : decode cX7_init 33 = .ok (.putfield 19, 3) := by decide +kernel
theorem dX7_init_36 : decode cX7_init 36 = .ok (.aload_n 0, 1) := by decide +kernel
theorem dX7_init_37 : decode cX7_init 37 = .ok (.bipush 40, 2) := by decide +kernel
theorem dX7_init_39 : decode cX7_init 39 = .ok (.newarray .boolean, 2) := by decide +kernel
theorem dX7_init_41 : decode cX7_init 41 = .ok (.putfield 22, 3) := by decide +kernel
theorem dX7_init_44 : decode cX7_init 44 = .ok (.aload_n 0, 1) := by decide +kernel
theorem dX7_init_45 : decode cX7_init 45 = .ok (.bipush 40, 2) := by decide +kernel
theorem dX7_init_47 : decode cX7_init 47 = .ok (.newarray .boolean, 2) := by decide +kernel
theorem dX7_init_49 : decode cX7_init 49 = .ok (.putfield 26, 3) := by decide +kernel
theorem dX7_init_52 : decode cX7_init 52 = .ok (.aload_n 0, 1) := by decide +kernel
theorem dX7_init_53 : decode cX7_init 53 = .ok (.bipush 40, 2) := by decide +kernel
theorem dX7_init_55 : decode cX7_init 55 = .ok (.newarray .int, 2) := by decide +kernel
theorem dX7_init_57 : decode cX7_init 57 = .ok (.putfield 29, 3) := by decide +kernel
theorem dX7_init_60 : decode cX7_init 60 = .ok (.aload_n 0, 1) := by decide +kernel
theorem dX7_init_61 : decode cX7_init 61 = .ok (.bipush 40, 2) := by decide +kernel
theorem dX7_init_63 : decode cX7_init 63 = .ok (.newarray .int, 2) := by decide +kernel
theorem dX7_init_65 : decode cX7_init 65 = .ok (.putfield 32, 3) := by decide +kernel
theorem dX7_init_68 : decode cX7_init 68 = .ok (.aload_n 0, 1) := by decide +kernel
theorem dX7_init_69 : decode cX7_init 69 = .ok (.bipush 40, 2) := by decide +kernel
theorem dX7_init_71 : decode cX7_init 71 = .ok (.newarray .int, 2) := by decide +kernel
theorem dX7_init_73 : decode cX7_init 73 = .ok (.putfield 35, 3) := by decide +kernel
theorem dX7_init_76 : decode cX7_init 76 = .ok (.aload_n 0, 1) := by decide +kernel
theorem dX7_init_77 : decode cX7_init 77 = .ok (.bipush 40, 2) := by decide +kernel
theorem dX7_init_79 : decode cX7_init 79 = .ok (.newarray .int, 2) := by decide +kernel
theorem dX7_init_81 : decode cX7_init 81 = .ok (.putfield 38, 3) := by decide +kernel
theorem dX7_init_84 : decode cX7_init 84 = .ok (.aload_n 0, 1) := by decide +kernel
theorem dX7_init_85 : decode cX7_init 85 = .ok (.iconst 4, 1) := by decide +kernel
theorem dX7_init_86 : decode cX7_init 86 = .ok (.newarray .int, 2) := by decide +kernel
theorem dX7_init_88 : decode cX7_init 88 = .ok (.putfield 41, 3) := by decide +kernel
theorem dX7_init_91 : decode cX7_init 91 = .ok (.aload_n 0, 1) := by decide +kernel
theorem dX7_init_92 : decode cX7_init 92 = .ok (.iconst 4, 1) := by decide +kernel
theorem dX7_init_93 : decode cX7_init 93 = .ok (.newarray .int, 2) := by decide +kernel
theorem dX7_init_95 : decode cX7_init 95 = .ok (.putfield 44, 3) := by decide +kernel
theorem dX7_init_98 : decode cX7_init 98 = .ok (.aload_n 0, 1) := by decide +kernel
theorem dX7_init_99 : decode cX7_init 99 = .ok (.iconst 4, 1) := by decide +kernel
theorem dX7_init_100 : decode cX7_init 100 = .ok (.newarray .int, 2) := by decide +kernel
theorem dX7_init_102 : decode cX7_init 102 = .ok (.putfield 47, 3) := by decide +kernel
theorem dX7_init_105 : decode cX7_init 105 = .ok (.aload_n 0, 1) := by decide +kernel
theorem dX7_init_106 : decode cX7_init 106 = .ok (.iconst 4, 1) := by decide +kernel
theorem dX7_init_107 : decode cX7_init 107 = .ok (.newarray .int, 2) := by decide +kernel
theorem dX7_init_109 : decode cX7_init 109 = .ok (.putfield 50, 3) := by decide +kernel
theorem dX7_init_112 : decode cX7_init 112 = .ok (.aload_n 0, 1) := by decide +kernel
theorem dX7_init_113 : decode cX7_init 113 = .ok (.bipush 10, 2) := by decide +kernel
theorem dX7_init_115 : decode cX7_init 115 = .ok (.newarray .int, 2) := by decide +kernel
theorem dX7_init_117 : decode cX7_init 117 = .ok (.putfield 53, 3) := by decide +kernel
theorem dX7_init_120 : decode cX7_init 120 = .ok (.aload_n 0, 1) := by decide +kernel
theorem dX7_init_121 : decode cX7_init 121 = .ok (.iconst 3, 1) := by decide +kernel
theorem dX7_init_122 : decode cX7_init 122 = .ok (.newarray .int, 2) := by decide +kernel
theorem dX7_init_124 : decode cX7_init 124 = .ok (.putfield 56, 3) := by decide +kernel
theorem dX7_init_127 : decode cX7_init 127 = .ok (.aload_n 0, 1) := by decide +kernel
theorem dX7_init_128 : decode cX7_init 128 = .ok (.iconst 3, 1) := by decide +kernel
theorem dX7_init_129 : decode cX7_init 129 = .ok (.newarray .int, 2) := by decide +kernel
theorem dX7_init_131 : decode cX7_init 131 = .ok (.putfield 59, 3) := by decide +kernel
theorem dX7_init_134 : decode cX7_init 134 = .ok (.aload_n 0, 1) := by decide +kernel
theorem dX7_init_135 : decode cX7_init 135 = .ok (.bipush 30, 2) := by decide +kernel
theorem dX7_init_137 : decode cX7_init 137 = .ok (.newarray .int, 2) := by decide +kernel
theorem dX7_init_139 : decode cX7_init 139 = .ok (.putfield 62, 3) := by decide +kernel
theorem dX7_init_142 : decode cX7_init 142 = .ok (.aload_n 0, 1) := by decide +kernel
theorem dX7_init_143 : decode cX7_init 143 = .ok (.bipush 30, 2) := by decide +kernel
theorem dX7_init_145 : decode cX7_init 145 = .ok (.newarray .int, 2) := by decide +kernel
theorem dX7_init_147 : decode cX7_init 147 = .ok (.putfield 65, 3) := by decide +kernel
theorem dX7_init_150 : decode cX7_init 150 = .ok (.aload_n 0, 1) := by decide +kernel
theorem dX7_init_151 : decode cX7_init 151 = .ok (.bipush 30, 2) := by decide +kernel
theorem dX7_init_153 : decode cX7_init 153 = .ok (.newarray .int, 2) := by decide +kernel
theorem dX7_init_155 : decode cX7_init 155 = .ok (.putfield 68, 3) := by decide +kernel
theorem dX7_init_158 : decode cX7_init 158 = .ok (.aload_n 0, 1) := by decide +kernel
theorem dX7_init_159 : decode cX7_init 159 = .ok (.bipush 10, 2) := by decide +kernel
theorem dX7_init_161 : decode cX7_init 161 = .ok (.newarray .int, 2) := by decide +kernel
theorem dX7_init_163 : decode cX7_init 163 = .ok (.putfield 71, 3) := by decide +kernel
theorem dX7_init_166 : decode cX7_init 166 = .ok (.aload_n 0, 1) := by decide +kernel
theorem dX7_init_167 : decode cX7_init 167 = .ok (.bipush 10, 2) := by decide +kernel
theorem dX7_init_169 : decode cX7_init 169 = .ok (.newarray .int, 2) := by decide +kernel
theorem dX7_init_171 : decode cX7_init 171 = .ok (.putfield 74, 3) := by decide +kernel
theorem dX7_init_174 : decode cX7_init 174 = .ok (.aload_n 0, 1) := by decide +kernel
theorem dX7_init_175 : decode cX7_init 175 = .ok (.bipush 120, 2) := by decide +kernel
theorem dX7_init_177 : decode cX7_init 177 = .ok (.putfield 77, 3) := by decide +kernel
theorem dX7_init_180 : decode cX7_init 180 = .ok (.aload_n 0, 1) := by decide +kernel
theorem dX7_init_181 : decode cX7_init 181 = .ok (.bipush 40, 2) := by decide +kernel
theorem dX7_init_183 : decode cX7_init 183 = .ok (.newarray .int, 2) := by decide +kernel
theorem dX7_init_185 : decode cX7_init 185 = .ok (.putfield 81, 3) := by decide +kernel
theorem dX7_init_188 : decode cX7_init 188 = .ok (.aload_n 0, 1) := by decide +kernel
theorem dX7_init_189 : decode cX7_init 189 = .ok (.bipush 40, 2) := by decide +kernel
theorem dX7_init_191 : decode cX7_init 191 = .ok (.newarray .int, 2) := by decide +kernel
theorem dX7_init_193 : decode cX7_init 193 = .ok (.putfield 84, 3) := by decide +kernel
theorem dX7_init_196 : decode cX7_init 196 = .ok (.aload_n 0, 1) := by decide +kernel
theorem dX7_init_197 : decode cX7_init 197 = .ok (.bipush 40, 2) := by decide +kernel
theorem dX7_init_199 : decode cX7_init 199 = .ok (.newarray .int, 2) := by decide +kernel
theorem dX7_init_201 : decode cX7_init 201 = .ok (.putfield 87, 3) := by decide +kernel
theorem dX7_init_204 : decode cX7_init 204 = .ok (.aload_n 0, 1) := by decide +kernel
theorem dX7_init_205 : decode cX7_init 205 = .ok (.bipush 40, 2) := by decide +kernel
theorem dX7_init_207 : decode cX7_init 207 = .ok (.newarray .int, 2) := by decide +kernel
theorem dX7_init_209 : decode cX7_init 209 = .ok (.putfield 90, 3) := by decide +kernel
theorem dX7_init_212 : decode cX7_init 212 = .ok (.aload_n 0, 1) := by decide +kernel
theorem dX7_init_213 : decode cX7_init 213 = .ok (.bipush 40, 2) := by decide +kernel
theorem dX7_init_215 : decode cX7_init 215 = .ok (.newarray .boolean, 2) := by decide +kernel
theorem dX7_init_217 : decode cX7_init 217 = .ok (.putfield 93, 3) := by decide +kernel
theorem dX7_init_220 : decode cX7_init 220 = .ok (.aload_n 0, 1) := by decide +kernel
theorem dX7_init_221 : decode cX7_init 221 = .ok (.bipush 40, 2) := by decide +kernel
theorem dX7_init_223 : decode cX7_init 223 = .ok (.newarray .int, 2) := by decide +kernel
theorem dX7_init_225 : decode cX7_init 225 = .ok (.putfield 96, 3) := by decide +kernel
theorem dX7_init_228 : decode cX7_init 228 = .ok (.aload_n 0, 1) := by decide +kernel
theorem dX7_init_229 : decode cX7_init 229 = .ok (.bipush 40, 2) := by decide +kernel
theorem dX7_init_231 : decode cX7_init 231 = .ok (.newarray .int, 2) := by decide +kernel
theorem dX7_init_233 : decode cX7_init 233 = .ok (.putfield 99, 3) := by decide +kernel
theorem dX7_init_236 : decode cX7_init 236 = .ok (.aload_n 0, 1) := by decide +kernel
theorem dX7_init_237 : decode cX7_init 237 = .ok (.bipush 40, 2) := by decide +kernel
theorem dX7_init_239 : decode cX7_init 239 = .ok (.newarray .int, 2) := by decide +kernel
theorem dX7_init_241 : decode cX7_init 241 = .ok (.putfield 102, 3) := by decide +kernel
theorem dX7_init_244 : decode cX7_init 244 = .ok (.aload_n 0, 1) := by decide +kernel
theorem dX7_init_245 : decode cX7_init 245 = .ok (.bipush 40, 2) := by decide +kernel
theorem dX7_init_247 : decode cX7_init 247 = .ok (.newarray .int, 2) := by decide +kernel
theorem dX7_init_249 : decode cX7_init 249 = .ok (.putfield 105, 3) := by decide +kernel
theorem dX7_init_252 : decode cX7_init 252 = .ok (.aload_n 0, 1) := by decide +kernel
theorem dX7_init_253 : decode cX7_init 253 = .ok (.bipush 40, 2) := by decide +kernel
theorem dX7_init_255 : decode cX7_init 255 = .ok (.newarray .int, 2) := by decide +kernel
theorem dX7_init_257 : decode cX7_init 257 = .ok (.putfield 108, 3) := by decide +kernel
theorem dX7_init_260 : decode cX7_init 260 = .ok (.aload_n 0, 1) := by decide +kernel
theorem dX7_init_261 : decode cX7_init 261 = .ok (.bipush 40, 2) := by decide +kernel
theorem dX7_init_263 : decode cX7_init 263 = .ok (.newarray .int, 2) := by decide +kernel
theorem dX7_init_265 : decode cX7_init 265 = .ok (.putfield 111, 3) := by decide +kernel
theorem dX7_init_268 : decode cX7_init 268 = .ok (.aload_n 0, 1) := by decide +kernel
theorem dX7_init_269 : decode cX7_init 269 = .ok (.bipush 40, 2) := by decide +kernel
theorem dX7_init_271 : decode cX7_init 271 = .ok (.newarray .int, 2) := by decide +kernel
theorem dX7_init_273 : decode cX7_init 273 = .ok (.putfield 114, 3) := by decide +kernel
theorem dX7_init_276 : decode cX7_init 276 = .ok (.aload_n 0, 1) := by decide +kernel
theorem dX7_init_277 : decode cX7_init 277 = .ok (.bipush 40, 2) := by decide +kernel
theorem dX7_init_279 : decode cX7_init 279 = .ok (.newarray .int, 2) := by decide +kernel
theorem dX7_init_281 : decode cX7_init 281 = .ok (.putfield 117, 3) := by decide +kernel
theorem dX7_init_284 : decode cX7_init 284 = .ok (.aload_n 0, 1) := by decide +kernel
theorem dX7_init_285 : decode cX7_init 285 = .ok (.bipush 40, 2) := by decide +kernel
theorem dX7_init_287 : decode cX7_init 287 = .ok (.newarray .int, 2) := by decide +kernel
theorem dX7_init_289 : decode cX7_init 289 = .ok (.putfield 120, 3) := by decide +kernel
theorem dX7_init_292 : decode cX7_init 292 = .ok (.aload_n 0, 1) := by decide +kernel
theorem dX7_init_293 : decode cX7_init 293 = .ok (.bipush 40, 2) := by decide +kernel
theorem dX7_init_295 : decode cX7_init 295 = .ok (.newarray .int, 2) := by decide +kernel
theorem dX7_init_297 : decode cX7_init 297 = .ok (.putfield 123, 3) := by decide +kernel
theorem dX7_init_300 : decode cX7_init 300 = .ok (.iconst 0, 1) := by decide +kernel
theorem dX7_init_301 : decode cX7_init 301 = .ok (.istore_n 1, 1) := by decide +kernel
theorem dX7_init_302 : decode cX7_init 302 = .ok (.iload_n 1, 1) := by decide +kernel
theorem dX7_init_303 : decode cX7_init 303 = .ok (.iconst 4, 1) := by decide +kernel
theorem dX7_init_304 : decode cX7_init 304 = .ok (.if_icmp .ge 17, 3) := by decide +kernel
theorem dX7_init_307 : decode cX7_init 307 = .ok (.aload_n 0, 1) := by decide +kernel
theorem dX7_init_308 : decode cX7_init 308 = .ok (.getfield 41, 3) := by decide +kernel
theorem dX7_init_311 : decode cX7_init 311 = .ok (.iload_n 1, 1) := by decide +kernel
theorem dX7_init_312 : decode cX7_init 312 = .ok (.bipush 100, 2) := by decide +kernel
theorem dX7_init_314 : decode cX7_init 314 = .ok (.iastore, 1) := by decide +kernel
theorem dX7_init_315 : decode cX7_init 315 = .ok (.iinc 1 1, 3) := by decide +kernel
theorem dX7_init_318 : decode cX7_init 318 = .ok (.goto (-16), 3) := by decide +kernel
theorem dX7_init_321 : decode cX7_init 321 = .ok (.iconst 0, 1) := by decide +kernel
theorem dX7_init_322 : decode cX7_init 322 = .ok (.istore_n 1, 1) := by decide +kernel
theorem dX7_init_323 : decode cX7_init 323 = .ok (.iload_n 1, 1) := by decide +kernel
theorem dX7_init_324 : decode cX7_init 324 = .ok (.iconst 3, 1) := by decide +kernel
theorem dX7_init_325 : decode cX7_init 325 = .ok (.if_icmp .ge 26, 3) := by decide +kernel
theorem dX7_init_328 : decode cX7_init 328 = .ok (.aload_n 0, 1) := by decide +kernel
theorem dX7_init_329 : decode cX7_init 329 = .ok (.getfield 56, 3) := by decide +kernel
theorem dX7_init_332 : decode cX7_init 332 = .ok (.iload_n 1, 1) := by decide +kernel
theorem dX7_init_333 : decode cX7_init 333 = .ok (.bipush 50, 2) := by decide +kernel
theorem dX7_init_335 : decode cX7_init 335 = .ok (.iastore, 1) := by decide +kernel
theorem dX7_init_336 : decode cX7_init 336 = .ok (.aload_n 0, 1) := by decide +kernel
theorem dX7_init_337 : decode cX7_init 337 = .ok (.getfield 59, 3) := by decide +kernel
theorem dX7_init_340 : decode cX7_init 340 = .ok (.iload_n 1, 1) := by decide +kernel
theorem dX7_init_341 : decode cX7_init 341 = .ok (.sipush 1000, 3) := by decide +kernel
theorem dX7_init_344 : decode cX7_init 344 = .ok (.iastore, 1) := by decide +kernel
theorem dX7_init_345 : decode cX7_init 345 = .ok (.iinc 1 1, 3) := by decide +kernel
theorem dX7_init_348 : decode cX7_init 348 = .ok (.goto (-25), 3) := by decide +kernel
theorem dX7_init_351 : decode cX7_init 351 = .ok (.iconst 0, 1) := by decide +kernel
theorem dX7_init_352 : decode cX7_init 352 = .ok (.istore_n 1, 1) := by decide +kernel
theorem dX7_init_353 : decode cX7_init 353 = .ok (.iload_n 1, 1) := by decide +kernel
theorem dX7_init_354 : decode cX7_init 354 = .ok (.bipush 40, 2) := by decide +kernel
theorem dX7_init_356 : decode cX7_init 356 = .ok (.if_icmp .ge 16, 3) := by decide +kernel
theorem dX7_init_359 : decode cX7_init 359 = .ok (.aload_n 0, 1) := by decide +kernel
theorem dX7_init_360 : decode cX7_init 360 = .ok (.getfield 114, 3) := by decide +kernel
theorem dX7_init_363 : decode cX7_init 363 = .ok (.iload_n 1, 1) := by decide +kernel
theorem dX7_init_364 : decode cX7_init 364 = .ok (.iconst (-1), 1) := by decide +kernel
theorem dX7_init_365 : decode cX7_init 365 = .ok (.iastore, 1) := by decide +kernel
theorem dX7_init_366 : decode cX7_init 366 = .ok (.iinc 1 1, 3) := by decide +kernel
theorem dX7_init_369 : decode cX7_init 369 = .ok (.goto (-16), 3) := by decide +kernel
theorem dX7_init_372 : decode cX7_init 372 = .ok (.return_, 1) := by decide +kernel
theorem dX7_thrown_0 : decode cX7_thrown 0 = .ok (.aload_n 0, 1) := by decide +kernel
theorem dX7_thrown_1 : decode cX7_thrown 1 = .ok (.getfield 126, 3) := by decide +kernel
theorem dX7_thrown_4 : decode cX7_thrown 4 = .ok (.ireturn, 1) := by decide +kernel
theorem dX7_refused_0 : decode cX7_refused 0 = .ok (.aload_n 0, 1) := by decide +kernel
theorem dX7_refused_1 : decode cX7_refused 1 = .ok (.iload_n 1, 1) := by decide +kernel
theorem dX7_refused_2 : decode cX7_refused 2 = .ok (.putfield 126, 3) := by decide +kernel
theorem dX7_refused_5 : decode cX7_refused 5 = .ok (.iload_n 1, 1) := by decide +kernel
theorem dX7_refused_6 : decode cX7_refused 6 = .ok (.ifCond .eq 7, 3) := by decide +kernel
theorem dX7_refused_9 : decode cX7_refused 9 = .ok (.iconst 1, 1) := by decide +kernel
theorem dX7_refused_10 : decode cX7_refused 10 = .ok (.goto 4, 3) := by decide +kernel
theorem dX7_refused_13 : decode cX7_refused 13 = .ok (.iconst 0, 1) := by decide +kernel
theorem dX7_refused_14 : decode cX7_refused 14 = .ok (.ireturn, 1) := by decide +kernel
theorem dX7_is_0 : decode cX7_is 0 = .ok (.iload_n 0, 1) := by decide +kernel
theorem dX7_is_1 : decode cX7_is 1 = .ok (.iload_n 1, 1) := by decide +kernel
theorem dX7_is_2 : decode cX7_is 2 = .ok (.if_icmp .lt 12, 3) := by decide +kernel
theorem dX7_is_5 : decode cX7_is 5 = .ok (.iload_n 0, 1) := by decide +kernel
theorem dX7_is_6 : decode cX7_is 6 = .ok (.iload_n 2, 1) := by decide +kernel
theorem dX7_is_7 : decode cX7_is 7 = .ok (.if_icmp .gt 7, 3) := by decide +kernel
theorem dX7_is_10 : decode cX7_is 10 = .ok (.iconst 1, 1) := by decide +kernel
theorem dX7_is_11 : decode cX7_is 11 = .ok (.goto 4, 3) := by decide +kernel
theorem dX7_is_14 : decode cX7_is 14 = .ok (.iconst 0, 1) := by decide +kernel
theorem dX7_is_15 : decode cX7_is 15 = .ok (.ireturn, 1) := by decide +kernel
theorem dX7_isThing_0 : decode cX7_isThing 0 = .ok (.iload_n 1, 1) := by decide +kernel
theorem dX7_isThing_1 : decode cX7_isThing 1 = .ok (.iconst 0, 1) := by decide +kernel
theorem dX7_isThing_2 : decode cX7_isThing 2 = .ok (.aload_n 0, 1) := by decide +kernel
theorem dX7_isThing_3 : decode cX7_isThing 3 = .ok (.getfield 129, 3) := by decide +kernel
theorem dX7_isThing_6 : decode cX7_isThing 6 = .ok (.iconst 1, 1) := by decide +kernel
theorem dX7_isThing_7 : decode cX7_isThing 7 = .ok (.isub, 1) := by decide +kernel
theorem dX7_isThing_8 : decode cX7_isThing 8 = .ok (.invokestatic 132, 3) := by decide +kernel
theorem dX7_isThing_11 : decode cX7_isThing 11 = .ok (.ireturn, 1) := by decide +kernel
theorem dX7_isTicket_0 : decode cX7_isTicket 0 = .ok (.iload_n 1, 1) := by decide +kernel
theorem dX7_isTicket_1 : decode cX7_isTicket 1 = .ok (.iconst 0, 1) := by decide +kernel
theorem dX7_isTicket_2 : decode cX7_isTicket 2 = .ok (.aload_n 0, 1) := by decide +kernel
theorem dX7_isTicket_3 : decode cX7_isTicket 3 = .ok (.getfield 136, 3) := by decide +kernel
theorem dX7_isTicket_6 : decode cX7_isTicket 6 = .ok (.iconst 1, 1) := by decide +kernel
theorem dX7_isTicket_7 : decode cX7_isTicket 7 = .ok (.isub, 1) := by decide +kernel
theorem dX7_isTicket_8 : decode cX7_isTicket 8 = .ok (.invokestatic 132, 3) := by decide +kernel
theorem dX7_isTicket_11 : decode cX7_isTicket 11 = .ok (.ireturn, 1) := by decide +kernel
theorem dX7_isPerson_0 : decode cX7_isPerson 0 = .ok (.iload_n 0, 1) := by decide +kernel
theorem dX7_isPerson_1 : decode cX7_isPerson 1 = .ok (.iconst 0, 1) := by decide +kernel
theorem dX7_isPerson_2 : decode cX7_isPerson 2 = .ok (.bipush 9, 2) := by decide +kernel
theorem dX7_isPerson_4 : decode cX7_isPerson 4 = .ok (.invokestatic 132, 3) := by decide +kernel
theorem dX7_isPerson_7 : decode cX7_isPerson 7 = .ok (.ireturn, 1) := by decide +kernel
theorem dX7_thing_0 : decode cX7_thing 0 = .ok (.iload_n 2, 1) := by decide +kernel
theorem dX7_thing_1 : decode cX7_thing 1 = .ok (.iconst 1, 1) := by decide +kernel
theorem dX7_thing_2 : decode cX7_thing 2 = .ok (.bipush 50, 2) := by decide +kernel
theorem dX7_thing_4 : decode cX7_thing 4 = .ok (.invokestatic 132, 3) := by decide +kernel
theorem dX7_thing_7 : decode cX7_thing 7 = .ok (.ifCond .eq 19, 3) := by decide +kernel
theorem dX7_thing_10 : decode cX7_thing 10 = .ok (.iload_n 3, 1) := by decide +kernel
theorem dX7_thing_11 : decode cX7_thing 11 = .ok (.bipush 10, 2) := by decide +kernel
theorem dX7_thing_13 : decode cX7_thing 13 = .ok (.sipush 10000, 3) := by decide +kernel
theorem dX7_thing_16 : decode cX7_thing 16 = .ok (.invokestatic 132, 3) := by decide +kernel
theorem dX7_thing_19 : decode cX7_thing 19 = .ok (.ifCond .eq 7, 3) := by decide +kernel
theorem dX7_thing_22 : decode cX7_thing 22 = .ok (.iconst 1, 1) := by decide +kernel
theorem dX7_thing_23 : decode cX7_thing 23 = .ok (.goto 4, 3) := by decide +kernel
theorem dX7_thing_26 : decode cX7_thing 26 = .ok (.iconst 0, 1) := by decide +kernel
theorem dX7_thing_27 : decode cX7_thing 27 = .ok (.istore 4, 2) := by decide +kernel
theorem dX7_thing_29 : decode cX7_thing 29 = .ok (.aload_n 0, 1) := by decide +kernel
theorem dX7_thing_30 : decode cX7_thing 30 = .ok (.iload_n 1, 1) := by decide +kernel
theorem dX7_thing_31 : decode cX7_thing 31 = .ok (.iconst 0, 1) := by decide +kernel
theorem dX7_thing_32 : decode cX7_thing 32 = .ok (.iconst 3, 1) := by decide +kernel
theorem dX7_thing_33 : decode cX7_thing 33 = .ok (.invokestatic 132, 3) := by decide +kernel
theorem dX7_thing_36 : decode cX7_thing 36 = .ok (.ifCond .ne 7, 3) := by decide +kernel
theorem dX7_thing_39 : decode cX7_thing 39 = .ok (.iconst 1, 1) := by decide +kernel
theorem dX7_thing_40 : decode cX7_thing 40 = .ok (.goto 26, 3) := by decide +kernel
theorem dX7_thing_43 : decode cX7_thing 43 = .ok (.iload 4, 2) := by decide +kernel
theorem dX7_thing_45 : decode cX7_thing 45 = .ok (.ifCond .ne 7, 3) := by decide +kernel
theorem dX7_thing_48 : decode cX7_thing 48 = .ok (.iconst 2, 1) := by decide +kernel
theorem dX7_thing_49 : decode cX7_thing 49 = .ok (.goto 17, 3) := by decide +kernel
theorem dX7_thing_52 : decode cX7_thing 52 = .ok (.aload_n 0, 1) := by decide +kernel
theorem dX7_thing_53 : decode cX7_thing 53 = .ok (.getfield 129, 3) := by decide +kernel
theorem dX7_thing_56 : decode cX7_thing 56 = .ok (.bipush 40, 2) := by decide +kernel
theorem dX7_thing_58 : decode cX7_thing 58 = .ok (.if_icmp .ne 7, 3) := by decide +kernel
theorem dX7_thing_61 : decode cX7_thing 61 = .ok (.iconst 3, 1) := by decide +kernel
theorem dX7_thing_62 : decode cX7_thing 62 = .ok (.goto 4, 3) := by decide +kernel
theorem dX7_thing_65 : decode cX7_thing 65 = .ok (.iconst 0, 1) := by decide +kernel
theorem dX7_thing_66 : decode cX7_thing 66 = .ok (.invokevirtual 139, 3) := by decide +kernel
theorem dX7_thing_69 : decode cX7_thing 69 = .ok (.ifCond .eq 5, 3) := by decide +kernel
theorem dX7_thing_72 : decode cX7_thing 72 = .ok (.iconst 0, 1) := by decide +kernel
theorem dX7_thing_73 : decode cX7_thing 73 = .ok (.ireturn, 1) := by decide +kernel
theorem dX7_thing_74 : decode cX7_thing 74 = .ok (.aload_n 0, 1) := by decide +kernel
theorem dX7_thing_75 : decode cX7_thing 75 = .ok (.getfield 7, 3) := by decide +kernel
theorem dX7_thing_78 : decode cX7_thing 78 = .ok (.aload_n 0, 1) := by decide +kernel
theorem dX7_thing_79 : decode cX7_thing 79 = .ok (.getfield 129, 3) := by decide +kernel
theorem dX7_thing_82 : decode cX7_thing 82 = .ok (.iload_n 1, 1) := by decide +kernel
theorem dX7_thing_83 : decode cX7_thing 83 = .ok (.iastore, 1) := by decide +kernel
theorem dX7_thing_84 : decode cX7_thing 84 = .ok (.aload_n 0, 1) := by decide +kernel
theorem dX7_thing_85 : decode cX7_thing 85 = .ok (.getfield 13, 3) := by decide +kernel
theorem dX7_thing_88 : decode cX7_thing 88 = .ok (.aload_n 0, 1) := by decide +kernel
theorem dX7_thing_89 : decode cX7_thing 89 = .ok (.getfield 129, 3) := by decide +kernel
theorem dX7_thing_92 : decode cX7_thing 92 = .ok (.iload_n 2, 1) := by decide +kernel
theorem dX7_thing_93 : decode cX7_thing 93 = .ok (.iastore, 1) := by decide +kernel
theorem dX7_thing_94 : decode cX7_thing 94 = .ok (.aload_n 0, 1) := by decide +kernel
theorem dX7_thing_95 : decode cX7_thing 95 = .ok (.getfield 16, 3) := by decide +kernel
theorem dX7_thing_98 : decode cX7_thing 98 = .ok (.aload_n 0, 1) := by decide +kernel
theorem dX7_thing_99 : decode cX7_thing 99 = .ok (.getfield 129, 3) := by decide +kernel
theorem dX7_thing_102 : decode cX7_thing 102 = .ok (.iload_n 3, 1) := by decide +kernel
theorem dX7_thing_103 : decode cX7_thing 103 = .ok (.iastore, 1) := by decide +kernel
theorem dX7_thing_104 : decode cX7_thing 104 = .ok (.aload_n 0, 1) := by decide +kernel
theorem dX7_thing_105 : decode cX7_thing 105 = .ok (.dup, 1) := by decide +kernel
theorem dX7_thing_106 : decode cX7_thing 106 = .ok (.getfield 129, 3) := by decide +kernel
theorem dX7_thing_109 : decode cX7_thing 109 = .ok (.iconst 1, 1) := by decide +kernel
theorem dX7_thing_110 : decode cX7_thing 110 = .ok (.iadd, 1) := by decide +kernel
theorem dX7_thing_111 : decode cX7_thing 111 = .ok (.putfield 129, 3) := by decide +kernel
theorem dX7_thing_114 : decode cX7_thing 114 = .ok (.aload_n 0, 1) := by decide +kernel
theorem dX7_thing_115 : decode cX7_thing 115 = .ok (.getfield 129, 3) := by decide +kernel
theorem dX7_thing_118 : decode cX7_thing 118 = .ok (.iconst 1, 1) := by decide +kernel
theorem dX7_thing_119 : decode cX7_thing 119 = .ok (.isub, 1) := by decide +kernel
theorem dX7_thing_120 : decode cX7_thing 120 = .ok (.ireturn, 1) := by decide +kernel
theorem dX7_valueNow_0 : decode cX7_valueNow 0 = .ok (.aload_n 0, 1) := by decide +kernel
theorem dX7_valueNow_1 : decode cX7_valueNow 1 = .ok (.getfield 16, 3) := by decide +kernel
theorem dX7_valueNow_4 : decode cX7_valueNow 4 = .ok (.iload_n 1, 1) := by decide +kernel
theorem dX7_valueNow_5 : decode cX7_valueNow 5 = .ok (.iaload, 1) := by decide +kernel
theorem dX7_valueNow_6 : decode cX7_valueNow 6 = .ok (.bipush 10, 2) := by decide +kernel
theorem dX7_valueNow_8 : decode cX7_valueNow 8 = .ok (.aload_n 0, 1) := by decide +kernel
theorem dX7_valueNow_9 : decode cX7_valueNow 9 = .ok (.getfield 19, 3) := by decide +kernel
theorem dX7_valueNow_12 : decode cX7_valueNow 12 = .ok (.iload_n 1, 1) := by decide +kernel
theorem dX7_valueNow_13 : decode cX7_valueNow 13 = .ok (.iaload, 1) := by decide +kernel
theorem dX7_valueNow_14 : decode cX7_valueNow 14 = .ok (.isub, 1) := by decide +kernel
theorem dX7_valueNow_15 : decode cX7_valueNow 15 = .ok (.imul, 1) := by decide +kernel
theorem dX7_valueNow_16 : decode cX7_valueNow 16 = .ok (.bipush 10, 2) := by decide +kernel
theorem dX7_valueNow_18 : decode cX7_valueNow 18 = .ok (.idiv, 1) := by decide +kernel
theorem dX7_valueNow_19 : decode cX7_valueNow 19 = .ok (.aload_n 0, 1) := by decide +kernel
theorem dX7_valueNow_20 : decode cX7_valueNow 20 = .ok (.getfield 41, 3) := by decide +kernel
theorem dX7_valueNow_23 : decode cX7_valueNow 23 = .ok (.aload_n 0, 1) := by decide +kernel
theorem dX7_valueNow_24 : decode cX7_valueNow 24 = .ok (.getfield 7, 3) := by decide +kernel
theorem dX7_valueNow_27 : decode cX7_valueNow 27 = .ok (.iload_n 1, 1) := by decide +kernel
theorem dX7_valueNow_28 : decode cX7_valueNow 28 = .ok (.iaload, 1) := by decide +kernel
theorem dX7_valueNow_29 : decode cX7_valueNow 29 = .ok (.iaload, 1) := by decide +kernel
theorem dX7_valueNow_30 : decode cX7_valueNow 30 = .ok (.imul, 1) := by decide +kernel
theorem dX7_valueNow_31 : decode cX7_valueNow 31 = .ok (.bipush 100, 2) := by decide +kernel
theorem dX7_valueNow_33 : decode cX7_valueNow 33 = .ok (.idiv, 1) := by decide +kernel
theorem dX7_valueNow_34 : decode cX7_valueNow 34 = .ok (.ireturn, 1) := by decide +kernel
theorem dX7_fashion_0 : decode cX7_fashion 0 = .ok (.aload_n 0, 1) := by decide +kernel
theorem dX7_fashion_1 : decode cX7_fashion 1 = .ok (.iload_n 1, 1) := by decide +kernel
theorem dX7_fashion_2 : decode cX7_fashion 2 = .ok (.iconst 0, 1) := by decide +kernel
theorem dX7_fashion_3 : decode cX7_fashion 3 = .ok (.iconst 3, 1) := by decide +kernel
theorem dX7_fashion_4 : decode cX7_fashion 4 = .ok (.invokestatic 132, 3) := by decide +kernel
theorem dX7_fashion_7 : decode cX7_fashion 7 = .ok (.ifCond .ne 7, 3) := by decide +kernel
theorem dX7_fashion_10 : decode cX7_fashion 10 = .ok (.iconst 1, 1) := by decide +kernel
theorem dX7_fashion_11 : decode cX7_fashion 11 = .ok (.goto 19, 3) := by decide +kernel
theorem dX7_fashion_14 : decode cX7_fashion 14 = .ok (.iload_n 2, 1) := by decide +kernel
theorem dX7_fashion_15 : decode cX7_fashion 15 = .ok (.iconst 0, 1) := by decide +kernel
theorem dX7_fashion_16 : decode cX7_fashion 16 = .ok (.sipush 200, 3) := by decide +kernel
theorem dX7_fashion_19 : decode cX7_fashion 19 = .ok (.invokestatic 132, 3) := by decide +kernel
theorem dX7_fashion_22 : decode cX7_fashion 22 = .ok (.ifCond .ne 7, 3) := by decide +kernel
theorem dX7_fashion_25 : decode cX7_fashion 25 = .ok (.iconst 2, 1) := by decide +kernel
theorem dX7_fashion_26 : decode cX7_fashion 26 = .ok (.goto 4, 3) := by decide +kernel
theorem dX7_fashion_29 : decode cX7_fashion 29 = .ok (.iconst 0, 1) := by decide +kernel
theorem dX7_fashion_30 : decode cX7_fashion 30 = .ok (.invokevirtual 139, 3) := by decide +kernel
theorem dX7_fashion_33 : decode cX7_fashion 33 = .ok (.ifCond .eq 5, 3) := by decide +kernel
theorem dX7_fashion_36 : decode cX7_fashion 36 = .ok (.iconst 0, 1) := by decide +kernel
theorem dX7_fashion_37 : decode cX7_fashion 37 = .ok (.ireturn, 1) := by decide +kernel
theorem dX7_fashion_38 : decode cX7_fashion 38 = .ok (.aload_n 0, 1) := by decide +kernel
theorem dX7_fashion_39 : decode cX7_fashion 39 = .ok (.getfield 41, 3) := by decide +kernel
theorem dX7_fashion_42 : decode cX7_fashion 42 = .ok (.iload_n 1, 1) := by decide +kernel
theorem dX7_fashion_43 : decode cX7_fashion 43 = .ok (.iaload, 1) := by decide +kernel
theorem dX7_fashion_44 : decode cX7_fashion 44 = .ok (.istore_n 3, 1) := by decide +kernel
theorem dX7_fashion_45 : decode cX7_fashion 45 = .ok (.aload_n 0, 1) := by decide +kernel
theorem dX7_fashion_46 : decode cX7_fashion 46 = .ok (.getfield 41, 3) := by decide +kernel
theorem dX7_fashion_49 : decode cX7_fashion 49 = .ok (.iload_n 1, 1) := by decide +kernel
theorem dX7_fashion_50 : decode cX7_fashion 50 = .ok (.iload_n 2, 1) := by decide +kernel
theorem dX7_fashion_51 : decode cX7_fashion 51 = .ok (.iastore, 1) := by decide +kernel
theorem dX7_fashion_52 : decode cX7_fashion 52 = .ok (.iload_n 3, 1) := by decide +kernel
theorem dX7_fashion_53 : decode cX7_fashion 53 = .ok (.ireturn, 1) := by decide +kernel
theorem dX7_bias_0 : decode cX7_bias 0 = .ok (.aload_n 0, 1) := by decide +kernel
theorem dX7_bias_1 : decode cX7_bias 1 = .ok (.iload_n 1, 1) := by decide +kernel
theorem dX7_bias_2 : decode cX7_bias 2 = .ok (.iconst 0, 1) := by decide +kernel
theorem dX7_bias_3 : decode cX7_bias 3 = .ok (.iconst 3, 1) := by decide +kernel
theorem dX7_bias_4 : decode cX7_bias 4 = .ok (.invokestatic 132, 3) := by decide +kernel
theorem dX7_bias_7 : decode cX7_bias 7 = .ok (.ifCond .ne 7, 3) := by decide +kernel
theorem dX7_bias_10 : decode cX7_bias 10 = .ok (.iconst 1, 1) := by decide +kernel
theorem dX7_bias_11 : decode cX7_bias 11 = .ok (.goto 19, 3) := by decide +kernel
theorem dX7_bias_14 : decode cX7_bias 14 = .ok (.iload_n 2, 1) := by decide +kernel
theorem dX7_bias_15 : decode cX7_bias 15 = .ok (.bipush (-20), 2) := by decide +kernel
theorem dX7_bias_17 : decode cX7_bias 17 = .ok (.bipush 20, 2) := by decide +kernel
theorem dX7_bias_19 : decode cX7_bias 19 = .ok (.invokestatic 132, 3) := by decide +kernel
theorem dX7_bias_22 : decode cX7_bias 22 = .ok (.ifCond .ne 7, 3) := by decide +kernel
theorem dX7_bias_25 : decode cX7_bias 25 = .ok (.iconst 2, 1) := by decide +kernel
theorem dX7_bias_26 : decode cX7_bias 26 = .ok (.goto 4, 3) := by decide +kernel
theorem dX7_bias_29 : decode cX7_bias 29 = .ok (.iconst 0, 1) := by decide +kernel
theorem dX7_bias_30 : decode cX7_bias 30 = .ok (.invokevirtual 139, 3) := by decide +kernel
theorem dX7_bias_33 : decode cX7_bias 33 = .ok (.ifCond .eq 5, 3) := by decide +kernel
theorem dX7_bias_36 : decode cX7_bias 36 = .ok (.iconst 0, 1) := by decide +kernel
theorem dX7_bias_37 : decode cX7_bias 37 = .ok (.ireturn, 1) := by decide +kernel
theorem dX7_bias_38 : decode cX7_bias 38 = .ok (.aload_n 0, 1) := by decide +kernel
theorem dX7_bias_39 : decode cX7_bias 39 = .ok (.getfield 44, 3) := by decide +kernel
theorem dX7_bias_42 : decode cX7_bias 42 = .ok (.iload_n 1, 1) := by decide +kernel
theorem dX7_bias_43 : decode cX7_bias 43 = .ok (.iaload, 1) := by decide +kernel
theorem dX7_bias_44 : decode cX7_bias 44 = .ok (.istore_n 3, 1) := by decide +kernel
theorem dX7_bias_45 : decode cX7_bias 45 = .ok (.aload_n 0, 1) := by decide +kernel
theorem dX7_bias_46 : decode cX7_bias 46 = .ok (.getfield 44, 3) := by decide +kernel
theorem dX7_bias_49 : decode cX7_bias 49 = .ok (.iload_n 1, 1) := by decide +kernel
theorem dX7_bias_50 : decode cX7_bias 50 = .ok (.iload_n 2, 1) := by decide +kernel
theorem dX7_bias_51 : decode cX7_bias 51 = .ok (.iastore, 1) := by decide +kernel
theorem dX7_bias_52 : decode cX7_bias 52 = .ok (.iload_n 3, 1) := by decide +kernel
theorem dX7_bias_53 : decode cX7_bias 53 = .ok (.ireturn, 1) := by decide +kernel
theorem dX7_classOf_0 : decode cX7_classOf 0 = .ok (.aload_n 0, 1) := by decide +kernel
theorem dX7_classOf_1 : decode cX7_classOf 1 = .ok (.iload_n 1, 1) := by decide +kernel
theorem dX7_classOf_2 : decode cX7_classOf 2 = .ok (.invokestatic 143, 3) := by decide +kernel
theorem dX7_classOf_5 : decode cX7_classOf 5 = .ok (.ifCond .eq 16, 3) := by decide +kernel
theorem dX7_classOf_8 : decode cX7_classOf 8 = .ok (.iload_n 2, 1) := by decide +kernel
theorem dX7_classOf_9 : decode cX7_classOf 9 = .ok (.iconst 0, 1) := by decide +kernel
theorem dX7_classOf_10 : decode cX7_classOf 10 = .ok (.iconst 2, 1) := by decide +kernel
theorem dX7_classOf_11 : decode cX7_classOf 11 = .ok (.invokestatic 132, 3) := by decide +kernel
theorem dX7_classOf_14 : decode cX7_classOf 14 = .ok (.ifCond .eq 7, 3) := by decide +kernel
theorem dX7_classOf_17 : decode cX7_classOf 17 = .ok (.iconst 0, 1) := by decide +kernel
theorem dX7_classOf_18 : decode cX7_classOf 18 = .ok (.goto 4, 3) := by decide +kernel
theorem dX7_classOf_21 : decode cX7_classOf 21 = .ok (.iconst 1, 1) := by decide +kernel
theorem dX7_classOf_22 : decode cX7_classOf 22 = .ok (.invokevirtual 139, 3) := by decide +kernel
theorem dX7_classOf_25 : decode cX7_classOf 25 = .ok (.ifCond .eq 5, 3) := by decide +kernel
theorem dX7_classOf_28 : decode cX7_classOf 28 = .ok (.iconst 0, 1) := by decide +kernel
theorem dX7_classOf_29 : decode cX7_classOf 29 = .ok (.ireturn, 1) := by decide +kernel
theorem dX7_classOf_30 : decode cX7_classOf 30 = .ok (.aload_n 0, 1) := by decide +kernel
theorem dX7_classOf_31 : decode cX7_classOf 31 = .ok (.getfield 53, 3) := by decide +kernel
theorem dX7_classOf_34 : decode cX7_classOf 34 = .ok (.iload_n 1, 1) := by decide +kernel
theorem dX7_classOf_35 : decode cX7_classOf 35 = .ok (.iaload, 1) := by decide +kernel
theorem dX7_classOf_36 : decode cX7_classOf 36 = .ok (.istore_n 3, 1) := by decide +kernel
theorem dX7_classOf_37 : decode cX7_classOf 37 = .ok (.aload_n 0, 1) := by decide +kernel
theorem dX7_classOf_38 : decode cX7_classOf 38 = .ok (.getfield 53, 3) := by decide +kernel
theorem dX7_classOf_41 : decode cX7_classOf 41 = .ok (.iload_n 1, 1) := by decide +kernel
theorem dX7_classOf_42 : decode cX7_classOf 42 = .ok (.iload_n 2, 1) := by decide +kernel
theorem dX7_classOf_43 : decode cX7_classOf 43 = .ok (.iastore, 1) := by decide +kernel
theorem dX7_classOf_44 : decode cX7_classOf 44 = .ok (.iload_n 3, 1) := by decide +kernel
theorem dX7_classOf_45 : decode cX7_classOf 45 = .ok (.ireturn, 1) := by decide +kernel
theorem dX7_charter_0 : decode cX7_charter 0 = .ok (.iload_n 2, 1) := by decide +kernel
theorem dX7_charter_1 : decode cX7_charter 1 = .ok (.bipush 10, 2) := by decide +kernel
theorem dX7_charter_3 : decode cX7_charter 3 = .ok (.bipush 90, 2) := by decide +kernel
theorem dX7_charter_5 : decode cX7_charter 5 = .ok (.invokestatic 132, 3) := by decide +kernel
theorem dX7_charter_8 : decode cX7_charter 8 = .ok (.ifCond .eq 17, 3) := by decide +kernel
theorem dX7_charter_11 : decode cX7_charter 11 = .ok (.iload_n 3, 1) := by decide +kernel
theorem dX7_charter_12 : decode cX7_charter 12 = .ok (.iconst 0, 1) := by decide +kernel
theorem dX7_charter_13 : decode cX7_charter 13 = .ok (.ldc 146, 2) := by decide +kernel
theorem dX7_charter_15 : decode cX7_charter 15 = .ok (.invokestatic 132, 3) := by decide +kernel
theorem dX7_charter_18 : decode cX7_charter 18 = .ok (.ifCond .eq 7, 3) := by decide +kernel
theorem dX7_charter_21 : decode cX7_charter 21 = .ok (.iconst 1, 1) := by decide +kernel
theorem dX7_charter_22 : decode cX7_charter 22 = .ok (.goto 4, 3) := by decide +kernel
theorem dX7_charter_25 : decode cX7_charter 25 = .ok (.iconst 0, 1) := by decide +kernel
theorem dX7_charter_26 : decode cX7_charter 26 = .ok (.istore 4, 2) := by decide +kernel
theorem dX7_charter_28 : decode cX7_charter 28 = .ok (.aload_n 0, 1) := by decide +kernel
theorem dX7_charter_29 : decode cX7_charter 29 = .ok (.iload_n 1, 1) := by decide +kernel
theorem dX7_charter_30 : decode cX7_charter 30 = .ok (.iconst 0, 1) := by decide +kernel
theorem dX7_charter_31 : decode cX7_charter 31 = .ok (.iconst 2, 1) := by decide +kernel
theorem dX7_charter_32 : decode cX7_charter 32 = .ok (.invokestatic 132, 3) := by decide +kernel
theorem dX7_charter_35 : decode cX7_charter 35 = .ok (.ifCond .ne 7, 3) := by decide +kernel
theorem dX7_charter_38 : decode cX7_charter 38 = .ok (.iconst 1, 1) := by decide +kernel
theorem dX7_charter_39 : decode cX7_charter 39 = .ok (.goto 13, 3) := by decide +kernel
theorem dX7_charter_42 : decode cX7_charter 42 = .ok (.iload 4, 2) := by decide +kernel
theorem dX7_charter_44 : decode cX7_charter 44 = .ok (.ifCond .ne 7, 3) := by decide +kernel
theorem dX7_charter_47 : decode cX7_charter 47 = .ok (.iconst 2, 1) := by decide +kernel
theorem dX7_charter_48 : decode cX7_charter 48 = .ok (.goto 4, 3) := by decide +kernel
theorem dX7_charter_51 : decode cX7_charter 51 = .ok (.iconst 0, 1) := by decide +kernel
theorem dX7_charter_52 : decode cX7_charter 52 = .ok (.invokevirtual 139, 3) := by decide +kernel
theorem dX7_charter_55 : decode cX7_charter 55 = .ok (.ifCond .ne 17, 3) := by decide +kernel
theorem dX7_charter_58 : decode cX7_charter 58 = .ok (.aload_n 0, 1) := by decide +kernel
theorem dX7_charter_59 : decode cX7_charter 59 = .ok (.getfield 56, 3) := by decide +kernel
theorem dX7_charter_62 : decode cX7_charter 62 = .ok (.iload_n 1, 1) := by decide +kernel
theorem dX7_charter_63 : decode cX7_charter 63 = .ok (.iload_n 2, 1) := by decide +kernel
theorem dX7_charter_64 : decode cX7_charter 64 = .ok (.iastore, 1) := by decide +kernel
theorem dX7_charter_65 : decode cX7_charter 65 = .ok (.aload_n 0, 1) := by decide +kernel
theorem dX7_charter_66 : decode cX7_charter 66 = .ok (.getfield 59, 3) := by decide +kernel
theorem dX7_charter_69 : decode cX7_charter 69 = .ok (.iload_n 1, 1) := by decide +kernel
theorem dX7_charter_70 : decode cX7_charter 70 = .ok (.iload_n 3, 1) := by decide +kernel
theorem dX7_charter_71 : decode cX7_charter 71 = .ok (.iastore, 1) := by decide +kernel
theorem dX7_charter_72 : decode cX7_charter 72 = .ok (.return_, 1) := by decide +kernel
theorem dX7_rateOn_0 : decode cX7_rateOn 0 = .ok (.bipush 10, 2) := by decide +kernel
theorem dX7_rateOn_2 : decode cX7_rateOn 2 = .ok (.iconst 5, 1) := by decide +kernel
theorem dX7_rateOn_3 : decode cX7_rateOn 3 = .ok (.iload_n 1, 1) := by decide +kernel
theorem dX7_rateOn_4 : decode cX7_rateOn 4 = .ok (.imul, 1) := by decide +kernel
theorem dX7_rateOn_5 : decode cX7_rateOn 5 = .ok (.iadd, 1) := by decide +kernel
theorem dX7_rateOn_6 : decode cX7_rateOn 6 = .ok (.istore_n 3, 1) := by decide +kernel
theorem dX7_rateOn_7 : decode cX7_rateOn 7 = .ok (.iconst 0, 1) := by decide +kernel
theorem dX7_rateOn_8 : decode cX7_rateOn 8 = .ok (.istore 4, 2) := by decide +kernel
theorem dX7_rateOn_10 : decode cX7_rateOn 10 = .ok (.iload 4, 2) := by decide +kernel
theorem dX7_rateOn_12 : decode cX7_rateOn 12 = .ok (.aload_n 0, 1) := by decide +kernel
theorem dX7_rateOn_13 : decode cX7_rateOn 13 = .ok (.getfield 147, 3) := by decide +kernel
theorem dX7_rateOn_16 : decode cX7_rateOn 16 = .ok (.if_icmp .ge 43, 3) := by decide +kernel
theorem dX7_rateOn_19 : decode cX7_rateOn 19 = .ok (.aload_n 0, 1) := by decide +kernel
theorem dX7_rateOn_20 : decode cX7_rateOn 20 = .ok (.getfield 62, 3) := by decide +kernel
theorem dX7_rateOn_23 : decode cX7_rateOn 23 = .ok (.iload 4, 2) := by decide +kernel
theorem dX7_rateOn_25 : decode cX7_rateOn 25 = .ok (.iaload, 1) := by decide +kernel
theorem dX7_rateOn_26 : decode cX7_rateOn 26 = .ok (.iload_n 1, 1) := by decide +kernel
theorem dX7_rateOn_27 : decode cX7_rateOn 27 = .ok (.if_icmp .ne 24, 3) := by decide +kernel
theorem dX7_rateOn_30 : decode cX7_rateOn 30 = .ok (.aload_n 0, 1) := by decide +kernel
theorem dX7_rateOn_31 : decode cX7_rateOn 31 = .ok (.getfield 65, 3) := by decide +kernel
theorem dX7_rateOn_34 : decode cX7_rateOn 34 = .ok (.iload 4, 2) := by decide +kernel
theorem dX7_rateOn_36 : decode cX7_rateOn 36 = .ok (.iaload, 1) := by decide +kernel
theorem dX7_rateOn_37 : decode cX7_rateOn 37 = .ok (.iload_n 2, 1) := by decide +kernel
theorem dX7_rateOn_38 : decode cX7_rateOn 38 = .ok (.if_icmp .gt 13, 3) := by decide +kernel
theorem dX7_rateOn_41 : decode cX7_rateOn 41 = .ok (.aload_n 0, 1) := by decide +kernel
theorem dX7_rateOn_42 : decode cX7_rateOn 42 = .ok (.getfield 68, 3) := by decide +kernel
theorem dX7_rateOn_45 : decode cX7_rateOn 45 = .ok (.iload 4, 2) := by decide +kernel
theorem dX7_rateOn_47 : decode cX7_rateOn 47 = .ok (.iaload, 1) := by decide +kernel
theorem dX7_rateOn_48 : decode cX7_rateOn 48 = .ok (.goto 4, 3) := by decide +kernel
theorem dX7_rateOn_51 : decode cX7_rateOn 51 = .ok (.iload_n 3, 1) := by decide +kernel
theorem dX7_rateOn_52 : decode cX7_rateOn 52 = .ok (.istore_n 3, 1) := by decide +kernel
theorem dX7_rateOn_53 : decode cX7_rateOn 53 = .ok (.iinc 4 1, 3) := by decide +kernel
theorem dX7_rateOn_56 : decode cX7_rateOn 56 = .ok (.goto (-46), 3) := by decide +kernel
theorem dX7_rateOn_59 : decode cX7_rateOn 59 = .ok (.iload_n 3, 1) := by decide +kernel
theorem dX7_rateOn_60 : decode cX7_rateOn 60 = .ok (.ireturn, 1) := by decide +kernel
theorem dX7_rate_0 : decode cX7_rate 0 = .ok (.aload_n 0, 1) := by decide +kernel
theorem dX7_rate_1 : decode cX7_rate 1 = .ok (.iload_n 1, 1) := by decide +kernel
theorem dX7_rate_2 : decode cX7_rate 2 = .ok (.iconst 0, 1) := by decide +kernel
theorem dX7_rate_3 : decode cX7_rate 3 = .ok (.iconst 2, 1) := by decide +kernel
theorem dX7_rate_4 : decode cX7_rate 4 = .ok (.invokestatic 132, 3) := by decide +kernel
theorem dX7_rate_7 : decode cX7_rate 7 = .ok (.ifCond .ne 7, 3) := by decide +kernel
theorem dX7_rate_10 : decode cX7_rate 10 = .ok (.iconst 1, 1) := by decide +kernel
theorem dX7_rate_11 : decode cX7_rate 11 = .ok (.goto 31, 3) := by decide +kernel
theorem dX7_rate_14 : decode cX7_rate 14 = .ok (.iload_n 2, 1) := by decide +kernel
theorem dX7_rate_15 : decode cX7_rate 15 = .ok (.iconst 0, 1) := by decide +kernel
theorem dX7_rate_16 : decode cX7_rate 16 = .ok (.bipush 100, 2) := by decide +kernel
theorem dX7_rate_18 : decode cX7_rate 18 = .ok (.invokestatic 132, 3) := by decide +kernel
theorem dX7_rate_21 : decode cX7_rate 21 = .ok (.ifCond .ne 7, 3) := by decide +kernel
theorem dX7_rate_24 : decode cX7_rate 24 = .ok (.iconst 2, 1) := by decide +kernel
theorem dX7_rate_25 : decode cX7_rate 25 = .ok (.goto 17, 3) := by decide +kernel
theorem dX7_rate_28 : decode cX7_rate 28 = .ok (.aload_n 0, 1) := by decide +kernel
theorem dX7_rate_29 : decode cX7_rate 29 = .ok (.getfield 147, 3) := by decide +kernel
theorem dX7_rate_32 : decode cX7_rate 32 = .ok (.bipush 30, 2) := by decide +kernel
theorem dX7_rate_34 : decode cX7_rate 34 = .ok (.if_icmp .ne 7, 3) := by decide +kernel
theorem dX7_rate_37 : decode cX7_rate 37 = .ok (.iconst 3, 1) := by decide +kernel
theorem dX7_rate_38 : decode cX7_rate 38 = .ok (.goto 4, 3) := by decide +kernel
theorem dX7_rate_41 : decode cX7_rate 41 = .ok (.iconst 0, 1) := by decide +kernel
theorem dX7_rate_42 : decode cX7_rate 42 = .ok (.invokevirtual 139, 3) := by decide +kernel
theorem dX7_rate_45 : decode cX7_rate 45 = .ok (.ifCond .eq 5, 3) := by decide +kernel
theorem dX7_rate_48 : decode cX7_rate 48 = .ok (.iconst 0, 1) := by decide +kernel
theorem dX7_rate_49 : decode cX7_rate 49 = .ok (.ireturn, 1) := by decide +kernel
theorem dX7_rate_50 : decode cX7_rate 50 = .ok (.aload_n 0, 1) := by decide +kernel
theorem dX7_rate_51 : decode cX7_rate 51 = .ok (.iload_n 1, 1) := by decide +kernel
theorem dX7_rate_52 : decode cX7_rate 52 = .ok (.aload_n 0, 1) := by decide +kernel
theorem dX7_rate_53 : decode cX7_rate 53 = .ok (.getfield 150, 3) := by decide +kernel
theorem dX7_rate_56 : decode cX7_rate 56 = .ok (.invokevirtual 153, 3) := by decide +kernel
theorem dX7_rate_59 : decode cX7_rate 59 = .ok (.istore_n 3, 1) := by decide +kernel
theorem dX7_rate_60 : decode cX7_rate 60 = .ok (.aload_n 0, 1) := by decide +kernel
theorem dX7_rate_61 : decode cX7_rate 61 = .ok (.getfield 62, 3) := by decide +kernel
theorem dX7_rate_64 : decode cX7_rate 64 = .ok (.aload_n 0, 1) := by decide +kernel
theorem dX7_rate_65 : decode cX7_rate 65 = .ok (.getfield 147, 3) := by decide +kernel
theorem dX7_rate_68 : decode cX7_rate 68 = .ok (.iload_n 1, 1) := by decide +kernel
theorem dX7_rate_69 : decode cX7_rate 69 = .ok (.iastore, 1) := by decide +kernel
theorem dX7_rate_70 : decode cX7_rate 70 = .ok (.aload_n 0, 1) := by decide +kernel
theorem dX7_rate_71 : decode cX7_rate 71 = .ok (.getfield 65, 3) := by decide +kernel
theorem dX7_rate_74 : decode cX7_rate 74 = .ok (.aload_n 0, 1) := by decide +kernel
theorem dX7_rate_75 : decode cX7_rate 75 = .ok (.getfield 147, 3) := by decide +kernel
theorem dX7_rate_78 : decode cX7_rate 78 = .ok (.aload_n 0, 1) := by decide +kernel
theorem dX7_rate_79 : decode cX7_rate 79 = .ok (.getfield 150, 3) := by decide +kernel
theorem dX7_rate_82 : decode cX7_rate 82 = .ok (.iastore, 1) := by decide +kernel
theorem dX7_rate_83 : decode cX7_rate 83 = .ok (.aload_n 0, 1) := by decide +kernel
theorem dX7_rate_84 : decode cX7_rate 84 = .ok (.getfield 68, 3) := by decide +kernel
theorem dX7_rate_87 : decode cX7_rate 87 = .ok (.aload_n 0, 1) := by decide +kernel
theorem dX7_rate_88 : decode cX7_rate 88 = .ok (.getfield 147, 3) := by decide +kernel
theorem dX7_rate_91 : decode cX7_rate 91 = .ok (.iload_n 2, 1) := by decide +kernel
theorem dX7_rate_92 : decode cX7_rate 92 = .ok (.iastore, 1) := by decide +kernel
theorem dX7_rate_93 : decode cX7_rate 93 = .ok (.aload_n 0, 1) := by decide +kernel
theorem dX7_rate_94 : decode cX7_rate 94 = .ok (.dup, 1) := by decide +kernel
theorem dX7_rate_95 : decode cX7_rate 95 = .ok (.getfield 147, 3) := by decide +kernel
theorem dX7_rate_98 : decode cX7_rate 98 = .ok (.iconst 1, 1) := by decide +kernel
theorem dX7_rate_99 : decode cX7_rate 99 = .ok (.iadd, 1) := by decide +kernel
theorem dX7_rate_100 : decode cX7_rate 100 = .ok (.putfield 147, 3) := by decide +kernel
theorem dX7_rate_103 : decode cX7_rate 103 = .ok (.iload_n 3, 1) := by decide +kernel
theorem dX7_rate_104 : decode cX7_rate 104 = .ok (.ireturn, 1) := by decide +kernel
theorem dX7_term_0 : decode cX7_term 0 = .ok (.aload_n 0, 1) := by decide +kernel
theorem dX7_term_1 : decode cX7_term 1 = .ok (.iload_n 1, 1) := by decide +kernel
theorem dX7_term_2 : decode cX7_term 2 = .ok (.bipush 14, 2) := by decide +kernel
theorem dX7_term_4 : decode cX7_term 4 = .ok (.sipush 1000, 3) := by decide +kernel
theorem dX7_term_7 : decode cX7_term 7 = .ok (.invokestatic 132, 3) := by decide +kernel
theorem dX7_term_10 : decode cX7_term 10 = .ok (.ifCond .eq 7, 3) := by decide +kernel
theorem dX7_term_13 : decode cX7_term 13 = .ok (.iconst 0, 1) := by decide +kernel
theorem dX7_term_14 : decode cX7_term 14 = .ok (.goto 4, 3) := by decide +kernel
theorem dX7_term_17 : decode cX7_term 17 = .ok (.iconst 1, 1) := by decide +kernel
theorem dX7_term_18 : decode cX7_term 18 = .ok (.invokevirtual 139, 3) := by decide +kernel
theorem dX7_term_21 : decode cX7_term 21 = .ok (.ifCond .eq 5, 3) := by decide +kernel
theorem dX7_term_24 : decode cX7_term 24 = .ok (.iconst 0, 1) := by decide +kernel
theorem dX7_term_25 : decode cX7_term 25 = .ok (.ireturn, 1) := by decide +kernel
theorem dX7_term_26 : decode cX7_term 26 = .ok (.aload_n 0, 1) := by decide +kernel
theorem dX7_term_27 : decode cX7_term 27 = .ok (.getfield 77, 3) := by decide +kernel
theorem dX7_term_30 : decode cX7_term 30 = .ok (.istore_n 2, 1) := by decide +kernel
theorem dX7_term_31 : decode cX7_term 31 = .ok (.aload_n 0, 1) := by decide +kernel
theorem dX7_term_32 : decode cX7_term 32 = .ok (.iload_n 1, 1) := by decide +kernel
theorem dX7_term_33 : decode cX7_term 33 = .ok (.putfield 77, 3) := by decide +kernel
theorem dX7_term_36 : decode cX7_term 36 = .ok (.iload_n 2, 1) := by decide +kernel
theorem dX7_term_37 : decode cX7_term 37 = .ok (.ireturn, 1) := by decide +kernel
theorem dX7_amnesty_0 : decode cX7_amnesty 0 = .ok (.iload_n 1, 1) := by decide +kernel
theorem dX7_amnesty_1 : decode cX7_amnesty 1 = .ok (.iconst 0, 1) := by decide +kernel
theorem dX7_amnesty_2 : decode cX7_amnesty 2 = .ok (.sipush 5000, 3) := by decide +kernel
theorem dX7_amnesty_5 : decode cX7_amnesty 5 = .ok (.invokestatic 132, 3) := by decide +kernel
theorem dX7_amnesty_8 : decode cX7_amnesty 8 = .ok (.ifCond .eq 18, 3) := by decide +kernel
theorem dX7_amnesty_11 : decode cX7_amnesty 11 = .ok (.iload_n 2, 1) := by decide +kernel
theorem dX7_amnesty_12 : decode cX7_amnesty 12 = .ok (.iload_n 1, 1) := by decide +kernel
theorem dX7_amnesty_13 : decode cX7_amnesty 13 = .ok (.sipush 5000, 3) := by decide +kernel
theorem dX7_amnesty_16 : decode cX7_amnesty 16 = .ok (.invokestatic 132, 3) := by decide +kernel
theorem dX7_amnesty_19 : decode cX7_amnesty 19 = .ok (.ifCond .eq 7, 3) := by decide +kernel
theorem dX7_amnesty_22 : decode cX7_amnesty 22 = .ok (.iconst 1, 1) := by decide +kernel
theorem dX7_amnesty_23 : decode cX7_amnesty 23 = .ok (.goto 4, 3) := by decide +kernel
theorem dX7_amnesty_26 : decode cX7_amnesty 26 = .ok (.iconst 0, 1) := by decide +kernel
theorem dX7_amnesty_27 : decode cX7_amnesty 27 = .ok (.istore_n 3, 1) := by decide +kernel
theorem dX7_amnesty_28 : decode cX7_amnesty 28 = .ok (.aload_n 0, 1) := by decide +kernel
theorem dX7_amnesty_29 : decode cX7_amnesty 29 = .ok (.iload_n 3, 1) := by decide +kernel
theorem dX7_amnesty_30 : decode cX7_amnesty 30 = .ok (.ifCond .ne 7, 3) := by decide +kernel
theorem dX7_amnesty_33 : decode cX7_amnesty 33 = .ok (.iconst 1, 1) := by decide +kernel
theorem dX7_amnesty_34 : decode cX7_amnesty 34 = .ok (.goto 17, 3) := by decide +kernel
theorem dX7_amnesty_37 : decode cX7_amnesty 37 = .ok (.aload_n 0, 1) := by decide +kernel
theorem dX7_amnesty_38 : decode cX7_amnesty 38 = .ok (.getfield 157, 3) := by decide +kernel
theorem dX7_amnesty_41 : decode cX7_amnesty 41 = .ok (.bipush 10, 2) := by decide +kernel
theorem dX7_amnesty_43 : decode cX7_amnesty 43 = .ok (.if_icmp .ne 7, 3) := by decide +kernel
theorem dX7_amnesty_46 : decode cX7_amnesty 46 = .ok (.iconst 2, 1) := by decide +kernel
theorem dX7_amnesty_47 : decode cX7_amnesty 47 = .ok (.goto 4, 3) := by decide +kernel
theorem dX7_amnesty_50 : decode cX7_amnesty 50 = .ok (.iconst 0, 1) := by decide +kernel
theorem dX7_amnesty_51 : decode cX7_amnesty 51 = .ok (.invokevirtual 139, 3) := by decide +kernel
theorem dX7_amnesty_54 : decode cX7_amnesty 54 = .ok (.ifCond .eq 5, 3) := by decide +kernel
theorem dX7_amnesty_57 : decode cX7_amnesty 57 = .ok (.iconst 0, 1) := by decide +kernel
theorem dX7_amnesty_58 : decode cX7_amnesty 58 = .ok (.ireturn, 1) := by decide +kernel
theorem dX7_amnesty_59 : decode cX7_amnesty 59 = .ok (.aload_n 0, 1) := by decide +kernel
theorem dX7_amnesty_60 : decode cX7_amnesty 60 = .ok (.getfield 71, 3) := by decide +kernel
theorem dX7_amnesty_63 : decode cX7_amnesty 63 = .ok (.aload_n 0, 1) := by decide +kernel
theorem dX7_amnesty_64 : decode cX7_amnesty 64 = .ok (.getfield 157, 3) := by decide +kernel
theorem dX7_amnesty_67 : decode cX7_amnesty 67 = .ok (.iload_n 1, 1) := by decide +kernel
theorem dX7_amnesty_68 : decode cX7_amnesty 68 = .ok (.iastore, 1) := by decide +kernel
theorem dX7_amnesty_69 : decode cX7_amnesty 69 = .ok (.aload_n 0, 1) := by decide +kernel
theorem dX7_amnesty_70 : decode cX7_amnesty 70 = .ok (.getfield 74, 3) := by decide +kernel
theorem dX7_amnesty_73 : decode cX7_amnesty 73 = .ok (.aload_n 0, 1) := by decide +kernel
theorem dX7_amnesty_74 : decode cX7_amnesty 74 = .ok (.getfield 157, 3) := by decide +kernel
theorem dX7_amnesty_77 : decode cX7_amnesty 77 = .ok (.iload_n 2, 1) := by decide +kernel
theorem dX7_amnesty_78 : decode cX7_amnesty 78 = .ok (.iastore, 1) := by decide +kernel
theorem dX7_amnesty_79 : decode cX7_amnesty 79 = .ok (.aload_n 0, 1) := by decide +kernel
theorem dX7_amnesty_80 : decode cX7_amnesty 80 = .ok (.dup, 1) := by decide +kernel
theorem dX7_amnesty_81 : decode cX7_amnesty 81 = .ok (.getfield 157, 3) := by decide +kernel
theorem dX7_amnesty_84 : decode cX7_amnesty 84 = .ok (.iconst 1, 1) := by decide +kernel
theorem dX7_amnesty_85 : decode cX7_amnesty 85 = .ok (.iadd, 1) := by decide +kernel
theorem dX7_amnesty_86 : decode cX7_amnesty 86 = .ok (.putfield 157, 3) := by decide +kernel
theorem dX7_amnesty_89 : decode cX7_amnesty 89 = .ok (.aload_n 0, 1) := by decide +kernel
theorem dX7_amnesty_90 : decode cX7_amnesty 90 = .ok (.getfield 157, 3) := by decide +kernel
theorem dX7_amnesty_93 : decode cX7_amnesty 93 = .ok (.ireturn, 1) := by decide +kernel
theorem dX7_isFree_0 : decode cX7_isFree 0 = .ok (.iconst 0, 1) := by decide +kernel
theorem dX7_isFree_1 : decode cX7_isFree 1 = .ok (.istore_n 2, 1) := by decide +kernel
theorem dX7_isFree_2 : decode cX7_isFree 2 = .ok (.iconst 0, 1) := by decide +kernel
theorem dX7_isFree_3 : decode cX7_isFree 3 = .ok (.istore_n 3, 1) := by decide +kernel
theorem dX7_isFree_4 : decode cX7_isFree 4 = .ok (.iload_n 3, 1) := by decide +kernel
theorem dX7_isFree_5 : decode cX7_isFree 5 = .ok (.aload_n 0, 1) := by decide +kernel
theorem dX7_isFree_6 : decode cX7_isFree 6 = .ok (.getfield 157, 3) := by decide +kernel
theorem dX7_isFree_9 : decode cX7_isFree 9 = .ok (.if_icmp .ge 39, 3) := by decide +kernel
theorem dX7_isFree_12 : decode cX7_isFree 12 = .ok (.iload_n 2, 1) := by decide +kernel
theorem dX7_isFree_13 : decode cX7_isFree 13 = .ok (.ifCond .ne 23, 3) := by decide +kernel
theorem dX7_isFree_16 : decode cX7_isFree 16 = .ok (.iload_n 1, 1) := by decide +kernel
theorem dX7_isFree_17 : decode cX7_isFree 17 = .ok (.aload_n 0, 1) := by decide +kernel
theorem dX7_isFree_18 : decode cX7_isFree 18 = .ok (.getfield 71, 3) := by decide +kernel
theorem dX7_isFree_21 : decode cX7_isFree 21 = .ok (.iload_n 3, 1) := by decide +kernel
theorem dX7_isFree_22 : decode cX7_isFree 22 = .ok (.iaload, 1) := by decide +kernel
theorem dX7_isFree_23 : decode cX7_isFree 23 = .ok (.if_icmp .lt 17, 3) := by decide +kernel
theorem dX7_isFree_26 : decode cX7_isFree 26 = .ok (.iload_n 1, 1) := by decide +kernel
theorem dX7_isFree_27 : decode cX7_isFree 27 = .ok (.aload_n 0, 1) := by decide +kernel
theorem dX7_isFree_28 : decode cX7_isFree 28 = .ok (.getfield 74, 3) := by decide +kernel
theorem dX7_isFree_31 : decode cX7_isFree 31 = .ok (.iload_n 3, 1) := by decide +kernel
theorem dX7_isFree_32 : decode cX7_isFree 32 = .ok (.iaload, 1) := by decide +kernel
theorem dX7_isFree_33 : decode cX7_isFree 33 = .ok (.if_icmp .gt 7, 3) := by decide +kernel
theorem dX7_isFree_36 : decode cX7_isFree 36 = .ok (.iconst 1, 1) := by decide +kernel
theorem dX7_isFree_37 : decode cX7_isFree 37 = .ok (.goto 4, 3) := by decide +kernel
theorem dX7_isFree_40 : decode cX7_isFree 40 = .ok (.iconst 0, 1) := by decide +kernel
theorem dX7_isFree_41 : decode cX7_isFree 41 = .ok (.istore_n 2, 1) := by decide +kernel
theorem dX7_isFree_42 : decode cX7_isFree 42 = .ok (.iinc 3 1, 3) := by decide +kernel
theorem dX7_isFree_45 : decode cX7_isFree 45 = .ok (.goto (-41), 3) := by decide +kernel
theorem dX7_isFree_48 : decode cX7_isFree 48 = .ok (.iload_n 2, 1) := by decide +kernel
theorem dX7_isFree_49 : decode cX7_isFree 49 = .ok (.ireturn, 1) := by decide +kernel
theorem dX7_interest_0 : decode cX7_interest 0 = .ok (.iconst 0, 1) := by decide +kernel
theorem dX7_interest_1 : decode cX7_interest 1 = .ok (.istore_n 2, 1) := by decide +kernel
theorem dX7_interest_2 : decode cX7_interest 2 = .ok (.aload_n 0, 1) := by decide +kernel
theorem dX7_interest_3 : decode cX7_interest 3 = .ok (.getfield 108, 3) := by decide +kernel
theorem dX7_interest_6 : decode cX7_interest 6 = .ok (.iload_n 1, 1) := by decide +kernel
theorem dX7_interest_7 : decode cX7_interest 7 = .ok (.iaload, 1) := by decide +kernel
theorem dX7_interest_8 : decode cX7_interest 8 = .ok (.ifCond .ne 18, 3) := by decide +kernel
theorem dX7_interest_11 : decode cX7_interest 11 = .ok (.aload_n 0, 1) := by decide +kernel
theorem dX7_interest_12 : decode cX7_interest 12 = .ok (.getfield 150, 3) := by decide +kernel
theorem dX7_interest_15 : decode cX7_interest 15 = .ok (.aload_n 0, 1) := by decide +kernel
theorem dX7_interest_16 : decode cX7_interest 16 = .ok (.getfield 102, 3) := by decide +kernel
theorem dX7_interest_19 : decode cX7_interest 19 = .ok (.iload_n 1, 1) := by decide +kernel
theorem dX7_interest_20 : decode cX7_interest 20 = .ok (.iaload, 1) := by decide +kernel
theorem dX7_interest_21 : decode cX7_interest 21 = .ok (.iconst 3, 1) := by decide +kernel
theorem dX7_interest_22 : decode cX7_interest 22 = .ok (.iadd, 1) := by decide +kernel
theorem dX7_interest_23 : decode cX7_interest 23 = .ok (.if_icmp .gt 5, 3) := by decide +kernel
theorem dX7_interest_26 : decode cX7_interest 26 = .ok (.iconst 0, 1) := by decide +kernel
theorem dX7_interest_27 : decode cX7_interest 27 = .ok (.ireturn, 1) := by decide +kernel
theorem dX7_interest_28 : decode cX7_interest 28 = .ok (.iconst 0, 1) := by decide +kernel
theorem dX7_interest_29 : decode cX7_interest 29 = .ok (.istore_n 3, 1) := by decide +kernel
theorem dX7_interest_30 : decode cX7_interest 30 = .ok (.aload_n 0, 1) := by decide +kernel
theorem dX7_interest_31 : decode cX7_interest 31 = .ok (.getfield 102, 3) := by decide +kernel
theorem dX7_interest_34 : decode cX7_interest 34 = .ok (.iload_n 1, 1) := by decide +kernel
theorem dX7_interest_35 : decode cX7_interest 35 = .ok (.iaload, 1) := by decide +kernel
theorem dX7_interest_36 : decode cX7_interest 36 = .ok (.bipush 14, 2) := by decide +kernel
theorem dX7_interest_38 : decode cX7_interest 38 = .ok (.iload_n 3, 1) := by decide +kernel
theorem dX7_interest_39 : decode cX7_interest 39 = .ok (.imul, 1) := by decide +kernel
theorem dX7_interest_40 : decode cX7_interest 40 = .ok (.iadd, 1) := by decide +kernel
theorem dX7_interest_41 : decode cX7_interest 41 = .ok (.aload_n 0, 1) := by decide +kernel
theorem dX7_interest_42 : decode cX7_interest 42 = .ok (.getfield 150, 3) := by decide +kernel
theorem dX7_interest_45 : decode cX7_interest 45 = .ok (.if_icmp .gt 84, 3) := by decide +kernel
theorem dX7_interest_48 : decode cX7_interest 48 = .ok (.aload_n 0, 1) := by decide +kernel
theorem dX7_interest_49 : decode cX7_interest 49 = .ok (.getfield 102, 3) := by decide +kernel
theorem dX7_interest_52 : decode cX7_interest 52 = .ok (.iload_n 1, 1) := by decide +kernel
theorem dX7_interest_53 : decode cX7_interest 53 = .ok (.iaload, 1) := by decide +kernel
theorem dX7_interest_54 : decode cX7_interest 54 = .ok (.bipush 14, 2) := by decide +kernel
theorem dX7_interest_56 : decode cX7_interest 56 = .ok (.iload_n 3, 1) := by decide +kernel
theorem dX7_interest_57 : decode cX7_interest 57 = .ok (.imul, 1) := by decide +kernel
theorem dX7_interest_58 : decode cX7_interest 58 = .ok (.iadd, 1) := by decide +kernel
theorem dX7_interest_59 : decode cX7_interest 59 = .ok (.istore 4, 2) := by decide +kernel
theorem dX7_interest_61 : decode cX7_interest 61 = .ok (.aload_n 0, 1) := by decide +kernel
theorem dX7_interest_62 : decode cX7_interest 62 = .ok (.iload_n 3, 1) := by decide +kernel
theorem dX7_interest_63 : decode cX7_interest 63 = .ok (.bipush 6, 2) := by decide +kernel
theorem dX7_interest_65 : decode cX7_interest 65 = .ok (.if_icmp .ge 7, 3) := by decide +kernel
theorem dX7_interest_68 : decode cX7_interest 68 = .ok (.iconst 0, 1) := by decide +kernel
theorem dX7_interest_69 : decode cX7_interest 69 = .ok (.goto 14, 3) := by decide +kernel
theorem dX7_interest_72 : decode cX7_interest 72 = .ok (.iload_n 3, 1) := by decide +kernel
theorem dX7_interest_73 : decode cX7_interest 73 = .ok (.bipush 18, 2) := by decide +kernel
theorem dX7_interest_75 : decode cX7_interest 75 = .ok (.if_icmp .ge 7, 3) := by decide +kernel
theorem dX7_interest_78 : decode cX7_interest 78 = .ok (.iconst 1, 1) := by decide +kernel
theorem dX7_interest_79 : decode cX7_interest 79 = .ok (.goto 4, 3) := by decide +kernel
theorem dX7_interest_82 : decode cX7_interest 82 = .ok (.iconst 2, 1) := by decide +kernel
theorem dX7_interest_83 : decode cX7_interest 83 = .ok (.iload 4, 2) := by decide +kernel
theorem dX7_interest_85 : decode cX7_interest 85 = .ok (.invokevirtual 153, 3) := by decide +kernel
theorem dX7_interest_88 : decode cX7_interest 88 = .ok (.istore 5, 2) := by decide +kernel
theorem dX7_interest_90 : decode cX7_interest 90 = .ok (.iload_n 2, 1) := by decide +kernel
theorem dX7_interest_91 : decode cX7_interest 91 = .ok (.aload_n 0, 1) := by decide +kernel
theorem dX7_interest_92 : decode cX7_interest 92 = .ok (.iload 4, 2) := by decide +kernel
theorem dX7_interest_94 : decode cX7_interest 94 = .ok (.invokevirtual 160, 3) := by decide +kernel
theorem dX7_interest_97 : decode cX7_interest 97 = .ok (.ifCond .eq 7, 3) := by decide +kernel
theorem dX7_interest_100 : decode cX7_interest 100 = .ok (.iconst 0, 1) := by decide +kernel
theorem dX7_interest_101 : decode cX7_interest 101 = .ok (.goto 20, 3) := by decide +kernel
theorem dX7_interest_104 : decode cX7_interest 104 = .ok (.aload_n 0, 1) := by decide +kernel
theorem dX7_interest_105 : decode cX7_interest 105 = .ok (.getfield 96, 3) := by decide +kernel
theorem dX7_interest_108 : decode cX7_interest 108 = .ok (.iload_n 1, 1) := by decide +kernel
theorem dX7_interest_109 : decode cX7_interest 109 = .ok (.iaload, 1) := by decide +kernel
theorem dX7_interest_110 : decode cX7_interest 110 = .ok (.iload 5, 2) := by decide +kernel
theorem dX7_interest_112 : decode cX7_interest 112 = .ok (.imul, 1) := by decide +kernel
theorem dX7_interest_113 : decode cX7_interest 113 = .ok (.sipush 999, 3) := by decide +kernel
theorem dX7_interest_116 : decode cX7_interest 116 = .ok (.iadd, 1) := by decide +kernel
theorem dX7_interest_117 : decode cX7_interest 117 = .ok (.sipush 1000, 3) := by decide +kernel
theorem dX7_interest_120 : decode cX7_interest 120 = .ok (.idiv, 1) := by decide +kernel
theorem dX7_interest_121 : decode cX7_interest 121 = .ok (.iadd, 1) := by decide +kernel
theorem dX7_interest_122 : decode cX7_interest 122 = .ok (.istore_n 2, 1) := by decide +kernel
theorem dX7_interest_123 : decode cX7_interest 123 = .ok (.iinc 3 1, 3) := by decide +kernel
theorem dX7_interest_126 : decode cX7_interest 126 = .ok (.goto (-96), 3) := by decide +kernel
theorem dX7_interest_129 : decode cX7_interest 129 = .ok (.iload_n 2, 1) := by decide +kernel
theorem dX7_interest_130 : decode cX7_interest 130 = .ok (.ireturn, 1) := by decide +kernel
theorem dX7_rest_0 : decode cX7_rest 0 = .ok (.bipush 60, 2) := by decide +kernel
theorem dX7_rest_2 : decode cX7_rest 2 = .ok (.istore_n 3, 1) := by decide +kernel
theorem dX7_rest_3 : decode cX7_rest 3 = .ok (.iconst 0, 1) := by decide +kernel
theorem dX7_rest_4 : decode cX7_rest 4 = .ok (.istore 4, 2) := by decide +kernel
theorem dX7_rest_6 : decode cX7_rest 6 = .ok (.iload 4, 2) := by decide +kernel
theorem dX7_rest_8 : decode cX7_rest 8 = .ok (.aload_n 0, 1) := by decide +kernel
theorem dX7_rest_9 : decode cX7_rest 9 = .ok (.getfield 129, 3) := by decide +kernel
theorem dX7_rest_12 : decode cX7_rest 12 = .ok (.if_icmp .ge 50, 3) := by decide +kernel
theorem dX7_rest_15 : decode cX7_rest 15 = .ok (.iload_n 3, 1) := by decide +kernel
theorem dX7_rest_16 : decode cX7_rest 16 = .ok (.aload_n 0, 1) := by decide +kernel
theorem dX7_rest_17 : decode cX7_rest 17 = .ok (.getfield 22, 3) := by decide +kernel
theorem dX7_rest_20 : decode cX7_rest 20 = .ok (.iload 4, 2) := by decide +kernel
theorem dX7_rest_22 : decode cX7_rest 22 = .ok (.baload, 1) := by decide +kernel
theorem dX7_rest_23 : decode cX7_rest 23 = .ok (.ifCond .eq 30, 3) := by decide +kernel
theorem dX7_rest_26 : decode cX7_rest 26 = .ok (.aload_n 0, 1) := by decide +kernel
theorem dX7_rest_27 : decode cX7_rest 27 = .ok (.getfield 32, 3) := by decide +kernel
theorem dX7_rest_30 : decode cX7_rest 30 = .ok (.iload 4, 2) := by decide +kernel
theorem dX7_rest_32 : decode cX7_rest 32 = .ok (.iaload, 1) := by decide +kernel
theorem dX7_rest_33 : decode cX7_rest 33 = .ok (.iload_n 1, 1) := by decide +kernel
theorem dX7_rest_34 : decode cX7_rest 34 = .ok (.if_icmp .ne 19, 3) := by decide +kernel
theorem dX7_rest_37 : decode cX7_rest 37 = .ok (.iload 4, 2) := by decide +kernel
theorem dX7_rest_39 : decode cX7_rest 39 = .ok (.iload_n 2, 1) := by decide +kernel
theorem dX7_rest_40 : decode cX7_rest 40 = .ok (.if_icmp .eq 13, 3) := by decide +kernel
theorem dX7_rest_43 : decode cX7_rest 43 = .ok (.aload_n 0, 1) := by decide +kernel
theorem dX7_rest_44 : decode cX7_rest 44 = .ok (.getfield 13, 3) := by decide +kernel
theorem dX7_rest_47 : decode cX7_rest 47 = .ok (.iload 4, 2) := by decide +kernel
theorem dX7_rest_49 : decode cX7_rest 49 = .ok (.iaload, 1) := by decide +kernel
theorem dX7_rest_50 : decode cX7_rest 50 = .ok (.goto 4, 3) := by decide +kernel
theorem dX7_rest_53 : decode cX7_rest 53 = .ok (.iconst 0, 1) := by decide +kernel
theorem dX7_rest_54 : decode cX7_rest 54 = .ok (.isub, 1) := by decide +kernel
theorem dX7_rest_55 : decode cX7_rest 55 = .ok (.istore_n 3, 1) := by decide +kernel
theorem dX7_rest_56 : decode cX7_rest 56 = .ok (.iinc 4 1, 3) := by decide +kernel
theorem dX7_rest_59 : decode cX7_rest 59 = .ok (.goto (-53), 3) := by decide +kernel
theorem dX7_rest_62 : decode cX7_rest 62 = .ok (.iload_n 3, 1) := by decide +kernel
theorem dX7_rest_63 : decode cX7_rest 63 = .ok (.ireturn, 1) := by decide +kernel
theorem dX7_shelfFor_0 : decode cX7_shelfFor 0 = .ok (.iconst (-1), 1) := by decide +kernel
theorem dX7_shelfFor_1 : decode cX7_shelfFor 1 = .ok (.istore_n 3, 1) := by decide +kernel
theorem dX7_shelfFor_2 : decode cX7_shelfFor 2 = .ok (.iconst 3, 1) := by decide +kernel
theorem dX7_shelfFor_3 : decode cX7_shelfFor 3 = .ok (.istore 4, 2) := by decide +kernel
theorem dX7_shelfFor_5 : decode cX7_shelfFor 5 = .ok (.iload 4, 2) := by decide +kernel
theorem dX7_shelfFor_7 : decode cX7_shelfFor 7 = .ok (.ifCond .le 36, 3) := by decide +kernel
theorem dX7_shelfFor_10 : decode cX7_shelfFor 10 = .ok (.aload_n 0, 1) := by decide +kernel
theorem dX7_shelfFor_11 : decode cX7_shelfFor 11 = .ok (.iconst 4, 1) := by decide +kernel
theorem dX7_shelfFor_12 : decode cX7_shelfFor 12 = .ok (.iload_n 2, 1) := by decide +kernel
theorem dX7_shelfFor_13 : decode cX7_shelfFor 13 = .ok (.imul, 1) := by decide +kernel
theorem dX7_shelfFor_14 : decode cX7_shelfFor 14 = .ok (.iload 4, 2) := by decide +kernel
theorem dX7_shelfFor_16 : decode cX7_shelfFor 16 = .ok (.iadd, 1) := by decide +kernel
theorem dX7_shelfFor_17 : decode cX7_shelfFor 17 = .ok (.iload_n 1, 1) := by decide +kernel
theorem dX7_shelfFor_18 : decode cX7_shelfFor 18 = .ok (.invokevirtual 163, 3) := by decide +kernel
theorem dX7_shelfFor_21 : decode cX7_shelfFor 21 = .ok (.aload_n 0, 1) := by decide +kernel
theorem dX7_shelfFor_22 : decode cX7_shelfFor 22 = .ok (.getfield 13, 3) := by decide +kernel
theorem dX7_shelfFor_25 : decode cX7_shelfFor 25 = .ok (.iload_n 1, 1) := by decide +kernel
theorem dX7_shelfFor_26 : decode cX7_shelfFor 26 = .ok (.iaload, 1) := by decide +kernel
theorem dX7_shelfFor_27 : decode cX7_shelfFor 27 = .ok (.if_icmp .lt 8, 3) := by decide +kernel
theorem dX7_shelfFor_30 : decode cX7_shelfFor 30 = .ok (.iload 4, 2) := by decide +kernel
theorem dX7_shelfFor_32 : decode cX7_shelfFor 32 = .ok (.goto 4, 3) := by decide +kernel
theorem dX7_shelfFor_35 : decode cX7_shelfFor 35 = .ok (.iload_n 3, 1) := by decide +kernel
theorem dX7_shelfFor_36 : decode cX7_shelfFor 36 = .ok (.istore_n 3, 1) := by decide +kernel
theorem dX7_shelfFor_37 : decode cX7_shelfFor 37 = .ok (.iinc 4 (-1), 3) := by decide +kernel
theorem dX7_shelfFor_40 : decode cX7_shelfFor 40 = .ok (.goto (-35), 3) := by decide +kernel
theorem dX7_shelfFor_43 : decode cX7_shelfFor 43 = .ok (.aload_n 0, 1) := by decide +kernel
theorem dX7_shelfFor_44 : decode cX7_shelfFor 44 = .ok (.iconst 4, 1) := by decide +kernel
theorem dX7_shelfFor_45 : decode cX7_shelfFor 45 = .ok (.iload_n 2, 1) := by decide +kernel
theorem dX7_shelfFor_46 : decode cX7_shelfFor 46 = .ok (.imul, 1) := by decide +kernel
theorem dX7_shelfFor_47 : decode cX7_shelfFor 47 = .ok (.iload_n 1, 1) := by decide +kernel
theorem dX7_shelfFor_48 : decode cX7_shelfFor 48 = .ok (.invokevirtual 163, 3) := by decide +kernel
theorem dX7_shelfFor_51 : decode cX7_shelfFor 51 = .ok (.aload_n 0, 1) := by decide +kernel
theorem dX7_shelfFor_52 : decode cX7_shelfFor 52 = .ok (.getfield 13, 3) := by decide +kernel
theorem dX7_shelfFor_55 : decode cX7_shelfFor 55 = .ok (.iload_n 1, 1) := by decide +kernel
theorem dX7_shelfFor_56 : decode cX7_shelfFor 56 = .ok (.iaload, 1) := by decide +kernel
theorem dX7_shelfFor_57 : decode cX7_shelfFor 57 = .ok (.if_icmp .lt 7, 3) := by decide +kernel
theorem dX7_shelfFor_60 : decode cX7_shelfFor 60 = .ok (.iconst 1, 1) := by decide +kernel
theorem dX7_shelfFor_61 : decode cX7_shelfFor 61 = .ok (.goto 4, 3) := by decide +kernel
theorem dX7_shelfFor_64 : decode cX7_shelfFor 64 = .ok (.iconst 0, 1) := by decide +kernel
theorem dX7_shelfFor_65 : decode cX7_shelfFor 65 = .ok (.istore 4, 2) := by decide +kernel
theorem dX7_shelfFor_67 : decode cX7_shelfFor 67 = .ok (.iload 4, 2) := by decide +kernel
theorem dX7_shelfFor_69 : decode cX7_shelfFor 69 = .ok (.ifCond .eq 22, 3) := by decide +kernel
theorem dX7_shelfFor_72 : decode cX7_shelfFor 72 = .ok (.aload_n 0, 1) := by decide +kernel
theorem dX7_shelfFor_73 : decode cX7_shelfFor 73 = .ok (.getfield 7, 3) := by decide +kernel
theorem dX7_shelfFor_76 : decode cX7_shelfFor 76 = .ok (.iload_n 1, 1) := by decide +kernel
theorem dX7_shelfFor_77 : decode cX7_shelfFor 77 = .ok (.iaload, 1) := by decide +kernel
theorem dX7_shelfFor_78 : decode cX7_shelfFor 78 = .ok (.iconst 1, 1) := by decide +kernel
theorem dX7_shelfFor_79 : decode cX7_shelfFor 79 = .ok (.if_icmp .eq 8, 3) := by decide +kernel
theorem dX7_shelfFor_82 : decode cX7_shelfFor 82 = .ok (.iload_n 3, 1) := by decide +kernel
theorem dX7_shelfFor_83 : decode cX7_shelfFor 83 = .ok (.iconst (-1), 1) := by decide +kernel
theorem dX7_shelfFor_84 : decode cX7_shelfFor 84 = .ok (.if_icmp .ne 7, 3) := by decide +kernel
theorem dX7_shelfFor_87 : decode cX7_shelfFor 87 = .ok (.iconst 0, 1) := by decide +kernel
theorem dX7_shelfFor_88 : decode cX7_shelfFor 88 = .ok (.goto 4, 3) := by decide +kernel
theorem dX7_shelfFor_91 : decode cX7_shelfFor 91 = .ok (.iload_n 3, 1) := by decide +kernel
theorem dX7_shelfFor_92 : decode cX7_shelfFor 92 = .ok (.ireturn, 1) := by decide +kernel
theorem dX7_openOf_0 : decode cX7_openOf 0 = .ok (.iconst (-1), 1) := by decide +kernel
theorem dX7_openOf_1 : decode cX7_openOf 1 = .ok (.istore_n 2, 1) := by decide +kernel
theorem dX7_openOf_2 : decode cX7_openOf 2 = .ok (.iconst 0, 1) := by decide +kernel
theorem dX7_openOf_3 : decode cX7_openOf 3 = .ok (.istore_n 3, 1) := by decide +kernel
theorem dX7_openOf_4 : decode cX7_openOf 4 = .ok (.iload_n 3, 1) := by decide +kernel
theorem dX7_openOf_5 : decode cX7_openOf 5 = .ok (.aload_n 0, 1) := by decide +kernel
theorem dX7_openOf_6 : decode cX7_openOf 6 = .ok (.getfield 136, 3) := by decide +kernel
theorem dX7_openOf_9 : decode cX7_openOf 9 = .ok (.if_icmp .ge 34, 3) := by decide +kernel
theorem dX7_openOf_12 : decode cX7_openOf 12 = .ok (.aload_n 0, 1) := by decide +kernel
theorem dX7_openOf_13 : decode cX7_openOf 13 = .ok (.getfield 81, 3) := by decide +kernel
theorem dX7_openOf_16 : decode cX7_openOf 16 = .ok (.iload_n 3, 1) := by decide +kernel
theorem dX7_openOf_17 : decode cX7_openOf 17 = .ok (.iaload, 1) := by decide +kernel
theorem dX7_openOf_18 : decode cX7_openOf 18 = .ok (.iload_n 1, 1) := by decide +kernel
theorem dX7_openOf_19 : decode cX7_openOf 19 = .ok (.if_icmp .ne 16, 3) := by decide +kernel
theorem dX7_openOf_22 : decode cX7_openOf 22 = .ok (.aload_n 0, 1) := by decide +kernel
theorem dX7_openOf_23 : decode cX7_openOf 23 = .ok (.getfield 108, 3) := by decide +kernel
theorem dX7_openOf_26 : decode cX7_openOf 26 = .ok (.iload_n 3, 1) := by decide +kernel
theorem dX7_openOf_27 : decode cX7_openOf 27 = .ok (.iaload, 1) := by decide +kernel
theorem dX7_openOf_28 : decode cX7_openOf 28 = .ok (.ifCond .ne 7, 3) := by decide +kernel
theorem dX7_openOf_31 : decode cX7_openOf 31 = .ok (.iload_n 3, 1) := by decide +kernel
theorem dX7_openOf_32 : decode cX7_openOf 32 = .ok (.goto 4, 3) := by decide +kernel
theorem dX7_openOf_35 : decode cX7_openOf 35 = .ok (.iload_n 2, 1) := by decide +kernel
theorem dX7_openOf_36 : decode cX7_openOf 36 = .ok (.istore_n 2, 1) := by decide +kernel
theorem dX7_openOf_37 : decode cX7_openOf 37 = .ok (.iinc 3 1, 3) := by decide +kernel
theorem dX7_openOf_40 : decode cX7_openOf 40 = .ok (.goto (-36), 3) := by decide +kernel
theorem dX7_openOf_43 : decode cX7_openOf 43 = .ok (.iload_n 2, 1) := by decide +kernel
theorem dX7_openOf_44 : decode cX7_openOf 44 = .ok (.ireturn, 1) := by decide +kernel
theorem dX7_owes_0 : decode cX7_owes 0 = .ok (.iconst 0, 1) := by decide +kernel
theorem dX7_owes_1 : decode cX7_owes 1 = .ok (.istore_n 2, 1) := by decide +kernel
theorem dX7_owes_2 : decode cX7_owes 2 = .ok (.iconst 0, 1) := by decide +kernel
theorem dX7_owes_3 : decode cX7_owes 3 = .ok (.istore_n 3, 1) := by decide +kernel
theorem dX7_owes_4 : decode cX7_owes 4 = .ok (.iload_n 3, 1) := by decide +kernel
theorem dX7_owes_5 : decode cX7_owes 5 = .ok (.aload_n 0, 1) := by decide +kernel
theorem dX7_owes_6 : decode cX7_owes 6 = .ok (.getfield 136, 3) := by decide +kernel
theorem dX7_owes_9 : decode cX7_owes 9 = .ok (.if_icmp .ge 41, 3) := by decide +kernel
theorem dX7_owes_12 : decode cX7_owes 12 = .ok (.iload_n 2, 1) := by decide +kernel
theorem dX7_owes_13 : decode cX7_owes 13 = .ok (.aload_n 0, 1) := by decide +kernel
theorem dX7_owes_14 : decode cX7_owes 14 = .ok (.getfield 108, 3) := by decide +kernel
theorem dX7_owes_17 : decode cX7_owes 17 = .ok (.iload_n 3, 1) := by decide +kernel
theorem dX7_owes_18 : decode cX7_owes 18 = .ok (.iaload, 1) := by decide +kernel
theorem dX7_owes_19 : decode cX7_owes 19 = .ok (.ifCond .ne 22, 3) := by decide +kernel
theorem dX7_owes_22 : decode cX7_owes 22 = .ok (.aload_n 0, 1) := by decide +kernel
theorem dX7_owes_23 : decode cX7_owes 23 = .ok (.getfield 87, 3) := by decide +kernel
theorem dX7_owes_26 : decode cX7_owes 26 = .ok (.iload_n 3, 1) := by decide +kernel
theorem dX7_owes_27 : decode cX7_owes 27 = .ok (.iaload, 1) := by decide +kernel
theorem dX7_owes_28 : decode cX7_owes 28 = .ok (.iload_n 1, 1) := by decide +kernel
theorem dX7_owes_29 : decode cX7_owes 29 = .ok (.if_icmp .ne 12, 3) := by decide +kernel
theorem dX7_owes_32 : decode cX7_owes 32 = .ok (.aload_n 0, 1) := by decide +kernel
theorem dX7_owes_33 : decode cX7_owes 33 = .ok (.getfield 96, 3) := by decide +kernel
theorem dX7_owes_36 : decode cX7_owes 36 = .ok (.iload_n 3, 1) := by decide +kernel
theorem dX7_owes_37 : decode cX7_owes 37 = .ok (.iaload, 1) := by decide +kernel
theorem dX7_owes_38 : decode cX7_owes 38 = .ok (.goto 4, 3) := by decide +kernel
theorem dX7_owes_41 : decode cX7_owes 41 = .ok (.iconst 0, 1) := by decide +kernel
theorem dX7_owes_42 : decode cX7_owes 42 = .ok (.iadd, 1) := by decide +kernel
theorem dX7_owes_43 : decode cX7_owes 43 = .ok (.istore_n 2, 1) := by decide +kernel
theorem dX7_owes_44 : decode cX7_owes 44 = .ok (.iinc 3 1, 3) := by decide +kernel
theorem dX7_owes_47 : decode cX7_owes 47 = .ok (.goto (-43), 3) := by decide +kernel
theorem dX7_owes_50 : decode cX7_owes 50 = .ok (.iload_n 2, 1) := by decide +kernel
theorem dX7_owes_51 : decode cX7_owes 51 = .ok (.ireturn, 1) := by decide +kernel
theorem dX7_pledge_0 : decode cX7_pledge 0 = .ok (.iload_n 1, 1) := by decide +kernel
theorem dX7_pledge_1 : decode cX7_pledge 1 = .ok (.invokestatic 143, 3) := by decide +kernel
theorem dX7_pledge_4 : decode cX7_pledge 4 = .ok (.ifCond .eq 34, 3) := by decide +kernel
theorem dX7_pledge_7 : decode cX7_pledge 7 = .ok (.aload_n 0, 1) := by decide +kernel
theorem dX7_pledge_8 : decode cX7_pledge 8 = .ok (.iload_n 2, 1) := by decide +kernel
theorem dX7_pledge_9 : decode cX7_pledge 9 = .ok (.invokevirtual 166, 3) := by decide +kernel
theorem dX7_pledge_12 : decode cX7_pledge 12 = .ok (.ifCond .eq 26, 3) := by decide +kernel
theorem dX7_pledge_15 : decode cX7_pledge 15 = .ok (.iload_n 3, 1) := by decide +kernel
theorem dX7_pledge_16 : decode cX7_pledge 16 = .ok (.iconst 0, 1) := by decide +kernel
theorem dX7_pledge_17 : decode cX7_pledge 17 = .ok (.iconst 3, 1) := by decide +kernel
theorem dX7_pledge_18 : decode cX7_pledge 18 = .ok (.invokestatic 132, 3) := by decide +kernel
theorem dX7_pledge_21 : decode cX7_pledge 21 = .ok (.ifCond .eq 17, 3) := by decide +kernel
theorem dX7_pledge_24 : decode cX7_pledge 24 = .ok (.iload 4, 2) := by decide +kernel
theorem dX7_pledge_26 : decode cX7_pledge 26 = .ok (.iconst 0, 1) := by decide +kernel
theorem dX7_pledge_27 : decode cX7_pledge 27 = .ok (.iconst 2, 1) := by decide +kernel
theorem dX7_pledge_28 : decode cX7_pledge 28 = .ok (.invokestatic 132, 3) := by decide +kernel
theorem dX7_pledge_31 : decode cX7_pledge 31 = .ok (.ifCond .eq 7, 3) := by decide +kernel
theorem dX7_pledge_34 : decode cX7_pledge 34 = .ok (.iconst 1, 1) := by decide +kernel
theorem dX7_pledge_35 : decode cX7_pledge 35 = .ok (.goto 4, 3) := by decide +kernel
theorem dX7_pledge_38 : decode cX7_pledge 38 = .ok (.iconst 0, 1) := by decide +kernel
theorem dX7_pledge_39 : decode cX7_pledge 39 = .ok (.istore 7, 2) := by decide +kernel
theorem dX7_pledge_41 : decode cX7_pledge 41 = .ok (.aload_n 0, 1) := by decide +kernel
theorem dX7_pledge_42 : decode cX7_pledge 42 = .ok (.iload 7, 2) := by decide +kernel
theorem dX7_pledge_44 : decode cX7_pledge 44 = .ok (.ifCond .ne 7, 3) := by decide +kernel
theorem dX7_pledge_47 : decode cX7_pledge 47 = .ok (.iconst 1, 1) := by decide +kernel
theorem dX7_pledge_48 : decode cX7_pledge 48 = .ok (.goto 19, 3) := by decide +kernel
theorem dX7_pledge_51 : decode cX7_pledge 51 = .ok (.iload 5, 2) := by decide +kernel
theorem dX7_pledge_53 : decode cX7_pledge 53 = .ok (.iconst 1, 1) := by decide +kernel
theorem dX7_pledge_54 : decode cX7_pledge 54 = .ok (.ldc 146, 2) := by decide +kernel
theorem dX7_pledge_56 : decode cX7_pledge 56 = .ok (.invokestatic 132, 3) := by decide +kernel
theorem dX7_pledge_59 : decode cX7_pledge 59 = .ok (.ifCond .ne 7, 3) := by decide +kernel
theorem dX7_pledge_62 : decode cX7_pledge 62 = .ok (.iconst 2, 1) := by decide +kernel
theorem dX7_pledge_63 : decode cX7_pledge 63 = .ok (.goto 4, 3) := by decide +kernel
theorem dX7_pledge_66 : decode cX7_pledge 66 = .ok (.iconst 0, 1) := by decide +kernel
theorem dX7_pledge_67 : decode cX7_pledge 67 = .ok (.invokevirtual 139, 3) := by decide +kernel
theorem dX7_pledge_70 : decode cX7_pledge 70 = .ok (.ifCond .eq 5, 3) := by decide +kernel
theorem dX7_pledge_73 : decode cX7_pledge 73 = .ok (.iconst 0, 1) := by decide +kernel
theorem dX7_pledge_74 : decode cX7_pledge 74 = .ok (.ireturn, 1) := by decide +kernel
theorem dX7_pledge_75 : decode cX7_pledge 75 = .ok (.aload_n 0, 1) := by decide +kernel
theorem dX7_pledge_76 : decode cX7_pledge 76 = .ok (.iload_n 2, 1) := by decide +kernel
theorem dX7_pledge_77 : decode cX7_pledge 77 = .ok (.invokevirtual 169, 3) := by decide +kernel
theorem dX7_pledge_80 : decode cX7_pledge 80 = .ok (.bipush 100, 2) := by decide +kernel
theorem dX7_pledge_82 : decode cX7_pledge 82 = .ok (.aload_n 0, 1) := by decide +kernel
theorem dX7_pledge_83 : decode cX7_pledge 83 = .ok (.getfield 44, 3) := by decide +kernel
theorem dX7_pledge_86 : decode cX7_pledge 86 = .ok (.iload_n 3, 1) := by decide +kernel
theorem dX7_pledge_87 : decode cX7_pledge 87 = .ok (.iaload, 1) := by decide +kernel
theorem dX7_pledge_88 : decode cX7_pledge 88 = .ok (.iadd, 1) := by decide +kernel
theorem dX7_pledge_89 : decode cX7_pledge 89 = .ok (.imul, 1) := by decide +kernel
theorem dX7_pledge_90 : decode cX7_pledge 90 = .ok (.bipush 100, 2) := by decide +kernel
theorem dX7_pledge_92 : decode cX7_pledge 92 = .ok (.idiv, 1) := by decide +kernel
theorem dX7_pledge_93 : decode cX7_pledge 93 = .ok (.istore 8, 2) := by decide +kernel
theorem dX7_pledge_95 : decode cX7_pledge 95 = .ok (.aload_n 0, 1) := by decide +kernel
theorem dX7_pledge_96 : decode cX7_pledge 96 = .ok (.getfield 53, 3) := by decide +kernel
theorem dX7_pledge_99 : decode cX7_pledge 99 = .ok (.iload_n 1, 1) := by decide +kernel
theorem dX7_pledge_100 : decode cX7_pledge 100 = .ok (.iaload, 1) := by decide +kernel
theorem dX7_pledge_101 : decode cX7_pledge 101 = .ok (.istore 9, 2) := by decide +kernel
theorem dX7_pledge_103 : decode cX7_pledge 103 = .ok (.iload 5, 2) := by decide +kernel
theorem dX7_pledge_105 : decode cX7_pledge 105 = .ok (.iload 8, 2) := by decide +kernel
theorem dX7_pledge_107 : decode cX7_pledge 107 = .ok (.aload_n 0, 1) := by decide +kernel
theorem dX7_pledge_108 : decode cX7_pledge 108 = .ok (.getfield 56, 3) := by decide +kernel
theorem dX7_pledge_111 : decode cX7_pledge 111 = .ok (.iload 9, 2) := by decide +kernel
theorem dX7_pledge_113 : decode cX7_pledge 113 = .ok (.iaload, 1) := by decide +kernel
theorem dX7_pledge_114 : decode cX7_pledge 114 = .ok (.imul, 1) := by decide +kernel
theorem dX7_pledge_115 : decode cX7_pledge 115 = .ok (.bipush 100, 2) := by decide +kernel
theorem dX7_pledge_117 : decode cX7_pledge 117 = .ok (.idiv, 1) := by decide +kernel
theorem dX7_pledge_118 : decode cX7_pledge 118 = .ok (.if_icmp .gt 39, 3) := by decide +kernel
theorem dX7_pledge_121 : decode cX7_pledge 121 = .ok (.iload 5, 2) := by decide +kernel
theorem dX7_pledge_123 : decode cX7_pledge 123 = .ok (.aload_n 0, 1) := by decide +kernel
theorem dX7_pledge_124 : decode cX7_pledge 124 = .ok (.getfield 173, 3) := by decide +kernel
theorem dX7_pledge_127 : decode cX7_pledge 127 = .ok (.aload_n 0, 1) := by decide +kernel
theorem dX7_pledge_128 : decode cX7_pledge 128 = .ok (.getfield 176, 3) := by decide +kernel
theorem dX7_pledge_131 : decode cX7_pledge 131 = .ok (.isub, 1) := by decide +kernel
theorem dX7_pledge_132 : decode cX7_pledge 132 = .ok (.if_icmp .gt 25, 3) := by decide +kernel
theorem dX7_pledge_135 : decode cX7_pledge 135 = .ok (.aload_n 0, 1) := by decide +kernel
theorem dX7_pledge_136 : decode cX7_pledge 136 = .ok (.iload_n 1, 1) := by decide +kernel
theorem dX7_pledge_137 : decode cX7_pledge 137 = .ok (.invokevirtual 179, 3) := by decide +kernel
theorem dX7_pledge_140 : decode cX7_pledge 140 = .ok (.iload 5, 2) := by decide +kernel
theorem dX7_pledge_142 : decode cX7_pledge 142 = .ok (.iadd, 1) := by decide +kernel
theorem dX7_pledge_143 : decode cX7_pledge 143 = .ok (.aload_n 0, 1) := by decide +kernel
theorem dX7_pledge_144 : decode cX7_pledge 144 = .ok (.getfield 59, 3) := by decide +kernel
theorem dX7_pledge_147 : decode cX7_pledge 147 = .ok (.iload 9, 2) := by decide +kernel
theorem dX7_pledge_149 : decode cX7_pledge 149 = .ok (.iaload, 1) := by decide +kernel
theorem dX7_pledge_150 : decode cX7_pledge 150 = .ok (.if_icmp .gt 7, 3) := by decide +kernel
theorem dX7_pledge_153 : decode cX7_pledge 153 = .ok (.iconst 1, 1) := by decide +kernel
theorem dX7_pledge_154 : decode cX7_pledge 154 = .ok (.goto 4, 3) := by decide +kernel
theorem dX7_pledge_157 : decode cX7_pledge 157 = .ok (.iconst 0, 1) := by decide +kernel
theorem dX7_pledge_158 : decode cX7_pledge 158 = .ok (.istore 10, 2) := by decide +kernel
theorem dX7_pledge_160 : decode cX7_pledge 160 = .ok (.aload_n 0, 1) := by decide +kernel
theorem dX7_pledge_161 : decode cX7_pledge 161 = .ok (.iload_n 2, 1) := by decide +kernel
theorem dX7_pledge_162 : decode cX7_pledge 162 = .ok (.iload 4, 2) := by decide +kernel
theorem dX7_pledge_164 : decode cX7_pledge 164 = .ok (.invokevirtual 182, 3) := by decide +kernel
theorem dX7_pledge_167 : decode cX7_pledge 167 = .ok (.istore 11, 2) := by decide +kernel
theorem dX7_pledge_169 : decode cX7_pledge 169 = .ok (.aload_n 0, 1) := by decide +kernel
theorem dX7_pledge_170 : decode cX7_pledge 170 = .ok (.iload 10, 2) := by decide +kernel
theorem dX7_pledge_172 : decode cX7_pledge 172 = .ok (.ifCond .eq 36, 3) := by decide +kernel
theorem dX7_pledge_175 : decode cX7_pledge 175 = .ok (.aload_n 0, 1) := by decide +kernel
theorem dX7_pledge_176 : decode cX7_pledge 176 = .ok (.getfield 22, 3) := by decide +kernel
theorem dX7_pledge_179 : decode cX7_pledge 179 = .ok (.iload_n 2, 1) := by decide +kernel
theorem dX7_pledge_180 : decode cX7_pledge 180 = .ok (.baload, 1) := by decide +kernel
theorem dX7_pledge_181 : decode cX7_pledge 181 = .ok (.ifCond .ne 27, 3) := by decide +kernel
theorem dX7_pledge_184 : decode cX7_pledge 184 = .ok (.aload_n 0, 1) := by decide +kernel
theorem dX7_pledge_185 : decode cX7_pledge 185 = .ok (.getfield 26, 3) := by decide +kernel
theorem dX7_pledge_188 : decode cX7_pledge 188 = .ok (.iload_n 2, 1) := by decide +kernel
theorem dX7_pledge_189 : decode cX7_pledge 189 = .ok (.baload, 1) := by decide +kernel
theorem dX7_pledge_190 : decode cX7_pledge 190 = .ok (.ifCond .ne 18, 3) := by decide +kernel
theorem dX7_pledge_193 : decode cX7_pledge 193 = .ok (.iload 11, 2) := by decide +kernel
theorem dX7_pledge_195 : decode cX7_pledge 195 = .ok (.iconst (-1), 1) := by decide +kernel
theorem dX7_pledge_196 : decode cX7_pledge 196 = .ok (.if_icmp .eq 12, 3) := by decide +kernel
theorem dX7_pledge_199 : decode cX7_pledge 199 = .ok (.aload_n 0, 1) := by decide +kernel
theorem dX7_pledge_200 : decode cX7_pledge 200 = .ok (.getfield 136, 3) := by decide +kernel
theorem dX7_pledge_203 : decode cX7_pledge 203 = .ok (.bipush 40, 2) := by decide +kernel
theorem dX7_pledge_205 : decode cX7_pledge 205 = .ok (.if_icmp .ne 7, 3) := by decide +kernel
theorem dX7_pledge_208 : decode cX7_pledge 208 = .ok (.iconst 3, 1) := by decide +kernel
theorem dX7_pledge_209 : decode cX7_pledge 209 = .ok (.goto 4, 3) := by decide +kernel
theorem dX7_pledge_212 : decode cX7_pledge 212 = .ok (.iconst 0, 1) := by decide +kernel
theorem dX7_pledge_213 : decode cX7_pledge 213 = .ok (.invokevirtual 139, 3) := by decide +kernel
theorem dX7_pledge_216 : decode cX7_pledge 216 = .ok (.ifCond .eq 5, 3) := by decide +kernel
theorem dX7_pledge_219 : decode cX7_pledge 219 = .ok (.iconst 0, 1) := by decide +kernel
theorem dX7_pledge_220 : decode cX7_pledge 220 = .ok (.ireturn, 1) := by decide +kernel
theorem dX7_pledge_221 : decode cX7_pledge 221 = .ok (.aload_n 0, 1) := by decide +kernel
theorem dX7_pledge_222 : decode cX7_pledge 222 = .ok (.getfield 136, 3) := by decide +kernel
theorem dX7_pledge_225 : decode cX7_pledge 225 = .ok (.istore 12, 2) := by decide +kernel
theorem dX7_pledge_227 : decode cX7_pledge 227 = .ok (.aload_n 0, 1) := by decide +kernel
theorem dX7_pledge_228 : decode cX7_pledge 228 = .ok (.dup, 1) := by decide +kernel
theorem dX7_pledge_229 : decode cX7_pledge 229 = .ok (.getfield 136, 3) := by decide +kernel
theorem dX7_pledge_232 : decode cX7_pledge 232 = .ok (.iconst 1, 1) := by decide +kernel
theorem dX7_pledge_233 : decode cX7_pledge 233 = .ok (.iadd, 1) := by decide +kernel
theorem dX7_pledge_234 : decode cX7_pledge 234 = .ok (.putfield 136, 3) := by decide +kernel
theorem dX7_pledge_237 : decode cX7_pledge 237 = .ok (.aload_n 0, 1) := by decide +kernel
theorem dX7_pledge_238 : decode cX7_pledge 238 = .ok (.getfield 81, 3) := by decide +kernel
theorem dX7_pledge_241 : decode cX7_pledge 241 = .ok (.iload 12, 2) := by decide +kernel
theorem dX7_pledge_243 : decode cX7_pledge 243 = .ok (.iload_n 2, 1) := by decide +kernel
theorem dX7_pledge_244 : decode cX7_pledge 244 = .ok (.iastore, 1) := by decide +kernel
theorem dX7_pledge_245 : decode cX7_pledge 245 = .ok (.aload_n 0, 1) := by decide +kernel
theorem dX7_pledge_246 : decode cX7_pledge 246 = .ok (.getfield 84, 3) := by decide +kernel
theorem dX7_pledge_249 : decode cX7_pledge 249 = .ok (.iload 12, 2) := by decide +kernel
theorem dX7_pledge_251 : decode cX7_pledge 251 = .ok (.iload_n 3, 1) := by decide +kernel
theorem dX7_pledge_252 : decode cX7_pledge 252 = .ok (.iastore, 1) := by decide +kernel
theorem dX7_pledge_253 : decode cX7_pledge 253 = .ok (.aload_n 0, 1) := by decide +kernel
theorem dX7_pledge_254 : decode cX7_pledge 254 = .ok (.getfield 87, 3) := by decide +kernel
theorem dX7_pledge_257 : decode cX7_pledge 257 = .ok (.iload 12, 2) := by decide +kernel
theorem dX7_pledge_259 : decode cX7_pledge 259 = .ok (.iload_n 1, 1) := by decide +kernel
theorem dX7_pledge_260 : decode cX7_pledge 260 = .ok (.iastore, 1) := by decide +kernel
theorem dX7_pledge_261 : decode cX7_pledge 261 = .ok (.aload_n 0, 1) := by decide +kernel
theorem dX7_pledge_262 : decode cX7_pledge 262 = .ok (.getfield 90, 3) := by decide +kernel
theorem dX7_pledge_265 : decode cX7_pledge 265 = .ok (.iload 12, 2) := by decide +kernel
theorem dX7_pledge_267 : decode cX7_pledge 267 = .ok (.iload_n 1, 1) := by decide +kernel
theorem dX7_pledge_268 : decode cX7_pledge 268 = .ok (.iastore, 1) := by decide +kernel
theorem dX7_pledge_269 : decode cX7_pledge 269 = .ok (.aload_n 0, 1) := by decide +kernel
theorem dX7_pledge_270 : decode cX7_pledge 270 = .ok (.getfield 93, 3) := by decide +kernel
theorem dX7_pledge_273 : decode cX7_pledge 273 = .ok (.iload 12, 2) := by decide +kernel
theorem dX7_pledge_275 : decode cX7_pledge 275 = .ok (.iload 6, 2) := by decide +kernel
theorem dX7_pledge_277 : decode cX7_pledge 277 = .ok (.bastore, 1) := by decide +kernel
theorem dX7_pledge_278 : decode cX7_pledge 278 = .ok (.aload_n 0, 1) := by decide +kernel
theorem dX7_pledge_279 : decode cX7_pledge 279 = .ok (.getfield 96, 3) := by decide +kernel
theorem dX7_pledge_282 : decode cX7_pledge 282 = .ok (.iload 12, 2) := by decide +kernel
theorem dX7_pledge_284 : decode cX7_pledge 284 = .ok (.iload 5, 2) := by decide +kernel
theorem dX7_pledge_286 : decode cX7_pledge 286 = .ok (.iastore, 1) := by decide +kernel
theorem dX7_pledge_287 : decode cX7_pledge 287 = .ok (.aload_n 0, 1) := by decide +kernel
theorem dX7_pledge_288 : decode cX7_pledge 288 = .ok (.getfield 99, 3) := by decide +kernel
theorem dX7_pledge_291 : decode cX7_pledge 291 = .ok (.iload 12, 2) := by decide +kernel
theorem dX7_pledge_293 : decode cX7_pledge 293 = .ok (.iload 8, 2) := by decide +kernel
theorem dX7_pledge_295 : decode cX7_pledge 295 = .ok (.iastore, 1) := by decide +kernel
theorem dX7_pledge_296 : decode cX7_pledge 296 = .ok (.aload_n 0, 1) := by decide +kernel
theorem dX7_pledge_297 : decode cX7_pledge 297 = .ok (.getfield 102, 3) := by decide +kernel
theorem dX7_pledge_300 : decode cX7_pledge 300 = .ok (.iload 12, 2) := by decide +kernel
theorem dX7_pledge_302 : decode cX7_pledge 302 = .ok (.aload_n 0, 1) := by decide +kernel
theorem dX7_pledge_303 : decode cX7_pledge 303 = .ok (.getfield 150, 3) := by decide +kernel
theorem dX7_pledge_306 : decode cX7_pledge 306 = .ok (.iastore, 1) := by decide +kernel
theorem dX7_pledge_307 : decode cX7_pledge 307 = .ok (.aload_n 0, 1) := by decide +kernel
theorem dX7_pledge_308 : decode cX7_pledge 308 = .ok (.getfield 105, 3) := by decide +kernel
theorem dX7_pledge_311 : decode cX7_pledge 311 = .ok (.iload 12, 2) := by decide +kernel
theorem dX7_pledge_313 : decode cX7_pledge 313 = .ok (.aload_n 0, 1) := by decide +kernel
theorem dX7_pledge_314 : decode cX7_pledge 314 = .ok (.getfield 77, 3) := by decide +kernel
theorem dX7_pledge_317 : decode cX7_pledge 317 = .ok (.iastore, 1) := by decide +kernel
theorem dX7_pledge_318 : decode cX7_pledge 318 = .ok (.aload_n 0, 1) := by decide +kernel
theorem dX7_pledge_319 : decode cX7_pledge 319 = .ok (.dup, 1) := by decide +kernel
theorem dX7_pledge_320 : decode cX7_pledge 320 = .ok (.getfield 173, 3) := by decide +kernel
theorem dX7_pledge_323 : decode cX7_pledge 323 = .ok (.iload 5, 2) := by decide +kernel
theorem dX7_pledge_325 : decode cX7_pledge 325 = .ok (.isub, 1) := by decide +kernel
theorem dX7_pledge_326 : decode cX7_pledge 326 = .ok (.putfield 173, 3) := by decide +kernel
theorem dX7_pledge_329 : decode cX7_pledge 329 = .ok (.aload_n 0, 1) := by decide +kernel
theorem dX7_pledge_330 : decode cX7_pledge 330 = .ok (.getfield 22, 3) := by decide +kernel
theorem dX7_pledge_333 : decode cX7_pledge 333 = .ok (.iload_n 2, 1) := by decide +kernel
theorem dX7_pledge_334 : decode cX7_pledge 334 = .ok (.iconst 1, 1) := by decide +kernel
theorem dX7_pledge_335 : decode cX7_pledge 335 = .ok (.bastore, 1) := by decide +kernel
theorem dX7_pledge_336 : decode cX7_pledge 336 = .ok (.aload_n 0, 1) := by decide +kernel
theorem dX7_pledge_337 : decode cX7_pledge 337 = .ok (.getfield 29, 3) := by decide +kernel
theorem dX7_pledge_340 : decode cX7_pledge 340 = .ok (.iload_n 2, 1) := by decide +kernel
theorem dX7_pledge_341 : decode cX7_pledge 341 = .ok (.iconst 4, 1) := by decide +kernel
theorem dX7_pledge_342 : decode cX7_pledge 342 = .ok (.iload 4, 2) := by decide +kernel
theorem dX7_pledge_344 : decode cX7_pledge 344 = .ok (.imul, 1) := by decide +kernel
theorem dX7_pledge_345 : decode cX7_pledge 345 = .ok (.iload 11, 2) := by decide +kernel
theorem dX7_pledge_347 : decode cX7_pledge 347 = .ok (.iadd, 1) := by decide +kernel
theorem dX7_pledge_348 : decode cX7_pledge 348 = .ok (.iastore, 1) := by decide +kernel
theorem dX7_pledge_349 : decode cX7_pledge 349 = .ok (.aload_n 0, 1) := by decide +kernel
theorem dX7_pledge_350 : decode cX7_pledge 350 = .ok (.getfield 32, 3) := by decide +kernel
theorem dX7_pledge_353 : decode cX7_pledge 353 = .ok (.iload_n 2, 1) := by decide +kernel
theorem dX7_pledge_354 : decode cX7_pledge 354 = .ok (.iconst 4, 1) := by decide +kernel
theorem dX7_pledge_355 : decode cX7_pledge 355 = .ok (.iload 4, 2) := by decide +kernel
theorem dX7_pledge_357 : decode cX7_pledge 357 = .ok (.imul, 1) := by decide +kernel
theorem dX7_pledge_358 : decode cX7_pledge 358 = .ok (.iload 11, 2) := by decide +kernel
theorem dX7_pledge_360 : decode cX7_pledge 360 = .ok (.iadd, 1) := by decide +kernel
theorem dX7_pledge_361 : decode cX7_pledge 361 = .ok (.iastore, 1) := by decide +kernel
theorem dX7_pledge_362 : decode cX7_pledge 362 = .ok (.aload_n 0, 1) := by decide +kernel
theorem dX7_pledge_363 : decode cX7_pledge 363 = .ok (.getfield 35, 3) := by decide +kernel
theorem dX7_pledge_366 : decode cX7_pledge 366 = .ok (.iload_n 2, 1) := by decide +kernel
theorem dX7_pledge_367 : decode cX7_pledge 367 = .ok (.aload_n 0, 1) := by decide +kernel
theorem dX7_pledge_368 : decode cX7_pledge 368 = .ok (.getfield 150, 3) := by decide +kernel
theorem dX7_pledge_371 : decode cX7_pledge 371 = .ok (.iastore, 1) := by decide +kernel
theorem dX7_pledge_372 : decode cX7_pledge 372 = .ok (.aload_n 0, 1) := by decide +kernel
theorem dX7_pledge_373 : decode cX7_pledge 373 = .ok (.getfield 38, 3) := by decide +kernel
theorem dX7_pledge_376 : decode cX7_pledge 376 = .ok (.iload_n 2, 1) := by decide +kernel
theorem dX7_pledge_377 : decode cX7_pledge 377 = .ok (.aload_n 0, 1) := by decide +kernel
theorem dX7_pledge_378 : decode cX7_pledge 378 = .ok (.getfield 150, 3) := by decide +kernel
theorem dX7_pledge_381 : decode cX7_pledge 381 = .ok (.iastore, 1) := by decide +kernel
theorem dX7_pledge_382 : decode cX7_pledge 382 = .ok (.iload 12, 2) := by decide +kernel
theorem dX7_pledge_384 : decode cX7_pledge 384 = .ok (.ireturn, 1) := by decide +kernel
theorem dX7_bars_0 : decode cX7_bars 0 = .ok (.aload_n 0, 1) := by decide +kernel
theorem dX7_bars_1 : decode cX7_bars 1 = .ok (.getfield 114, 3) := by decide +kernel
theorem dX7_bars_4 : decode cX7_bars 4 = .ok (.iload_n 1, 1) := by decide +kernel
theorem dX7_bars_5 : decode cX7_bars 5 = .ok (.iaload, 1) := by decide +kernel
theorem dX7_bars_6 : decode cX7_bars 6 = .ok (.iconst (-1), 1) := by decide +kernel
theorem dX7_bars_7 : decode cX7_bars 7 = .ok (.if_icmp .eq 7, 3) := by decide +kernel
theorem dX7_bars_10 : decode cX7_bars 10 = .ok (.iconst 1, 1) := by decide +kernel
theorem dX7_bars_11 : decode cX7_bars 11 = .ok (.goto 4, 3) := by decide +kernel
theorem dX7_bars_14 : decode cX7_bars 14 = .ok (.iconst 0, 1) := by decide +kernel
theorem dX7_bars_15 : decode cX7_bars 15 = .ok (.aload_n 0, 1) := by decide +kernel
theorem dX7_bars_16 : decode cX7_bars 16 = .ok (.getfield 108, 3) := by decide +kernel
theorem dX7_bars_19 : decode cX7_bars 19 = .ok (.iload_n 1, 1) := by decide +kernel
theorem dX7_bars_20 : decode cX7_bars 20 = .ok (.iaload, 1) := by decide +kernel
theorem dX7_bars_21 : decode cX7_bars 21 = .ok (.ifCond .ne 21, 3) := by decide +kernel
theorem dX7_bars_24 : decode cX7_bars 24 = .ok (.aload_n 0, 1) := by decide +kernel
theorem dX7_bars_25 : decode cX7_bars 25 = .ok (.getfield 26, 3) := by decide +kernel
theorem dX7_bars_28 : decode cX7_bars 28 = .ok (.aload_n 0, 1) := by decide +kernel
theorem dX7_bars_29 : decode cX7_bars 29 = .ok (.getfield 81, 3) := by decide +kernel
theorem dX7_bars_32 : decode cX7_bars 32 = .ok (.iload_n 1, 1) := by decide +kernel
theorem dX7_bars_33 : decode cX7_bars 33 = .ok (.iaload, 1) := by decide +kernel
theorem dX7_bars_34 : decode cX7_bars 34 = .ok (.baload, 1) := by decide +kernel
theorem dX7_bars_35 : decode cX7_bars 35 = .ok (.ifCond .eq 7, 3) := by decide +kernel
theorem dX7_bars_38 : decode cX7_bars 38 = .ok (.iconst 2, 1) := by decide +kernel
theorem dX7_bars_39 : decode cX7_bars 39 = .ok (.goto 4, 3) := by decide +kernel
theorem dX7_bars_42 : decode cX7_bars 42 = .ok (.iconst 0, 1) := by decide +kernel
theorem dX7_bars_43 : decode cX7_bars 43 = .ok (.iadd, 1) := by decide +kernel
theorem dX7_bars_44 : decode cX7_bars 44 = .ok (.ireturn, 1) := by decide +kernel
theorem dX7_isFound_0 : decode cX7_isFound 0 = .ok (.aload_n 0, 1) := by decide +kernel
theorem dX7_isFound_1 : decode cX7_isFound 1 = .ok (.getfield 22, 3) := by decide +kernel
theorem dX7_isFound_4 : decode cX7_isFound 4 = .ok (.iload_n 1, 1) := by decide +kernel
theorem dX7_isFound_5 : decode cX7_isFound 5 = .ok (.baload, 1) := by decide +kernel
theorem dX7_isFound_6 : decode cX7_isFound 6 = .ok (.ifCond .eq 22, 3) := by decide +kernel
theorem dX7_isFound_9 : decode cX7_isFound 9 = .ok (.aload_n 0, 1) := by decide +kernel
theorem dX7_isFound_10 : decode cX7_isFound 10 = .ok (.getfield 29, 3) := by decide +kernel
theorem dX7_isFound_13 : decode cX7_isFound 13 = .ok (.iload_n 1, 1) := by decide +kernel
theorem dX7_isFound_14 : decode cX7_isFound 14 = .ok (.iaload, 1) := by decide +kernel
theorem dX7_isFound_15 : decode cX7_isFound 15 = .ok (.aload_n 0, 1) := by decide +kernel
theorem dX7_isFound_16 : decode cX7_isFound 16 = .ok (.getfield 32, 3) := by decide +kernel
theorem dX7_isFound_19 : decode cX7_isFound 19 = .ok (.iload_n 1, 1) := by decide +kernel
theorem dX7_isFound_20 : decode cX7_isFound 20 = .ok (.iaload, 1) := by decide +kernel
theorem dX7_isFound_21 : decode cX7_isFound 21 = .ok (.if_icmp .ne 7, 3) := by decide +kernel
theorem dX7_isFound_24 : decode cX7_isFound 24 = .ok (.iconst 1, 1) := by decide +kernel
theorem dX7_isFound_25 : decode cX7_isFound 25 = .ok (.goto 4, 3) := by decide +kernel
theorem dX7_isFound_28 : decode cX7_isFound 28 = .ok (.iconst 0, 1) := by decide +kernel
theorem dX7_isFound_29 : decode cX7_isFound 29 = .ok (.ireturn, 1) := by decide +kernel
theorem dX7_redeem_0 : decode cX7_redeem 0 = .ok (.aload_n 0, 1) := by decide +kernel
theorem dX7_redeem_1 : decode cX7_redeem 1 = .ok (.iload_n 1, 1) := by decide +kernel
theorem dX7_redeem_2 : decode cX7_redeem 2 = .ok (.invokevirtual 185, 3) := by decide +kernel
theorem dX7_redeem_5 : decode cX7_redeem 5 = .ok (.ifCond .eq 14, 3) := by decide +kernel
theorem dX7_redeem_8 : decode cX7_redeem 8 = .ok (.iload_n 2, 1) := by decide +kernel
theorem dX7_redeem_9 : decode cX7_redeem 9 = .ok (.invokestatic 143, 3) := by decide +kernel
theorem dX7_redeem_12 : decode cX7_redeem 12 = .ok (.ifCond .eq 7, 3) := by decide +kernel
theorem dX7_redeem_15 : decode cX7_redeem 15 = .ok (.iconst 1, 1) := by decide +kernel
theorem dX7_redeem_16 : decode cX7_redeem 16 = .ok (.goto 4, 3) := by decide +kernel
theorem dX7_redeem_19 : decode cX7_redeem 19 = .ok (.iconst 0, 1) := by decide +kernel
theorem dX7_redeem_20 : decode cX7_redeem 20 = .ok (.istore_n 3, 1) := by decide +kernel
theorem dX7_redeem_21 : decode cX7_redeem 21 = .ok (.iload_n 3, 1) := by decide +kernel
theorem dX7_redeem_22 : decode cX7_redeem 22 = .ok (.ifCond .eq 47, 3) := by decide +kernel
theorem dX7_redeem_25 : decode cX7_redeem 25 = .ok (.aload_n 0, 1) := by decide +kernel
theorem dX7_redeem_26 : decode cX7_redeem 26 = .ok (.getfield 108, 3) := by decide +kernel
theorem dX7_redeem_29 : decode cX7_redeem 29 = .ok (.iload_n 1, 1) := by decide +kernel
theorem dX7_redeem_30 : decode cX7_redeem 30 = .ok (.iaload, 1) := by decide +kernel
theorem dX7_redeem_31 : decode cX7_redeem 31 = .ok (.ifCond .ne 38, 3) := by decide +kernel
theorem dX7_redeem_34 : decode cX7_redeem 34 = .ok (.aload_n 0, 1) := by decide +kernel
theorem dX7_redeem_35 : decode cX7_redeem 35 = .ok (.iload_n 1, 1) := by decide +kernel
theorem dX7_redeem_36 : decode cX7_redeem 36 = .ok (.invokevirtual 188, 3) := by decide +kernel
theorem dX7_redeem_39 : decode cX7_redeem 39 = .ok (.ifCond .ne 30, 3) := by decide +kernel
theorem dX7_redeem_42 : decode cX7_redeem 42 = .ok (.aload_n 0, 1) := by decide +kernel
theorem dX7_redeem_43 : decode cX7_redeem 43 = .ok (.getfield 90, 3) := by decide +kernel
theorem dX7_redeem_46 : decode cX7_redeem 46 = .ok (.iload_n 1, 1) := by decide +kernel
theorem dX7_redeem_47 : decode cX7_redeem 47 = .ok (.iaload, 1) := by decide +kernel
theorem dX7_redeem_48 : decode cX7_redeem 48 = .ok (.iload_n 2, 1) := by decide +kernel
theorem dX7_redeem_49 : decode cX7_redeem 49 = .ok (.if_icmp .ne 20, 3) := by decide +kernel
theorem dX7_redeem_52 : decode cX7_redeem 52 = .ok (.aload_n 0, 1) := by decide +kernel
theorem dX7_redeem_53 : decode cX7_redeem 53 = .ok (.aload_n 0, 1) := by decide +kernel
theorem dX7_redeem_54 : decode cX7_redeem 54 = .ok (.getfield 81, 3) := by decide +kernel
theorem dX7_redeem_57 : decode cX7_redeem 57 = .ok (.iload_n 1, 1) := by decide +kernel
theorem dX7_redeem_58 : decode cX7_redeem 58 = .ok (.iaload, 1) := by decide +kernel
theorem dX7_redeem_59 : decode cX7_redeem 59 = .ok (.invokevirtual 191, 3) := by decide +kernel
theorem dX7_redeem_62 : decode cX7_redeem 62 = .ok (.ifCond .eq 7, 3) := by decide +kernel
theorem dX7_redeem_65 : decode cX7_redeem 65 = .ok (.iconst 1, 1) := by decide +kernel
theorem dX7_redeem_66 : decode cX7_redeem 66 = .ok (.goto 4, 3) := by decide +kernel
theorem dX7_redeem_69 : decode cX7_redeem 69 = .ok (.iconst 0, 1) := by decide +kernel
theorem dX7_redeem_70 : decode cX7_redeem 70 = .ok (.istore 4, 2) := by decide +kernel
theorem dX7_redeem_72 : decode cX7_redeem 72 = .ok (.aload_n 0, 1) := by decide +kernel
theorem dX7_redeem_73 : decode cX7_redeem 73 = .ok (.iload_n 3, 1) := by decide +kernel
theorem dX7_redeem_74 : decode cX7_redeem 74 = .ok (.ifCond .ne 7, 3) := by decide +kernel
theorem dX7_redeem_77 : decode cX7_redeem 77 = .ok (.iconst 1, 1) := by decide +kernel
theorem dX7_redeem_78 : decode cX7_redeem 78 = .ok (.goto 13, 3) := by decide +kernel
theorem dX7_redeem_81 : decode cX7_redeem 81 = .ok (.iload 4, 2) := by decide +kernel
theorem dX7_redeem_83 : decode cX7_redeem 83 = .ok (.ifCond .ne 7, 3) := by decide +kernel
theorem dX7_redeem_86 : decode cX7_redeem 86 = .ok (.iconst 2, 1) := by decide +kernel
theorem dX7_redeem_87 : decode cX7_redeem 87 = .ok (.goto 4, 3) := by decide +kernel
theorem dX7_redeem_90 : decode cX7_redeem 90 = .ok (.iconst 0, 1) := by decide +kernel
theorem dX7_redeem_91 : decode cX7_redeem 91 = .ok (.invokevirtual 139, 3) := by decide +kernel
theorem dX7_redeem_94 : decode cX7_redeem 94 = .ok (.ifCond .eq 5, 3) := by decide +kernel
theorem dX7_redeem_97 : decode cX7_redeem 97 = .ok (.iconst 0, 1) := by decide +kernel
theorem dX7_redeem_98 : decode cX7_redeem 98 = .ok (.ireturn, 1) := by decide +kernel
theorem dX7_redeem_99 : decode cX7_redeem 99 = .ok (.aload_n 0, 1) := by decide +kernel
theorem dX7_redeem_100 : decode cX7_redeem 100 = .ok (.getfield 96, 3) := by decide +kernel
theorem dX7_redeem_103 : decode cX7_redeem 103 = .ok (.iload_n 1, 1) := by decide +kernel
theorem dX7_redeem_104 : decode cX7_redeem 104 = .ok (.iaload, 1) := by decide +kernel
theorem dX7_redeem_105 : decode cX7_redeem 105 = .ok (.aload_n 0, 1) := by decide +kernel
theorem dX7_redeem_106 : decode cX7_redeem 106 = .ok (.iload_n 1, 1) := by decide +kernel
theorem dX7_redeem_107 : decode cX7_redeem 107 = .ok (.invokevirtual 194, 3) := by decide +kernel
theorem dX7_redeem_110 : decode cX7_redeem 110 = .ok (.iadd, 1) := by decide +kernel
theorem dX7_redeem_111 : decode cX7_redeem 111 = .ok (.istore 5, 2) := by decide +kernel
theorem dX7_redeem_113 : decode cX7_redeem 113 = .ok (.aload_n 0, 1) := by decide +kernel
theorem dX7_redeem_114 : decode cX7_redeem 114 = .ok (.dup, 1) := by decide +kernel
theorem dX7_redeem_115 : decode cX7_redeem 115 = .ok (.getfield 173, 3) := by decide +kernel
theorem dX7_redeem_118 : decode cX7_redeem 118 = .ok (.iload 5, 2) := by decide +kernel
theorem dX7_redeem_120 : decode cX7_redeem 120 = .ok (.iadd, 1) := by decide +kernel
theorem dX7_redeem_121 : decode cX7_redeem 121 = .ok (.putfield 173, 3) := by decide +kernel
theorem dX7_redeem_124 : decode cX7_redeem 124 = .ok (.aload_n 0, 1) := by decide +kernel
theorem dX7_redeem_125 : decode cX7_redeem 125 = .ok (.getfield 108, 3) := by decide +kernel
theorem dX7_redeem_128 : decode cX7_redeem 128 = .ok (.iload_n 1, 1) := by decide +kernel
theorem dX7_redeem_129 : decode cX7_redeem 129 = .ok (.iconst 1, 1) := by decide +kernel
theorem dX7_redeem_130 : decode cX7_redeem 130 = .ok (.iastore, 1) := by decide +kernel
theorem dX7_redeem_131 : decode cX7_redeem 131 = .ok (.aload_n 0, 1) := by decide +kernel
theorem dX7_redeem_132 : decode cX7_redeem 132 = .ok (.getfield 22, 3) := by decide +kernel
theorem dX7_redeem_135 : decode cX7_redeem 135 = .ok (.aload_n 0, 1) := by decide +kernel
theorem dX7_redeem_136 : decode cX7_redeem 136 = .ok (.getfield 81, 3) := by decide +kernel
theorem dX7_redeem_139 : decode cX7_redeem 139 = .ok (.iload_n 1, 1) := by decide +kernel
theorem dX7_redeem_140 : decode cX7_redeem 140 = .ok (.iaload, 1) := by decide +kernel
theorem dX7_redeem_141 : decode cX7_redeem 141 = .ok (.iconst 0, 1) := by decide +kernel
theorem dX7_redeem_142 : decode cX7_redeem 142 = .ok (.bastore, 1) := by decide +kernel
theorem dX7_redeem_143 : decode cX7_redeem 143 = .ok (.iload 5, 2) := by decide +kernel
theorem dX7_redeem_145 : decode cX7_redeem 145 = .ok (.ireturn, 1) := by decide +kernel
theorem dX7_renew_0 : decode cX7_renew 0 = .ok (.aload_n 0, 1) := by decide +kernel
theorem dX7_renew_1 : decode cX7_renew 1 = .ok (.iload_n 1, 1) := by decide +kernel
theorem dX7_renew_2 : decode cX7_renew 2 = .ok (.invokevirtual 185, 3) := by decide +kernel
theorem dX7_renew_5 : decode cX7_renew 5 = .ok (.ifCond .eq 14, 3) := by decide +kernel
theorem dX7_renew_8 : decode cX7_renew 8 = .ok (.iload_n 2, 1) := by decide +kernel
theorem dX7_renew_9 : decode cX7_renew 9 = .ok (.invokestatic 143, 3) := by decide +kernel
theorem dX7_renew_12 : decode cX7_renew 12 = .ok (.ifCond .eq 7, 3) := by decide +kernel
theorem dX7_renew_15 : decode cX7_renew 15 = .ok (.iconst 1, 1) := by decide +kernel
theorem dX7_renew_16 : decode cX7_renew 16 = .ok (.goto 4, 3) := by decide +kernel
theorem dX7_renew_19 : decode cX7_renew 19 = .ok (.iconst 0, 1) := by decide +kernel
theorem dX7_renew_20 : decode cX7_renew 20 = .ok (.istore 4, 2) := by decide +kernel
theorem dX7_renew_22 : decode cX7_renew 22 = .ok (.iload 4, 2) := by decide +kernel
theorem dX7_renew_24 : decode cX7_renew 24 = .ok (.ifCond .eq 23, 3) := by decide +kernel
theorem dX7_renew_27 : decode cX7_renew 27 = .ok (.iload_n 3, 1) := by decide +kernel
theorem dX7_renew_28 : decode cX7_renew 28 = .ok (.iconst 0, 1) := by decide +kernel
theorem dX7_renew_29 : decode cX7_renew 29 = .ok (.aload_n 0, 1) := by decide +kernel
theorem dX7_renew_30 : decode cX7_renew 30 = .ok (.getfield 96, 3) := by decide +kernel
theorem dX7_renew_33 : decode cX7_renew 33 = .ok (.iload_n 1, 1) := by decide +kernel
theorem dX7_renew_34 : decode cX7_renew 34 = .ok (.iaload, 1) := by decide +kernel
theorem dX7_renew_35 : decode cX7_renew 35 = .ok (.iconst 1, 1) := by decide +kernel
theorem dX7_renew_36 : decode cX7_renew 36 = .ok (.isub, 1) := by decide +kernel
theorem dX7_renew_37 : decode cX7_renew 37 = .ok (.invokestatic 132, 3) := by decide +kernel
theorem dX7_renew_40 : decode cX7_renew 40 = .ok (.ifCond .eq 7, 3) := by decide +kernel
theorem dX7_renew_43 : decode cX7_renew 43 = .ok (.iconst 1, 1) := by decide +kernel
theorem dX7_renew_44 : decode cX7_renew 44 = .ok (.goto 4, 3) := by decide +kernel
theorem dX7_renew_47 : decode cX7_renew 47 = .ok (.iconst 0, 1) := by decide +kernel
theorem dX7_renew_48 : decode cX7_renew 48 = .ok (.istore 5, 2) := by decide +kernel
theorem dX7_renew_50 : decode cX7_renew 50 = .ok (.iload 4, 2) := by decide +kernel
theorem dX7_renew_52 : decode cX7_renew 52 = .ok (.ifCond .eq 34, 3) := by decide +kernel
theorem dX7_renew_55 : decode cX7_renew 55 = .ok (.aload_n 0, 1) := by decide +kernel
theorem dX7_renew_56 : decode cX7_renew 56 = .ok (.getfield 108, 3) := by decide +kernel
theorem dX7_renew_59 : decode cX7_renew 59 = .ok (.iload_n 1, 1) := by decide +kernel
theorem dX7_renew_60 : decode cX7_renew 60 = .ok (.iaload, 1) := by decide +kernel
theorem dX7_renew_61 : decode cX7_renew 61 = .ok (.ifCond .ne 25, 3) := by decide +kernel
theorem dX7_renew_64 : decode cX7_renew 64 = .ok (.aload_n 0, 1) := by decide +kernel
theorem dX7_renew_65 : decode cX7_renew 65 = .ok (.iload_n 1, 1) := by decide +kernel
theorem dX7_renew_66 : decode cX7_renew 66 = .ok (.invokevirtual 188, 3) := by decide +kernel
theorem dX7_renew_69 : decode cX7_renew 69 = .ok (.ifCond .ne 17, 3) := by decide +kernel
theorem dX7_renew_72 : decode cX7_renew 72 = .ok (.aload_n 0, 1) := by decide +kernel
theorem dX7_renew_73 : decode cX7_renew 73 = .ok (.getfield 90, 3) := by decide +kernel
theorem dX7_renew_76 : decode cX7_renew 76 = .ok (.iload_n 1, 1) := by decide +kernel
theorem dX7_renew_77 : decode cX7_renew 77 = .ok (.iaload, 1) := by decide +kernel
theorem dX7_renew_78 : decode cX7_renew 78 = .ok (.iload_n 2, 1) := by decide +kernel
theorem dX7_renew_79 : decode cX7_renew 79 = .ok (.if_icmp .ne 7, 3) := by decide +kernel
theorem dX7_renew_82 : decode cX7_renew 82 = .ok (.iconst 1, 1) := by decide +kernel
theorem dX7_renew_83 : decode cX7_renew 83 = .ok (.goto 4, 3) := by decide +kernel
theorem dX7_renew_86 : decode cX7_renew 86 = .ok (.iconst 0, 1) := by decide +kernel
theorem dX7_renew_87 : decode cX7_renew 87 = .ok (.istore 6, 2) := by decide +kernel
theorem dX7_renew_89 : decode cX7_renew 89 = .ok (.aload_n 0, 1) := by decide +kernel
theorem dX7_renew_90 : decode cX7_renew 90 = .ok (.iload 4, 2) := by decide +kernel
theorem dX7_renew_92 : decode cX7_renew 92 = .ok (.ifCond .ne 7, 3) := by decide +kernel
theorem dX7_renew_95 : decode cX7_renew 95 = .ok (.iconst 1, 1) := by decide +kernel
theorem dX7_renew_96 : decode cX7_renew 96 = .ok (.goto 22, 3) := by decide +kernel
theorem dX7_renew_99 : decode cX7_renew 99 = .ok (.iload 5, 2) := by decide +kernel
theorem dX7_renew_101 : decode cX7_renew 101 = .ok (.ifCond .ne 7, 3) := by decide +kernel
theorem dX7_renew_104 : decode cX7_renew 104 = .ok (.iconst 2, 1) := by decide +kernel
theorem dX7_renew_105 : decode cX7_renew 105 = .ok (.goto 13, 3) := by decide +kernel
theorem dX7_renew_108 : decode cX7_renew 108 = .ok (.iload 6, 2) := by decide +kernel
theorem dX7_renew_110 : decode cX7_renew 110 = .ok (.ifCond .ne 7, 3) := by decide +kernel
theorem dX7_renew_113 : decode cX7_renew 113 = .ok (.iconst 3, 1) := by decide +kernel
theorem dX7_renew_114 : decode cX7_renew 114 = .ok (.goto 4, 3) := by decide +kernel
theorem dX7_renew_117 : decode cX7_renew 117 = .ok (.iconst 0, 1) := by decide +kernel
theorem dX7_renew_118 : decode cX7_renew 118 = .ok (.invokevirtual 139, 3) := by decide +kernel
theorem dX7_renew_121 : decode cX7_renew 121 = .ok (.ifCond .eq 5, 3) := by decide +kernel
theorem dX7_renew_124 : decode cX7_renew 124 = .ok (.iconst 0, 1) := by decide +kernel
theorem dX7_renew_125 : decode cX7_renew 125 = .ok (.ireturn, 1) := by decide +kernel
theorem dX7_renew_126 : decode cX7_renew 126 = .ok (.aload_n 0, 1) := by decide +kernel
theorem dX7_renew_127 : decode cX7_renew 127 = .ok (.iload_n 1, 1) := by decide +kernel
theorem dX7_renew_128 : decode cX7_renew 128 = .ok (.invokevirtual 194, 3) := by decide +kernel
theorem dX7_renew_131 : decode cX7_renew 131 = .ok (.iload_n 3, 1) := by decide +kernel
theorem dX7_renew_132 : decode cX7_renew 132 = .ok (.iadd, 1) := by decide +kernel
theorem dX7_renew_133 : decode cX7_renew 133 = .ok (.istore 7, 2) := by decide +kernel
theorem dX7_renew_135 : decode cX7_renew 135 = .ok (.aload_n 0, 1) := by decide +kernel
theorem dX7_renew_136 : decode cX7_renew 136 = .ok (.dup, 1) := by decide +kernel
theorem dX7_renew_137 : decode cX7_renew 137 = .ok (.getfield 173, 3) := by decide +kernel
theorem dX7_renew_140 : decode cX7_renew 140 = .ok (.iload 7, 2) := by decide +kernel
theorem dX7_renew_142 : decode cX7_renew 142 = .ok (.iadd, 1) := by decide +kernel
theorem dX7_renew_143 : decode cX7_renew 143 = .ok (.putfield 173, 3) := by decide +kernel
theorem dX7_renew_146 : decode cX7_renew 146 = .ok (.aload_n 0, 1) := by decide +kernel
theorem dX7_renew_147 : decode cX7_renew 147 = .ok (.getfield 96, 3) := by decide +kernel
theorem dX7_renew_150 : decode cX7_renew 150 = .ok (.iload_n 1, 1) := by decide +kernel
theorem dX7_renew_151 : decode cX7_renew 151 = .ok (.dup2, 1) := by decide +kernel
theorem dX7_renew_152 : decode cX7_renew 152 = .ok (.iaload, 1) := by decide +kernel
theorem dX7_renew_153 : decode cX7_renew 153 = .ok (.iload_n 3, 1) := by decide +kernel
theorem dX7_renew_154 : decode cX7_renew 154 = .ok (.isub, 1) := by decide +kernel
theorem dX7_renew_155 : decode cX7_renew 155 = .ok (.iastore, 1) := by decide +kernel
theorem dX7_renew_156 : decode cX7_renew 156 = .ok (.aload_n 0, 1) := by decide +kernel
theorem dX7_renew_157 : decode cX7_renew 157 = .ok (.getfield 102, 3) := by decide +kernel
theorem dX7_renew_160 : decode cX7_renew 160 = .ok (.iload_n 1, 1) := by decide +kernel
theorem dX7_renew_161 : decode cX7_renew 161 = .ok (.aload_n 0, 1) := by decide +kernel
theorem dX7_renew_162 : decode cX7_renew 162 = .ok (.getfield 150, 3) := by decide +kernel
theorem dX7_renew_165 : decode cX7_renew 165 = .ok (.iastore, 1) := by decide +kernel
theorem dX7_renew_166 : decode cX7_renew 166 = .ok (.aload_n 0, 1) := by decide +kernel
theorem dX7_renew_167 : decode cX7_renew 167 = .ok (.getfield 105, 3) := by decide +kernel
theorem dX7_renew_170 : decode cX7_renew 170 = .ok (.iload_n 1, 1) := by decide +kernel
theorem dX7_renew_171 : decode cX7_renew 171 = .ok (.aload_n 0, 1) := by decide +kernel
theorem dX7_renew_172 : decode cX7_renew 172 = .ok (.getfield 77, 3) := by decide +kernel
theorem dX7_renew_175 : decode cX7_renew 175 = .ok (.iastore, 1) := by decide +kernel
theorem dX7_renew_176 : decode cX7_renew 176 = .ok (.iload 7, 2) := by decide +kernel
theorem dX7_renew_178 : decode cX7_renew 178 = .ok (.ireturn, 1) := by decide +kernel
theorem dX7_give_0 : decode cX7_give 0 = .ok (.aload_n 0, 1) := by decide +kernel
theorem dX7_give_1 : decode cX7_give 1 = .ok (.iload_n 1, 1) := by decide +kernel
theorem dX7_give_2 : decode cX7_give 2 = .ok (.invokevirtual 185, 3) := by decide +kernel
theorem dX7_give_5 : decode cX7_give 5 = .ok (.ifCond .eq 14, 3) := by decide +kernel
theorem dX7_give_8 : decode cX7_give 8 = .ok (.iload_n 2, 1) := by decide +kernel
theorem dX7_give_9 : decode cX7_give 9 = .ok (.invokestatic 143, 3) := by decide +kernel
theorem dX7_give_12 : decode cX7_give 12 = .ok (.ifCond .eq 7, 3) := by decide +kernel
theorem dX7_give_15 : decode cX7_give 15 = .ok (.iconst 1, 1) := by decide +kernel
theorem dX7_give_16 : decode cX7_give 16 = .ok (.goto 4, 3) := by decide +kernel
theorem dX7_give_19 : decode cX7_give 19 = .ok (.iconst 0, 1) := by decide +kernel
theorem dX7_give_20 : decode cX7_give 20 = .ok (.istore_n 3, 1) := by decide +kernel
theorem dX7_give_21 : decode cX7_give 21 = .ok (.iload_n 3, 1) := by decide +kernel
theorem dX7_give_22 : decode cX7_give 22 = .ok (.ifCond .eq 35, 3) := by decide +kernel
theorem dX7_give_25 : decode cX7_give 25 = .ok (.aload_n 0, 1) := by decide +kernel
theorem dX7_give_26 : decode cX7_give 26 = .ok (.getfield 93, 3) := by decide +kernel
theorem dX7_give_29 : decode cX7_give 29 = .ok (.iload_n 1, 1) := by decide +kernel
theorem dX7_give_30 : decode cX7_give 30 = .ok (.baload, 1) := by decide +kernel
theorem dX7_give_31 : decode cX7_give 31 = .ok (.ifCond .ne 26, 3) := by decide +kernel
theorem dX7_give_34 : decode cX7_give 34 = .ok (.aload_n 0, 1) := by decide +kernel
theorem dX7_give_35 : decode cX7_give 35 = .ok (.getfield 108, 3) := by decide +kernel
theorem dX7_give_38 : decode cX7_give 38 = .ok (.iload_n 1, 1) := by decide +kernel
theorem dX7_give_39 : decode cX7_give 39 = .ok (.iaload, 1) := by decide +kernel
theorem dX7_give_40 : decode cX7_give 40 = .ok (.ifCond .eq 13, 3) := by decide +kernel
theorem dX7_give_43 : decode cX7_give 43 = .ok (.aload_n 0, 1) := by decide +kernel
theorem dX7_give_44 : decode cX7_give 44 = .ok (.getfield 108, 3) := by decide +kernel
theorem dX7_give_47 : decode cX7_give 47 = .ok (.iload_n 1, 1) := by decide +kernel
theorem dX7_give_48 : decode cX7_give 48 = .ok (.iaload, 1) := by decide +kernel
theorem dX7_give_49 : decode cX7_give 49 = .ok (.iconst 2, 1) := by decide +kernel
theorem dX7_give_50 : decode cX7_give 50 = .ok (.if_icmp .ne 7, 3) := by decide +kernel
theorem dX7_give_53 : decode cX7_give 53 = .ok (.iconst 1, 1) := by decide +kernel
theorem dX7_give_54 : decode cX7_give 54 = .ok (.goto 4, 3) := by decide +kernel
theorem dX7_give_57 : decode cX7_give 57 = .ok (.iconst 0, 1) := by decide +kernel
theorem dX7_give_58 : decode cX7_give 58 = .ok (.istore 4, 2) := by decide +kernel
theorem dX7_give_60 : decode cX7_give 60 = .ok (.aload_n 0, 1) := by decide +kernel
theorem dX7_give_61 : decode cX7_give 61 = .ok (.iload_n 3, 1) := by decide +kernel
theorem dX7_give_62 : decode cX7_give 62 = .ok (.ifCond .ne 7, 3) := by decide +kernel
theorem dX7_give_65 : decode cX7_give 65 = .ok (.iconst 1, 1) := by decide +kernel
theorem dX7_give_66 : decode cX7_give 66 = .ok (.goto 13, 3) := by decide +kernel
theorem dX7_give_69 : decode cX7_give 69 = .ok (.iload 4, 2) := by decide +kernel
theorem dX7_give_71 : decode cX7_give 71 = .ok (.ifCond .ne 7, 3) := by decide +kernel
theorem dX7_give_74 : decode cX7_give 74 = .ok (.iconst 2, 1) := by decide +kernel
theorem dX7_give_75 : decode cX7_give 75 = .ok (.goto 4, 3) := by decide +kernel
theorem dX7_give_78 : decode cX7_give 78 = .ok (.iconst 0, 1) := by decide +kernel
theorem dX7_give_79 : decode cX7_give 79 = .ok (.invokevirtual 139, 3) := by decide +kernel
theorem dX7_give_82 : decode cX7_give 82 = .ok (.ifCond .eq 5, 3) := by decide +kernel
theorem dX7_give_85 : decode cX7_give 85 = .ok (.iconst 0, 1) := by decide +kernel
theorem dX7_give_86 : decode cX7_give 86 = .ok (.ireturn, 1) := by decide +kernel
theorem dX7_give_87 : decode cX7_give 87 = .ok (.aload_n 0, 1) := by decide +kernel
theorem dX7_give_88 : decode cX7_give 88 = .ok (.getfield 90, 3) := by decide +kernel
theorem dX7_give_91 : decode cX7_give 91 = .ok (.iload_n 1, 1) := by decide +kernel
theorem dX7_give_92 : decode cX7_give 92 = .ok (.iaload, 1) := by decide +kernel
theorem dX7_give_93 : decode cX7_give 93 = .ok (.istore 5, 2) := by decide +kernel
theorem dX7_give_95 : decode cX7_give 95 = .ok (.aload_n 0, 1) := by decide +kernel
theorem dX7_give_96 : decode cX7_give 96 = .ok (.getfield 90, 3) := by decide +kernel
theorem dX7_give_99 : decode cX7_give 99 = .ok (.iload_n 1, 1) := by decide +kernel
theorem dX7_give_100 : decode cX7_give 100 = .ok (.iload_n 2, 1) := by decide +kernel
theorem dX7_give_101 : decode cX7_give 101 = .ok (.iastore, 1) := by decide +kernel
theorem dX7_give_102 : decode cX7_give 102 = .ok (.iload 5, 2) := by decide +kernel
theorem dX7_give_104 : decode cX7_give 104 = .ok (.ireturn, 1) := by decide +kernel
theorem dX7_notice_0 : decode cX7_notice 0 = .ok (.aload_n 0, 1) := by decide +kernel
theorem dX7_notice_1 : decode cX7_notice 1 = .ok (.iload_n 1, 1) := by decide +kernel
theorem dX7_notice_2 : decode cX7_notice 2 = .ok (.invokevirtual 185, 3) := by decide +kernel
theorem dX7_notice_5 : decode cX7_notice 5 = .ok (.ifCond .eq 14, 3) := by decide +kernel
theorem dX7_notice_8 : decode cX7_notice 8 = .ok (.iload_n 2, 1) := by decide +kernel
theorem dX7_notice_9 : decode cX7_notice 9 = .ok (.invokestatic 143, 3) := by decide +kernel
theorem dX7_notice_12 : decode cX7_notice 12 = .ok (.ifCond .eq 7, 3) := by decide +kernel
theorem dX7_notice_15 : decode cX7_notice 15 = .ok (.iconst 1, 1) := by decide +kernel
theorem dX7_notice_16 : decode cX7_notice 16 = .ok (.goto 4, 3) := by decide +kernel
theorem dX7_notice_19 : decode cX7_notice 19 = .ok (.iconst 0, 1) := by decide +kernel
theorem dX7_notice_20 : decode cX7_notice 20 = .ok (.istore_n 3, 1) := by decide +kernel
theorem dX7_notice_21 : decode cX7_notice 21 = .ok (.iload_n 3, 1) := by decide +kernel
theorem dX7_notice_22 : decode cX7_notice 22 = .ok (.ifCond .eq 36, 3) := by decide +kernel
theorem dX7_notice_25 : decode cX7_notice 25 = .ok (.aload_n 0, 1) := by decide +kernel
theorem dX7_notice_26 : decode cX7_notice 26 = .ok (.getfield 108, 3) := by decide +kernel
theorem dX7_notice_29 : decode cX7_notice 29 = .ok (.iload_n 1, 1) := by decide +kernel
theorem dX7_notice_30 : decode cX7_notice 30 = .ok (.iaload, 1) := by decide +kernel
theorem dX7_notice_31 : decode cX7_notice 31 = .ok (.ifCond .eq 13, 3) := by decide +kernel
theorem dX7_notice_34 : decode cX7_notice 34 = .ok (.aload_n 0, 1) := by decide +kernel
theorem dX7_notice_35 : decode cX7_notice 35 = .ok (.getfield 108, 3) := by decide +kernel
theorem dX7_notice_38 : decode cX7_notice 38 = .ok (.iload_n 1, 1) := by decide +kernel
theorem dX7_notice_39 : decode cX7_notice 39 = .ok (.iaload, 1) := by decide +kernel
theorem dX7_notice_40 : decode cX7_notice 40 = .ok (.iconst 2, 1) := by decide +kernel
theorem dX7_notice_41 : decode cX7_notice 41 = .ok (.if_icmp .ne 17, 3) := by decide +kernel
theorem dX7_notice_44 : decode cX7_notice 44 = .ok (.aload_n 0, 1) := by decide +kernel
theorem dX7_notice_45 : decode cX7_notice 45 = .ok (.getfield 114, 3) := by decide +kernel
theorem dX7_notice_48 : decode cX7_notice 48 = .ok (.iload_n 1, 1) := by decide +kernel
theorem dX7_notice_49 : decode cX7_notice 49 = .ok (.iaload, 1) := by decide +kernel
theorem dX7_notice_50 : decode cX7_notice 50 = .ok (.iconst (-1), 1) := by decide +kernel
theorem dX7_notice_51 : decode cX7_notice 51 = .ok (.if_icmp .ne 7, 3) := by decide +kernel
theorem dX7_notice_54 : decode cX7_notice 54 = .ok (.iconst 1, 1) := by decide +kernel
theorem dX7_notice_55 : decode cX7_notice 55 = .ok (.goto 4, 3) := by decide +kernel
theorem dX7_notice_58 : decode cX7_notice 58 = .ok (.iconst 0, 1) := by decide +kernel
theorem dX7_notice_59 : decode cX7_notice 59 = .ok (.istore 4, 2) := by decide +kernel
theorem dX7_notice_61 : decode cX7_notice 61 = .ok (.aload_n 0, 1) := by decide +kernel
theorem dX7_notice_62 : decode cX7_notice 62 = .ok (.iload_n 3, 1) := by decide +kernel
theorem dX7_notice_63 : decode cX7_notice 63 = .ok (.ifCond .ne 7, 3) := by decide +kernel
theorem dX7_notice_66 : decode cX7_notice 66 = .ok (.iconst 1, 1) := by decide +kernel
theorem dX7_notice_67 : decode cX7_notice 67 = .ok (.goto 13, 3) := by decide +kernel
theorem dX7_notice_70 : decode cX7_notice 70 = .ok (.iload 4, 2) := by decide +kernel
theorem dX7_notice_72 : decode cX7_notice 72 = .ok (.ifCond .ne 7, 3) := by decide +kernel
theorem dX7_notice_75 : decode cX7_notice 75 = .ok (.iconst 2, 1) := by decide +kernel
theorem dX7_notice_76 : decode cX7_notice 76 = .ok (.goto 4, 3) := by decide +kernel
theorem dX7_notice_79 : decode cX7_notice 79 = .ok (.iconst 0, 1) := by decide +kernel
theorem dX7_notice_80 : decode cX7_notice 80 = .ok (.invokevirtual 139, 3) := by decide +kernel
theorem dX7_notice_83 : decode cX7_notice 83 = .ok (.ifCond .ne 20, 3) := by decide +kernel
theorem dX7_notice_86 : decode cX7_notice 86 = .ok (.aload_n 0, 1) := by decide +kernel
theorem dX7_notice_87 : decode cX7_notice 87 = .ok (.getfield 114, 3) := by decide +kernel
theorem dX7_notice_90 : decode cX7_notice 90 = .ok (.iload_n 1, 1) := by decide +kernel
theorem dX7_notice_91 : decode cX7_notice 91 = .ok (.aload_n 0, 1) := by decide +kernel
theorem dX7_notice_92 : decode cX7_notice 92 = .ok (.getfield 150, 3) := by decide +kernel
theorem dX7_notice_95 : decode cX7_notice 95 = .ok (.iastore, 1) := by decide +kernel
theorem dX7_notice_96 : decode cX7_notice 96 = .ok (.aload_n 0, 1) := by decide +kernel
theorem dX7_notice_97 : decode cX7_notice 97 = .ok (.getfield 117, 3) := by decide +kernel
theorem dX7_notice_100 : decode cX7_notice 100 = .ok (.iload_n 1, 1) := by decide +kernel
theorem dX7_notice_101 : decode cX7_notice 101 = .ok (.iload_n 2, 1) := by decide +kernel
theorem dX7_notice_102 : decode cX7_notice 102 = .ok (.iastore, 1) := by decide +kernel
theorem dX7_notice_103 : decode cX7_notice 103 = .ok (.return_, 1) := by decide +kernel
theorem dX7_show_0 : decode cX7_show 0 = .ok (.aload_n 0, 1) := by decide +kernel
theorem dX7_show_1 : decode cX7_show 1 = .ok (.iload_n 1, 1) := by decide +kernel
theorem dX7_show_2 : decode cX7_show 2 = .ok (.invokevirtual 185, 3) := by decide +kernel
theorem dX7_show_5 : decode cX7_show 5 = .ok (.istore_n 2, 1) := by decide +kernel
theorem dX7_show_6 : decode cX7_show 6 = .ok (.aload_n 0, 1) := by decide +kernel
theorem dX7_show_7 : decode cX7_show 7 = .ok (.iload_n 2, 1) := by decide +kernel
theorem dX7_show_8 : decode cX7_show 8 = .ok (.ifCond .ne 7, 3) := by decide +kernel
theorem dX7_show_11 : decode cX7_show 11 = .ok (.iconst 1, 1) := by decide +kernel
theorem dX7_show_12 : decode cX7_show 12 = .ok (.goto 18, 3) := by decide +kernel
theorem dX7_show_15 : decode cX7_show 15 = .ok (.aload_n 0, 1) := by decide +kernel
theorem dX7_show_16 : decode cX7_show 16 = .ok (.getfield 114, 3) := by decide +kernel
theorem dX7_show_19 : decode cX7_show 19 = .ok (.iload_n 1, 1) := by decide +kernel
theorem dX7_show_20 : decode cX7_show 20 = .ok (.iaload, 1) := by decide +kernel
theorem dX7_show_21 : decode cX7_show 21 = .ok (.iconst (-1), 1) := by decide +kernel
theorem dX7_show_22 : decode cX7_show 22 = .ok (.if_icmp .ne 7, 3) := by decide +kernel
theorem dX7_show_25 : decode cX7_show 25 = .ok (.iconst 2, 1) := by decide +kernel
theorem dX7_show_26 : decode cX7_show 26 = .ok (.goto 4, 3) := by decide +kernel
theorem dX7_show_29 : decode cX7_show 29 = .ok (.iconst 0, 1) := by decide +kernel
theorem dX7_show_30 : decode cX7_show 30 = .ok (.invokevirtual 139, 3) := by decide +kernel
theorem dX7_show_33 : decode cX7_show 33 = .ok (.ifCond .eq 5, 3) := by decide +kernel
theorem dX7_show_36 : decode cX7_show 36 = .ok (.iconst 0, 1) := by decide +kernel
theorem dX7_show_37 : decode cX7_show 37 = .ok (.ireturn, 1) := by decide +kernel
theorem dX7_show_38 : decode cX7_show 38 = .ok (.aload_n 0, 1) := by decide +kernel
theorem dX7_show_39 : decode cX7_show 39 = .ok (.getfield 114, 3) := by decide +kernel
theorem dX7_show_42 : decode cX7_show 42 = .ok (.iload_n 1, 1) := by decide +kernel
theorem dX7_show_43 : decode cX7_show 43 = .ok (.iconst (-1), 1) := by decide +kernel
theorem dX7_show_44 : decode cX7_show 44 = .ok (.iastore, 1) := by decide +kernel
theorem dX7_show_45 : decode cX7_show 45 = .ok (.aload_n 0, 1) := by decide +kernel
theorem dX7_show_46 : decode cX7_show 46 = .ok (.getfield 117, 3) := by decide +kernel
theorem dX7_show_49 : decode cX7_show 49 = .ok (.iload_n 1, 1) := by decide +kernel
theorem dX7_show_50 : decode cX7_show 50 = .ok (.iaload, 1) := by decide +kernel
theorem dX7_show_51 : decode cX7_show 51 = .ok (.ireturn, 1) := by decide +kernel
theorem dX7_police_0 : decode cX7_police 0 = .ok (.aload_n 0, 1) := by decide +kernel
theorem dX7_police_1 : decode cX7_police 1 = .ok (.iload_n 1, 1) := by decide +kernel
theorem dX7_police_2 : decode cX7_police 2 = .ok (.invokevirtual 166, 3) := by decide +kernel
theorem dX7_police_5 : decode cX7_police 5 = .ok (.istore_n 2, 1) := by decide +kernel
theorem dX7_police_6 : decode cX7_police 6 = .ok (.aload_n 0, 1) := by decide +kernel
theorem dX7_police_7 : decode cX7_police 7 = .ok (.iload_n 2, 1) := by decide +kernel
theorem dX7_police_8 : decode cX7_police 8 = .ok (.ifCond .ne 7, 3) := by decide +kernel
theorem dX7_police_11 : decode cX7_police 11 = .ok (.iconst 1, 1) := by decide +kernel
theorem dX7_police_12 : decode cX7_police 12 = .ok (.goto 17, 3) := by decide +kernel
theorem dX7_police_15 : decode cX7_police 15 = .ok (.aload_n 0, 1) := by decide +kernel
theorem dX7_police_16 : decode cX7_police 16 = .ok (.getfield 26, 3) := by decide +kernel
theorem dX7_police_19 : decode cX7_police 19 = .ok (.iload_n 1, 1) := by decide +kernel
theorem dX7_police_20 : decode cX7_police 20 = .ok (.baload, 1) := by decide +kernel
theorem dX7_police_21 : decode cX7_police 21 = .ok (.ifCond .eq 7, 3) := by decide +kernel
theorem dX7_police_24 : decode cX7_police 24 = .ok (.iconst 2, 1) := by decide +kernel
theorem dX7_police_25 : decode cX7_police 25 = .ok (.goto 4, 3) := by decide +kernel
theorem dX7_police_28 : decode cX7_police 28 = .ok (.iconst 0, 1) := by decide +kernel
theorem dX7_police_29 : decode cX7_police 29 = .ok (.invokevirtual 139, 3) := by decide +kernel
theorem dX7_police_32 : decode cX7_police 32 = .ok (.ifCond .eq 5, 3) := by decide +kernel
theorem dX7_police_35 : decode cX7_police 35 = .ok (.iconst 0, 1) := by decide +kernel
theorem dX7_police_36 : decode cX7_police 36 = .ok (.ireturn, 1) := by decide +kernel
theorem dX7_police_37 : decode cX7_police 37 = .ok (.aload_n 0, 1) := by decide +kernel
theorem dX7_police_38 : decode cX7_police 38 = .ok (.getfield 26, 3) := by decide +kernel
theorem dX7_police_41 : decode cX7_police 41 = .ok (.iload_n 1, 1) := by decide +kernel
theorem dX7_police_42 : decode cX7_police 42 = .ok (.iconst 1, 1) := by decide +kernel
theorem dX7_police_43 : decode cX7_police 43 = .ok (.bastore, 1) := by decide +kernel
theorem dX7_police_44 : decode cX7_police 44 = .ok (.aload_n 0, 1) := by decide +kernel
theorem dX7_police_45 : decode cX7_police 45 = .ok (.iload_n 1, 1) := by decide +kernel
theorem dX7_police_46 : decode cX7_police 46 = .ok (.invokevirtual 197, 3) := by decide +kernel
theorem dX7_police_49 : decode cX7_police 49 = .ok (.ireturn, 1) := by decide +kernel
theorem dX7_court_0 : decode cX7_court 0 = .ok (.aload_n 0, 1) := by decide +kernel
theorem dX7_court_1 : decode cX7_court 1 = .ok (.iload_n 1, 1) := by decide +kernel
theorem dX7_court_2 : decode cX7_court 2 = .ok (.invokevirtual 166, 3) := by decide +kernel
theorem dX7_court_5 : decode cX7_court 5 = .ok (.istore_n 3, 1) := by decide +kernel
theorem dX7_court_6 : decode cX7_court 6 = .ok (.aload_n 0, 1) := by decide +kernel
theorem dX7_court_7 : decode cX7_court 7 = .ok (.iload_n 3, 1) := by decide +kernel
theorem dX7_court_8 : decode cX7_court 8 = .ok (.ifCond .ne 7, 3) := by decide +kernel
theorem dX7_court_11 : decode cX7_court 11 = .ok (.iconst 1, 1) := by decide +kernel
theorem dX7_court_12 : decode cX7_court 12 = .ok (.goto 17, 3) := by decide +kernel
theorem dX7_court_15 : decode cX7_court 15 = .ok (.aload_n 0, 1) := by decide +kernel
theorem dX7_court_16 : decode cX7_court 16 = .ok (.getfield 26, 3) := by decide +kernel
theorem dX7_court_19 : decode cX7_court 19 = .ok (.iload_n 1, 1) := by decide +kernel
theorem dX7_court_20 : decode cX7_court 20 = .ok (.baload, 1) := by decide +kernel
theorem dX7_court_21 : decode cX7_court 21 = .ok (.ifCond .ne 7, 3) := by decide +kernel
theorem dX7_court_24 : decode cX7_court 24 = .ok (.iconst 2, 1) := by decide +kernel
theorem dX7_court_25 : decode cX7_court 25 = .ok (.goto 4, 3) := by decide +kernel
theorem dX7_court_28 : decode cX7_court 28 = .ok (.iconst 0, 1) := by decide +kernel
theorem dX7_court_29 : decode cX7_court 29 = .ok (.invokevirtual 139, 3) := by decide +kernel
theorem dX7_court_32 : decode cX7_court 32 = .ok (.ifCond .eq 5, 3) := by decide +kernel
theorem dX7_court_35 : decode cX7_court 35 = .ok (.iconst 0, 1) := by decide +kernel
theorem dX7_court_36 : decode cX7_court 36 = .ok (.ireturn, 1) := by decide +kernel
theorem dX7_court_37 : decode cX7_court 37 = .ok (.iload_n 2, 1) := by decide +kernel
theorem dX7_court_38 : decode cX7_court 38 = .ok (.ifCond .eq 11, 3) := by decide +kernel
theorem dX7_court_41 : decode cX7_court 41 = .ok (.aload_n 0, 1) := by decide +kernel
theorem dX7_court_42 : decode cX7_court 42 = .ok (.iload_n 1, 1) := by decide +kernel
theorem dX7_court_43 : decode cX7_court 43 = .ok (.invokevirtual 197, 3) := by decide +kernel
theorem dX7_court_46 : decode cX7_court 46 = .ok (.goto 4, 3) := by decide +kernel
theorem dX7_court_49 : decode cX7_court 49 = .ok (.iconst (-1), 1) := by decide +kernel
theorem dX7_court_50 : decode cX7_court 50 = .ok (.istore 4, 2) := by decide +kernel
theorem dX7_court_52 : decode cX7_court 52 = .ok (.aload_n 0, 1) := by decide +kernel
theorem dX7_court_53 : decode cX7_court 53 = .ok (.getfield 26, 3) := by decide +kernel
theorem dX7_court_56 : decode cX7_court 56 = .ok (.iload_n 1, 1) := by decide +kernel
theorem dX7_court_57 : decode cX7_court 57 = .ok (.iconst 0, 1) := by decide +kernel
theorem dX7_court_58 : decode cX7_court 58 = .ok (.bastore, 1) := by decide +kernel
theorem dX7_court_59 : decode cX7_court 59 = .ok (.iload 4, 2) := by decide +kernel
theorem dX7_court_61 : decode cX7_court 61 = .ok (.iconst (-1), 1) := by decide +kernel
theorem dX7_court_62 : decode cX7_court 62 = .ok (.if_icmp .eq 40, 3) := by decide +kernel
theorem dX7_court_65 : decode cX7_court 65 = .ok (.aload_n 0, 1) := by decide +kernel
theorem dX7_court_66 : decode cX7_court 66 = .ok (.getfield 108, 3) := by decide +kernel
theorem dX7_court_69 : decode cX7_court 69 = .ok (.iload 4, 2) := by decide +kernel
theorem dX7_court_71 : decode cX7_court 71 = .ok (.iconst 3, 1) := by decide +kernel
theorem dX7_court_72 : decode cX7_court 72 = .ok (.iastore, 1) := by decide +kernel
theorem dX7_court_73 : decode cX7_court 73 = .ok (.aload_n 0, 1) := by decide +kernel
theorem dX7_court_74 : decode cX7_court 74 = .ok (.getfield 22, 3) := by decide +kernel
theorem dX7_court_77 : decode cX7_court 77 = .ok (.iload_n 1, 1) := by decide +kernel
theorem dX7_court_78 : decode cX7_court 78 = .ok (.iconst 0, 1) := by decide +kernel
theorem dX7_court_79 : decode cX7_court 79 = .ok (.bastore, 1) := by decide +kernel
theorem dX7_court_80 : decode cX7_court 80 = .ok (.aload_n 0, 1) := by decide +kernel
theorem dX7_court_81 : decode cX7_court 81 = .ok (.getfield 47, 3) := by decide +kernel
theorem dX7_court_84 : decode cX7_court 84 = .ok (.aload_n 0, 1) := by decide +kernel
theorem dX7_court_85 : decode cX7_court 85 = .ok (.getfield 84, 3) := by decide +kernel
theorem dX7_court_88 : decode cX7_court 88 = .ok (.iload 4, 2) := by decide +kernel
theorem dX7_court_90 : decode cX7_court 90 = .ok (.iaload, 1) := by decide +kernel
theorem dX7_court_91 : decode cX7_court 91 = .ok (.dup2, 1) := by decide +kernel
theorem dX7_court_92 : decode cX7_court 92 = .ok (.iaload, 1) := by decide +kernel
theorem dX7_court_93 : decode cX7_court 93 = .ok (.aload_n 0, 1) := by decide +kernel
theorem dX7_court_94 : decode cX7_court 94 = .ok (.getfield 96, 3) := by decide +kernel
theorem dX7_court_97 : decode cX7_court 97 = .ok (.iload 4, 2) := by decide +kernel
theorem dX7_court_99 : decode cX7_court 99 = .ok (.iaload, 1) := by decide +kernel
theorem dX7_court_100 : decode cX7_court 100 = .ok (.iadd, 1) := by decide +kernel
theorem dX7_court_101 : decode cX7_court 101 = .ok (.iastore, 1) := by decide +kernel
theorem dX7_court_102 : decode cX7_court 102 = .ok (.iload 4, 2) := by decide +kernel
theorem dX7_court_104 : decode cX7_court 104 = .ok (.ireturn, 1) := by decide +kernel
theorem dX7_come_0 : decode cX7_come 0 = .ok (.aload_n 0, 1) := by decide +kernel
theorem dX7_come_1 : decode cX7_come 1 = .ok (.getfield 35, 3) := by decide +kernel
theorem dX7_come_4 : decode cX7_come 4 = .ok (.iload_n 1, 1) := by decide +kernel
theorem dX7_come_5 : decode cX7_come 5 = .ok (.aload_n 0, 1) := by decide +kernel
theorem dX7_come_6 : decode cX7_come 6 = .ok (.getfield 32, 3) := by decide +kernel
theorem dX7_come_9 : decode cX7_come 9 = .ok (.iload_n 1, 1) := by decide +kernel
theorem dX7_come_10 : decode cX7_come 10 = .ok (.iaload, 1) := by decide +kernel
theorem dX7_come_11 : decode cX7_come 11 = .ok (.iload_n 2, 1) := by decide +kernel
theorem dX7_come_12 : decode cX7_come 12 = .ok (.if_icmp .eq 10, 3) := by decide +kernel
theorem dX7_come_15 : decode cX7_come 15 = .ok (.aload_n 0, 1) := by decide +kernel
theorem dX7_come_16 : decode cX7_come 16 = .ok (.getfield 150, 3) := by decide +kernel
theorem dX7_come_19 : decode cX7_come 19 = .ok (.goto 9, 3) := by decide +kernel
theorem dX7_come_22 : decode cX7_come 22 = .ok (.aload_n 0, 1) := by decide +kernel
theorem dX7_come_23 : decode cX7_come 23 = .ok (.getfield 35, 3) := by decide +kernel
theorem dX7_come_26 : decode cX7_come 26 = .ok (.iload_n 1, 1) := by decide +kernel
theorem dX7_come_27 : decode cX7_come 27 = .ok (.iaload, 1) := by decide +kernel
theorem dX7_come_28 : decode cX7_come 28 = .ok (.iastore, 1) := by decide +kernel
theorem dX7_come_29 : decode cX7_come 29 = .ok (.aload_n 0, 1) := by decide +kernel
theorem dX7_come_30 : decode cX7_come 30 = .ok (.getfield 32, 3) := by decide +kernel
theorem dX7_come_33 : decode cX7_come 33 = .ok (.iload_n 1, 1) := by decide +kernel
theorem dX7_come_34 : decode cX7_come 34 = .ok (.iload_n 2, 1) := by decide +kernel
theorem dX7_come_35 : decode cX7_come 35 = .ok (.iastore, 1) := by decide +kernel
theorem dX7_come_36 : decode cX7_come 36 = .ok (.return_, 1) := by decide +kernel
theorem dX7_stray_0 : decode cX7_stray 0 = .ok (.aload_n 0, 1) := by decide +kernel
theorem dX7_stray_1 : decode cX7_stray 1 = .ok (.iload_n 1, 1) := by decide +kernel
theorem dX7_stray_2 : decode cX7_stray 2 = .ok (.invokevirtual 166, 3) := by decide +kernel
theorem dX7_stray_5 : decode cX7_stray 5 = .ok (.ifCond .eq 25, 3) := by decide +kernel
theorem dX7_stray_8 : decode cX7_stray 8 = .ok (.iload_n 2, 1) := by decide +kernel
theorem dX7_stray_9 : decode cX7_stray 9 = .ok (.iconst 0, 1) := by decide +kernel
theorem dX7_stray_10 : decode cX7_stray 10 = .ok (.iconst 2, 1) := by decide +kernel
theorem dX7_stray_11 : decode cX7_stray 11 = .ok (.invokestatic 132, 3) := by decide +kernel
theorem dX7_stray_14 : decode cX7_stray 14 = .ok (.ifCond .eq 16, 3) := by decide +kernel
theorem dX7_stray_17 : decode cX7_stray 17 = .ok (.iload_n 3, 1) := by decide +kernel
theorem dX7_stray_18 : decode cX7_stray 18 = .ok (.iconst 0, 1) := by decide +kernel
theorem dX7_stray_19 : decode cX7_stray 19 = .ok (.iconst 3, 1) := by decide +kernel
theorem dX7_stray_20 : decode cX7_stray 20 = .ok (.invokestatic 132, 3) := by decide +kernel
theorem dX7_stray_23 : decode cX7_stray 23 = .ok (.ifCond .eq 7, 3) := by decide +kernel
theorem dX7_stray_26 : decode cX7_stray 26 = .ok (.iconst 1, 1) := by decide +kernel
theorem dX7_stray_27 : decode cX7_stray 27 = .ok (.goto 4, 3) := by decide +kernel
theorem dX7_stray_30 : decode cX7_stray 30 = .ok (.iconst 0, 1) := by decide +kernel
theorem dX7_stray_31 : decode cX7_stray 31 = .ok (.istore 4, 2) := by decide +kernel
theorem dX7_stray_33 : decode cX7_stray 33 = .ok (.aload_n 0, 1) := by decide +kernel
theorem dX7_stray_34 : decode cX7_stray 34 = .ok (.iload 4, 2) := by decide +kernel
theorem dX7_stray_36 : decode cX7_stray 36 = .ok (.ifCond .ne 7, 3) := by decide +kernel
theorem dX7_stray_39 : decode cX7_stray 39 = .ok (.iconst 1, 1) := by decide +kernel
theorem dX7_stray_40 : decode cX7_stray 40 = .ok (.goto 17, 3) := by decide +kernel
theorem dX7_stray_43 : decode cX7_stray 43 = .ok (.aload_n 0, 1) := by decide +kernel
theorem dX7_stray_44 : decode cX7_stray 44 = .ok (.getfield 22, 3) := by decide +kernel
theorem dX7_stray_47 : decode cX7_stray 47 = .ok (.iload_n 1, 1) := by decide +kernel
theorem dX7_stray_48 : decode cX7_stray 48 = .ok (.baload, 1) := by decide +kernel
theorem dX7_stray_49 : decode cX7_stray 49 = .ok (.ifCond .ne 7, 3) := by decide +kernel
theorem dX7_stray_52 : decode cX7_stray 52 = .ok (.iconst 2, 1) := by decide +kernel
theorem dX7_stray_53 : decode cX7_stray 53 = .ok (.goto 4, 3) := by decide +kernel
theorem dX7_stray_56 : decode cX7_stray 56 = .ok (.iconst 0, 1) := by decide +kernel
theorem dX7_stray_57 : decode cX7_stray 57 = .ok (.invokevirtual 139, 3) := by decide +kernel
theorem dX7_stray_60 : decode cX7_stray 60 = .ok (.ifCond .ne 13, 3) := by decide +kernel
theorem dX7_stray_63 : decode cX7_stray 63 = .ok (.aload_n 0, 1) := by decide +kernel
theorem dX7_stray_64 : decode cX7_stray 64 = .ok (.iload_n 1, 1) := by decide +kernel
theorem dX7_stray_65 : decode cX7_stray 65 = .ok (.iconst 4, 1) := by decide +kernel
theorem dX7_stray_66 : decode cX7_stray 66 = .ok (.iload_n 2, 1) := by decide +kernel
theorem dX7_stray_67 : decode cX7_stray 67 = .ok (.imul, 1) := by decide +kernel
theorem dX7_stray_68 : decode cX7_stray 68 = .ok (.iload_n 3, 1) := by decide +kernel
theorem dX7_stray_69 : decode cX7_stray 69 = .ok (.iadd, 1) := by decide +kernel
theorem dX7_stray_70 : decode cX7_stray 70 = .ok (.invokevirtual 200, 3) := by decide +kernel
theorem dX7_stray_73 : decode cX7_stray 73 = .ok (.return_, 1) := by decide +kernel
theorem dX7_count_0 : decode cX7_count 0 = .ok (.aload_n 0, 1) := by decide +kernel
theorem dX7_count_1 : decode cX7_count 1 = .ok (.iload_n 1, 1) := by decide +kernel
theorem dX7_count_2 : decode cX7_count 2 = .ok (.iconst 0, 1) := by decide +kernel
theorem dX7_count_3 : decode cX7_count 3 = .ok (.iconst 2, 1) := by decide +kernel
theorem dX7_count_4 : decode cX7_count 4 = .ok (.invokestatic 132, 3) := by decide +kernel
theorem dX7_count_7 : decode cX7_count 7 = .ok (.ifCond .eq 7, 3) := by decide +kernel
theorem dX7_count_10 : decode cX7_count 10 = .ok (.iconst 0, 1) := by decide +kernel
theorem dX7_count_11 : decode cX7_count 11 = .ok (.goto 4, 3) := by decide +kernel
theorem dX7_count_14 : decode cX7_count 14 = .ok (.iconst 1, 1) := by decide +kernel
theorem dX7_count_15 : decode cX7_count 15 = .ok (.invokevirtual 139, 3) := by decide +kernel
theorem dX7_count_18 : decode cX7_count 18 = .ok (.ifCond .eq 5, 3) := by decide +kernel
theorem dX7_count_21 : decode cX7_count 21 = .ok (.iconst 0, 1) := by decide +kernel
theorem dX7_count_22 : decode cX7_count 22 = .ok (.ireturn, 1) := by decide +kernel
theorem dX7_count_23 : decode cX7_count 23 = .ok (.iconst 0, 1) := by decide +kernel
theorem dX7_count_24 : decode cX7_count 24 = .ok (.istore_n 2, 1) := by decide +kernel
theorem dX7_count_25 : decode cX7_count 25 = .ok (.iconst 0, 1) := by decide +kernel
theorem dX7_count_26 : decode cX7_count 26 = .ok (.istore_n 3, 1) := by decide +kernel
theorem dX7_count_27 : decode cX7_count 27 = .ok (.iconst 0, 1) := by decide +kernel
theorem dX7_count_28 : decode cX7_count 28 = .ok (.istore 4, 2) := by decide +kernel
theorem dX7_count_30 : decode cX7_count 30 = .ok (.iload 4, 2) := by decide +kernel
theorem dX7_count_32 : decode cX7_count 32 = .ok (.aload_n 0, 1) := by decide +kernel
theorem dX7_count_33 : decode cX7_count 33 = .ok (.getfield 129, 3) := by decide +kernel
theorem dX7_count_36 : decode cX7_count 36 = .ok (.if_icmp .ge 134, 3) := by decide +kernel
theorem dX7_count_39 : decode cX7_count 39 = .ok (.aload_n 0, 1) := by decide +kernel
theorem dX7_count_40 : decode cX7_count 40 = .ok (.getfield 22, 3) := by decide +kernel
theorem dX7_count_43 : decode cX7_count 43 = .ok (.iload 4, 2) := by decide +kernel
theorem dX7_count_45 : decode cX7_count 45 = .ok (.baload, 1) := by decide +kernel
theorem dX7_count_46 : decode cX7_count 46 = .ok (.ifCond .eq 20, 3) := by decide +kernel
theorem dX7_count_49 : decode cX7_count 49 = .ok (.aload_n 0, 1) := by decide +kernel
theorem dX7_count_50 : decode cX7_count 50 = .ok (.getfield 32, 3) := by decide +kernel
theorem dX7_count_53 : decode cX7_count 53 = .ok (.iload 4, 2) := by decide +kernel
theorem dX7_count_55 : decode cX7_count 55 = .ok (.iaload, 1) := by decide +kernel
theorem dX7_count_56 : decode cX7_count 56 = .ok (.iconst 4, 1) := by decide +kernel
theorem dX7_count_57 : decode cX7_count 57 = .ok (.idiv, 1) := by decide +kernel
theorem dX7_count_58 : decode cX7_count 58 = .ok (.iload_n 1, 1) := by decide +kernel
theorem dX7_count_59 : decode cX7_count 59 = .ok (.if_icmp .ne 7, 3) := by decide +kernel
theorem dX7_count_62 : decode cX7_count 62 = .ok (.iconst 1, 1) := by decide +kernel
theorem dX7_count_63 : decode cX7_count 63 = .ok (.goto 4, 3) := by decide +kernel
theorem dX7_count_66 : decode cX7_count 66 = .ok (.iconst 0, 1) := by decide +kernel
theorem dX7_count_67 : decode cX7_count 67 = .ok (.istore 5, 2) := by decide +kernel
theorem dX7_count_69 : decode cX7_count 69 = .ok (.iload_n 3, 1) := by decide +kernel
theorem dX7_count_70 : decode cX7_count 70 = .ok (.aload_n 0, 1) := by decide +kernel
theorem dX7_count_71 : decode cX7_count 71 = .ok (.getfield 22, 3) := by decide +kernel
theorem dX7_count_74 : decode cX7_count 74 = .ok (.iload 4, 2) := by decide +kernel
theorem dX7_count_76 : decode cX7_count 76 = .ok (.baload, 1) := by decide +kernel
theorem dX7_count_77 : decode cX7_count 77 = .ok (.ifCond .eq 25, 3) := by decide +kernel
theorem dX7_count_80 : decode cX7_count 80 = .ok (.iload 5, 2) := by decide +kernel
theorem dX7_count_82 : decode cX7_count 82 = .ok (.ifCond .ne 20, 3) := by decide +kernel
theorem dX7_count_85 : decode cX7_count 85 = .ok (.aload_n 0, 1) := by decide +kernel
theorem dX7_count_86 : decode cX7_count 86 = .ok (.getfield 29, 3) := by decide +kernel
theorem dX7_count_89 : decode cX7_count 89 = .ok (.iload 4, 2) := by decide +kernel
theorem dX7_count_91 : decode cX7_count 91 = .ok (.iaload, 1) := by decide +kernel
theorem dX7_count_92 : decode cX7_count 92 = .ok (.iconst 4, 1) := by decide +kernel
theorem dX7_count_93 : decode cX7_count 93 = .ok (.idiv, 1) := by decide +kernel
theorem dX7_count_94 : decode cX7_count 94 = .ok (.iload_n 1, 1) := by decide +kernel
theorem dX7_count_95 : decode cX7_count 95 = .ok (.if_icmp .ne 7, 3) := by decide +kernel
theorem dX7_count_98 : decode cX7_count 98 = .ok (.iconst 1, 1) := by decide +kernel
theorem dX7_count_99 : decode cX7_count 99 = .ok (.goto 4, 3) := by decide +kernel
theorem dX7_count_102 : decode cX7_count 102 = .ok (.iconst 0, 1) := by decide +kernel
theorem dX7_count_103 : decode cX7_count 103 = .ok (.iadd, 1) := by decide +kernel
theorem dX7_count_104 : decode cX7_count 104 = .ok (.istore_n 3, 1) := by decide +kernel
theorem dX7_count_105 : decode cX7_count 105 = .ok (.iload_n 2, 1) := by decide +kernel
theorem dX7_count_106 : decode cX7_count 106 = .ok (.iload 5, 2) := by decide +kernel
theorem dX7_count_108 : decode cX7_count 108 = .ok (.ifCond .eq 24, 3) := by decide +kernel
theorem dX7_count_111 : decode cX7_count 111 = .ok (.aload_n 0, 1) := by decide +kernel
theorem dX7_count_112 : decode cX7_count 112 = .ok (.getfield 29, 3) := by decide +kernel
theorem dX7_count_115 : decode cX7_count 115 = .ok (.iload 4, 2) := by decide +kernel
theorem dX7_count_117 : decode cX7_count 117 = .ok (.iaload, 1) := by decide +kernel
theorem dX7_count_118 : decode cX7_count 118 = .ok (.aload_n 0, 1) := by decide +kernel
theorem dX7_count_119 : decode cX7_count 119 = .ok (.getfield 32, 3) := by decide +kernel
theorem dX7_count_122 : decode cX7_count 122 = .ok (.iload 4, 2) := by decide +kernel
theorem dX7_count_124 : decode cX7_count 124 = .ok (.iaload, 1) := by decide +kernel
theorem dX7_count_125 : decode cX7_count 125 = .ok (.if_icmp .eq 7, 3) := by decide +kernel
theorem dX7_count_128 : decode cX7_count 128 = .ok (.iconst 1, 1) := by decide +kernel
theorem dX7_count_129 : decode cX7_count 129 = .ok (.goto 4, 3) := by decide +kernel
theorem dX7_count_132 : decode cX7_count 132 = .ok (.iconst 0, 1) := by decide +kernel
theorem dX7_count_133 : decode cX7_count 133 = .ok (.iadd, 1) := by decide +kernel
theorem dX7_count_134 : decode cX7_count 134 = .ok (.istore_n 2, 1) := by decide +kernel
theorem dX7_count_135 : decode cX7_count 135 = .ok (.aload_n 0, 1) := by decide +kernel
theorem dX7_count_136 : decode cX7_count 136 = .ok (.getfield 29, 3) := by decide +kernel
theorem dX7_count_139 : decode cX7_count 139 = .ok (.iload 4, 2) := by decide +kernel
theorem dX7_count_141 : decode cX7_count 141 = .ok (.iload 5, 2) := by decide +kernel
theorem dX7_count_143 : decode cX7_count 143 = .ok (.ifCond .eq 13, 3) := by decide +kernel
theorem dX7_count_146 : decode cX7_count 146 = .ok (.aload_n 0, 1) := by decide +kernel
theorem dX7_count_147 : decode cX7_count 147 = .ok (.getfield 32, 3) := by decide +kernel
theorem dX7_count_150 : decode cX7_count 150 = .ok (.iload 4, 2) := by decide +kernel
theorem dX7_count_152 : decode cX7_count 152 = .ok (.iaload, 1) := by decide +kernel
theorem dX7_count_153 : decode cX7_count 153 = .ok (.goto 10, 3) := by decide +kernel
theorem dX7_count_156 : decode cX7_count 156 = .ok (.aload_n 0, 1) := by decide +kernel
theorem dX7_count_157 : decode cX7_count 157 = .ok (.getfield 29, 3) := by decide +kernel
theorem dX7_count_160 : decode cX7_count 160 = .ok (.iload 4, 2) := by decide +kernel
theorem dX7_count_162 : decode cX7_count 162 = .ok (.iaload, 1) := by decide +kernel
theorem dX7_count_163 : decode cX7_count 163 = .ok (.iastore, 1) := by decide +kernel
theorem dX7_count_164 : decode cX7_count 164 = .ok (.iinc 4 1, 3) := by decide +kernel
theorem dX7_count_167 : decode cX7_count 167 = .ok (.goto (-137), 3) := by decide +kernel
theorem dX7_count_170 : decode cX7_count 170 = .ok (.bipush 100, 2) := by decide +kernel
theorem dX7_count_172 : decode cX7_count 172 = .ok (.iload_n 3, 1) := by decide +kernel
theorem dX7_count_173 : decode cX7_count 173 = .ok (.imul, 1) := by decide +kernel
theorem dX7_count_174 : decode cX7_count 174 = .ok (.iload_n 2, 1) := by decide +kernel
theorem dX7_count_175 : decode cX7_count 175 = .ok (.iadd, 1) := by decide +kernel
theorem dX7_count_176 : decode cX7_count 176 = .ok (.ireturn, 1) := by decide +kernel
theorem dX7_transfer_0 : decode cX7_transfer 0 = .ok (.aload_n 0, 1) := by decide +kernel
theorem dX7_transfer_1 : decode cX7_transfer 1 = .ok (.iload_n 1, 1) := by decide +kernel
theorem dX7_transfer_2 : decode cX7_transfer 2 = .ok (.invokevirtual 166, 3) := by decide +kernel
theorem dX7_transfer_5 : decode cX7_transfer 5 = .ok (.ifCond .eq 16, 3) := by decide +kernel
theorem dX7_transfer_8 : decode cX7_transfer 8 = .ok (.iload_n 2, 1) := by decide +kernel
theorem dX7_transfer_9 : decode cX7_transfer 9 = .ok (.iconst 0, 1) := by decide +kernel
theorem dX7_transfer_10 : decode cX7_transfer 10 = .ok (.iconst 2, 1) := by decide +kernel
theorem dX7_transfer_11 : decode cX7_transfer 11 = .ok (.invokestatic 132, 3) := by decide +kernel
theorem dX7_transfer_14 : decode cX7_transfer 14 = .ok (.ifCond .eq 7, 3) := by decide +kernel
theorem dX7_transfer_17 : decode cX7_transfer 17 = .ok (.iconst 1, 1) := by decide +kernel
theorem dX7_transfer_18 : decode cX7_transfer 18 = .ok (.goto 4, 3) := by decide +kernel
theorem dX7_transfer_21 : decode cX7_transfer 21 = .ok (.iconst 0, 1) := by decide +kernel
theorem dX7_transfer_22 : decode cX7_transfer 22 = .ok (.istore_n 3, 1) := by decide +kernel
theorem dX7_transfer_23 : decode cX7_transfer 23 = .ok (.iload_n 3, 1) := by decide +kernel
theorem dX7_transfer_24 : decode cX7_transfer 24 = .ok (.ifCond .eq 12, 3) := by decide +kernel
theorem dX7_transfer_27 : decode cX7_transfer 27 = .ok (.aload_n 0, 1) := by decide +kernel
theorem dX7_transfer_28 : decode cX7_transfer 28 = .ok (.iload_n 1, 1) := by decide +kernel
theorem dX7_transfer_29 : decode cX7_transfer 29 = .ok (.iload_n 2, 1) := by decide +kernel
theorem dX7_transfer_30 : decode cX7_transfer 30 = .ok (.invokevirtual 182, 3) := by decide +kernel
theorem dX7_transfer_33 : decode cX7_transfer 33 = .ok (.goto 4, 3) := by decide +kernel
theorem dX7_transfer_36 : decode cX7_transfer 36 = .ok (.iconst (-1), 1) := by decide +kernel
theorem dX7_transfer_37 : decode cX7_transfer 37 = .ok (.istore 4, 2) := by decide +kernel
theorem dX7_transfer_39 : decode cX7_transfer 39 = .ok (.aload_n 0, 1) := by decide +kernel
theorem dX7_transfer_40 : decode cX7_transfer 40 = .ok (.iload_n 3, 1) := by decide +kernel
theorem dX7_transfer_41 : decode cX7_transfer 41 = .ok (.ifCond .ne 7, 3) := by decide +kernel
theorem dX7_transfer_44 : decode cX7_transfer 44 = .ok (.iconst 1, 1) := by decide +kernel
theorem dX7_transfer_45 : decode cX7_transfer 45 = .ok (.goto 22, 3) := by decide +kernel
theorem dX7_transfer_48 : decode cX7_transfer 48 = .ok (.aload_n 0, 1) := by decide +kernel
theorem dX7_transfer_49 : decode cX7_transfer 49 = .ok (.iload_n 1, 1) := by decide +kernel
theorem dX7_transfer_50 : decode cX7_transfer 50 = .ok (.invokevirtual 191, 3) := by decide +kernel
theorem dX7_transfer_53 : decode cX7_transfer 53 = .ok (.ifCond .eq 9, 3) := by decide +kernel
theorem dX7_transfer_56 : decode cX7_transfer 56 = .ok (.iload 4, 2) := by decide +kernel
theorem dX7_transfer_58 : decode cX7_transfer 58 = .ok (.iconst (-1), 1) := by decide +kernel
theorem dX7_transfer_59 : decode cX7_transfer 59 = .ok (.if_icmp .ne 7, 3) := by decide +kernel
theorem dX7_transfer_62 : decode cX7_transfer 62 = .ok (.iconst 2, 1) := by decide +kernel
theorem dX7_transfer_63 : decode cX7_transfer 63 = .ok (.goto 4, 3) := by decide +kernel
theorem dX7_transfer_66 : decode cX7_transfer 66 = .ok (.iconst 0, 1) := by decide +kernel
theorem dX7_transfer_67 : decode cX7_transfer 67 = .ok (.invokevirtual 139, 3) := by decide +kernel
theorem dX7_transfer_70 : decode cX7_transfer 70 = .ok (.ifCond .eq 5, 3) := by decide +kernel
theorem dX7_transfer_73 : decode cX7_transfer 73 = .ok (.iconst 0, 1) := by decide +kernel
theorem dX7_transfer_74 : decode cX7_transfer 74 = .ok (.ireturn, 1) := by decide +kernel
theorem dX7_transfer_75 : decode cX7_transfer 75 = .ok (.aload_n 0, 1) := by decide +kernel
theorem dX7_transfer_76 : decode cX7_transfer 76 = .ok (.iload_n 1, 1) := by decide +kernel
theorem dX7_transfer_77 : decode cX7_transfer 77 = .ok (.iconst 4, 1) := by decide +kernel
theorem dX7_transfer_78 : decode cX7_transfer 78 = .ok (.iload_n 2, 1) := by decide +kernel
theorem dX7_transfer_79 : decode cX7_transfer 79 = .ok (.imul, 1) := by decide +kernel
theorem dX7_transfer_80 : decode cX7_transfer 80 = .ok (.iload 4, 2) := by decide +kernel
theorem dX7_transfer_82 : decode cX7_transfer 82 = .ok (.iadd, 1) := by decide +kernel
theorem dX7_transfer_83 : decode cX7_transfer 83 = .ok (.invokevirtual 200, 3) := by decide +kernel
theorem dX7_transfer_86 : decode cX7_transfer 86 = .ok (.aload_n 0, 1) := by decide +kernel
theorem dX7_transfer_87 : decode cX7_transfer 87 = .ok (.getfield 29, 3) := by decide +kernel
theorem dX7_transfer_90 : decode cX7_transfer 90 = .ok (.iload_n 1, 1) := by decide +kernel
theorem dX7_transfer_91 : decode cX7_transfer 91 = .ok (.aload_n 0, 1) := by decide +kernel
theorem dX7_transfer_92 : decode cX7_transfer 92 = .ok (.getfield 32, 3) := by decide +kernel
theorem dX7_transfer_95 : decode cX7_transfer 95 = .ok (.iload_n 1, 1) := by decide +kernel
theorem dX7_transfer_96 : decode cX7_transfer 96 = .ok (.iaload, 1) := by decide +kernel
theorem dX7_transfer_97 : decode cX7_transfer 97 = .ok (.iastore, 1) := by decide +kernel
theorem dX7_transfer_98 : decode cX7_transfer 98 = .ok (.iload 4, 2) := by decide +kernel
theorem dX7_transfer_100 : decode cX7_transfer 100 = .ok (.ireturn, 1) := by decide +kernel
theorem dX7_wind_0 : decode cX7_wind 0 = .ok (.aload_n 0, 1) := by decide +kernel
theorem dX7_wind_1 : decode cX7_wind 1 = .ok (.iload_n 1, 1) := by decide +kernel
theorem dX7_wind_2 : decode cX7_wind 2 = .ok (.iconst 0, 1) := by decide +kernel
theorem dX7_wind_3 : decode cX7_wind 3 = .ok (.iconst 2, 1) := by decide +kernel
theorem dX7_wind_4 : decode cX7_wind 4 = .ok (.invokestatic 132, 3) := by decide +kernel
theorem dX7_wind_7 : decode cX7_wind 7 = .ok (.ifCond .eq 7, 3) := by decide +kernel
theorem dX7_wind_10 : decode cX7_wind 10 = .ok (.iconst 0, 1) := by decide +kernel
theorem dX7_wind_11 : decode cX7_wind 11 = .ok (.goto 4, 3) := by decide +kernel
theorem dX7_wind_14 : decode cX7_wind 14 = .ok (.iconst 1, 1) := by decide +kernel
theorem dX7_wind_15 : decode cX7_wind 15 = .ok (.invokevirtual 139, 3) := by decide +kernel
theorem dX7_wind_18 : decode cX7_wind 18 = .ok (.ifCond .eq 5, 3) := by decide +kernel
theorem dX7_wind_21 : decode cX7_wind 21 = .ok (.iconst 0, 1) := by decide +kernel
theorem dX7_wind_22 : decode cX7_wind 22 = .ok (.ireturn, 1) := by decide +kernel
theorem dX7_wind_23 : decode cX7_wind 23 = .ok (.iconst 0, 1) := by decide +kernel
theorem dX7_wind_24 : decode cX7_wind 24 = .ok (.istore_n 2, 1) := by decide +kernel
theorem dX7_wind_25 : decode cX7_wind 25 = .ok (.iconst 0, 1) := by decide +kernel
theorem dX7_wind_26 : decode cX7_wind 26 = .ok (.istore_n 3, 1) := by decide +kernel
theorem dX7_wind_27 : decode cX7_wind 27 = .ok (.iload_n 3, 1) := by decide +kernel
theorem dX7_wind_28 : decode cX7_wind 28 = .ok (.aload_n 0, 1) := by decide +kernel
theorem dX7_wind_29 : decode cX7_wind 29 = .ok (.getfield 129, 3) := by decide +kernel
theorem dX7_wind_32 : decode cX7_wind 32 = .ok (.if_icmp .ge 84, 3) := by decide +kernel
theorem dX7_wind_35 : decode cX7_wind 35 = .ok (.aload_n 0, 1) := by decide +kernel
theorem dX7_wind_36 : decode cX7_wind 36 = .ok (.getfield 22, 3) := by decide +kernel
theorem dX7_wind_39 : decode cX7_wind 39 = .ok (.iload_n 3, 1) := by decide +kernel
theorem dX7_wind_40 : decode cX7_wind 40 = .ok (.baload, 1) := by decide +kernel
theorem dX7_wind_41 : decode cX7_wind 41 = .ok (.ifCond .eq 29, 3) := by decide +kernel
theorem dX7_wind_44 : decode cX7_wind 44 = .ok (.aload_n 0, 1) := by decide +kernel
theorem dX7_wind_45 : decode cX7_wind 45 = .ok (.getfield 7, 3) := by decide +kernel
theorem dX7_wind_48 : decode cX7_wind 48 = .ok (.iload_n 3, 1) := by decide +kernel
theorem dX7_wind_49 : decode cX7_wind 49 = .ok (.iaload, 1) := by decide +kernel
theorem dX7_wind_50 : decode cX7_wind 50 = .ok (.iconst 2, 1) := by decide +kernel
theorem dX7_wind_51 : decode cX7_wind 51 = .ok (.if_icmp .ne 19, 3) := by decide +kernel
theorem dX7_wind_54 : decode cX7_wind 54 = .ok (.aload_n 0, 1) := by decide +kernel
theorem dX7_wind_55 : decode cX7_wind 55 = .ok (.getfield 32, 3) := by decide +kernel
theorem dX7_wind_58 : decode cX7_wind 58 = .ok (.iload_n 3, 1) := by decide +kernel
theorem dX7_wind_59 : decode cX7_wind 59 = .ok (.iaload, 1) := by decide +kernel
theorem dX7_wind_60 : decode cX7_wind 60 = .ok (.iconst 4, 1) := by decide +kernel
theorem dX7_wind_61 : decode cX7_wind 61 = .ok (.idiv, 1) := by decide +kernel
theorem dX7_wind_62 : decode cX7_wind 62 = .ok (.iload_n 1, 1) := by decide +kernel
theorem dX7_wind_63 : decode cX7_wind 63 = .ok (.if_icmp .ne 7, 3) := by decide +kernel
theorem dX7_wind_66 : decode cX7_wind 66 = .ok (.iconst 1, 1) := by decide +kernel
theorem dX7_wind_67 : decode cX7_wind 67 = .ok (.goto 4, 3) := by decide +kernel
theorem dX7_wind_70 : decode cX7_wind 70 = .ok (.iconst 0, 1) := by decide +kernel
theorem dX7_wind_71 : decode cX7_wind 71 = .ok (.istore 4, 2) := by decide +kernel
theorem dX7_wind_73 : decode cX7_wind 73 = .ok (.aload_n 0, 1) := by decide +kernel
theorem dX7_wind_74 : decode cX7_wind 74 = .ok (.getfield 38, 3) := by decide +kernel
theorem dX7_wind_77 : decode cX7_wind 77 = .ok (.iload_n 3, 1) := by decide +kernel
theorem dX7_wind_78 : decode cX7_wind 78 = .ok (.iload 4, 2) := by decide +kernel
theorem dX7_wind_80 : decode cX7_wind 80 = .ok (.ifCond .eq 10, 3) := by decide +kernel
theorem dX7_wind_83 : decode cX7_wind 83 = .ok (.aload_n 0, 1) := by decide +kernel
theorem dX7_wind_84 : decode cX7_wind 84 = .ok (.getfield 150, 3) := by decide +kernel
theorem dX7_wind_87 : decode cX7_wind 87 = .ok (.goto 9, 3) := by decide +kernel
theorem dX7_wind_90 : decode cX7_wind 90 = .ok (.aload_n 0, 1) := by decide +kernel
theorem dX7_wind_91 : decode cX7_wind 91 = .ok (.getfield 38, 3) := by decide +kernel
theorem dX7_wind_94 : decode cX7_wind 94 = .ok (.iload_n 3, 1) := by decide +kernel
theorem dX7_wind_95 : decode cX7_wind 95 = .ok (.iaload, 1) := by decide +kernel
theorem dX7_wind_96 : decode cX7_wind 96 = .ok (.iastore, 1) := by decide +kernel
theorem dX7_wind_97 : decode cX7_wind 97 = .ok (.iload_n 2, 1) := by decide +kernel
theorem dX7_wind_98 : decode cX7_wind 98 = .ok (.iload 4, 2) := by decide +kernel
theorem dX7_wind_100 : decode cX7_wind 100 = .ok (.ifCond .eq 7, 3) := by decide +kernel
theorem dX7_wind_103 : decode cX7_wind 103 = .ok (.iconst 1, 1) := by decide +kernel
theorem dX7_wind_104 : decode cX7_wind 104 = .ok (.goto 4, 3) := by decide +kernel
theorem dX7_wind_107 : decode cX7_wind 107 = .ok (.iconst 0, 1) := by decide +kernel
theorem dX7_wind_108 : decode cX7_wind 108 = .ok (.iadd, 1) := by decide +kernel
theorem dX7_wind_109 : decode cX7_wind 109 = .ok (.istore_n 2, 1) := by decide +kernel
theorem dX7_wind_110 : decode cX7_wind 110 = .ok (.iinc 3 1, 3) := by decide +kernel
theorem dX7_wind_113 : decode cX7_wind 113 = .ok (.goto (-86), 3) := by decide +kernel
theorem dX7_wind_116 : decode cX7_wind 116 = .ok (.iload_n 2, 1) := by decide +kernel
theorem dX7_wind_117 : decode cX7_wind 117 = .ok (.ireturn, 1) := by decide +kernel
theorem dX7_pass_0 : decode cX7_pass 0 = .ok (.aload_n 0, 1) := by decide +kernel
theorem dX7_pass_1 : decode cX7_pass 1 = .ok (.iload_n 1, 1) := by decide +kernel
theorem dX7_pass_2 : decode cX7_pass 2 = .ok (.iconst 1, 1) := by decide +kernel
theorem dX7_pass_3 : decode cX7_pass 3 = .ok (.sipush 400, 3) := by decide +kernel
theorem dX7_pass_6 : decode cX7_pass 6 = .ok (.invokestatic 132, 3) := by decide +kernel
theorem dX7_pass_9 : decode cX7_pass 9 = .ok (.ifCond .ne 7, 3) := by decide +kernel
theorem dX7_pass_12 : decode cX7_pass 12 = .ok (.iconst 1, 1) := by decide +kernel
theorem dX7_pass_13 : decode cX7_pass 13 = .ok (.goto 20, 3) := by decide +kernel
theorem dX7_pass_16 : decode cX7_pass 16 = .ok (.aload_n 0, 1) := by decide +kernel
theorem dX7_pass_17 : decode cX7_pass 17 = .ok (.getfield 150, 3) := by decide +kernel
theorem dX7_pass_20 : decode cX7_pass 20 = .ok (.iload_n 1, 1) := by decide +kernel
theorem dX7_pass_21 : decode cX7_pass 21 = .ok (.iadd, 1) := by decide +kernel
theorem dX7_pass_22 : decode cX7_pass 22 = .ok (.sipush 5000, 3) := by decide +kernel
theorem dX7_pass_25 : decode cX7_pass 25 = .ok (.if_icmp .le 7, 3) := by decide +kernel
theorem dX7_pass_28 : decode cX7_pass 28 = .ok (.iconst 2, 1) := by decide +kernel
theorem dX7_pass_29 : decode cX7_pass 29 = .ok (.goto 4, 3) := by decide +kernel
theorem dX7_pass_32 : decode cX7_pass 32 = .ok (.iconst 0, 1) := by decide +kernel
theorem dX7_pass_33 : decode cX7_pass 33 = .ok (.invokevirtual 139, 3) := by decide +kernel
theorem dX7_pass_36 : decode cX7_pass 36 = .ok (.ifCond .eq 5, 3) := by decide +kernel
theorem dX7_pass_39 : decode cX7_pass 39 = .ok (.iconst 0, 1) := by decide +kernel
theorem dX7_pass_40 : decode cX7_pass 40 = .ok (.ireturn, 1) := by decide +kernel
theorem dX7_pass_41 : decode cX7_pass 41 = .ok (.iconst 0, 1) := by decide +kernel
theorem dX7_pass_42 : decode cX7_pass 42 = .ok (.istore_n 2, 1) := by decide +kernel
theorem dX7_pass_43 : decode cX7_pass 43 = .ok (.iload_n 2, 1) := by decide +kernel
theorem dX7_pass_44 : decode cX7_pass 44 = .ok (.iload_n 1, 1) := by decide +kernel
theorem dX7_pass_45 : decode cX7_pass 45 = .ok (.if_icmp .ge 13, 3) := by decide +kernel
theorem dX7_pass_48 : decode cX7_pass 48 = .ok (.aload_n 0, 1) := by decide +kernel
theorem dX7_pass_49 : decode cX7_pass 49 = .ok (.invokevirtual 204, 3) := by decide +kernel
theorem dX7_pass_52 : decode cX7_pass 52 = .ok (.iinc 2 1, 3) := by decide +kernel
theorem dX7_pass_55 : decode cX7_pass 55 = .ok (.goto (-12), 3) := by decide +kernel
theorem dX7_pass_58 : decode cX7_pass 58 = .ok (.aload_n 0, 1) := by decide +kernel
theorem dX7_pass_59 : decode cX7_pass 59 = .ok (.getfield 150, 3) := by decide +kernel
theorem dX7_pass_62 : decode cX7_pass 62 = .ok (.ireturn, 1) := by decide +kernel
theorem dX7_passOne_0 : decode cX7_passOne 0 = .ok (.aload_n 0, 1) := by decide +kernel
theorem dX7_passOne_1 : decode cX7_passOne 1 = .ok (.dup, 1) := by decide +kernel
theorem dX7_passOne_2 : decode cX7_passOne 2 = .ok (.getfield 150, 3) := by decide +kernel
theorem dX7_passOne_5 : decode cX7_passOne 5 = .ok (.iconst 1, 1) := by decide +kernel
theorem dX7_passOne_6 : decode cX7_passOne 6 = .ok (.iadd, 1) := by decide +kernel
theorem dX7_passOne_7 : decode cX7_passOne 7 = .ok (.putfield 150, 3) := by decide +kernel
theorem dX7_passOne_10 : decode cX7_passOne 10 = .ok (.iconst 0, 1) := by decide +kernel
theorem dX7_passOne_11 : decode cX7_passOne 11 = .ok (.istore_n 1, 1) := by decide +kernel
theorem dX7_passOne_12 : decode cX7_passOne 12 = .ok (.iload_n 1, 1) := by decide +kernel
theorem dX7_passOne_13 : decode cX7_passOne 13 = .ok (.aload_n 0, 1) := by decide +kernel
theorem dX7_passOne_14 : decode cX7_passOne 14 = .ok (.getfield 129, 3) := by decide +kernel
theorem dX7_passOne_17 : decode cX7_passOne 17 = .ok (.if_icmp .ge 128, 3) := by decide +kernel
theorem dX7_passOne_20 : decode cX7_passOne 20 = .ok (.aload_n 0, 1) := by decide +kernel
theorem dX7_passOne_21 : decode cX7_passOne 21 = .ok (.getfield 32, 3) := by decide +kernel
theorem dX7_passOne_24 : decode cX7_passOne 24 = .ok (.iload_n 1, 1) := by decide +kernel
theorem dX7_passOne_25 : decode cX7_passOne 25 = .ok (.iaload, 1) := by decide +kernel
theorem dX7_passOne_26 : decode cX7_passOne 26 = .ok (.iconst 4, 1) := by decide +kernel
theorem dX7_passOne_27 : decode cX7_passOne 27 = .ok (.irem, 1) := by decide +kernel
theorem dX7_passOne_28 : decode cX7_passOne 28 = .ok (.ifCond .ne 7, 3) := by decide +kernel
theorem dX7_passOne_31 : decode cX7_passOne 31 = .ok (.iconst 1, 1) := by decide +kernel
theorem dX7_passOne_32 : decode cX7_passOne 32 = .ok (.goto 4, 3) := by decide +kernel
theorem dX7_passOne_35 : decode cX7_passOne 35 = .ok (.iconst 0, 1) := by decide +kernel
theorem dX7_passOne_36 : decode cX7_passOne 36 = .ok (.istore_n 2, 1) := by decide +kernel
theorem dX7_passOne_37 : decode cX7_passOne 37 = .ok (.aload_n 0, 1) := by decide +kernel
theorem dX7_passOne_38 : decode cX7_passOne 38 = .ok (.getfield 7, 3) := by decide +kernel
theorem dX7_passOne_41 : decode cX7_passOne 41 = .ok (.iload_n 1, 1) := by decide +kernel
theorem dX7_passOne_42 : decode cX7_passOne 42 = .ok (.iaload, 1) := by decide +kernel
theorem dX7_passOne_43 : decode cX7_passOne 43 = .ok (.iconst 1, 1) := by decide +kernel
theorem dX7_passOne_44 : decode cX7_passOne 44 = .ok (.if_icmp .ne 24, 3) := by decide +kernel
theorem dX7_passOne_47 : decode cX7_passOne 47 = .ok (.iload_n 2, 1) := by decide +kernel
theorem dX7_passOne_48 : decode cX7_passOne 48 = .ok (.ifCond .ne 20, 3) := by decide +kernel
theorem dX7_passOne_51 : decode cX7_passOne 51 = .ok (.aload_n 0, 1) := by decide +kernel
theorem dX7_passOne_52 : decode cX7_passOne 52 = .ok (.getfield 150, 3) := by decide +kernel
theorem dX7_passOne_55 : decode cX7_passOne 55 = .ok (.aload_n 0, 1) := by decide +kernel
theorem dX7_passOne_56 : decode cX7_passOne 56 = .ok (.getfield 35, 3) := by decide +kernel
theorem dX7_passOne_59 : decode cX7_passOne 59 = .ok (.iload_n 1, 1) := by decide +kernel
theorem dX7_passOne_60 : decode cX7_passOne 60 = .ok (.iaload, 1) := by decide +kernel
theorem dX7_passOne_61 : decode cX7_passOne 61 = .ok (.isub, 1) := by decide +kernel
theorem dX7_passOne_62 : decode cX7_passOne 62 = .ok (.bipush 60, 2) := by decide +kernel
theorem dX7_passOne_64 : decode cX7_passOne 64 = .ok (.irem, 1) := by decide +kernel
theorem dX7_passOne_65 : decode cX7_passOne 65 = .ok (.ifCond .eq 30, 3) := by decide +kernel
theorem dX7_passOne_68 : decode cX7_passOne 68 = .ok (.aload_n 0, 1) := by decide +kernel
theorem dX7_passOne_69 : decode cX7_passOne 69 = .ok (.getfield 7, 3) := by decide +kernel
theorem dX7_passOne_72 : decode cX7_passOne 72 = .ok (.iload_n 1, 1) := by decide +kernel
theorem dX7_passOne_73 : decode cX7_passOne 73 = .ok (.iaload, 1) := by decide +kernel
theorem dX7_passOne_74 : decode cX7_passOne 74 = .ok (.iconst 2, 1) := by decide +kernel
theorem dX7_passOne_75 : decode cX7_passOne 75 = .ok (.if_icmp .ne 24, 3) := by decide +kernel
theorem dX7_passOne_78 : decode cX7_passOne 78 = .ok (.aload_n 0, 1) := by decide +kernel
theorem dX7_passOne_79 : decode cX7_passOne 79 = .ok (.getfield 150, 3) := by decide +kernel
theorem dX7_passOne_82 : decode cX7_passOne 82 = .ok (.aload_n 0, 1) := by decide +kernel
theorem dX7_passOne_83 : decode cX7_passOne 83 = .ok (.getfield 38, 3) := by decide +kernel
theorem dX7_passOne_86 : decode cX7_passOne 86 = .ok (.iload_n 1, 1) := by decide +kernel
theorem dX7_passOne_87 : decode cX7_passOne 87 = .ok (.iaload, 1) := by decide +kernel
theorem dX7_passOne_88 : decode cX7_passOne 88 = .ok (.isub, 1) := by decide +kernel
theorem dX7_passOne_89 : decode cX7_passOne 89 = .ok (.bipush 90, 2) := by decide +kernel
theorem dX7_passOne_91 : decode cX7_passOne 91 = .ok (.irem, 1) := by decide +kernel
theorem dX7_passOne_92 : decode cX7_passOne 92 = .ok (.ifCond .ne 7, 3) := by decide +kernel
theorem dX7_passOne_95 : decode cX7_passOne 95 = .ok (.iconst 1, 1) := by decide +kernel
theorem dX7_passOne_96 : decode cX7_passOne 96 = .ok (.goto 4, 3) := by decide +kernel
theorem dX7_passOne_99 : decode cX7_passOne 99 = .ok (.iconst 0, 1) := by decide +kernel
theorem dX7_passOne_100 : decode cX7_passOne 100 = .ok (.istore_n 3, 1) := by decide +kernel
theorem dX7_passOne_101 : decode cX7_passOne 101 = .ok (.aload_n 0, 1) := by decide +kernel
theorem dX7_passOne_102 : decode cX7_passOne 102 = .ok (.getfield 19, 3) := by decide +kernel
theorem dX7_passOne_105 : decode cX7_passOne 105 = .ok (.iload_n 1, 1) := by decide +kernel
theorem dX7_passOne_106 : decode cX7_passOne 106 = .ok (.dup2, 1) := by decide +kernel
theorem dX7_passOne_107 : decode cX7_passOne 107 = .ok (.iaload, 1) := by decide +kernel
theorem dX7_passOne_108 : decode cX7_passOne 108 = .ok (.aload_n 0, 1) := by decide +kernel
theorem dX7_passOne_109 : decode cX7_passOne 109 = .ok (.getfield 22, 3) := by decide +kernel
theorem dX7_passOne_112 : decode cX7_passOne 112 = .ok (.iload_n 1, 1) := by decide +kernel
theorem dX7_passOne_113 : decode cX7_passOne 113 = .ok (.baload, 1) := by decide +kernel
theorem dX7_passOne_114 : decode cX7_passOne 114 = .ok (.ifCond .eq 22, 3) := by decide +kernel
theorem dX7_passOne_117 : decode cX7_passOne 117 = .ok (.iload_n 3, 1) := by decide +kernel
theorem dX7_passOne_118 : decode cX7_passOne 118 = .ok (.ifCond .eq 18, 3) := by decide +kernel
theorem dX7_passOne_121 : decode cX7_passOne 121 = .ok (.aload_n 0, 1) := by decide +kernel
theorem dX7_passOne_122 : decode cX7_passOne 122 = .ok (.getfield 19, 3) := by decide +kernel
theorem dX7_passOne_125 : decode cX7_passOne 125 = .ok (.iload_n 1, 1) := by decide +kernel
theorem dX7_passOne_126 : decode cX7_passOne 126 = .ok (.iaload, 1) := by decide +kernel
theorem dX7_passOne_127 : decode cX7_passOne 127 = .ok (.bipush 10, 2) := by decide +kernel
theorem dX7_passOne_129 : decode cX7_passOne 129 = .ok (.if_icmp .ge 7, 3) := by decide +kernel
theorem dX7_passOne_132 : decode cX7_passOne 132 = .ok (.iconst 1, 1) := by decide +kernel
theorem dX7_passOne_133 : decode cX7_passOne 133 = .ok (.goto 4, 3) := by decide +kernel
theorem dX7_passOne_136 : decode cX7_passOne 136 = .ok (.iconst 0, 1) := by decide +kernel
theorem dX7_passOne_137 : decode cX7_passOne 137 = .ok (.iadd, 1) := by decide +kernel
theorem dX7_passOne_138 : decode cX7_passOne 138 = .ok (.iastore, 1) := by decide +kernel
theorem dX7_passOne_139 : decode cX7_passOne 139 = .ok (.iinc 1 1, 3) := by decide +kernel
theorem dX7_passOne_142 : decode cX7_passOne 142 = .ok (.goto (-130), 3) := by decide +kernel
theorem dX7_passOne_145 : decode cX7_passOne 145 = .ok (.iconst 0, 1) := by decide +kernel
theorem dX7_passOne_146 : decode cX7_passOne 146 = .ok (.istore_n 1, 1) := by decide +kernel
theorem dX7_passOne_147 : decode cX7_passOne 147 = .ok (.iload_n 1, 1) := by decide +kernel
theorem dX7_passOne_148 : decode cX7_passOne 148 = .ok (.aload_n 0, 1) := by decide +kernel
theorem dX7_passOne_149 : decode cX7_passOne 149 = .ok (.getfield 136, 3) := by decide +kernel
theorem dX7_passOne_152 : decode cX7_passOne 152 = .ok (.if_icmp .ge 132, 3) := by decide +kernel
theorem dX7_passOne_155 : decode cX7_passOne 155 = .ok (.aload_n 0, 1) := by decide +kernel
theorem dX7_passOne_156 : decode cX7_passOne 156 = .ok (.getfield 114, 3) := by decide +kernel
theorem dX7_passOne_159 : decode cX7_passOne 159 = .ok (.iload_n 1, 1) := by decide +kernel
theorem dX7_passOne_160 : decode cX7_passOne 160 = .ok (.iaload, 1) := by decide +kernel
theorem dX7_passOne_161 : decode cX7_passOne 161 = .ok (.iconst (-1), 1) := by decide +kernel
theorem dX7_passOne_162 : decode cX7_passOne 162 = .ok (.if_icmp .eq 38, 3) := by decide +kernel
theorem dX7_passOne_165 : decode cX7_passOne 165 = .ok (.aload_n 0, 1) := by decide +kernel
theorem dX7_passOne_166 : decode cX7_passOne 166 = .ok (.getfield 114, 3) := by decide +kernel
theorem dX7_passOne_169 : decode cX7_passOne 169 = .ok (.iload_n 1, 1) := by decide +kernel
theorem dX7_passOne_170 : decode cX7_passOne 170 = .ok (.iaload, 1) := by decide +kernel
theorem dX7_passOne_171 : decode cX7_passOne 171 = .ok (.bipush 28, 2) := by decide +kernel
theorem dX7_passOne_173 : decode cX7_passOne 173 = .ok (.iadd, 1) := by decide +kernel
theorem dX7_passOne_174 : decode cX7_passOne 174 = .ok (.aload_n 0, 1) := by decide +kernel
theorem dX7_passOne_175 : decode cX7_passOne 175 = .ok (.getfield 150, 3) := by decide +kernel
theorem dX7_passOne_178 : decode cX7_passOne 178 = .ok (.if_icmp .ne 22, 3) := by decide +kernel
theorem dX7_passOne_181 : decode cX7_passOne 181 = .ok (.aload_n 0, 1) := by decide +kernel
theorem dX7_passOne_182 : decode cX7_passOne 182 = .ok (.getfield 90, 3) := by decide +kernel
theorem dX7_passOne_185 : decode cX7_passOne 185 = .ok (.iload_n 1, 1) := by decide +kernel
theorem dX7_passOne_186 : decode cX7_passOne 186 = .ok (.aload_n 0, 1) := by decide +kernel
theorem dX7_passOne_187 : decode cX7_passOne 187 = .ok (.getfield 117, 3) := by decide +kernel
theorem dX7_passOne_190 : decode cX7_passOne 190 = .ok (.iload_n 1, 1) := by decide +kernel
theorem dX7_passOne_191 : decode cX7_passOne 191 = .ok (.iaload, 1) := by decide +kernel
theorem dX7_passOne_192 : decode cX7_passOne 192 = .ok (.iastore, 1) := by decide +kernel
theorem dX7_passOne_193 : decode cX7_passOne 193 = .ok (.aload_n 0, 1) := by decide +kernel
theorem dX7_passOne_194 : decode cX7_passOne 194 = .ok (.getfield 114, 3) := by decide +kernel
theorem dX7_passOne_197 : decode cX7_passOne 197 = .ok (.iload_n 1, 1) := by decide +kernel
theorem dX7_passOne_198 : decode cX7_passOne 198 = .ok (.iconst (-1), 1) := by decide +kernel
theorem dX7_passOne_199 : decode cX7_passOne 199 = .ok (.iastore, 1) := by decide +kernel
theorem dX7_passOne_200 : decode cX7_passOne 200 = .ok (.aload_n 0, 1) := by decide +kernel
theorem dX7_passOne_201 : decode cX7_passOne 201 = .ok (.getfield 120, 3) := by decide +kernel
theorem dX7_passOne_204 : decode cX7_passOne 204 = .ok (.iload_n 1, 1) := by decide +kernel
theorem dX7_passOne_205 : decode cX7_passOne 205 = .ok (.iaload, 1) := by decide +kernel
theorem dX7_passOne_206 : decode cX7_passOne 206 = .ok (.ifCond .le 72, 3) := by decide +kernel
theorem dX7_passOne_209 : decode cX7_passOne 209 = .ok (.aload_n 0, 1) := by decide +kernel
theorem dX7_passOne_210 : decode cX7_passOne 210 = .ok (.getfield 123, 3) := by decide +kernel
theorem dX7_passOne_213 : decode cX7_passOne 213 = .ok (.iload_n 1, 1) := by decide +kernel
theorem dX7_passOne_214 : decode cX7_passOne 214 = .ok (.iaload, 1) := by decide +kernel
theorem dX7_passOne_215 : decode cX7_passOne 215 = .ok (.sipush 1001, 3) := by decide +kernel
theorem dX7_passOne_218 : decode cX7_passOne 218 = .ok (.iadd, 1) := by decide +kernel
theorem dX7_passOne_219 : decode cX7_passOne 219 = .ok (.aload_n 0, 1) := by decide +kernel
theorem dX7_passOne_220 : decode cX7_passOne 220 = .ok (.getfield 150, 3) := by decide +kernel
theorem dX7_passOne_223 : decode cX7_passOne 223 = .ok (.if_icmp .ne 55, 3) := by decide +kernel
theorem dX7_passOne_226 : decode cX7_passOne 226 = .ok (.aload_n 0, 1) := by decide +kernel
theorem dX7_passOne_227 : decode cX7_passOne 227 = .ok (.dup, 1) := by decide +kernel
theorem dX7_passOne_228 : decode cX7_passOne 228 = .ok (.getfield 173, 3) := by decide +kernel
theorem dX7_passOne_231 : decode cX7_passOne 231 = .ok (.aload_n 0, 1) := by decide +kernel
theorem dX7_passOne_232 : decode cX7_passOne 232 = .ok (.getfield 120, 3) := by decide +kernel
theorem dX7_passOne_235 : decode cX7_passOne 235 = .ok (.iload_n 1, 1) := by decide +kernel
theorem dX7_passOne_236 : decode cX7_passOne 236 = .ok (.iaload, 1) := by decide +kernel
theorem dX7_passOne_237 : decode cX7_passOne 237 = .ok (.isub, 1) := by decide +kernel
theorem dX7_passOne_238 : decode cX7_passOne 238 = .ok (.putfield 173, 3) := by decide +kernel
theorem dX7_passOne_241 : decode cX7_passOne 241 = .ok (.aload_n 0, 1) := by decide +kernel
theorem dX7_passOne_242 : decode cX7_passOne 242 = .ok (.dup, 1) := by decide +kernel
theorem dX7_passOne_243 : decode cX7_passOne 243 = .ok (.getfield 176, 3) := by decide +kernel
theorem dX7_passOne_246 : decode cX7_passOne 246 = .ok (.aload_n 0, 1) := by decide +kernel
theorem dX7_passOne_247 : decode cX7_passOne 247 = .ok (.getfield 120, 3) := by decide +kernel
theorem dX7_passOne_250 : decode cX7_passOne 250 = .ok (.iload_n 1, 1) := by decide +kernel
theorem dX7_passOne_251 : decode cX7_passOne 251 = .ok (.iaload, 1) := by decide +kernel
theorem dX7_passOne_252 : decode cX7_passOne 252 = .ok (.isub, 1) := by decide +kernel
theorem dX7_passOne_253 : decode cX7_passOne 253 = .ok (.putfield 176, 3) := by decide +kernel
theorem dX7_passOne_256 : decode cX7_passOne 256 = .ok (.aload_n 0, 1) := by decide +kernel
theorem dX7_passOne_257 : decode cX7_passOne 257 = .ok (.dup, 1) := by decide +kernel
theorem dX7_passOne_258 : decode cX7_passOne 258 = .ok (.getfield 207, 3) := by decide +kernel
theorem dX7_passOne_261 : decode cX7_passOne 261 = .ok (.aload_n 0, 1) := by decide +kernel
theorem dX7_passOne_262 : decode cX7_passOne 262 = .ok (.getfield 120, 3) := by decide +kernel
theorem dX7_passOne_265 : decode cX7_passOne 265 = .ok (.iload_n 1, 1) := by decide +kernel
theorem dX7_passOne_266 : decode cX7_passOne 266 = .ok (.iaload, 1) := by decide +kernel
theorem dX7_passOne_267 : decode cX7_passOne 267 = .ok (.iadd, 1) := by decide +kernel
theorem dX7_passOne_268 : decode cX7_passOne 268 = .ok (.putfield 207, 3) := by decide +kernel
theorem dX7_passOne_271 : decode cX7_passOne 271 = .ok (.aload_n 0, 1) := by decide +kernel
theorem dX7_passOne_272 : decode cX7_passOne 272 = .ok (.getfield 120, 3) := by decide +kernel
theorem dX7_passOne_275 : decode cX7_passOne 275 = .ok (.iload_n 1, 1) := by decide +kernel
theorem dX7_passOne_276 : decode cX7_passOne 276 = .ok (.iconst 0, 1) := by decide +kernel
theorem dX7_passOne_277 : decode cX7_passOne 277 = .ok (.iastore, 1) := by decide +kernel
theorem dX7_passOne_278 : decode cX7_passOne 278 = .ok (.iinc 1 1, 3) := by decide +kernel
theorem dX7_passOne_281 : decode cX7_passOne 281 = .ok (.goto (-134), 3) := by decide +kernel
theorem dX7_passOne_284 : decode cX7_passOne 284 = .ok (.return_, 1) := by decide +kernel
theorem dX7_offer_0 : decode cX7_offer 0 = .ok (.aload_n 0, 1) := by decide +kernel
theorem dX7_offer_1 : decode cX7_offer 1 = .ok (.iload_n 1, 1) := by decide +kernel
theorem dX7_offer_2 : decode cX7_offer 2 = .ok (.invokevirtual 185, 3) := by decide +kernel
theorem dX7_offer_5 : decode cX7_offer 5 = .ok (.istore_n 3, 1) := by decide +kernel
theorem dX7_offer_6 : decode cX7_offer 6 = .ok (.iload_n 3, 1) := by decide +kernel
theorem dX7_offer_7 : decode cX7_offer 7 = .ok (.ifCond .eq 57, 3) := by decide +kernel
theorem dX7_offer_10 : decode cX7_offer 10 = .ok (.aload_n 0, 1) := by decide +kernel
theorem dX7_offer_11 : decode cX7_offer 11 = .ok (.getfield 108, 3) := by decide +kernel
theorem dX7_offer_14 : decode cX7_offer 14 = .ok (.iload_n 1, 1) := by decide +kernel
theorem dX7_offer_15 : decode cX7_offer 15 = .ok (.iaload, 1) := by decide +kernel
theorem dX7_offer_16 : decode cX7_offer 16 = .ok (.ifCond .ne 48, 3) := by decide +kernel
theorem dX7_offer_19 : decode cX7_offer 19 = .ok (.aload_n 0, 1) := by decide +kernel
theorem dX7_offer_20 : decode cX7_offer 20 = .ok (.getfield 150, 3) := by decide +kernel
theorem dX7_offer_23 : decode cX7_offer 23 = .ok (.aload_n 0, 1) := by decide +kernel
theorem dX7_offer_24 : decode cX7_offer 24 = .ok (.getfield 102, 3) := by decide +kernel
theorem dX7_offer_27 : decode cX7_offer 27 = .ok (.iload_n 1, 1) := by decide +kernel
theorem dX7_offer_28 : decode cX7_offer 28 = .ok (.iaload, 1) := by decide +kernel
theorem dX7_offer_29 : decode cX7_offer 29 = .ok (.aload_n 0, 1) := by decide +kernel
theorem dX7_offer_30 : decode cX7_offer 30 = .ok (.getfield 105, 3) := by decide +kernel
theorem dX7_offer_33 : decode cX7_offer 33 = .ok (.iload_n 1, 1) := by decide +kernel
theorem dX7_offer_34 : decode cX7_offer 34 = .ok (.iaload, 1) := by decide +kernel
theorem dX7_offer_35 : decode cX7_offer 35 = .ok (.iadd, 1) := by decide +kernel
theorem dX7_offer_36 : decode cX7_offer 36 = .ok (.if_icmp .le 28, 3) := by decide +kernel
theorem dX7_offer_39 : decode cX7_offer 39 = .ok (.aload_n 0, 1) := by decide +kernel
theorem dX7_offer_40 : decode cX7_offer 40 = .ok (.iload_n 1, 1) := by decide +kernel
theorem dX7_offer_41 : decode cX7_offer 41 = .ok (.invokevirtual 188, 3) := by decide +kernel
theorem dX7_offer_44 : decode cX7_offer 44 = .ok (.ifCond .ne 20, 3) := by decide +kernel
theorem dX7_offer_47 : decode cX7_offer 47 = .ok (.aload_n 0, 1) := by decide +kernel
theorem dX7_offer_48 : decode cX7_offer 48 = .ok (.aload_n 0, 1) := by decide +kernel
theorem dX7_offer_49 : decode cX7_offer 49 = .ok (.getfield 81, 3) := by decide +kernel
theorem dX7_offer_52 : decode cX7_offer 52 = .ok (.iload_n 1, 1) := by decide +kernel
theorem dX7_offer_53 : decode cX7_offer 53 = .ok (.iaload, 1) := by decide +kernel
theorem dX7_offer_54 : decode cX7_offer 54 = .ok (.invokevirtual 191, 3) := by decide +kernel
theorem dX7_offer_57 : decode cX7_offer 57 = .ok (.ifCond .eq 7, 3) := by decide +kernel
theorem dX7_offer_60 : decode cX7_offer 60 = .ok (.iconst 1, 1) := by decide +kernel
theorem dX7_offer_61 : decode cX7_offer 61 = .ok (.goto 4, 3) := by decide +kernel
theorem dX7_offer_64 : decode cX7_offer 64 = .ok (.iconst 0, 1) := by decide +kernel
theorem dX7_offer_65 : decode cX7_offer 65 = .ok (.istore 4, 2) := by decide +kernel
theorem dX7_offer_67 : decode cX7_offer 67 = .ok (.aload_n 0, 1) := by decide +kernel
theorem dX7_offer_68 : decode cX7_offer 68 = .ok (.iload_n 3, 1) := by decide +kernel
theorem dX7_offer_69 : decode cX7_offer 69 = .ok (.ifCond .ne 7, 3) := by decide +kernel
theorem dX7_offer_72 : decode cX7_offer 72 = .ok (.iconst 1, 1) := by decide +kernel
theorem dX7_offer_73 : decode cX7_offer 73 = .ok (.goto 27, 3) := by decide +kernel
theorem dX7_offer_76 : decode cX7_offer 76 = .ok (.iload_n 2, 1) := by decide +kernel
theorem dX7_offer_77 : decode cX7_offer 77 = .ok (.iconst 0, 1) := by decide +kernel
theorem dX7_offer_78 : decode cX7_offer 78 = .ok (.ldc 146, 2) := by decide +kernel
theorem dX7_offer_80 : decode cX7_offer 80 = .ok (.invokestatic 132, 3) := by decide +kernel
theorem dX7_offer_83 : decode cX7_offer 83 = .ok (.ifCond .ne 7, 3) := by decide +kernel
theorem dX7_offer_86 : decode cX7_offer 86 = .ok (.iconst 2, 1) := by decide +kernel
theorem dX7_offer_87 : decode cX7_offer 87 = .ok (.goto 13, 3) := by decide +kernel
theorem dX7_offer_90 : decode cX7_offer 90 = .ok (.iload 4, 2) := by decide +kernel
theorem dX7_offer_92 : decode cX7_offer 92 = .ok (.ifCond .ne 7, 3) := by decide +kernel
theorem dX7_offer_95 : decode cX7_offer 95 = .ok (.iconst 3, 1) := by decide +kernel
theorem dX7_offer_96 : decode cX7_offer 96 = .ok (.goto 4, 3) := by decide +kernel
theorem dX7_offer_99 : decode cX7_offer 99 = .ok (.iconst 0, 1) := by decide +kernel
theorem dX7_offer_100 : decode cX7_offer 100 = .ok (.invokevirtual 139, 3) := by decide +kernel
theorem dX7_offer_103 : decode cX7_offer 103 = .ok (.ifCond .eq 5, 3) := by decide +kernel
theorem dX7_offer_106 : decode cX7_offer 106 = .ok (.iconst 0, 1) := by decide +kernel
theorem dX7_offer_107 : decode cX7_offer 107 = .ok (.ireturn, 1) := by decide +kernel
theorem dX7_offer_108 : decode cX7_offer 108 = .ok (.aload_n 0, 1) := by decide +kernel
theorem dX7_offer_109 : decode cX7_offer 109 = .ok (.iload_n 1, 1) := by decide +kernel
theorem dX7_offer_110 : decode cX7_offer 110 = .ok (.invokevirtual 194, 3) := by decide +kernel
theorem dX7_offer_113 : decode cX7_offer 113 = .ok (.istore 5, 2) := by decide +kernel
theorem dX7_offer_115 : decode cX7_offer 115 = .ok (.aload_n 0, 1) := by decide +kernel
theorem dX7_offer_116 : decode cX7_offer 116 = .ok (.getfield 111, 3) := by decide +kernel
theorem dX7_offer_119 : decode cX7_offer 119 = .ok (.iload_n 1, 1) := by decide +kernel
theorem dX7_offer_120 : decode cX7_offer 120 = .ok (.iaload, 1) := by decide +kernel
theorem dX7_offer_121 : decode cX7_offer 121 = .ok (.ifCond .ne 15, 3) := by decide +kernel
theorem dX7_offer_124 : decode cX7_offer 124 = .ok (.aload_n 0, 1) := by decide +kernel
theorem dX7_offer_125 : decode cX7_offer 125 = .ok (.getfield 96, 3) := by decide +kernel
theorem dX7_offer_128 : decode cX7_offer 128 = .ok (.iload_n 1, 1) := by decide +kernel
theorem dX7_offer_129 : decode cX7_offer 129 = .ok (.iaload, 1) := by decide +kernel
theorem dX7_offer_130 : decode cX7_offer 130 = .ok (.iload 5, 2) := by decide +kernel
theorem dX7_offer_132 : decode cX7_offer 132 = .ok (.iadd, 1) := by decide +kernel
theorem dX7_offer_133 : decode cX7_offer 133 = .ok (.goto 23, 3) := by decide +kernel
theorem dX7_offer_136 : decode cX7_offer 136 = .ok (.aload_n 0, 1) := by decide +kernel
theorem dX7_offer_137 : decode cX7_offer 137 = .ok (.getfield 111, 3) := by decide +kernel
theorem dX7_offer_140 : decode cX7_offer 140 = .ok (.iload_n 1, 1) := by decide +kernel
theorem dX7_offer_141 : decode cX7_offer 141 = .ok (.iaload, 1) := by decide +kernel
theorem dX7_offer_142 : decode cX7_offer 142 = .ok (.iconst 1, 1) := by decide +kernel
theorem dX7_offer_143 : decode cX7_offer 143 = .ok (.if_icmp .ne 12, 3) := by decide +kernel
theorem dX7_offer_146 : decode cX7_offer 146 = .ok (.aload_n 0, 1) := by decide +kernel
theorem dX7_offer_147 : decode cX7_offer 147 = .ok (.getfield 96, 3) := by decide +kernel
theorem dX7_offer_150 : decode cX7_offer 150 = .ok (.iload_n 1, 1) := by decide +kernel
theorem dX7_offer_151 : decode cX7_offer 151 = .ok (.iaload, 1) := by decide +kernel
theorem dX7_offer_152 : decode cX7_offer 152 = .ok (.goto 4, 3) := by decide +kernel
theorem dX7_offer_155 : decode cX7_offer 155 = .ok (.iconst 0, 1) := by decide +kernel
theorem dX7_offer_156 : decode cX7_offer 156 = .ok (.istore 6, 2) := by decide +kernel
theorem dX7_offer_158 : decode cX7_offer 158 = .ok (.iload_n 2, 1) := by decide +kernel
theorem dX7_offer_159 : decode cX7_offer 159 = .ok (.iload 6, 2) := by decide +kernel
theorem dX7_offer_161 : decode cX7_offer 161 = .ok (.if_icmp .ge 16, 3) := by decide +kernel
theorem dX7_offer_164 : decode cX7_offer 164 = .ok (.aload_n 0, 1) := by decide +kernel
theorem dX7_offer_165 : decode cX7_offer 165 = .ok (.getfield 111, 3) := by decide +kernel
theorem dX7_offer_168 : decode cX7_offer 168 = .ok (.iload_n 1, 1) := by decide +kernel
theorem dX7_offer_169 : decode cX7_offer 169 = .ok (.dup2, 1) := by decide +kernel
theorem dX7_offer_170 : decode cX7_offer 170 = .ok (.iaload, 1) := by decide +kernel
theorem dX7_offer_171 : decode cX7_offer 171 = .ok (.iconst 1, 1) := by decide +kernel
theorem dX7_offer_172 : decode cX7_offer 172 = .ok (.iadd, 1) := by decide +kernel
theorem dX7_offer_173 : decode cX7_offer 173 = .ok (.iastore, 1) := by decide +kernel
theorem dX7_offer_174 : decode cX7_offer 174 = .ok (.ldc 210, 2) := by decide +kernel
theorem dX7_offer_176 : decode cX7_offer 176 = .ok (.ireturn, 1) := by decide +kernel
theorem dX7_offer_177 : decode cX7_offer 177 = .ok (.iload_n 2, 1) := by decide +kernel
theorem dX7_offer_178 : decode cX7_offer 178 = .ok (.aload_n 0, 1) := by decide +kernel
theorem dX7_offer_179 : decode cX7_offer 179 = .ok (.getfield 96, 3) := by decide +kernel
theorem dX7_offer_182 : decode cX7_offer 182 = .ok (.iload_n 1, 1) := by decide +kernel
theorem dX7_offer_183 : decode cX7_offer 183 = .ok (.iaload, 1) := by decide +kernel
theorem dX7_offer_184 : decode cX7_offer 184 = .ok (.isub, 1) := by decide +kernel
theorem dX7_offer_185 : decode cX7_offer 185 = .ok (.iload 5, 2) := by decide +kernel
theorem dX7_offer_187 : decode cX7_offer 187 = .ok (.isub, 1) := by decide +kernel
theorem dX7_offer_188 : decode cX7_offer 188 = .ok (.iconst 5, 1) := by decide +kernel
theorem dX7_offer_189 : decode cX7_offer 189 = .ok (.iload_n 2, 1) := by decide +kernel
theorem dX7_offer_190 : decode cX7_offer 190 = .ok (.imul, 1) := by decide +kernel
theorem dX7_offer_191 : decode cX7_offer 191 = .ok (.bipush 100, 2) := by decide +kernel
theorem dX7_offer_193 : decode cX7_offer 193 = .ok (.idiv, 1) := by decide +kernel
theorem dX7_offer_194 : decode cX7_offer 194 = .ok (.isub, 1) := by decide +kernel
theorem dX7_offer_195 : decode cX7_offer 195 = .ok (.istore 7, 2) := by decide +kernel
theorem dX7_offer_197 : decode cX7_offer 197 = .ok (.aload_n 0, 1) := by decide +kernel
theorem dX7_offer_198 : decode cX7_offer 198 = .ok (.getfield 108, 3) := by decide +kernel
theorem dX7_offer_201 : decode cX7_offer 201 = .ok (.iload_n 1, 1) := by decide +kernel
theorem dX7_offer_202 : decode cX7_offer 202 = .ok (.iconst 2, 1) := by decide +kernel
theorem dX7_offer_203 : decode cX7_offer 203 = .ok (.iastore, 1) := by decide +kernel
theorem dX7_offer_204 : decode cX7_offer 204 = .ok (.aload_n 0, 1) := by decide +kernel
theorem dX7_offer_205 : decode cX7_offer 205 = .ok (.getfield 22, 3) := by decide +kernel
theorem dX7_offer_208 : decode cX7_offer 208 = .ok (.aload_n 0, 1) := by decide +kernel
theorem dX7_offer_209 : decode cX7_offer 209 = .ok (.getfield 81, 3) := by decide +kernel
theorem dX7_offer_212 : decode cX7_offer 212 = .ok (.iload_n 1, 1) := by decide +kernel
theorem dX7_offer_213 : decode cX7_offer 213 = .ok (.iaload, 1) := by decide +kernel
theorem dX7_offer_214 : decode cX7_offer 214 = .ok (.iconst 0, 1) := by decide +kernel
theorem dX7_offer_215 : decode cX7_offer 215 = .ok (.bastore, 1) := by decide +kernel
theorem dX7_offer_216 : decode cX7_offer 216 = .ok (.aload_n 0, 1) := by decide +kernel
theorem dX7_offer_217 : decode cX7_offer 217 = .ok (.dup, 1) := by decide +kernel
theorem dX7_offer_218 : decode cX7_offer 218 = .ok (.getfield 173, 3) := by decide +kernel
theorem dX7_offer_221 : decode cX7_offer 221 = .ok (.iload_n 2, 1) := by decide +kernel
theorem dX7_offer_222 : decode cX7_offer 222 = .ok (.iadd, 1) := by decide +kernel
theorem dX7_offer_223 : decode cX7_offer 223 = .ok (.putfield 173, 3) := by decide +kernel
theorem dX7_offer_226 : decode cX7_offer 226 = .ok (.aload_n 0, 1) := by decide +kernel
theorem dX7_offer_227 : decode cX7_offer 227 = .ok (.getfield 50, 3) := by decide +kernel
theorem dX7_offer_230 : decode cX7_offer 230 = .ok (.aload_n 0, 1) := by decide +kernel
theorem dX7_offer_231 : decode cX7_offer 231 = .ok (.getfield 84, 3) := by decide +kernel
theorem dX7_offer_234 : decode cX7_offer 234 = .ok (.iload_n 1, 1) := by decide +kernel
theorem dX7_offer_235 : decode cX7_offer 235 = .ok (.iaload, 1) := by decide +kernel
theorem dX7_offer_236 : decode cX7_offer 236 = .ok (.dup2, 1) := by decide +kernel
theorem dX7_offer_237 : decode cX7_offer 237 = .ok (.iaload, 1) := by decide +kernel
theorem dX7_offer_238 : decode cX7_offer 238 = .ok (.iload_n 2, 1) := by decide +kernel
theorem dX7_offer_239 : decode cX7_offer 239 = .ok (.aload_n 0, 1) := by decide +kernel
theorem dX7_offer_240 : decode cX7_offer 240 = .ok (.getfield 99, 3) := by decide +kernel
theorem dX7_offer_243 : decode cX7_offer 243 = .ok (.iload_n 1, 1) := by decide +kernel
theorem dX7_offer_244 : decode cX7_offer 244 = .ok (.iaload, 1) := by decide +kernel
theorem dX7_offer_245 : decode cX7_offer 245 = .ok (.isub, 1) := by decide +kernel
theorem dX7_offer_246 : decode cX7_offer 246 = .ok (.iadd, 1) := by decide +kernel
theorem dX7_offer_247 : decode cX7_offer 247 = .ok (.iastore, 1) := by decide +kernel
theorem dX7_offer_248 : decode cX7_offer 248 = .ok (.iload 7, 2) := by decide +kernel
theorem dX7_offer_250 : decode cX7_offer 250 = .ok (.ifCond .le 35, 3) := by decide +kernel
theorem dX7_offer_253 : decode cX7_offer 253 = .ok (.aload_n 0, 1) := by decide +kernel
theorem dX7_offer_254 : decode cX7_offer 254 = .ok (.getfield 120, 3) := by decide +kernel
theorem dX7_offer_257 : decode cX7_offer 257 = .ok (.iload_n 1, 1) := by decide +kernel
theorem dX7_offer_258 : decode cX7_offer 258 = .ok (.iload 7, 2) := by decide +kernel
theorem dX7_offer_260 : decode cX7_offer 260 = .ok (.iastore, 1) := by decide +kernel
theorem dX7_offer_261 : decode cX7_offer 261 = .ok (.aload_n 0, 1) := by decide +kernel
theorem dX7_offer_262 : decode cX7_offer 262 = .ok (.dup, 1) := by decide +kernel
theorem dX7_offer_263 : decode cX7_offer 263 = .ok (.getfield 176, 3) := by decide +kernel
theorem dX7_offer_266 : decode cX7_offer 266 = .ok (.iload 7, 2) := by decide +kernel
theorem dX7_offer_268 : decode cX7_offer 268 = .ok (.iadd, 1) := by decide +kernel
theorem dX7_offer_269 : decode cX7_offer 269 = .ok (.putfield 176, 3) := by decide +kernel
theorem dX7_offer_272 : decode cX7_offer 272 = .ok (.aload_n 0, 1) := by decide +kernel
theorem dX7_offer_273 : decode cX7_offer 273 = .ok (.getfield 123, 3) := by decide +kernel
theorem dX7_offer_276 : decode cX7_offer 276 = .ok (.iload_n 1, 1) := by decide +kernel
theorem dX7_offer_277 : decode cX7_offer 277 = .ok (.aload_n 0, 1) := by decide +kernel
theorem dX7_offer_278 : decode cX7_offer 278 = .ok (.getfield 150, 3) := by decide +kernel
theorem dX7_offer_281 : decode cX7_offer 281 = .ok (.iastore, 1) := by decide +kernel
theorem dX7_offer_282 : decode cX7_offer 282 = .ok (.goto 19, 3) := by decide +kernel
theorem dX7_offer_285 : decode cX7_offer 285 = .ok (.aload_n 0, 1) := by decide +kernel
theorem dX7_offer_286 : decode cX7_offer 286 = .ok (.getfield 47, 3) := by decide +kernel
theorem dX7_offer_289 : decode cX7_offer 289 = .ok (.aload_n 0, 1) := by decide +kernel
theorem dX7_offer_290 : decode cX7_offer 290 = .ok (.getfield 84, 3) := by decide +kernel
theorem dX7_offer_293 : decode cX7_offer 293 = .ok (.iload_n 1, 1) := by decide +kernel
theorem dX7_offer_294 : decode cX7_offer 294 = .ok (.iaload, 1) := by decide +kernel
theorem dX7_offer_295 : decode cX7_offer 295 = .ok (.dup2, 1) := by decide +kernel
theorem dX7_offer_296 : decode cX7_offer 296 = .ok (.iaload, 1) := by decide +kernel
theorem dX7_offer_297 : decode cX7_offer 297 = .ok (.iload 7, 2) := by decide +kernel
theorem dX7_offer_299 : decode cX7_offer 299 = .ok (.isub, 1) := by decide +kernel
theorem dX7_offer_300 : decode cX7_offer 300 = .ok (.iastore, 1) := by decide +kernel
theorem dX7_offer_301 : decode cX7_offer 301 = .ok (.iload 7, 2) := by decide +kernel
theorem dX7_offer_303 : decode cX7_offer 303 = .ok (.ireturn, 1) := by decide +kernel
theorem dX7_claim_0 : decode cX7_claim 0 = .ok (.aload_n 0, 1) := by decide +kernel
theorem dX7_claim_1 : decode cX7_claim 1 = .ok (.iload_n 1, 1) := by decide +kernel
theorem dX7_claim_2 : decode cX7_claim 2 = .ok (.invokevirtual 185, 3) := by decide +kernel
theorem dX7_claim_5 : decode cX7_claim 5 = .ok (.ifCond .eq 14, 3) := by decide +kernel
theorem dX7_claim_8 : decode cX7_claim 8 = .ok (.iload_n 2, 1) := by decide +kernel
theorem dX7_claim_9 : decode cX7_claim 9 = .ok (.invokestatic 143, 3) := by decide +kernel
theorem dX7_claim_12 : decode cX7_claim 12 = .ok (.ifCond .eq 7, 3) := by decide +kernel
theorem dX7_claim_15 : decode cX7_claim 15 = .ok (.iconst 1, 1) := by decide +kernel
theorem dX7_claim_16 : decode cX7_claim 16 = .ok (.goto 4, 3) := by decide +kernel
theorem dX7_claim_19 : decode cX7_claim 19 = .ok (.iconst 0, 1) := by decide +kernel
theorem dX7_claim_20 : decode cX7_claim 20 = .ok (.istore_n 3, 1) := by decide +kernel
theorem dX7_claim_21 : decode cX7_claim 21 = .ok (.iload_n 3, 1) := by decide +kernel
theorem dX7_claim_22 : decode cX7_claim 22 = .ok (.ifCond .eq 36, 3) := by decide +kernel
theorem dX7_claim_25 : decode cX7_claim 25 = .ok (.aload_n 0, 1) := by decide +kernel
theorem dX7_claim_26 : decode cX7_claim 26 = .ok (.getfield 120, 3) := by decide +kernel
theorem dX7_claim_29 : decode cX7_claim 29 = .ok (.iload_n 1, 1) := by decide +kernel
theorem dX7_claim_30 : decode cX7_claim 30 = .ok (.iaload, 1) := by decide +kernel
theorem dX7_claim_31 : decode cX7_claim 31 = .ok (.ifCond .le 27, 3) := by decide +kernel
theorem dX7_claim_34 : decode cX7_claim 34 = .ok (.aload_n 0, 1) := by decide +kernel
theorem dX7_claim_35 : decode cX7_claim 35 = .ok (.getfield 114, 3) := by decide +kernel
theorem dX7_claim_38 : decode cX7_claim 38 = .ok (.iload_n 1, 1) := by decide +kernel
theorem dX7_claim_39 : decode cX7_claim 39 = .ok (.iaload, 1) := by decide +kernel
theorem dX7_claim_40 : decode cX7_claim 40 = .ok (.iconst (-1), 1) := by decide +kernel
theorem dX7_claim_41 : decode cX7_claim 41 = .ok (.if_icmp .ne 17, 3) := by decide +kernel
theorem dX7_claim_44 : decode cX7_claim 44 = .ok (.aload_n 0, 1) := by decide +kernel
theorem dX7_claim_45 : decode cX7_claim 45 = .ok (.getfield 90, 3) := by decide +kernel
theorem dX7_claim_48 : decode cX7_claim 48 = .ok (.iload_n 1, 1) := by decide +kernel
theorem dX7_claim_49 : decode cX7_claim 49 = .ok (.iaload, 1) := by decide +kernel
theorem dX7_claim_50 : decode cX7_claim 50 = .ok (.iload_n 2, 1) := by decide +kernel
theorem dX7_claim_51 : decode cX7_claim 51 = .ok (.if_icmp .ne 7, 3) := by decide +kernel
theorem dX7_claim_54 : decode cX7_claim 54 = .ok (.iconst 1, 1) := by decide +kernel
theorem dX7_claim_55 : decode cX7_claim 55 = .ok (.goto 4, 3) := by decide +kernel
theorem dX7_claim_58 : decode cX7_claim 58 = .ok (.iconst 0, 1) := by decide +kernel
theorem dX7_claim_59 : decode cX7_claim 59 = .ok (.istore 4, 2) := by decide +kernel
theorem dX7_claim_61 : decode cX7_claim 61 = .ok (.aload_n 0, 1) := by decide +kernel
theorem dX7_claim_62 : decode cX7_claim 62 = .ok (.iload_n 3, 1) := by decide +kernel
theorem dX7_claim_63 : decode cX7_claim 63 = .ok (.ifCond .ne 7, 3) := by decide +kernel
theorem dX7_claim_66 : decode cX7_claim 66 = .ok (.iconst 1, 1) := by decide +kernel
theorem dX7_claim_67 : decode cX7_claim 67 = .ok (.goto 13, 3) := by decide +kernel
theorem dX7_claim_70 : decode cX7_claim 70 = .ok (.iload 4, 2) := by decide +kernel
theorem dX7_claim_72 : decode cX7_claim 72 = .ok (.ifCond .ne 7, 3) := by decide +kernel
theorem dX7_claim_75 : decode cX7_claim 75 = .ok (.iconst 2, 1) := by decide +kernel
theorem dX7_claim_76 : decode cX7_claim 76 = .ok (.goto 4, 3) := by decide +kernel
theorem dX7_claim_79 : decode cX7_claim 79 = .ok (.iconst 0, 1) := by decide +kernel
theorem dX7_claim_80 : decode cX7_claim 80 = .ok (.invokevirtual 139, 3) := by decide +kernel
theorem dX7_claim_83 : decode cX7_claim 83 = .ok (.ifCond .eq 5, 3) := by decide +kernel
theorem dX7_claim_86 : decode cX7_claim 86 = .ok (.iconst 0, 1) := by decide +kernel
theorem dX7_claim_87 : decode cX7_claim 87 = .ok (.ireturn, 1) := by decide +kernel
theorem dX7_claim_88 : decode cX7_claim 88 = .ok (.aload_n 0, 1) := by decide +kernel
theorem dX7_claim_89 : decode cX7_claim 89 = .ok (.getfield 120, 3) := by decide +kernel
theorem dX7_claim_92 : decode cX7_claim 92 = .ok (.iload_n 1, 1) := by decide +kernel
theorem dX7_claim_93 : decode cX7_claim 93 = .ok (.iaload, 1) := by decide +kernel
theorem dX7_claim_94 : decode cX7_claim 94 = .ok (.istore 5, 2) := by decide +kernel
theorem dX7_claim_96 : decode cX7_claim 96 = .ok (.aload_n 0, 1) := by decide +kernel
theorem dX7_claim_97 : decode cX7_claim 97 = .ok (.getfield 120, 3) := by decide +kernel
theorem dX7_claim_100 : decode cX7_claim 100 = .ok (.iload_n 1, 1) := by decide +kernel
theorem dX7_claim_101 : decode cX7_claim 101 = .ok (.iconst 0, 1) := by decide +kernel
theorem dX7_claim_102 : decode cX7_claim 102 = .ok (.iastore, 1) := by decide +kernel
theorem dX7_claim_103 : decode cX7_claim 103 = .ok (.aload_n 0, 1) := by decide +kernel
theorem dX7_claim_104 : decode cX7_claim 104 = .ok (.dup, 1) := by decide +kernel
theorem dX7_claim_105 : decode cX7_claim 105 = .ok (.getfield 176, 3) := by decide +kernel
theorem dX7_claim_108 : decode cX7_claim 108 = .ok (.iload 5, 2) := by decide +kernel
theorem dX7_claim_110 : decode cX7_claim 110 = .ok (.isub, 1) := by decide +kernel
theorem dX7_claim_111 : decode cX7_claim 111 = .ok (.putfield 176, 3) := by decide +kernel
theorem dX7_claim_114 : decode cX7_claim 114 = .ok (.aload_n 0, 1) := by decide +kernel
theorem dX7_claim_115 : decode cX7_claim 115 = .ok (.dup, 1) := by decide +kernel
theorem dX7_claim_116 : decode cX7_claim 116 = .ok (.getfield 173, 3) := by decide +kernel
theorem dX7_claim_119 : decode cX7_claim 119 = .ok (.iload 5, 2) := by decide +kernel
theorem dX7_claim_121 : decode cX7_claim 121 = .ok (.isub, 1) := by decide +kernel
theorem dX7_claim_122 : decode cX7_claim 122 = .ok (.putfield 173, 3) := by decide +kernel
theorem dX7_claim_125 : decode cX7_claim 125 = .ok (.iload 5, 2) := by decide +kernel
theorem dX7_claim_127 : decode cX7_claim 127 = .ok (.ireturn, 1) := by decide +kernel
theorem dX7_deposit_0 : decode cX7_deposit 0 = .ok (.aload_n 0, 1) := by decide +kernel
theorem dX7_deposit_1 : decode cX7_deposit 1 = .ok (.iload_n 1, 1) := by decide +kernel
theorem dX7_deposit_2 : decode cX7_deposit 2 = .ok (.iconst 1, 1) := by decide +kernel
theorem dX7_deposit_3 : decode cX7_deposit 3 = .ok (.ldc 146, 2) := by decide +kernel
theorem dX7_deposit_5 : decode cX7_deposit 5 = .ok (.invokestatic 132, 3) := by decide +kernel
theorem dX7_deposit_8 : decode cX7_deposit 8 = .ok (.ifCond .ne 7, 3) := by decide +kernel
theorem dX7_deposit_11 : decode cX7_deposit 11 = .ok (.iconst 1, 1) := by decide +kernel
theorem dX7_deposit_12 : decode cX7_deposit 12 = .ok (.goto 19, 3) := by decide +kernel
theorem dX7_deposit_15 : decode cX7_deposit 15 = .ok (.aload_n 0, 1) := by decide +kernel
theorem dX7_deposit_16 : decode cX7_deposit 16 = .ok (.getfield 173, 3) := by decide +kernel
theorem dX7_deposit_19 : decode cX7_deposit 19 = .ok (.iload_n 1, 1) := by decide +kernel
theorem dX7_deposit_20 : decode cX7_deposit 20 = .ok (.iadd, 1) := by decide +kernel
theorem dX7_deposit_21 : decode cX7_deposit 21 = .ok (.ldc 211, 2) := by decide +kernel
theorem dX7_deposit_23 : decode cX7_deposit 23 = .ok (.if_icmp .le 7, 3) := by decide +kernel
theorem dX7_deposit_26 : decode cX7_deposit 26 = .ok (.iconst 2, 1) := by decide +kernel
theorem dX7_deposit_27 : decode cX7_deposit 27 = .ok (.goto 4, 3) := by decide +kernel
theorem dX7_deposit_30 : decode cX7_deposit 30 = .ok (.iconst 0, 1) := by decide +kernel
theorem dX7_deposit_31 : decode cX7_deposit 31 = .ok (.invokevirtual 139, 3) := by decide +kernel
theorem dX7_deposit_34 : decode cX7_deposit 34 = .ok (.ifCond .eq 5, 3) := by decide +kernel
theorem dX7_deposit_37 : decode cX7_deposit 37 = .ok (.iconst 0, 1) := by decide +kernel
theorem dX7_deposit_38 : decode cX7_deposit 38 = .ok (.ireturn, 1) := by decide +kernel
theorem dX7_deposit_39 : decode cX7_deposit 39 = .ok (.aload_n 0, 1) := by decide +kernel
theorem dX7_deposit_40 : decode cX7_deposit 40 = .ok (.dup, 1) := by decide +kernel
theorem dX7_deposit_41 : decode cX7_deposit 41 = .ok (.getfield 173, 3) := by decide +kernel
theorem dX7_deposit_44 : decode cX7_deposit 44 = .ok (.iload_n 1, 1) := by decide +kernel
theorem dX7_deposit_45 : decode cX7_deposit 45 = .ok (.iadd, 1) := by decide +kernel
theorem dX7_deposit_46 : decode cX7_deposit 46 = .ok (.putfield 173, 3) := by decide +kernel
theorem dX7_deposit_49 : decode cX7_deposit 49 = .ok (.aload_n 0, 1) := by decide +kernel
theorem dX7_deposit_50 : decode cX7_deposit 50 = .ok (.getfield 173, 3) := by decide +kernel
theorem dX7_deposit_53 : decode cX7_deposit 53 = .ok (.ireturn, 1) := by decide +kernel
theorem dX7_withdraw_0 : decode cX7_withdraw 0 = .ok (.aload_n 0, 1) := by decide +kernel
theorem dX7_withdraw_1 : decode cX7_withdraw 1 = .ok (.iload_n 1, 1) := by decide +kernel
theorem dX7_withdraw_2 : decode cX7_withdraw 2 = .ok (.iconst 1, 1) := by decide +kernel
theorem dX7_withdraw_3 : decode cX7_withdraw 3 = .ok (.ldc 146, 2) := by decide +kernel
theorem dX7_withdraw_5 : decode cX7_withdraw 5 = .ok (.invokestatic 132, 3) := by decide +kernel
theorem dX7_withdraw_8 : decode cX7_withdraw 8 = .ok (.ifCond .ne 7, 3) := by decide +kernel
theorem dX7_withdraw_11 : decode cX7_withdraw 11 = .ok (.iconst 1, 1) := by decide +kernel
theorem dX7_withdraw_12 : decode cX7_withdraw 12 = .ok (.goto 21, 3) := by decide +kernel
theorem dX7_withdraw_15 : decode cX7_withdraw 15 = .ok (.iload_n 1, 1) := by decide +kernel
theorem dX7_withdraw_16 : decode cX7_withdraw 16 = .ok (.aload_n 0, 1) := by decide +kernel
theorem dX7_withdraw_17 : decode cX7_withdraw 17 = .ok (.getfield 173, 3) := by decide +kernel
theorem dX7_withdraw_20 : decode cX7_withdraw 20 = .ok (.aload_n 0, 1) := by decide +kernel
theorem dX7_withdraw_21 : decode cX7_withdraw 21 = .ok (.getfield 176, 3) := by decide +kernel
theorem dX7_withdraw_24 : decode cX7_withdraw 24 = .ok (.isub, 1) := by decide +kernel
theorem dX7_withdraw_25 : decode cX7_withdraw 25 = .ok (.if_icmp .le 7, 3) := by decide +kernel
theorem dX7_withdraw_28 : decode cX7_withdraw 28 = .ok (.iconst 2, 1) := by decide +kernel
theorem dX7_withdraw_29 : decode cX7_withdraw 29 = .ok (.goto 4, 3) := by decide +kernel
theorem dX7_withdraw_32 : decode cX7_withdraw 32 = .ok (.iconst 0, 1) := by decide +kernel
theorem dX7_withdraw_33 : decode cX7_withdraw 33 = .ok (.invokevirtual 139, 3) := by decide +kernel
theorem dX7_withdraw_36 : decode cX7_withdraw 36 = .ok (.ifCond .eq 5, 3) := by decide +kernel
theorem dX7_withdraw_39 : decode cX7_withdraw 39 = .ok (.iconst 0, 1) := by decide +kernel
theorem dX7_withdraw_40 : decode cX7_withdraw 40 = .ok (.ireturn, 1) := by decide +kernel
theorem dX7_withdraw_41 : decode cX7_withdraw 41 = .ok (.aload_n 0, 1) := by decide +kernel
theorem dX7_withdraw_42 : decode cX7_withdraw 42 = .ok (.dup, 1) := by decide +kernel
theorem dX7_withdraw_43 : decode cX7_withdraw 43 = .ok (.getfield 173, 3) := by decide +kernel
theorem dX7_withdraw_46 : decode cX7_withdraw 46 = .ok (.iload_n 1, 1) := by decide +kernel
theorem dX7_withdraw_47 : decode cX7_withdraw 47 = .ok (.isub, 1) := by decide +kernel
theorem dX7_withdraw_48 : decode cX7_withdraw 48 = .ok (.putfield 173, 3) := by decide +kernel
theorem dX7_withdraw_51 : decode cX7_withdraw 51 = .ok (.aload_n 0, 1) := by decide +kernel
theorem dX7_withdraw_52 : decode cX7_withdraw 52 = .ok (.getfield 173, 3) := by decide +kernel
theorem dX7_withdraw_55 : decode cX7_withdraw 55 = .ok (.ireturn, 1) := by decide +kernel
theorem dX7_day_0 : decode cX7_day 0 = .ok (.aload_n 0, 1) := by decide +kernel
theorem dX7_day_1 : decode cX7_day 1 = .ok (.iconst 0, 1) := by decide +kernel
theorem dX7_day_2 : decode cX7_day 2 = .ok (.putfield 126, 3) := by decide +kernel
theorem dX7_day_5 : decode cX7_day 5 = .ok (.aload_n 0, 1) := by decide +kernel
theorem dX7_day_6 : decode cX7_day 6 = .ok (.getfield 150, 3) := by decide +kernel
theorem dX7_day_9 : decode cX7_day 9 = .ok (.ireturn, 1) := by decide +kernel
theorem dX7_thingOf_0 : decode cX7_thingOf 0 = .ok (.aload_n 0, 1) := by decide +kernel
theorem dX7_thingOf_1 : decode cX7_thingOf 1 = .ok (.aload_n 0, 1) := by decide +kernel
theorem dX7_thingOf_2 : decode cX7_thingOf 2 = .ok (.iload_n 1, 1) := by decide +kernel
theorem dX7_thingOf_3 : decode cX7_thingOf 3 = .ok (.invokevirtual 166, 3) := by decide +kernel
theorem dX7_thingOf_6 : decode cX7_thingOf 6 = .ok (.ifCond .ne 7, 3) := by decide +kernel
theorem dX7_thingOf_9 : decode cX7_thingOf 9 = .ok (.iconst 1, 1) := by decide +kernel
theorem dX7_thingOf_10 : decode cX7_thingOf 10 = .ok (.goto 18, 3) := by decide +kernel
theorem dX7_thingOf_13 : decode cX7_thingOf 13 = .ok (.iload_n 2, 1) := by decide +kernel
theorem dX7_thingOf_14 : decode cX7_thingOf 14 = .ok (.iconst 0, 1) := by decide +kernel
theorem dX7_thingOf_15 : decode cX7_thingOf 15 = .ok (.bipush 6, 2) := by decide +kernel
theorem dX7_thingOf_17 : decode cX7_thingOf 17 = .ok (.invokestatic 132, 3) := by decide +kernel
theorem dX7_thingOf_20 : decode cX7_thingOf 20 = .ok (.ifCond .ne 7, 3) := by decide +kernel
theorem dX7_thingOf_23 : decode cX7_thingOf 23 = .ok (.iconst 2, 1) := by decide +kernel
theorem dX7_thingOf_24 : decode cX7_thingOf 24 = .ok (.goto 4, 3) := by decide +kernel
theorem dX7_thingOf_27 : decode cX7_thingOf 27 = .ok (.iconst 0, 1) := by decide +kernel
theorem dX7_thingOf_28 : decode cX7_thingOf 28 = .ok (.invokevirtual 139, 3) := by decide +kernel
theorem dX7_thingOf_31 : decode cX7_thingOf 31 = .ok (.ifCond .eq 5, 3) := by decide +kernel
theorem dX7_thingOf_34 : decode cX7_thingOf 34 = .ok (.iconst 0, 1) := by decide +kernel
theorem dX7_thingOf_35 : decode cX7_thingOf 35 = .ok (.ireturn, 1) := by decide +kernel
theorem dX7_thingOf_36 : decode cX7_thingOf 36 = .ok (.iload_n 2, 1) := by decide +kernel
theorem dX7_thingOf_37 : decode cX7_thingOf 37 = .ok (.iconst 4, 1) := by decide +kernel
theorem dX7_thingOf_38 : decode cX7_thingOf 38 = .ok (.if_icmp .ge 58, 3) := by decide +kernel
theorem dX7_thingOf_41 : decode cX7_thingOf 41 = .ok (.iload_n 2, 1) := by decide +kernel
theorem dX7_thingOf_42 : decode cX7_thingOf 42 = .ok (.ifCond .ne 12, 3) := by decide +kernel
theorem dX7_thingOf_45 : decode cX7_thingOf 45 = .ok (.aload_n 0, 1) := by decide +kernel
theorem dX7_thingOf_46 : decode cX7_thingOf 46 = .ok (.getfield 7, 3) := by decide +kernel
theorem dX7_thingOf_49 : decode cX7_thingOf 49 = .ok (.iload_n 1, 1) := by decide +kernel
theorem dX7_thingOf_50 : decode cX7_thingOf 50 = .ok (.iaload, 1) := by decide +kernel
theorem dX7_thingOf_51 : decode cX7_thingOf 51 = .ok (.goto 44, 3) := by decide +kernel
theorem dX7_thingOf_54 : decode cX7_thingOf 54 = .ok (.iload_n 2, 1) := by decide +kernel
theorem dX7_thingOf_55 : decode cX7_thingOf 55 = .ok (.iconst 1, 1) := by decide +kernel
theorem dX7_thingOf_56 : decode cX7_thingOf 56 = .ok (.if_icmp .ne 11, 3) := by decide +kernel
theorem dX7_thingOf_59 : decode cX7_thingOf 59 = .ok (.aload_n 0, 1) := by decide +kernel
theorem dX7_thingOf_60 : decode cX7_thingOf 60 = .ok (.iload_n 1, 1) := by decide +kernel
theorem dX7_thingOf_61 : decode cX7_thingOf 61 = .ok (.invokevirtual 169, 3) := by decide +kernel
theorem dX7_thingOf_64 : decode cX7_thingOf 64 = .ok (.goto 31, 3) := by decide +kernel
theorem dX7_thingOf_67 : decode cX7_thingOf 67 = .ok (.iload_n 2, 1) := by decide +kernel
theorem dX7_thingOf_68 : decode cX7_thingOf 68 = .ok (.iconst 2, 1) := by decide +kernel
theorem dX7_thingOf_69 : decode cX7_thingOf 69 = .ok (.if_icmp .ne 12, 3) := by decide +kernel
theorem dX7_thingOf_72 : decode cX7_thingOf 72 = .ok (.aload_n 0, 1) := by decide +kernel
theorem dX7_thingOf_73 : decode cX7_thingOf 73 = .ok (.getfield 19, 3) := by decide +kernel
theorem dX7_thingOf_76 : decode cX7_thingOf 76 = .ok (.iload_n 1, 1) := by decide +kernel
theorem dX7_thingOf_77 : decode cX7_thingOf 77 = .ok (.iaload, 1) := by decide +kernel
theorem dX7_thingOf_78 : decode cX7_thingOf 78 = .ok (.goto 17, 3) := by decide +kernel
theorem dX7_thingOf_81 : decode cX7_thingOf 81 = .ok (.aload_n 0, 1) := by decide +kernel
theorem dX7_thingOf_82 : decode cX7_thingOf 82 = .ok (.getfield 22, 3) := by decide +kernel
theorem dX7_thingOf_85 : decode cX7_thingOf 85 = .ok (.iload_n 1, 1) := by decide +kernel
theorem dX7_thingOf_86 : decode cX7_thingOf 86 = .ok (.baload, 1) := by decide +kernel
theorem dX7_thingOf_87 : decode cX7_thingOf 87 = .ok (.ifCond .eq 7, 3) := by decide +kernel
theorem dX7_thingOf_90 : decode cX7_thingOf 90 = .ok (.iconst 1, 1) := by decide +kernel
theorem dX7_thingOf_91 : decode cX7_thingOf 91 = .ok (.goto 4, 3) := by decide +kernel
theorem dX7_thingOf_94 : decode cX7_thingOf 94 = .ok (.iconst 0, 1) := by decide +kernel
theorem dX7_thingOf_95 : decode cX7_thingOf 95 = .ok (.ireturn, 1) := by decide +kernel
theorem dX7_thingOf_96 : decode cX7_thingOf 96 = .ok (.iload_n 2, 1) := by decide +kernel
theorem dX7_thingOf_97 : decode cX7_thingOf 97 = .ok (.iconst 4, 1) := by decide +kernel
theorem dX7_thingOf_98 : decode cX7_thingOf 98 = .ok (.if_icmp .ne 25, 3) := by decide +kernel
theorem dX7_thingOf_101 : decode cX7_thingOf 101 = .ok (.aload_n 0, 1) := by decide +kernel
theorem dX7_thingOf_102 : decode cX7_thingOf 102 = .ok (.getfield 22, 3) := by decide +kernel
theorem dX7_thingOf_105 : decode cX7_thingOf 105 = .ok (.iload_n 1, 1) := by decide +kernel
theorem dX7_thingOf_106 : decode cX7_thingOf 106 = .ok (.baload, 1) := by decide +kernel
theorem dX7_thingOf_107 : decode cX7_thingOf 107 = .ok (.ifCond .eq 12, 3) := by decide +kernel
theorem dX7_thingOf_110 : decode cX7_thingOf 110 = .ok (.aload_n 0, 1) := by decide +kernel
theorem dX7_thingOf_111 : decode cX7_thingOf 111 = .ok (.getfield 29, 3) := by decide +kernel
theorem dX7_thingOf_114 : decode cX7_thingOf 114 = .ok (.iload_n 1, 1) := by decide +kernel
theorem dX7_thingOf_115 : decode cX7_thingOf 115 = .ok (.iaload, 1) := by decide +kernel
theorem dX7_thingOf_116 : decode cX7_thingOf 116 = .ok (.goto 34, 3) := by decide +kernel
theorem dX7_thingOf_119 : decode cX7_thingOf 119 = .ok (.iconst (-1), 1) := by decide +kernel
theorem dX7_thingOf_120 : decode cX7_thingOf 120 = .ok (.goto 30, 3) := by decide +kernel
theorem dX7_thingOf_123 : decode cX7_thingOf 123 = .ok (.iload_n 2, 1) := by decide +kernel
theorem dX7_thingOf_124 : decode cX7_thingOf 124 = .ok (.iconst 5, 1) := by decide +kernel
theorem dX7_thingOf_125 : decode cX7_thingOf 125 = .ok (.if_icmp .ne 11, 3) := by decide +kernel
theorem dX7_thingOf_128 : decode cX7_thingOf 128 = .ok (.aload_n 0, 1) := by decide +kernel
theorem dX7_thingOf_129 : decode cX7_thingOf 129 = .ok (.iload_n 1, 1) := by decide +kernel
theorem dX7_thingOf_130 : decode cX7_thingOf 130 = .ok (.invokevirtual 197, 3) := by decide +kernel
theorem dX7_thingOf_133 : decode cX7_thingOf 133 = .ok (.goto 17, 3) := by decide +kernel
theorem dX7_thingOf_136 : decode cX7_thingOf 136 = .ok (.aload_n 0, 1) := by decide +kernel
theorem dX7_thingOf_137 : decode cX7_thingOf 137 = .ok (.getfield 26, 3) := by decide +kernel
theorem dX7_thingOf_140 : decode cX7_thingOf 140 = .ok (.iload_n 1, 1) := by decide +kernel
theorem dX7_thingOf_141 : decode cX7_thingOf 141 = .ok (.baload, 1) := by decide +kernel
theorem dX7_thingOf_142 : decode cX7_thingOf 142 = .ok (.ifCond .eq 7, 3) := by decide +kernel
theorem dX7_thingOf_145 : decode cX7_thingOf 145 = .ok (.iconst 1, 1) := by decide +kernel
theorem dX7_thingOf_146 : decode cX7_thingOf 146 = .ok (.goto 4, 3) := by decide +kernel
theorem dX7_thingOf_149 : decode cX7_thingOf 149 = .ok (.iconst 0, 1) := by decide +kernel
theorem dX7_thingOf_150 : decode cX7_thingOf 150 = .ok (.ireturn, 1) := by decide +kernel
theorem dX7_ticketOf_0 : decode cX7_ticketOf 0 = .ok (.aload_n 0, 1) := by decide +kernel
theorem dX7_ticketOf_1 : decode cX7_ticketOf 1 = .ok (.aload_n 0, 1) := by decide +kernel
theorem dX7_ticketOf_2 : decode cX7_ticketOf 2 = .ok (.iload_n 1, 1) := by decide +kernel
theorem dX7_ticketOf_3 : decode cX7_ticketOf 3 = .ok (.invokevirtual 185, 3) := by decide +kernel
theorem dX7_ticketOf_6 : decode cX7_ticketOf 6 = .ok (.ifCond .ne 7, 3) := by decide +kernel
theorem dX7_ticketOf_9 : decode cX7_ticketOf 9 = .ok (.iconst 1, 1) := by decide +kernel
theorem dX7_ticketOf_10 : decode cX7_ticketOf 10 = .ok (.goto 18, 3) := by decide +kernel
theorem dX7_ticketOf_13 : decode cX7_ticketOf 13 = .ok (.iload_n 2, 1) := by decide +kernel
theorem dX7_ticketOf_14 : decode cX7_ticketOf 14 = .ok (.iconst 0, 1) := by decide +kernel
theorem dX7_ticketOf_15 : decode cX7_ticketOf 15 = .ok (.bipush 9, 2) := by decide +kernel
theorem dX7_ticketOf_17 : decode cX7_ticketOf 17 = .ok (.invokestatic 132, 3) := by decide +kernel
theorem dX7_ticketOf_20 : decode cX7_ticketOf 20 = .ok (.ifCond .ne 7, 3) := by decide +kernel
theorem dX7_ticketOf_23 : decode cX7_ticketOf 23 = .ok (.iconst 2, 1) := by decide +kernel
theorem dX7_ticketOf_24 : decode cX7_ticketOf 24 = .ok (.goto 4, 3) := by decide +kernel
theorem dX7_ticketOf_27 : decode cX7_ticketOf 27 = .ok (.iconst 0, 1) := by decide +kernel
theorem dX7_ticketOf_28 : decode cX7_ticketOf 28 = .ok (.invokevirtual 139, 3) := by decide +kernel
theorem dX7_ticketOf_31 : decode cX7_ticketOf 31 = .ok (.ifCond .eq 5, 3) := by decide +kernel
theorem dX7_ticketOf_34 : decode cX7_ticketOf 34 = .ok (.iconst 0, 1) := by decide +kernel
theorem dX7_ticketOf_35 : decode cX7_ticketOf 35 = .ok (.ireturn, 1) := by decide +kernel
theorem dX7_ticketOf_36 : decode cX7_ticketOf 36 = .ok (.iload_n 2, 1) := by decide +kernel
theorem dX7_ticketOf_37 : decode cX7_ticketOf 37 = .ok (.iconst 5, 1) := by decide +kernel
theorem dX7_ticketOf_38 : decode cX7_ticketOf 38 = .ok (.if_icmp .ge 64, 3) := by decide +kernel
theorem dX7_ticketOf_41 : decode cX7_ticketOf 41 = .ok (.iload_n 2, 1) := by decide +kernel
theorem dX7_ticketOf_42 : decode cX7_ticketOf 42 = .ok (.ifCond .ne 12, 3) := by decide +kernel
theorem dX7_ticketOf_45 : decode cX7_ticketOf 45 = .ok (.aload_n 0, 1) := by decide +kernel
theorem dX7_ticketOf_46 : decode cX7_ticketOf 46 = .ok (.getfield 108, 3) := by decide +kernel
theorem dX7_ticketOf_49 : decode cX7_ticketOf 49 = .ok (.iload_n 1, 1) := by decide +kernel
theorem dX7_ticketOf_50 : decode cX7_ticketOf 50 = .ok (.iaload, 1) := by decide +kernel
theorem dX7_ticketOf_51 : decode cX7_ticketOf 51 = .ok (.goto 50, 3) := by decide +kernel
theorem dX7_ticketOf_54 : decode cX7_ticketOf 54 = .ok (.iload_n 2, 1) := by decide +kernel
theorem dX7_ticketOf_55 : decode cX7_ticketOf 55 = .ok (.iconst 1, 1) := by decide +kernel
theorem dX7_ticketOf_56 : decode cX7_ticketOf 56 = .ok (.if_icmp .ne 12, 3) := by decide +kernel
theorem dX7_ticketOf_59 : decode cX7_ticketOf 59 = .ok (.aload_n 0, 1) := by decide +kernel
theorem dX7_ticketOf_60 : decode cX7_ticketOf 60 = .ok (.getfield 81, 3) := by decide +kernel
theorem dX7_ticketOf_63 : decode cX7_ticketOf 63 = .ok (.iload_n 1, 1) := by decide +kernel
theorem dX7_ticketOf_64 : decode cX7_ticketOf 64 = .ok (.iaload, 1) := by decide +kernel
theorem dX7_ticketOf_65 : decode cX7_ticketOf 65 = .ok (.goto 36, 3) := by decide +kernel
theorem dX7_ticketOf_68 : decode cX7_ticketOf 68 = .ok (.iload_n 2, 1) := by decide +kernel
theorem dX7_ticketOf_69 : decode cX7_ticketOf 69 = .ok (.iconst 2, 1) := by decide +kernel
theorem dX7_ticketOf_70 : decode cX7_ticketOf 70 = .ok (.if_icmp .ne 12, 3) := by decide +kernel
theorem dX7_ticketOf_73 : decode cX7_ticketOf 73 = .ok (.aload_n 0, 1) := by decide +kernel
theorem dX7_ticketOf_74 : decode cX7_ticketOf 74 = .ok (.getfield 96, 3) := by decide +kernel
theorem dX7_ticketOf_77 : decode cX7_ticketOf 77 = .ok (.iload_n 1, 1) := by decide +kernel
theorem dX7_ticketOf_78 : decode cX7_ticketOf 78 = .ok (.iaload, 1) := by decide +kernel
theorem dX7_ticketOf_79 : decode cX7_ticketOf 79 = .ok (.goto 22, 3) := by decide +kernel
theorem dX7_ticketOf_82 : decode cX7_ticketOf 82 = .ok (.iload_n 2, 1) := by decide +kernel
theorem dX7_ticketOf_83 : decode cX7_ticketOf 83 = .ok (.iconst 3, 1) := by decide +kernel
theorem dX7_ticketOf_84 : decode cX7_ticketOf 84 = .ok (.if_icmp .ne 11, 3) := by decide +kernel
theorem dX7_ticketOf_87 : decode cX7_ticketOf 87 = .ok (.aload_n 0, 1) := by decide +kernel
theorem dX7_ticketOf_88 : decode cX7_ticketOf 88 = .ok (.iload_n 1, 1) := by decide +kernel
theorem dX7_ticketOf_89 : decode cX7_ticketOf 89 = .ok (.invokevirtual 194, 3) := by decide +kernel
theorem dX7_ticketOf_92 : decode cX7_ticketOf 92 = .ok (.goto 9, 3) := by decide +kernel
theorem dX7_ticketOf_95 : decode cX7_ticketOf 95 = .ok (.aload_n 0, 1) := by decide +kernel
theorem dX7_ticketOf_96 : decode cX7_ticketOf 96 = .ok (.getfield 90, 3) := by decide +kernel
theorem dX7_ticketOf_99 : decode cX7_ticketOf 99 = .ok (.iload_n 1, 1) := by decide +kernel
theorem dX7_ticketOf_100 : decode cX7_ticketOf 100 = .ok (.iaload, 1) := by decide +kernel
theorem dX7_ticketOf_101 : decode cX7_ticketOf 101 = .ok (.ireturn, 1) := by decide +kernel
theorem dX7_ticketOf_102 : decode cX7_ticketOf 102 = .ok (.iload_n 2, 1) := by decide +kernel
theorem dX7_ticketOf_103 : decode cX7_ticketOf 103 = .ok (.bipush 8, 2) := by decide +kernel
theorem dX7_ticketOf_105 : decode cX7_ticketOf 105 = .ok (.if_icmp .ge 46, 3) := by decide +kernel
theorem dX7_ticketOf_108 : decode cX7_ticketOf 108 = .ok (.iload_n 2, 1) := by decide +kernel
theorem dX7_ticketOf_109 : decode cX7_ticketOf 109 = .ok (.iconst 5, 1) := by decide +kernel
theorem dX7_ticketOf_110 : decode cX7_ticketOf 110 = .ok (.if_icmp .ne 12, 3) := by decide +kernel
theorem dX7_ticketOf_113 : decode cX7_ticketOf 113 = .ok (.aload_n 0, 1) := by decide +kernel
theorem dX7_ticketOf_114 : decode cX7_ticketOf 114 = .ok (.getfield 102, 3) := by decide +kernel
theorem dX7_ticketOf_117 : decode cX7_ticketOf 117 = .ok (.iload_n 1, 1) := by decide +kernel
theorem dX7_ticketOf_118 : decode cX7_ticketOf 118 = .ok (.iaload, 1) := by decide +kernel
theorem dX7_ticketOf_119 : decode cX7_ticketOf 119 = .ok (.goto 31, 3) := by decide +kernel
theorem dX7_ticketOf_122 : decode cX7_ticketOf 122 = .ok (.iload_n 2, 1) := by decide +kernel
theorem dX7_ticketOf_123 : decode cX7_ticketOf 123 = .ok (.bipush 6, 2) := by decide +kernel
theorem dX7_ticketOf_125 : decode cX7_ticketOf 125 = .ok (.if_icmp .ne 19, 3) := by decide +kernel
theorem dX7_ticketOf_128 : decode cX7_ticketOf 128 = .ok (.aload_n 0, 1) := by decide +kernel
theorem dX7_ticketOf_129 : decode cX7_ticketOf 129 = .ok (.getfield 102, 3) := by decide +kernel
theorem dX7_ticketOf_132 : decode cX7_ticketOf 132 = .ok (.iload_n 1, 1) := by decide +kernel
theorem dX7_ticketOf_133 : decode cX7_ticketOf 133 = .ok (.iaload, 1) := by decide +kernel
theorem dX7_ticketOf_134 : decode cX7_ticketOf 134 = .ok (.aload_n 0, 1) := by decide +kernel
theorem dX7_ticketOf_135 : decode cX7_ticketOf 135 = .ok (.getfield 105, 3) := by decide +kernel
theorem dX7_ticketOf_138 : decode cX7_ticketOf 138 = .ok (.iload_n 1, 1) := by decide +kernel
theorem dX7_ticketOf_139 : decode cX7_ticketOf 139 = .ok (.iaload, 1) := by decide +kernel
theorem dX7_ticketOf_140 : decode cX7_ticketOf 140 = .ok (.iadd, 1) := by decide +kernel
theorem dX7_ticketOf_141 : decode cX7_ticketOf 141 = .ok (.goto 9, 3) := by decide +kernel
theorem dX7_ticketOf_144 : decode cX7_ticketOf 144 = .ok (.aload_n 0, 1) := by decide +kernel
theorem dX7_ticketOf_145 : decode cX7_ticketOf 145 = .ok (.getfield 120, 3) := by decide +kernel
theorem dX7_ticketOf_148 : decode cX7_ticketOf 148 = .ok (.iload_n 1, 1) := by decide +kernel
theorem dX7_ticketOf_149 : decode cX7_ticketOf 149 = .ok (.iaload, 1) := by decide +kernel
theorem dX7_ticketOf_150 : decode cX7_ticketOf 150 = .ok (.ireturn, 1) := by decide +kernel
theorem dX7_ticketOf_151 : decode cX7_ticketOf 151 = .ok (.iload_n 2, 1) := by decide +kernel
theorem dX7_ticketOf_152 : decode cX7_ticketOf 152 = .ok (.bipush 8, 2) := by decide +kernel
theorem dX7_ticketOf_154 : decode cX7_ticketOf 154 = .ok (.if_icmp .ne 11, 3) := by decide +kernel
theorem dX7_ticketOf_157 : decode cX7_ticketOf 157 = .ok (.aload_n 0, 1) := by decide +kernel
theorem dX7_ticketOf_158 : decode cX7_ticketOf 158 = .ok (.iload_n 1, 1) := by decide +kernel
theorem dX7_ticketOf_159 : decode cX7_ticketOf 159 = .ok (.invokevirtual 188, 3) := by decide +kernel
theorem dX7_ticketOf_162 : decode cX7_ticketOf 162 = .ok (.goto 9, 3) := by decide +kernel
theorem dX7_ticketOf_165 : decode cX7_ticketOf 165 = .ok (.aload_n 0, 1) := by decide +kernel
theorem dX7_ticketOf_166 : decode cX7_ticketOf 166 = .ok (.getfield 111, 3) := by decide +kernel
theorem dX7_ticketOf_169 : decode cX7_ticketOf 169 = .ok (.iload_n 1, 1) := by decide +kernel
theorem dX7_ticketOf_170 : decode cX7_ticketOf 170 = .ok (.iaload, 1) := by decide +kernel
theorem dX7_ticketOf_171 : decode cX7_ticketOf 171 = .ok (.ireturn, 1) := by decide +kernel
theorem dX7_interestAnew_0 : decode cX7_interestAnew 0 = .ok (.aload_n 0, 1) := by decide +kernel
theorem dX7_interestAnew_1 : decode cX7_interestAnew 1 = .ok (.aload_n 0, 1) := by decide +kernel
theorem dX7_interestAnew_2 : decode cX7_interestAnew 2 = .ok (.iload_n 1, 1) := by decide +kernel
theorem dX7_interestAnew_3 : decode cX7_interestAnew 3 = .ok (.invokevirtual 185, 3) := by decide +kernel
theorem dX7_interestAnew_6 : decode cX7_interestAnew 6 = .ok (.ifCond .eq 7, 3) := by decide +kernel
theorem dX7_interestAnew_9 : decode cX7_interestAnew 9 = .ok (.iconst 0, 1) := by decide +kernel
theorem dX7_interestAnew_10 : decode cX7_interestAnew 10 = .ok (.goto 4, 3) := by decide +kernel
theorem dX7_interestAnew_13 : decode cX7_interestAnew 13 = .ok (.iconst 1, 1) := by decide +kernel
theorem dX7_interestAnew_14 : decode cX7_interestAnew 14 = .ok (.invokevirtual 139, 3) := by decide +kernel
theorem dX7_interestAnew_17 : decode cX7_interestAnew 17 = .ok (.ifCond .eq 7, 3) := by decide +kernel
theorem dX7_interestAnew_20 : decode cX7_interestAnew 20 = .ok (.iconst 0, 1) := by decide +kernel
theorem dX7_interestAnew_21 : decode cX7_interestAnew 21 = .ok (.goto 8, 3) := by decide +kernel
theorem dX7_interestAnew_24 : decode cX7_interestAnew 24 = .ok (.aload_n 0, 1) := by decide +kernel
theorem dX7_interestAnew_25 : decode cX7_interestAnew 25 = .ok (.iload_n 1, 1) := by decide +kernel
theorem dX7_interestAnew_26 : decode cX7_interestAnew 26 = .ok (.invokevirtual 194, 3) := by decide +kernel
theorem dX7_interestAnew_29 : decode cX7_interestAnew 29 = .ok (.ireturn, 1) := by decide +kernel
theorem dX7_expertOf_0 : decode cX7_expertOf 0 = .ok (.aload_n 0, 1) := by decide +kernel
theorem dX7_expertOf_1 : decode cX7_expertOf 1 = .ok (.iload_n 1, 1) := by decide +kernel
theorem dX7_expertOf_2 : decode cX7_expertOf 2 = .ok (.iconst 0, 1) := by decide +kernel
theorem dX7_expertOf_3 : decode cX7_expertOf 3 = .ok (.iconst 3, 1) := by decide +kernel
theorem dX7_expertOf_4 : decode cX7_expertOf 4 = .ok (.invokestatic 132, 3) := by decide +kernel
theorem dX7_expertOf_7 : decode cX7_expertOf 7 = .ok (.ifCond .ne 7, 3) := by decide +kernel
theorem dX7_expertOf_10 : decode cX7_expertOf 10 = .ok (.iconst 1, 1) := by decide +kernel
theorem dX7_expertOf_11 : decode cX7_expertOf 11 = .ok (.goto 17, 3) := by decide +kernel
theorem dX7_expertOf_14 : decode cX7_expertOf 14 = .ok (.iload_n 2, 1) := by decide +kernel
theorem dX7_expertOf_15 : decode cX7_expertOf 15 = .ok (.iconst 0, 1) := by decide +kernel
theorem dX7_expertOf_16 : decode cX7_expertOf 16 = .ok (.iconst 2, 1) := by decide +kernel
theorem dX7_expertOf_17 : decode cX7_expertOf 17 = .ok (.invokestatic 132, 3) := by decide +kernel
theorem dX7_expertOf_20 : decode cX7_expertOf 20 = .ok (.ifCond .ne 7, 3) := by decide +kernel
theorem dX7_expertOf_23 : decode cX7_expertOf 23 = .ok (.iconst 2, 1) := by decide +kernel
theorem dX7_expertOf_24 : decode cX7_expertOf 24 = .ok (.goto 4, 3) := by decide +kernel
theorem dX7_expertOf_27 : decode cX7_expertOf 27 = .ok (.iconst 0, 1) := by decide +kernel
theorem dX7_expertOf_28 : decode cX7_expertOf 28 = .ok (.invokevirtual 139, 3) := by decide +kernel
theorem dX7_expertOf_31 : decode cX7_expertOf 31 = .ok (.ifCond .eq 5, 3) := by decide +kernel
theorem dX7_expertOf_34 : decode cX7_expertOf 34 = .ok (.iconst 0, 1) := by decide +kernel
theorem dX7_expertOf_35 : decode cX7_expertOf 35 = .ok (.ireturn, 1) := by decide +kernel
theorem dX7_expertOf_36 : decode cX7_expertOf 36 = .ok (.iload_n 2, 1) := by decide +kernel
theorem dX7_expertOf_37 : decode cX7_expertOf 37 = .ok (.ifCond .ne 12, 3) := by decide +kernel
theorem dX7_expertOf_40 : decode cX7_expertOf 40 = .ok (.aload_n 0, 1) := by decide +kernel
theorem dX7_expertOf_41 : decode cX7_expertOf 41 = .ok (.getfield 44, 3) := by decide +kernel
theorem dX7_expertOf_44 : decode cX7_expertOf 44 = .ok (.iload_n 1, 1) := by decide +kernel
theorem dX7_expertOf_45 : decode cX7_expertOf 45 = .ok (.iaload, 1) := by decide +kernel
theorem dX7_expertOf_46 : decode cX7_expertOf 46 = .ok (.goto 23, 3) := by decide +kernel
theorem dX7_expertOf_49 : decode cX7_expertOf 49 = .ok (.iload_n 2, 1) := by decide +kernel
theorem dX7_expertOf_50 : decode cX7_expertOf 50 = .ok (.iconst 1, 1) := by decide +kernel
theorem dX7_expertOf_51 : decode cX7_expertOf 51 = .ok (.if_icmp .ne 12, 3) := by decide +kernel
theorem dX7_expertOf_54 : decode cX7_expertOf 54 = .ok (.aload_n 0, 1) := by decide +kernel
theorem dX7_expertOf_55 : decode cX7_expertOf 55 = .ok (.getfield 47, 3) := by decide +kernel
theorem dX7_expertOf_58 : decode cX7_expertOf 58 = .ok (.iload_n 1, 1) := by decide +kernel
theorem dX7_expertOf_59 : decode cX7_expertOf 59 = .ok (.iaload, 1) := by decide +kernel
theorem dX7_expertOf_60 : decode cX7_expertOf 60 = .ok (.goto 9, 3) := by decide +kernel
theorem dX7_expertOf_63 : decode cX7_expertOf 63 = .ok (.aload_n 0, 1) := by decide +kernel
theorem dX7_expertOf_64 : decode cX7_expertOf 64 = .ok (.getfield 50, 3) := by decide +kernel
theorem dX7_expertOf_67 : decode cX7_expertOf 67 = .ok (.iload_n 1, 1) := by decide +kernel
theorem dX7_expertOf_68 : decode cX7_expertOf 68 = .ok (.iaload, 1) := by decide +kernel
theorem dX7_expertOf_69 : decode cX7_expertOf 69 = .ok (.ireturn, 1) := by decide +kernel
theorem dX7_bears_0 : decode cX7_bears 0 = .ok (.aload_n 0, 1) := by decide +kernel
theorem dX7_bears_1 : decode cX7_bears 1 = .ok (.iload_n 1, 1) := by decide +kernel
theorem dX7_bears_2 : decode cX7_bears 2 = .ok (.iconst 0, 1) := by decide +kernel
theorem dX7_bears_3 : decode cX7_bears 3 = .ok (.iconst 2, 1) := by decide +kernel
theorem dX7_bears_4 : decode cX7_bears 4 = .ok (.invokestatic 132, 3) := by decide +kernel
theorem dX7_bears_7 : decode cX7_bears 7 = .ok (.ifCond .eq 16, 3) := by decide +kernel
theorem dX7_bears_10 : decode cX7_bears 10 = .ok (.iload_n 2, 1) := by decide +kernel
theorem dX7_bears_11 : decode cX7_bears 11 = .ok (.iconst 0, 1) := by decide +kernel
theorem dX7_bears_12 : decode cX7_bears 12 = .ok (.iconst 3, 1) := by decide +kernel
theorem dX7_bears_13 : decode cX7_bears 13 = .ok (.invokestatic 132, 3) := by decide +kernel
theorem dX7_bears_16 : decode cX7_bears 16 = .ok (.ifCond .eq 7, 3) := by decide +kernel
theorem dX7_bears_19 : decode cX7_bears 19 = .ok (.iconst 0, 1) := by decide +kernel
theorem dX7_bears_20 : decode cX7_bears 20 = .ok (.goto 4, 3) := by decide +kernel
theorem dX7_bears_23 : decode cX7_bears 23 = .ok (.iconst 1, 1) := by decide +kernel
theorem dX7_bears_24 : decode cX7_bears 24 = .ok (.invokevirtual 139, 3) := by decide +kernel
theorem dX7_bears_27 : decode cX7_bears 27 = .ok (.ifCond .eq 7, 3) := by decide +kernel
theorem dX7_bears_30 : decode cX7_bears 30 = .ok (.iconst 0, 1) := by decide +kernel
theorem dX7_bears_31 : decode cX7_bears 31 = .ok (.goto 13, 3) := by decide +kernel
theorem dX7_bears_34 : decode cX7_bears 34 = .ok (.aload_n 0, 1) := by decide +kernel
theorem dX7_bears_35 : decode cX7_bears 35 = .ok (.iconst 4, 1) := by decide +kernel
theorem dX7_bears_36 : decode cX7_bears 36 = .ok (.iload_n 1, 1) := by decide +kernel
theorem dX7_bears_37 : decode cX7_bears 37 = .ok (.imul, 1) := by decide +kernel
theorem dX7_bears_38 : decode cX7_bears 38 = .ok (.iload_n 2, 1) := by decide +kernel
theorem dX7_bears_39 : decode cX7_bears 39 = .ok (.iadd, 1) := by decide +kernel
theorem dX7_bears_40 : decode cX7_bears 40 = .ok (.iconst (-1), 1) := by decide +kernel
theorem dX7_bears_41 : decode cX7_bears 41 = .ok (.invokevirtual 163, 3) := by decide +kernel
theorem dX7_bears_44 : decode cX7_bears 44 = .ok (.ireturn, 1) := by decide +kernel
theorem dX7_money_0 : decode cX7_money 0 = .ok (.aload_n 0, 1) := by decide +kernel
theorem dX7_money_1 : decode cX7_money 1 = .ok (.iload_n 1, 1) := by decide +kernel
theorem dX7_money_2 : decode cX7_money 2 = .ok (.iconst 0, 1) := by decide +kernel
theorem dX7_money_3 : decode cX7_money 3 = .ok (.iconst 3, 1) := by decide +kernel
theorem dX7_money_4 : decode cX7_money 4 = .ok (.invokestatic 132, 3) := by decide +kernel
theorem dX7_money_7 : decode cX7_money 7 = .ok (.ifCond .eq 7, 3) := by decide +kernel
theorem dX7_money_10 : decode cX7_money 10 = .ok (.iconst 0, 1) := by decide +kernel
theorem dX7_money_11 : decode cX7_money 11 = .ok (.goto 4, 3) := by decide +kernel
theorem dX7_money_14 : decode cX7_money 14 = .ok (.iconst 1, 1) := by decide +kernel
theorem dX7_money_15 : decode cX7_money 15 = .ok (.invokevirtual 139, 3) := by decide +kernel
theorem dX7_money_18 : decode cX7_money 18 = .ok (.ifCond .eq 5, 3) := by decide +kernel
theorem dX7_money_21 : decode cX7_money 21 = .ok (.iconst 0, 1) := by decide +kernel
theorem dX7_money_22 : decode cX7_money 22 = .ok (.ireturn, 1) := by decide +kernel
theorem dX7_money_23 : decode cX7_money 23 = .ok (.iload_n 1, 1) := by decide +kernel
theorem dX7_money_24 : decode cX7_money 24 = .ok (.ifCond .ne 10, 3) := by decide +kernel
theorem dX7_money_27 : decode cX7_money 27 = .ok (.aload_n 0, 1) := by decide +kernel
theorem dX7_money_28 : decode cX7_money 28 = .ok (.getfield 173, 3) := by decide +kernel
theorem dX7_money_31 : decode cX7_money 31 = .ok (.goto 36, 3) := by decide +kernel
theorem dX7_money_34 : decode cX7_money 34 = .ok (.iload_n 1, 1) := by decide +kernel
theorem dX7_money_35 : decode cX7_money 35 = .ok (.iconst 1, 1) := by decide +kernel
theorem dX7_money_36 : decode cX7_money 36 = .ok (.if_icmp .ne 10, 3) := by decide +kernel
theorem dX7_money_39 : decode cX7_money 39 = .ok (.aload_n 0, 1) := by decide +kernel
theorem dX7_money_40 : decode cX7_money 40 = .ok (.getfield 176, 3) := by decide +kernel
theorem dX7_money_43 : decode cX7_money 43 = .ok (.goto 24, 3) := by decide +kernel
theorem dX7_money_46 : decode cX7_money 46 = .ok (.iload_n 1, 1) := by decide +kernel
theorem dX7_money_47 : decode cX7_money 47 = .ok (.iconst 2, 1) := by decide +kernel
theorem dX7_money_48 : decode cX7_money 48 = .ok (.if_icmp .ne 15, 3) := by decide +kernel
theorem dX7_money_51 : decode cX7_money 51 = .ok (.aload_n 0, 1) := by decide +kernel
theorem dX7_money_52 : decode cX7_money 52 = .ok (.getfield 173, 3) := by decide +kernel
theorem dX7_money_55 : decode cX7_money 55 = .ok (.aload_n 0, 1) := by decide +kernel
theorem dX7_money_56 : decode cX7_money 56 = .ok (.getfield 176, 3) := by decide +kernel
theorem dX7_money_59 : decode cX7_money 59 = .ok (.isub, 1) := by decide +kernel
theorem dX7_money_60 : decode cX7_money 60 = .ok (.goto 7, 3) := by decide +kernel
theorem dX7_money_63 : decode cX7_money 63 = .ok (.aload_n 0, 1) := by decide +kernel
theorem dX7_money_64 : decode cX7_money 64 = .ok (.getfield 207, 3) := by decide +kernel
theorem dX7_money_67 : decode cX7_money 67 = .ok (.ireturn, 1) := by decide +kernel
theorem dX7_moneyAnew_0 : decode cX7_moneyAnew 0 = .ok (.aload_n 0, 1) := by decide +kernel
theorem dX7_moneyAnew_1 : decode cX7_moneyAnew 1 = .ok (.iconst 0, 1) := by decide +kernel
theorem dX7_moneyAnew_2 : decode cX7_moneyAnew 2 = .ok (.putfield 126, 3) := by decide +kernel
theorem dX7_moneyAnew_5 : decode cX7_moneyAnew 5 = .ok (.aload_n 0, 1) := by decide +kernel
theorem dX7_moneyAnew_6 : decode cX7_moneyAnew 6 = .ok (.getfield 173, 3) := by decide +kernel
theorem dX7_moneyAnew_9 : decode cX7_moneyAnew 9 = .ok (.ireturn, 1) := by decide +kernel
