theorem d_La_law_0 : decode code 0 = .ok (.new 8, 3) := by decide +kernel
theorem d_La_law_3 : decode code 3 = .ok (.dup, 1) := by decide +kernel
theorem d_La_law_4 : decode code 4 = .ok (.invokespecial 38, 3) := by decide +kernel
theorem d_La_law_7 : decode code 7 = .ok (.astore_n 1, 1) := by decide +kernel
theorem d_La_law_8 : decode code 8 = .ok (.new 39, 3) := by decide +kernel
theorem d_La_law_11 : decode code 11 = .ok (.dup, 1) := by decide +kernel
theorem d_La_law_12 : decode code 12 = .ok (.invokespecial 41, 3) := by decide +kernel
theorem d_La_law_15 : decode code 15 = .ok (.astore_n 2, 1) := by decide +kernel
theorem d_La_law_16 : decode code 16 = .ok (.iconst 1, 1) := by decide +kernel
theorem d_La_law_17 : decode code 17 = .ok (.newarray .long, 2) := by decide +kernel
theorem d_La_law_19 : decode code 19 = .ok (.astore_n 3, 1) := by decide +kernel
theorem d_La_law_20 : decode code 20 = .ok (.iconst 0, 1) := by decide +kernel
theorem d_La_law_21 : decode code 21 = .ok (.istore 4, 2) := by decide +kernel
theorem d_La_law_23 : decode code 23 = .ok (.iload 4, 2) := by decide +kernel
theorem d_La_law_25 : decode code 25 = .ok (.aload_n 0, 1) := by decide +kernel
theorem d_La_law_26 : decode code 26 = .ok (.arraylength, 1) := by decide +kernel
theorem d_La_law_27 : decode code 27 = .ok (.iconst 5, 1) := by decide +kernel
theorem d_La_law_28 : decode code 28 = .ok (.isub, 1) := by decide +kernel
theorem d_La_law_29 : decode code 29 = .ok (.if_icmp .gt 549, 3) := by decide +kernel
theorem d_La_law_32 : decode code 32 = .ok (.aload_n 0, 1) := by decide +kernel
theorem d_La_law_33 : decode code 33 = .ok (.iload 4, 2) := by decide +kernel
theorem d_La_law_35 : decode code 35 = .ok (.iaload, 1) := by decide +kernel
theorem d_La_law_36 : decode code 36 = .ok (.bipush 15, 2) := by decide +kernel
theorem d_La_law_38 : decode code 38 = .ok (.iand, 1) := by decide +kernel
theorem d_La_law_39 : decode code 39 = .ok (.tableswitch 533 0 11 #[61, 161, 209, 222, 278, 289, 302, 346, 359, 415, 507, 520], 61) := by decide +kernel
theorem d_La_law_100 : decode code 100 = .ok (.aload_n 1, 1) := by decide +kernel
theorem d_La_law_101 : decode code 101 = .ok (.aload_n 0, 1) := by decide +kernel
theorem d_La_law_102 : decode code 102 = .ok (.iload 4, 2) := by decide +kernel
theorem d_La_law_104 : decode code 104 = .ok (.iconst 1, 1) := by decide +kernel
theorem d_La_law_105 : decode code 105 = .ok (.iadd, 1) := by decide +kernel
theorem d_La_law_106 : decode code 106 = .ok (.iaload, 1) := by decide +kernel
theorem d_La_law_107 : decode code 107 = .ok (.i2l, 1) := by decide +kernel
theorem d_La_law_108 : decode code 108 = .ok (.bipush 32, 2) := by decide +kernel
theorem d_La_law_110 : decode code 110 = .ok (.lshl, 1) := by decide +kernel
theorem d_La_law_111 : decode code 111 = .ok (.aload_n 0, 1) := by decide +kernel
theorem d_La_law_112 : decode code 112 = .ok (.iload 4, 2) := by decide +kernel
theorem d_La_law_114 : decode code 114 = .ok (.iconst 2, 1) := by decide +kernel
theorem d_La_law_115 : decode code 115 = .ok (.iadd, 1) := by decide +kernel
theorem d_La_law_116 : decode code 116 = .ok (.iaload, 1) := by decide +kernel
theorem d_La_law_117 : decode code 117 = .ok (.i2l, 1) := by decide +kernel
theorem d_La_law_118 : decode code 118 = .ok (.ldc2_w 42, 3) := by decide +kernel
theorem d_La_law_121 : decode code 121 = .ok (.land, 1) := by decide +kernel
theorem d_La_law_122 : decode code 122 = .ok (.lor, 1) := by decide +kernel
theorem d_La_law_123 : decode code 123 = .ok (.aload_n 0, 1) := by decide +kernel
theorem d_La_law_124 : decode code 124 = .ok (.iload 4, 2) := by decide +kernel
theorem d_La_law_126 : decode code 126 = .ok (.iconst 3, 1) := by decide +kernel
theorem d_La_law_127 : decode code 127 = .ok (.iadd, 1) := by decide +kernel
theorem d_La_law_128 : decode code 128 = .ok (.iaload, 1) := by decide +kernel
theorem d_La_law_129 : decode code 129 = .ok (.aload_n 3, 1) := by decide +kernel
theorem d_La_law_130 : decode code 130 = .ok (.invokestatic 44, 3) := by decide +kernel
theorem d_La_law_133 : decode code 133 = .ok (.istore 5, 2) := by decide +kernel
theorem d_La_law_135 : decode code 135 = .ok (.aload_n 2, 1) := by decide +kernel
theorem d_La_law_136 : decode code 136 = .ok (.aload_n 0, 1) := by decide +kernel
theorem d_La_law_137 : decode code 137 = .ok (.iload 4, 2) := by decide +kernel
theorem d_La_law_139 : decode code 139 = .ok (.iconst 1, 1) := by decide +kernel
theorem d_La_law_140 : decode code 140 = .ok (.iadd, 1) := by decide +kernel
theorem d_La_law_141 : decode code 141 = .ok (.iaload, 1) := by decide +kernel
theorem d_La_law_142 : decode code 142 = .ok (.i2l, 1) := by decide +kernel
theorem d_La_law_143 : decode code 143 = .ok (.bipush 32, 2) := by decide +kernel
theorem d_La_law_145 : decode code 145 = .ok (.lshl, 1) := by decide +kernel
theorem d_La_law_146 : decode code 146 = .ok (.aload_n 0, 1) := by decide +kernel
theorem d_La_law_147 : decode code 147 = .ok (.iload 4, 2) := by decide +kernel
theorem d_La_law_149 : decode code 149 = .ok (.iconst 2, 1) := by decide +kernel
theorem d_La_law_150 : decode code 150 = .ok (.iadd, 1) := by decide +kernel
theorem d_La_law_151 : decode code 151 = .ok (.iaload, 1) := by decide +kernel
theorem d_La_law_152 : decode code 152 = .ok (.i2l, 1) := by decide +kernel
theorem d_La_law_153 : decode code 153 = .ok (.ldc2_w 42, 3) := by decide +kernel
theorem d_La_law_156 : decode code 156 = .ok (.land, 1) := by decide +kernel
theorem d_La_law_157 : decode code 157 = .ok (.lor, 1) := by decide +kernel
theorem d_La_law_158 : decode code 158 = .ok (.aload_n 0, 1) := by decide +kernel
theorem d_La_law_159 : decode code 159 = .ok (.iload 4, 2) := by decide +kernel
theorem d_La_law_161 : decode code 161 = .ok (.iconst 3, 1) := by decide +kernel
theorem d_La_law_162 : decode code 162 = .ok (.iadd, 1) := by decide +kernel
theorem d_La_law_163 : decode code 163 = .ok (.iaload, 1) := by decide +kernel
theorem d_La_law_164 : decode code 164 = .ok (.invokevirtual 49, 3) := by decide +kernel
theorem d_La_law_167 : decode code 167 = .ok (.istore 6, 2) := by decide +kernel
theorem d_La_law_169 : decode code 169 = .ok (.aload_n 2, 1) := by decide +kernel
theorem d_La_law_170 : decode code 170 = .ok (.invokevirtual 50, 3) := by decide +kernel
theorem d_La_law_173 : decode code 173 = .ok (.iload 5, 2) := by decide +kernel
theorem d_La_law_175 : decode code 175 = .ok (.if_icmp .eq 5, 3) := by decide +kernel
theorem d_La_law_178 : decode code 178 = .ok (.iconst 0, 1) := by decide +kernel
theorem d_La_law_179 : decode code 179 = .ok (.ireturn, 1) := by decide +kernel
theorem d_La_law_180 : decode code 180 = .ok (.iload 5, 2) := by decide +kernel
theorem d_La_law_182 : decode code 182 = .ok (.ifCond .ne 15, 3) := by decide +kernel
theorem d_La_law_185 : decode code 185 = .ok (.aload_n 3, 1) := by decide +kernel
theorem d_La_law_186 : decode code 186 = .ok (.iconst 0, 1) := by decide +kernel
theorem d_La_law_187 : decode code 187 = .ok (.laload, 1) := by decide +kernel
theorem d_La_law_188 : decode code 188 = .ok (.iload 6, 2) := by decide +kernel
theorem d_La_law_190 : decode code 190 = .ok (.i2l, 1) := by decide +kernel
theorem d_La_law_191 : decode code 191 = .ok (.lcmp, 1) := by decide +kernel
theorem d_La_law_192 : decode code 192 = .ok (.ifCond .eq 5, 3) := by decide +kernel
theorem d_La_law_195 : decode code 195 = .ok (.iconst 0, 1) := by decide +kernel
theorem d_La_law_196 : decode code 196 = .ok (.ireturn, 1) := by decide +kernel
theorem d_La_law_197 : decode code 197 = .ok (.goto 375, 3) := by decide +kernel
theorem d_La_law_200 : decode code 200 = .ok (.aload_n 1, 1) := by decide +kernel
theorem d_La_law_201 : decode code 201 = .ok (.aload_n 0, 1) := by decide +kernel
theorem d_La_law_202 : decode code 202 = .ok (.iload 4, 2) := by decide +kernel
theorem d_La_law_204 : decode code 204 = .ok (.iconst 1, 1) := by decide +kernel
theorem d_La_law_205 : decode code 205 = .ok (.iadd, 1) := by decide +kernel
theorem d_La_law_206 : decode code 206 = .ok (.iaload, 1) := by decide +kernel
theorem d_La_law_207 : decode code 207 = .ok (.aload_n 0, 1) := by decide +kernel
theorem d_La_law_208 : decode code 208 = .ok (.iload 4, 2) := by decide +kernel
theorem d_La_law_210 : decode code 210 = .ok (.iconst 2, 1) := by decide +kernel
theorem d_La_law_211 : decode code 211 = .ok (.iadd, 1) := by decide +kernel
theorem d_La_law_212 : decode code 212 = .ok (.iaload, 1) := by decide +kernel
theorem d_La_law_213 : decode code 213 = .ok (.invokestatic 53, 3) := by decide +kernel
theorem d_La_law_216 : decode code 216 = .ok (.istore 5, 2) := by decide +kernel
theorem d_La_law_218 : decode code 218 = .ok (.aload_n 2, 1) := by decide +kernel
theorem d_La_law_219 : decode code 219 = .ok (.aload_n 0, 1) := by decide +kernel
theorem d_La_law_220 : decode code 220 = .ok (.iload 4, 2) := by decide +kernel
theorem d_La_law_222 : decode code 222 = .ok (.iconst 1, 1) := by decide +kernel
theorem d_La_law_223 : decode code 223 = .ok (.iadd, 1) := by decide +kernel
theorem d_La_law_224 : decode code 224 = .ok (.iaload, 1) := by decide +kernel
theorem d_La_law_225 : decode code 225 = .ok (.aload_n 0, 1) := by decide +kernel
theorem d_La_law_226 : decode code 226 = .ok (.iload 4, 2) := by decide +kernel
theorem d_La_law_228 : decode code 228 = .ok (.iconst 2, 1) := by decide +kernel
theorem d_La_law_229 : decode code 229 = .ok (.iadd, 1) := by decide +kernel
theorem d_La_law_230 : decode code 230 = .ok (.iaload, 1) := by decide +kernel
theorem d_La_law_231 : decode code 231 = .ok (.invokevirtual 56, 3) := by decide +kernel
theorem d_La_law_234 : decode code 234 = .ok (.aload_n 2, 1) := by decide +kernel
theorem d_La_law_235 : decode code 235 = .ok (.invokevirtual 50, 3) := by decide +kernel
theorem d_La_law_238 : decode code 238 = .ok (.iload 5, 2) := by decide +kernel
theorem d_La_law_240 : decode code 240 = .ok (.if_icmp .eq 5, 3) := by decide +kernel
theorem d_La_law_243 : decode code 243 = .ok (.iconst 0, 1) := by decide +kernel
theorem d_La_law_244 : decode code 244 = .ok (.ireturn, 1) := by decide +kernel
theorem d_La_law_245 : decode code 245 = .ok (.goto 327, 3) := by decide +kernel
theorem d_La_law_248 : decode code 248 = .ok (.aload_n 1, 1) := by decide +kernel
theorem d_La_law_249 : decode code 249 = .ok (.invokevirtual 57, 3) := by decide +kernel
theorem d_La_law_252 : decode code 252 = .ok (.aload_n 2, 1) := by decide +kernel
theorem d_La_law_253 : decode code 253 = .ok (.invokevirtual 60, 3) := by decide +kernel
theorem d_La_law_256 : decode code 256 = .ok (.if_icmp .eq 316, 3) := by decide +kernel
theorem d_La_law_259 : decode code 259 = .ok (.iconst 0, 1) := by decide +kernel
theorem d_La_law_260 : decode code 260 = .ok (.ireturn, 1) := by decide +kernel
theorem d_La_law_261 : decode code 261 = .ok (.aload_n 1, 1) := by decide +kernel
theorem d_La_law_262 : decode code 262 = .ok (.aload_n 0, 1) := by decide +kernel
theorem d_La_law_263 : decode code 263 = .ok (.iload 4, 2) := by decide +kernel
theorem d_La_law_265 : decode code 265 = .ok (.iconst 1, 1) := by decide +kernel
theorem d_La_law_266 : decode code 266 = .ok (.iadd, 1) := by decide +kernel
theorem d_La_law_267 : decode code 267 = .ok (.iaload, 1) := by decide +kernel
theorem d_La_law_268 : decode code 268 = .ok (.aload_n 3, 1) := by decide +kernel
theorem d_La_law_269 : decode code 269 = .ok (.invokestatic 61, 3) := by decide +kernel
theorem d_La_law_272 : decode code 272 = .ok (.istore 5, 2) := by decide +kernel
theorem d_La_law_274 : decode code 274 = .ok (.aload_n 2, 1) := by decide +kernel
theorem d_La_law_275 : decode code 275 = .ok (.aload_n 0, 1) := by decide +kernel
theorem d_La_law_276 : decode code 276 = .ok (.iload 4, 2) := by decide +kernel
theorem d_La_law_278 : decode code 278 = .ok (.iconst 1, 1) := by decide +kernel
theorem d_La_law_279 : decode code 279 = .ok (.iadd, 1) := by decide +kernel
theorem d_La_law_280 : decode code 280 = .ok (.iaload, 1) := by decide +kernel
theorem d_La_law_281 : decode code 281 = .ok (.invokevirtual 64, 3) := by decide +kernel
theorem d_La_law_284 : decode code 284 = .ok (.istore 6, 2) := by decide +kernel
theorem d_La_law_286 : decode code 286 = .ok (.aload_n 2, 1) := by decide +kernel
theorem d_La_law_287 : decode code 287 = .ok (.invokevirtual 50, 3) := by decide +kernel
theorem d_La_law_290 : decode code 290 = .ok (.iload 5, 2) := by decide +kernel
theorem d_La_law_292 : decode code 292 = .ok (.if_icmp .eq 5, 3) := by decide +kernel
theorem d_La_law_295 : decode code 295 = .ok (.iconst 0, 1) := by decide +kernel
theorem d_La_law_296 : decode code 296 = .ok (.ireturn, 1) := by decide +kernel
theorem d_La_law_297 : decode code 297 = .ok (.iload 5, 2) := by decide +kernel
theorem d_La_law_299 : decode code 299 = .ok (.ifCond .ne 15, 3) := by decide +kernel
theorem d_La_law_302 : decode code 302 = .ok (.aload_n 3, 1) := by decide +kernel
theorem d_La_law_303 : decode code 303 = .ok (.iconst 0, 1) := by decide +kernel
theorem d_La_law_304 : decode code 304 = .ok (.laload, 1) := by decide +kernel
theorem d_La_law_305 : decode code 305 = .ok (.iload 6, 2) := by decide +kernel
theorem d_La_law_307 : decode code 307 = .ok (.i2l, 1) := by decide +kernel
theorem d_La_law_308 : decode code 308 = .ok (.lcmp, 1) := by decide +kernel
theorem d_La_law_309 : decode code 309 = .ok (.ifCond .eq 5, 3) := by decide +kernel
theorem d_La_law_312 : decode code 312 = .ok (.iconst 0, 1) := by decide +kernel
theorem d_La_law_313 : decode code 313 = .ok (.ireturn, 1) := by decide +kernel
theorem d_La_law_314 : decode code 314 = .ok (.goto 258, 3) := by decide +kernel
theorem d_La_law_317 : decode code 317 = .ok (.aload_n 1, 1) := by decide +kernel
theorem d_La_law_318 : decode code 318 = .ok (.invokevirtual 65, 3) := by decide +kernel
theorem d_La_law_321 : decode code 321 = .ok (.aload_n 2, 1) := by decide +kernel
theorem d_La_law_322 : decode code 322 = .ok (.invokevirtual 68, 3) := by decide +kernel
theorem d_La_law_325 : decode code 325 = .ok (.goto 247, 3) := by decide +kernel
theorem d_La_law_328 : decode code 328 = .ok (.aload_n 1, 1) := by decide +kernel
theorem d_La_law_329 : decode code 329 = .ok (.invokevirtual 69, 3) := by decide +kernel
theorem d_La_law_332 : decode code 332 = .ok (.aload_n 2, 1) := by decide +kernel
theorem d_La_law_333 : decode code 333 = .ok (.invokevirtual 72, 3) := by decide +kernel
theorem d_La_law_336 : decode code 336 = .ok (.if_icmp .eq 236, 3) := by decide +kernel
theorem d_La_law_339 : decode code 339 = .ok (.iconst 0, 1) := by decide +kernel
theorem d_La_law_340 : decode code 340 = .ok (.ireturn, 1) := by decide +kernel
theorem d_La_law_341 : decode code 341 = .ok (.aload_n 1, 1) := by decide +kernel
theorem d_La_law_342 : decode code 342 = .ok (.aload_n 3, 1) := by decide +kernel
theorem d_La_law_343 : decode code 343 = .ok (.invokestatic 73, 3) := by decide +kernel
theorem d_La_law_346 : decode code 346 = .ok (.istore 5, 2) := by decide +kernel
theorem d_La_law_348 : decode code 348 = .ok (.aload_n 2, 1) := by decide +kernel
theorem d_La_law_349 : decode code 349 = .ok (.invokevirtual 76, 3) := by decide +kernel
theorem d_La_law_352 : decode code 352 = .ok (.istore 6, 2) := by decide +kernel
theorem d_La_law_354 : decode code 354 = .ok (.aload_n 2, 1) := by decide +kernel
theorem d_La_law_355 : decode code 355 = .ok (.invokevirtual 50, 3) := by decide +kernel
theorem d_La_law_358 : decode code 358 = .ok (.iload 5, 2) := by decide +kernel
theorem d_La_law_360 : decode code 360 = .ok (.if_icmp .eq 5, 3) := by decide +kernel
theorem d_La_law_363 : decode code 363 = .ok (.iconst 0, 1) := by decide +kernel
theorem d_La_law_364 : decode code 364 = .ok (.ireturn, 1) := by decide +kernel
theorem d_La_law_365 : decode code 365 = .ok (.iload 5, 2) := by decide +kernel
theorem d_La_law_367 : decode code 367 = .ok (.ifCond .ne 15, 3) := by decide +kernel
theorem d_La_law_370 : decode code 370 = .ok (.aload_n 3, 1) := by decide +kernel
theorem d_La_law_371 : decode code 371 = .ok (.iconst 0, 1) := by decide +kernel
theorem d_La_law_372 : decode code 372 = .ok (.laload, 1) := by decide +kernel
theorem d_La_law_373 : decode code 373 = .ok (.iload 6, 2) := by decide +kernel
theorem d_La_law_375 : decode code 375 = .ok (.i2l, 1) := by decide +kernel
theorem d_La_law_376 : decode code 376 = .ok (.lcmp, 1) := by decide +kernel
theorem d_La_law_377 : decode code 377 = .ok (.ifCond .eq 5, 3) := by decide +kernel
theorem d_La_law_380 : decode code 380 = .ok (.iconst 0, 1) := by decide +kernel
theorem d_La_law_381 : decode code 381 = .ok (.ireturn, 1) := by decide +kernel
theorem d_La_law_382 : decode code 382 = .ok (.goto 190, 3) := by decide +kernel
theorem d_La_law_385 : decode code 385 = .ok (.aload_n 1, 1) := by decide +kernel
theorem d_La_law_386 : decode code 386 = .ok (.invokevirtual 77, 3) := by decide +kernel
theorem d_La_law_389 : decode code 389 = .ok (.aload_n 2, 1) := by decide +kernel
theorem d_La_law_390 : decode code 390 = .ok (.invokevirtual 80, 3) := by decide +kernel
theorem d_La_law_393 : decode code 393 = .ok (.if_icmp .eq 179, 3) := by decide +kernel
theorem d_La_law_396 : decode code 396 = .ok (.iconst 0, 1) := by decide +kernel
theorem d_La_law_397 : decode code 397 = .ok (.ireturn, 1) := by decide +kernel
theorem d_La_law_398 : decode code 398 = .ok (.aload_n 1, 1) := by decide +kernel
theorem d_La_law_399 : decode code 399 = .ok (.aload_n 0, 1) := by decide +kernel
theorem d_La_law_400 : decode code 400 = .ok (.iload 4, 2) := by decide +kernel
theorem d_La_law_402 : decode code 402 = .ok (.iconst 1, 1) := by decide +kernel
theorem d_La_law_403 : decode code 403 = .ok (.iadd, 1) := by decide +kernel
theorem d_La_law_404 : decode code 404 = .ok (.iaload, 1) := by decide +kernel
theorem d_La_law_405 : decode code 405 = .ok (.aload_n 3, 1) := by decide +kernel
theorem d_La_law_406 : decode code 406 = .ok (.invokestatic 81, 3) := by decide +kernel
theorem d_La_law_409 : decode code 409 = .ok (.istore 5, 2) := by decide +kernel
theorem d_La_law_411 : decode code 411 = .ok (.aload_n 2, 1) := by decide +kernel
theorem d_La_law_412 : decode code 412 = .ok (.aload_n 0, 1) := by decide +kernel
theorem d_La_law_413 : decode code 413 = .ok (.iload 4, 2) := by decide +kernel
theorem d_La_law_415 : decode code 415 = .ok (.iconst 1, 1) := by decide +kernel
theorem d_La_law_416 : decode code 416 = .ok (.iadd, 1) := by decide +kernel
theorem d_La_law_417 : decode code 417 = .ok (.iaload, 1) := by decide +kernel
theorem d_La_law_418 : decode code 418 = .ok (.invokevirtual 83, 3) := by decide +kernel
theorem d_La_law_421 : decode code 421 = .ok (.istore 6, 2) := by decide +kernel
theorem d_La_law_423 : decode code 423 = .ok (.aload_n 2, 1) := by decide +kernel
theorem d_La_law_424 : decode code 424 = .ok (.invokevirtual 50, 3) := by decide +kernel
theorem d_La_law_427 : decode code 427 = .ok (.iload 5, 2) := by decide +kernel
theorem d_La_law_429 : decode code 429 = .ok (.if_icmp .eq 5, 3) := by decide +kernel
theorem d_La_law_432 : decode code 432 = .ok (.iconst 0, 1) := by decide +kernel
theorem d_La_law_433 : decode code 433 = .ok (.ireturn, 1) := by decide +kernel
theorem d_La_law_434 : decode code 434 = .ok (.iload 5, 2) := by decide +kernel
theorem d_La_law_436 : decode code 436 = .ok (.ifCond .ne 15, 3) := by decide +kernel
theorem d_La_law_439 : decode code 439 = .ok (.aload_n 3, 1) := by decide +kernel
theorem d_La_law_440 : decode code 440 = .ok (.iconst 0, 1) := by decide +kernel
theorem d_La_law_441 : decode code 441 = .ok (.laload, 1) := by decide +kernel
theorem d_La_law_442 : decode code 442 = .ok (.iload 6, 2) := by decide +kernel
theorem d_La_law_444 : decode code 444 = .ok (.i2l, 1) := by decide +kernel
theorem d_La_law_445 : decode code 445 = .ok (.lcmp, 1) := by decide +kernel
theorem d_La_law_446 : decode code 446 = .ok (.ifCond .eq 5, 3) := by decide +kernel
theorem d_La_law_449 : decode code 449 = .ok (.iconst 0, 1) := by decide +kernel
theorem d_La_law_450 : decode code 450 = .ok (.ireturn, 1) := by decide +kernel
theorem d_La_law_451 : decode code 451 = .ok (.goto 121, 3) := by decide +kernel
theorem d_La_law_454 : decode code 454 = .ok (.aload_n 1, 1) := by decide +kernel
theorem d_La_law_455 : decode code 455 = .ok (.aload_n 0, 1) := by decide +kernel
theorem d_La_law_456 : decode code 456 = .ok (.iload 4, 2) := by decide +kernel
theorem d_La_law_458 : decode code 458 = .ok (.iconst 1, 1) := by decide +kernel
theorem d_La_law_459 : decode code 459 = .ok (.iadd, 1) := by decide +kernel
theorem d_La_law_460 : decode code 460 = .ok (.iaload, 1) := by decide +kernel
theorem d_La_law_461 : decode code 461 = .ok (.aload_n 0, 1) := by decide +kernel
theorem d_La_law_462 : decode code 462 = .ok (.iload 4, 2) := by decide +kernel
theorem d_La_law_464 : decode code 464 = .ok (.iconst 2, 1) := by decide +kernel
theorem d_La_law_465 : decode code 465 = .ok (.iadd, 1) := by decide +kernel
theorem d_La_law_466 : decode code 466 = .ok (.iaload, 1) := by decide +kernel
theorem d_La_law_467 : decode code 467 = .ok (.aload_n 0, 1) := by decide +kernel
theorem d_La_law_468 : decode code 468 = .ok (.iload 4, 2) := by decide +kernel
theorem d_La_law_470 : decode code 470 = .ok (.iconst 3, 1) := by decide +kernel
theorem d_La_law_471 : decode code 471 = .ok (.iadd, 1) := by decide +kernel
theorem d_La_law_472 : decode code 472 = .ok (.iaload, 1) := by decide +kernel
theorem d_La_law_473 : decode code 473 = .ok (.aload_n 0, 1) := by decide +kernel
theorem d_La_law_474 : decode code 474 = .ok (.iload 4, 2) := by decide +kernel
theorem d_La_law_476 : decode code 476 = .ok (.iconst 4, 1) := by decide +kernel
theorem d_La_law_477 : decode code 477 = .ok (.iadd, 1) := by decide +kernel
theorem d_La_law_478 : decode code 478 = .ok (.iaload, 1) := by decide +kernel
theorem d_La_law_479 : decode code 479 = .ok (.aload_n 3, 1) := by decide +kernel
theorem d_La_law_480 : decode code 480 = .ok (.invokestatic 84, 3) := by decide +kernel
theorem d_La_law_483 : decode code 483 = .ok (.istore 5, 2) := by decide +kernel
theorem d_La_law_485 : decode code 485 = .ok (.aload_n 2, 1) := by decide +kernel
theorem d_La_law_486 : decode code 486 = .ok (.aload_n 0, 1) := by decide +kernel
theorem d_La_law_487 : decode code 487 = .ok (.iload 4, 2) := by decide +kernel
theorem d_La_law_489 : decode code 489 = .ok (.iconst 1, 1) := by decide +kernel
theorem d_La_law_490 : decode code 490 = .ok (.iadd, 1) := by decide +kernel
theorem d_La_law_491 : decode code 491 = .ok (.iaload, 1) := by decide +kernel
theorem d_La_law_492 : decode code 492 = .ok (.aload_n 0, 1) := by decide +kernel
theorem d_La_law_493 : decode code 493 = .ok (.iload 4, 2) := by decide +kernel
theorem d_La_law_495 : decode code 495 = .ok (.iconst 2, 1) := by decide +kernel
theorem d_La_law_496 : decode code 496 = .ok (.iadd, 1) := by decide +kernel
theorem d_La_law_497 : decode code 497 = .ok (.iaload, 1) := by decide +kernel
theorem d_La_law_498 : decode code 498 = .ok (.aload_n 0, 1) := by decide +kernel
theorem d_La_law_499 : decode code 499 = .ok (.iload 4, 2) := by decide +kernel
theorem d_La_law_501 : decode code 501 = .ok (.iconst 3, 1) := by decide +kernel
theorem d_La_law_502 : decode code 502 = .ok (.iadd, 1) := by decide +kernel
theorem d_La_law_503 : decode code 503 = .ok (.iaload, 1) := by decide +kernel
theorem d_La_law_504 : decode code 504 = .ok (.aload_n 0, 1) := by decide +kernel
theorem d_La_law_505 : decode code 505 = .ok (.iload 4, 2) := by decide +kernel
theorem d_La_law_507 : decode code 507 = .ok (.iconst 4, 1) := by decide +kernel
theorem d_La_law_508 : decode code 508 = .ok (.iadd, 1) := by decide +kernel
theorem d_La_law_509 : decode code 509 = .ok (.iaload, 1) := by decide +kernel
theorem d_La_law_510 : decode code 510 = .ok (.invokevirtual 87, 3) := by decide +kernel
theorem d_La_law_513 : decode code 513 = .ok (.istore 6, 2) := by decide +kernel
theorem d_La_law_515 : decode code 515 = .ok (.aload_n 2, 1) := by decide +kernel
theorem d_La_law_516 : decode code 516 = .ok (.invokevirtual 50, 3) := by decide +kernel
theorem d_La_law_519 : decode code 519 = .ok (.iload 5, 2) := by decide +kernel
theorem d_La_law_521 : decode code 521 = .ok (.if_icmp .eq 5, 3) := by decide +kernel
theorem d_La_law_524 : decode code 524 = .ok (.iconst 0, 1) := by decide +kernel
theorem d_La_law_525 : decode code 525 = .ok (.ireturn, 1) := by decide +kernel
theorem d_La_law_526 : decode code 526 = .ok (.iload 5, 2) := by decide +kernel
theorem d_La_law_528 : decode code 528 = .ok (.ifCond .ne 15, 3) := by decide +kernel
theorem d_La_law_531 : decode code 531 = .ok (.aload_n 3, 1) := by decide +kernel
theorem d_La_law_532 : decode code 532 = .ok (.iconst 0, 1) := by decide +kernel
theorem d_La_law_533 : decode code 533 = .ok (.laload, 1) := by decide +kernel
theorem d_La_law_534 : decode code 534 = .ok (.iload 6, 2) := by decide +kernel
theorem d_La_law_536 : decode code 536 = .ok (.i2l, 1) := by decide +kernel
theorem d_La_law_537 : decode code 537 = .ok (.lcmp, 1) := by decide +kernel
theorem d_La_law_538 : decode code 538 = .ok (.ifCond .eq 5, 3) := by decide +kernel
theorem d_La_law_541 : decode code 541 = .ok (.iconst 0, 1) := by decide +kernel
theorem d_La_law_542 : decode code 542 = .ok (.ireturn, 1) := by decide +kernel
theorem d_La_law_543 : decode code 543 = .ok (.goto 29, 3) := by decide +kernel
theorem d_La_law_546 : decode code 546 = .ok (.aload_n 1, 1) := by decide +kernel
theorem d_La_law_547 : decode code 547 = .ok (.invokevirtual 88, 3) := by decide +kernel
theorem d_La_law_550 : decode code 550 = .ok (.aload_n 2, 1) := by decide +kernel
theorem d_La_law_551 : decode code 551 = .ok (.invokevirtual 91, 3) := by decide +kernel
theorem d_La_law_554 : decode code 554 = .ok (.if_icmp .eq 18, 3) := by decide +kernel
theorem d_La_law_557 : decode code 557 = .ok (.iconst 0, 1) := by decide +kernel
theorem d_La_law_558 : decode code 558 = .ok (.ireturn, 1) := by decide +kernel
theorem d_La_law_559 : decode code 559 = .ok (.aload_n 1, 1) := by decide +kernel
theorem d_La_law_560 : decode code 560 = .ok (.invokevirtual 92, 3) := by decide +kernel
theorem d_La_law_563 : decode code 563 = .ok (.aload_n 2, 1) := by decide +kernel
theorem d_La_law_564 : decode code 564 = .ok (.invokevirtual 95, 3) := by decide +kernel
theorem d_La_law_567 : decode code 567 = .ok (.if_icmp .eq 5, 3) := by decide +kernel
theorem d_La_law_570 : decode code 570 = .ok (.iconst 0, 1) := by decide +kernel
theorem d_La_law_571 : decode code 571 = .ok (.ireturn, 1) := by decide +kernel
theorem d_La_law_572 : decode code 572 = .ok (.iinc 4 5, 3) := by decide +kernel
theorem d_La_law_575 : decode code 575 = .ok (.goto (-552), 3) := by decide +kernel
theorem d_La_law_578 : decode code 578 = .ok (.iconst 1, 1) := by decide +kernel
theorem d_La_law_579 : decode code 579 = .ok (.ireturn, 1) := by decide +kernel
