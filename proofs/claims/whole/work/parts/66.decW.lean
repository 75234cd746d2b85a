theorem dL_law_0 : decode code 0 = .ok (.new 8, 3) := by decide +kernel
theorem dL_law_3 : decode code 3 = .ok (.dup, 1) := by decide +kernel
theorem dL_law_4 : decode code 4 = .ok (.invokespecial 36, 3) := by decide +kernel
theorem dL_law_7 : decode code 7 = .ok (.astore_n 1, 1) := by decide +kernel
theorem dL_law_8 : decode code 8 = .ok (.new 37, 3) := by decide +kernel
theorem dL_law_11 : decode code 11 = .ok (.dup, 1) := by decide +kernel
theorem dL_law_12 : decode code 12 = .ok (.invokespecial 39, 3) := by decide +kernel
theorem dL_law_15 : decode code 15 = .ok (.astore_n 2, 1) := by decide +kernel
theorem dL_law_16 : decode code 16 = .ok (.iconst 1, 1) := by decide +kernel
theorem dL_law_17 : decode code 17 = .ok (.newarray .long, 2) := by decide +kernel
theorem dL_law_19 : decode code 19 = .ok (.astore_n 3, 1) := by decide +kernel
theorem dL_law_20 : decode code 20 = .ok (.iconst 0, 1) := by decide +kernel
theorem dL_law_21 : decode code 21 = .ok (.istore 4, 2) := by decide +kernel
theorem dL_law_23 : decode code 23 = .ok (.iload 4, 2) := by decide +kernel
theorem dL_law_25 : decode code 25 = .ok (.aload_n 0, 1) := by decide +kernel
theorem dL_law_26 : decode code 26 = .ok (.arraylength, 1) := by decide +kernel
theorem dL_law_27 : decode code 27 = .ok (.iconst 3, 1) := by decide +kernel
theorem dL_law_28 : decode code 28 = .ok (.isub, 1) := by decide +kernel
theorem dL_law_29 : decode code 29 = .ok (.if_icmp .gt 448, 3) := by decide +kernel
theorem dL_law_32 : decode code 32 = .ok (.aload_n 0, 1) := by decide +kernel
theorem dL_law_33 : decode code 33 = .ok (.iload 4, 2) := by decide +kernel
theorem dL_law_35 : decode code 35 = .ok (.iaload, 1) := by decide +kernel
theorem dL_law_36 : decode code 36 = .ok (.bipush 7, 2) := by decide +kernel
theorem dL_law_38 : decode code 38 = .ok (.iand, 1) := by decide +kernel
theorem dL_law_39 : decode code 39 = .ok (.tableswitch 432 0 7 #[45, 93, 141, 152, 208, 264, 320, 376], 45) := by decide +kernel
theorem dL_law_84 : decode code 84 = .ok (.aload_n 1, 1) := by decide +kernel
theorem dL_law_85 : decode code 85 = .ok (.aload_n 0, 1) := by decide +kernel
theorem dL_law_86 : decode code 86 = .ok (.iload 4, 2) := by decide +kernel
theorem dL_law_88 : decode code 88 = .ok (.iconst 1, 1) := by decide +kernel
theorem dL_law_89 : decode code 89 = .ok (.iadd, 1) := by decide +kernel
theorem dL_law_90 : decode code 90 = .ok (.iaload, 1) := by decide +kernel
theorem dL_law_91 : decode code 91 = .ok (.aload_n 0, 1) := by decide +kernel
theorem dL_law_92 : decode code 92 = .ok (.iload 4, 2) := by decide +kernel
theorem dL_law_94 : decode code 94 = .ok (.iconst 2, 1) := by decide +kernel
theorem dL_law_95 : decode code 95 = .ok (.iadd, 1) := by decide +kernel
theorem dL_law_96 : decode code 96 = .ok (.iaload, 1) := by decide +kernel
theorem dL_law_97 : decode code 97 = .ok (.invokestatic 40, 3) := by decide +kernel
theorem dL_law_100 : decode code 100 = .ok (.istore 5, 2) := by decide +kernel
theorem dL_law_102 : decode code 102 = .ok (.aload_n 2, 1) := by decide +kernel
theorem dL_law_103 : decode code 103 = .ok (.aload_n 0, 1) := by decide +kernel
theorem dL_law_104 : decode code 104 = .ok (.iload 4, 2) := by decide +kernel
theorem dL_law_106 : decode code 106 = .ok (.iconst 1, 1) := by decide +kernel
theorem dL_law_107 : decode code 107 = .ok (.iadd, 1) := by decide +kernel
theorem dL_law_108 : decode code 108 = .ok (.iaload, 1) := by decide +kernel
theorem dL_law_109 : decode code 109 = .ok (.aload_n 0, 1) := by decide +kernel
theorem dL_law_110 : decode code 110 = .ok (.iload 4, 2) := by decide +kernel
theorem dL_law_112 : decode code 112 = .ok (.iconst 2, 1) := by decide +kernel
theorem dL_law_113 : decode code 113 = .ok (.iadd, 1) := by decide +kernel
theorem dL_law_114 : decode code 114 = .ok (.iaload, 1) := by decide +kernel
theorem dL_law_115 : decode code 115 = .ok (.invokevirtual 45, 3) := by decide +kernel
theorem dL_law_118 : decode code 118 = .ok (.aload_n 2, 1) := by decide +kernel
theorem dL_law_119 : decode code 119 = .ok (.invokevirtual 46, 3) := by decide +kernel
theorem dL_law_122 : decode code 122 = .ok (.iload 5, 2) := by decide +kernel
theorem dL_law_124 : decode code 124 = .ok (.if_icmp .eq 5, 3) := by decide +kernel
theorem dL_law_127 : decode code 127 = .ok (.iconst 0, 1) := by decide +kernel
theorem dL_law_128 : decode code 128 = .ok (.ireturn, 1) := by decide +kernel
theorem dL_law_129 : decode code 129 = .ok (.goto 342, 3) := by decide +kernel
theorem dL_law_132 : decode code 132 = .ok (.aload_n 1, 1) := by decide +kernel
theorem dL_law_133 : decode code 133 = .ok (.aload_n 0, 1) := by decide +kernel
theorem dL_law_134 : decode code 134 = .ok (.iload 4, 2) := by decide +kernel
theorem dL_law_136 : decode code 136 = .ok (.iconst 1, 1) := by decide +kernel
theorem dL_law_137 : decode code 137 = .ok (.iadd, 1) := by decide +kernel
theorem dL_law_138 : decode code 138 = .ok (.iaload, 1) := by decide +kernel
theorem dL_law_139 : decode code 139 = .ok (.aload_n 0, 1) := by decide +kernel
theorem dL_law_140 : decode code 140 = .ok (.iload 4, 2) := by decide +kernel
theorem dL_law_142 : decode code 142 = .ok (.iconst 2, 1) := by decide +kernel
theorem dL_law_143 : decode code 143 = .ok (.iadd, 1) := by decide +kernel
theorem dL_law_144 : decode code 144 = .ok (.iaload, 1) := by decide +kernel
theorem dL_law_145 : decode code 145 = .ok (.invokestatic 50, 3) := by decide +kernel
theorem dL_law_148 : decode code 148 = .ok (.istore 5, 2) := by decide +kernel
theorem dL_law_150 : decode code 150 = .ok (.aload_n 2, 1) := by decide +kernel
theorem dL_law_151 : decode code 151 = .ok (.aload_n 0, 1) := by decide +kernel
theorem dL_law_152 : decode code 152 = .ok (.iload 4, 2) := by decide +kernel
theorem dL_law_154 : decode code 154 = .ok (.iconst 1, 1) := by decide +kernel
theorem dL_law_155 : decode code 155 = .ok (.iadd, 1) := by decide +kernel
theorem dL_law_156 : decode code 156 = .ok (.iaload, 1) := by decide +kernel
theorem dL_law_157 : decode code 157 = .ok (.aload_n 0, 1) := by decide +kernel
theorem dL_law_158 : decode code 158 = .ok (.iload 4, 2) := by decide +kernel
theorem dL_law_160 : decode code 160 = .ok (.iconst 2, 1) := by decide +kernel
theorem dL_law_161 : decode code 161 = .ok (.iadd, 1) := by decide +kernel
theorem dL_law_162 : decode code 162 = .ok (.iaload, 1) := by decide +kernel
theorem dL_law_163 : decode code 163 = .ok (.invokevirtual 52, 3) := by decide +kernel
theorem dL_law_166 : decode code 166 = .ok (.aload_n 2, 1) := by decide +kernel
theorem dL_law_167 : decode code 167 = .ok (.invokevirtual 46, 3) := by decide +kernel
theorem dL_law_170 : decode code 170 = .ok (.iload 5, 2) := by decide +kernel
theorem dL_law_172 : decode code 172 = .ok (.if_icmp .eq 5, 3) := by decide +kernel
theorem dL_law_175 : decode code 175 = .ok (.iconst 0, 1) := by decide +kernel
theorem dL_law_176 : decode code 176 = .ok (.ireturn, 1) := by decide +kernel
theorem dL_law_177 : decode code 177 = .ok (.goto 294, 3) := by decide +kernel
theorem dL_law_180 : decode code 180 = .ok (.aload_n 1, 1) := by decide +kernel
theorem dL_law_181 : decode code 181 = .ok (.invokevirtual 53, 3) := by decide +kernel
theorem dL_law_184 : decode code 184 = .ok (.aload_n 2, 1) := by decide +kernel
theorem dL_law_185 : decode code 185 = .ok (.invokevirtual 56, 3) := by decide +kernel
theorem dL_law_188 : decode code 188 = .ok (.goto 283, 3) := by decide +kernel
theorem dL_law_191 : decode code 191 = .ok (.aload_n 1, 1) := by decide +kernel
theorem dL_law_192 : decode code 192 = .ok (.aload_n 0, 1) := by decide +kernel
theorem dL_law_193 : decode code 193 = .ok (.iload 4, 2) := by decide +kernel
theorem dL_law_195 : decode code 195 = .ok (.iconst 1, 1) := by decide +kernel
theorem dL_law_196 : decode code 196 = .ok (.iadd, 1) := by decide +kernel
theorem dL_law_197 : decode code 197 = .ok (.iaload, 1) := by decide +kernel
theorem dL_law_198 : decode code 198 = .ok (.aload_n 3, 1) := by decide +kernel
theorem dL_law_199 : decode code 199 = .ok (.invokestatic 57, 3) := by decide +kernel
theorem dL_law_202 : decode code 202 = .ok (.istore 5, 2) := by decide +kernel
theorem dL_law_204 : decode code 204 = .ok (.aload_n 2, 1) := by decide +kernel
theorem dL_law_205 : decode code 205 = .ok (.aload_n 0, 1) := by decide +kernel
theorem dL_law_206 : decode code 206 = .ok (.iload 4, 2) := by decide +kernel
theorem dL_law_208 : decode code 208 = .ok (.iconst 1, 1) := by decide +kernel
theorem dL_law_209 : decode code 209 = .ok (.iadd, 1) := by decide +kernel
theorem dL_law_210 : decode code 210 = .ok (.iaload, 1) := by decide +kernel
theorem dL_law_211 : decode code 211 = .ok (.invokevirtual 60, 3) := by decide +kernel
theorem dL_law_214 : decode code 214 = .ok (.istore 6, 2) := by decide +kernel
theorem dL_law_216 : decode code 216 = .ok (.aload_n 2, 1) := by decide +kernel
theorem dL_law_217 : decode code 217 = .ok (.invokevirtual 46, 3) := by decide +kernel
theorem dL_law_220 : decode code 220 = .ok (.iload 5, 2) := by decide +kernel
theorem dL_law_222 : decode code 222 = .ok (.if_icmp .eq 5, 3) := by decide +kernel
theorem dL_law_225 : decode code 225 = .ok (.iconst 0, 1) := by decide +kernel
theorem dL_law_226 : decode code 226 = .ok (.ireturn, 1) := by decide +kernel
theorem dL_law_227 : decode code 227 = .ok (.iload 5, 2) := by decide +kernel
theorem dL_law_229 : decode code 229 = .ok (.ifCond .ne 15, 3) := by decide +kernel
theorem dL_law_232 : decode code 232 = .ok (.aload_n 3, 1) := by decide +kernel
theorem dL_law_233 : decode code 233 = .ok (.iconst 0, 1) := by decide +kernel
theorem dL_law_234 : decode code 234 = .ok (.laload, 1) := by decide +kernel
theorem dL_law_235 : decode code 235 = .ok (.iload 6, 2) := by decide +kernel
theorem dL_law_237 : decode code 237 = .ok (.i2l, 1) := by decide +kernel
theorem dL_law_238 : decode code 238 = .ok (.lcmp, 1) := by decide +kernel
theorem dL_law_239 : decode code 239 = .ok (.ifCond .eq 5, 3) := by decide +kernel
theorem dL_law_242 : decode code 242 = .ok (.iconst 0, 1) := by decide +kernel
theorem dL_law_243 : decode code 243 = .ok (.ireturn, 1) := by decide +kernel
theorem dL_law_244 : decode code 244 = .ok (.goto 227, 3) := by decide +kernel
theorem dL_law_247 : decode code 247 = .ok (.aload_n 1, 1) := by decide +kernel
theorem dL_law_248 : decode code 248 = .ok (.aload_n 0, 1) := by decide +kernel
theorem dL_law_249 : decode code 249 = .ok (.iload 4, 2) := by decide +kernel
theorem dL_law_251 : decode code 251 = .ok (.iconst 1, 1) := by decide +kernel
theorem dL_law_252 : decode code 252 = .ok (.iadd, 1) := by decide +kernel
theorem dL_law_253 : decode code 253 = .ok (.iaload, 1) := by decide +kernel
theorem dL_law_254 : decode code 254 = .ok (.aload_n 3, 1) := by decide +kernel
theorem dL_law_255 : decode code 255 = .ok (.invokestatic 61, 3) := by decide +kernel
theorem dL_law_258 : decode code 258 = .ok (.istore 5, 2) := by decide +kernel
theorem dL_law_260 : decode code 260 = .ok (.aload_n 2, 1) := by decide +kernel
theorem dL_law_261 : decode code 261 = .ok (.aload_n 0, 1) := by decide +kernel
theorem dL_law_262 : decode code 262 = .ok (.iload 4, 2) := by decide +kernel
theorem dL_law_264 : decode code 264 = .ok (.iconst 1, 1) := by decide +kernel
theorem dL_law_265 : decode code 265 = .ok (.iadd, 1) := by decide +kernel
theorem dL_law_266 : decode code 266 = .ok (.iaload, 1) := by decide +kernel
theorem dL_law_267 : decode code 267 = .ok (.invokevirtual 63, 3) := by decide +kernel
theorem dL_law_270 : decode code 270 = .ok (.istore 6, 2) := by decide +kernel
theorem dL_law_272 : decode code 272 = .ok (.aload_n 2, 1) := by decide +kernel
theorem dL_law_273 : decode code 273 = .ok (.invokevirtual 46, 3) := by decide +kernel
theorem dL_law_276 : decode code 276 = .ok (.iload 5, 2) := by decide +kernel
theorem dL_law_278 : decode code 278 = .ok (.if_icmp .eq 5, 3) := by decide +kernel
theorem dL_law_281 : decode code 281 = .ok (.iconst 0, 1) := by decide +kernel
theorem dL_law_282 : decode code 282 = .ok (.ireturn, 1) := by decide +kernel
theorem dL_law_283 : decode code 283 = .ok (.iload 5, 2) := by decide +kernel
theorem dL_law_285 : decode code 285 = .ok (.ifCond .ne 15, 3) := by decide +kernel
theorem dL_law_288 : decode code 288 = .ok (.aload_n 3, 1) := by decide +kernel
theorem dL_law_289 : decode code 289 = .ok (.iconst 0, 1) := by decide +kernel
theorem dL_law_290 : decode code 290 = .ok (.laload, 1) := by decide +kernel
theorem dL_law_291 : decode code 291 = .ok (.iload 6, 2) := by decide +kernel
theorem dL_law_293 : decode code 293 = .ok (.i2l, 1) := by decide +kernel
theorem dL_law_294 : decode code 294 = .ok (.lcmp, 1) := by decide +kernel
theorem dL_law_295 : decode code 295 = .ok (.ifCond .eq 5, 3) := by decide +kernel
theorem dL_law_298 : decode code 298 = .ok (.iconst 0, 1) := by decide +kernel
theorem dL_law_299 : decode code 299 = .ok (.ireturn, 1) := by decide +kernel
theorem dL_law_300 : decode code 300 = .ok (.goto 171, 3) := by decide +kernel
theorem dL_law_303 : decode code 303 = .ok (.aload_n 1, 1) := by decide +kernel
theorem dL_law_304 : decode code 304 = .ok (.aload_n 0, 1) := by decide +kernel
theorem dL_law_305 : decode code 305 = .ok (.iload 4, 2) := by decide +kernel
theorem dL_law_307 : decode code 307 = .ok (.iconst 1, 1) := by decide +kernel
theorem dL_law_308 : decode code 308 = .ok (.iadd, 1) := by decide +kernel
theorem dL_law_309 : decode code 309 = .ok (.iaload, 1) := by decide +kernel
theorem dL_law_310 : decode code 310 = .ok (.aload_n 3, 1) := by decide +kernel
theorem dL_law_311 : decode code 311 = .ok (.invokestatic 64, 3) := by decide +kernel
theorem dL_law_314 : decode code 314 = .ok (.istore 5, 2) := by decide +kernel
theorem dL_law_316 : decode code 316 = .ok (.aload_n 2, 1) := by decide +kernel
theorem dL_law_317 : decode code 317 = .ok (.aload_n 0, 1) := by decide +kernel
theorem dL_law_318 : decode code 318 = .ok (.iload 4, 2) := by decide +kernel
theorem dL_law_320 : decode code 320 = .ok (.iconst 1, 1) := by decide +kernel
theorem dL_law_321 : decode code 321 = .ok (.iadd, 1) := by decide +kernel
theorem dL_law_322 : decode code 322 = .ok (.iaload, 1) := by decide +kernel
theorem dL_law_323 : decode code 323 = .ok (.invokevirtual 66, 3) := by decide +kernel
theorem dL_law_326 : decode code 326 = .ok (.istore 6, 2) := by decide +kernel
theorem dL_law_328 : decode code 328 = .ok (.aload_n 2, 1) := by decide +kernel
theorem dL_law_329 : decode code 329 = .ok (.invokevirtual 46, 3) := by decide +kernel
theorem dL_law_332 : decode code 332 = .ok (.iload 5, 2) := by decide +kernel
theorem dL_law_334 : decode code 334 = .ok (.if_icmp .eq 5, 3) := by decide +kernel
theorem dL_law_337 : decode code 337 = .ok (.iconst 0, 1) := by decide +kernel
theorem dL_law_338 : decode code 338 = .ok (.ireturn, 1) := by decide +kernel
theorem dL_law_339 : decode code 339 = .ok (.iload 5, 2) := by decide +kernel
theorem dL_law_341 : decode code 341 = .ok (.ifCond .ne 15, 3) := by decide +kernel
theorem dL_law_344 : decode code 344 = .ok (.aload_n 3, 1) := by decide +kernel
theorem dL_law_345 : decode code 345 = .ok (.iconst 0, 1) := by decide +kernel
theorem dL_law_346 : decode code 346 = .ok (.laload, 1) := by decide +kernel
theorem dL_law_347 : decode code 347 = .ok (.iload 6, 2) := by decide +kernel
theorem dL_law_349 : decode code 349 = .ok (.i2l, 1) := by decide +kernel
theorem dL_law_350 : decode code 350 = .ok (.lcmp, 1) := by decide +kernel
theorem dL_law_351 : decode code 351 = .ok (.ifCond .eq 5, 3) := by decide +kernel
theorem dL_law_354 : decode code 354 = .ok (.iconst 0, 1) := by decide +kernel
theorem dL_law_355 : decode code 355 = .ok (.ireturn, 1) := by decide +kernel
theorem dL_law_356 : decode code 356 = .ok (.goto 115, 3) := by decide +kernel
theorem dL_law_359 : decode code 359 = .ok (.aload_n 1, 1) := by decide +kernel
theorem dL_law_360 : decode code 360 = .ok (.aload_n 0, 1) := by decide +kernel
theorem dL_law_361 : decode code 361 = .ok (.iload 4, 2) := by decide +kernel
theorem dL_law_363 : decode code 363 = .ok (.iconst 1, 1) := by decide +kernel
theorem dL_law_364 : decode code 364 = .ok (.iadd, 1) := by decide +kernel
theorem dL_law_365 : decode code 365 = .ok (.iaload, 1) := by decide +kernel
theorem dL_law_366 : decode code 366 = .ok (.aload_n 3, 1) := by decide +kernel
theorem dL_law_367 : decode code 367 = .ok (.invokestatic 67, 3) := by decide +kernel
theorem dL_law_370 : decode code 370 = .ok (.istore 5, 2) := by decide +kernel
theorem dL_law_372 : decode code 372 = .ok (.aload_n 2, 1) := by decide +kernel
theorem dL_law_373 : decode code 373 = .ok (.aload_n 0, 1) := by decide +kernel
theorem dL_law_374 : decode code 374 = .ok (.iload 4, 2) := by decide +kernel
theorem dL_law_376 : decode code 376 = .ok (.iconst 1, 1) := by decide +kernel
theorem dL_law_377 : decode code 377 = .ok (.iadd, 1) := by decide +kernel
theorem dL_law_378 : decode code 378 = .ok (.iaload, 1) := by decide +kernel
theorem dL_law_379 : decode code 379 = .ok (.invokevirtual 69, 3) := by decide +kernel
theorem dL_law_382 : decode code 382 = .ok (.istore 6, 2) := by decide +kernel
theorem dL_law_384 : decode code 384 = .ok (.aload_n 2, 1) := by decide +kernel
theorem dL_law_385 : decode code 385 = .ok (.invokevirtual 46, 3) := by decide +kernel
theorem dL_law_388 : decode code 388 = .ok (.iload 5, 2) := by decide +kernel
theorem dL_law_390 : decode code 390 = .ok (.if_icmp .eq 5, 3) := by decide +kernel
theorem dL_law_393 : decode code 393 = .ok (.iconst 0, 1) := by decide +kernel
theorem dL_law_394 : decode code 394 = .ok (.ireturn, 1) := by decide +kernel
theorem dL_law_395 : decode code 395 = .ok (.iload 5, 2) := by decide +kernel
theorem dL_law_397 : decode code 397 = .ok (.ifCond .ne 15, 3) := by decide +kernel
theorem dL_law_400 : decode code 400 = .ok (.aload_n 3, 1) := by decide +kernel
theorem dL_law_401 : decode code 401 = .ok (.iconst 0, 1) := by decide +kernel
theorem dL_law_402 : decode code 402 = .ok (.laload, 1) := by decide +kernel
theorem dL_law_403 : decode code 403 = .ok (.iload 6, 2) := by decide +kernel
theorem dL_law_405 : decode code 405 = .ok (.i2l, 1) := by decide +kernel
theorem dL_law_406 : decode code 406 = .ok (.lcmp, 1) := by decide +kernel
theorem dL_law_407 : decode code 407 = .ok (.ifCond .eq 5, 3) := by decide +kernel
theorem dL_law_410 : decode code 410 = .ok (.iconst 0, 1) := by decide +kernel
theorem dL_law_411 : decode code 411 = .ok (.ireturn, 1) := by decide +kernel
theorem dL_law_412 : decode code 412 = .ok (.goto 59, 3) := by decide +kernel
theorem dL_law_415 : decode code 415 = .ok (.aload_n 1, 1) := by decide +kernel
theorem dL_law_416 : decode code 416 = .ok (.aload_n 0, 1) := by decide +kernel
theorem dL_law_417 : decode code 417 = .ok (.iload 4, 2) := by decide +kernel
theorem dL_law_419 : decode code 419 = .ok (.iconst 1, 1) := by decide +kernel
theorem dL_law_420 : decode code 420 = .ok (.iadd, 1) := by decide +kernel
theorem dL_law_421 : decode code 421 = .ok (.iaload, 1) := by decide +kernel
theorem dL_law_422 : decode code 422 = .ok (.aload_n 3, 1) := by decide +kernel
theorem dL_law_423 : decode code 423 = .ok (.invokestatic 70, 3) := by decide +kernel
theorem dL_law_426 : decode code 426 = .ok (.istore 5, 2) := by decide +kernel
theorem dL_law_428 : decode code 428 = .ok (.aload_n 2, 1) := by decide +kernel
theorem dL_law_429 : decode code 429 = .ok (.aload_n 0, 1) := by decide +kernel
theorem dL_law_430 : decode code 430 = .ok (.iload 4, 2) := by decide +kernel
theorem dL_law_432 : decode code 432 = .ok (.iconst 1, 1) := by decide +kernel
theorem dL_law_433 : decode code 433 = .ok (.iadd, 1) := by decide +kernel
theorem dL_law_434 : decode code 434 = .ok (.iaload, 1) := by decide +kernel
theorem dL_law_435 : decode code 435 = .ok (.invokevirtual 72, 3) := by decide +kernel
theorem dL_law_438 : decode code 438 = .ok (.istore 6, 2) := by decide +kernel
theorem dL_law_440 : decode code 440 = .ok (.aload_n 2, 1) := by decide +kernel
theorem dL_law_441 : decode code 441 = .ok (.invokevirtual 46, 3) := by decide +kernel
theorem dL_law_444 : decode code 444 = .ok (.iload 5, 2) := by decide +kernel
theorem dL_law_446 : decode code 446 = .ok (.if_icmp .eq 5, 3) := by decide +kernel
theorem dL_law_449 : decode code 449 = .ok (.iconst 0, 1) := by decide +kernel
theorem dL_law_450 : decode code 450 = .ok (.ireturn, 1) := by decide +kernel
theorem dL_law_451 : decode code 451 = .ok (.iload 5, 2) := by decide +kernel
theorem dL_law_453 : decode code 453 = .ok (.ifCond .ne 15, 3) := by decide +kernel
theorem dL_law_456 : decode code 456 = .ok (.aload_n 3, 1) := by decide +kernel
theorem dL_law_457 : decode code 457 = .ok (.iconst 0, 1) := by decide +kernel
theorem dL_law_458 : decode code 458 = .ok (.laload, 1) := by decide +kernel
theorem dL_law_459 : decode code 459 = .ok (.iload 6, 2) := by decide +kernel
theorem dL_law_461 : decode code 461 = .ok (.i2l, 1) := by decide +kernel
theorem dL_law_462 : decode code 462 = .ok (.lcmp, 1) := by decide +kernel
theorem dL_law_463 : decode code 463 = .ok (.ifCond .eq 5, 3) := by decide +kernel
theorem dL_law_466 : decode code 466 = .ok (.iconst 0, 1) := by decide +kernel
theorem dL_law_467 : decode code 467 = .ok (.ireturn, 1) := by decide +kernel
theorem dL_law_468 : decode code 468 = .ok (.goto 3, 3) := by decide +kernel
theorem dL_law_471 : decode code 471 = .ok (.iinc 4 3, 3) := by decide +kernel
theorem dL_law_474 : decode code 474 = .ok (.goto (-451), 3) := by decide +kernel
theorem dL_law_477 : decode code 477 = .ok (.iconst 1, 1) := by decide +kernel
theorem dL_law_478 : decode code 478 = .ok (.ireturn, 1) := by decide +kernel
