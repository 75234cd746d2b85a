theorem dX10_does_224 : decode cX10_does 224 = .ok (.iconst 1, 1) := by decide +kernel
theorem dX10_does_225 : decode cX10_does 225 = .ok (.goto 4, 3) := by decide +kernel
theorem dX10_does_228 : decode cX10_does 228 = .ok (.iconst 0, 1) := by decide +kernel
theorem dX10_does_229 : decode cX10_does 229 = .ok (.putfield 160, 3) := by decide +kernel
theorem dX10_does_232 : decode cX10_does 232 = .ok (.aload_n 0, 1) := by decide +kernel
theorem dX10_does_233 : decode cX10_does 233 = .ok (.getfield 53, 3) := by decide +kernel
theorem dX10_does_236 : decode cX10_does 236 = .ok (.iload 11, 2) := by decide +kernel
theorem dX10_does_238 : decode cX10_does 238 = .ok (.iload 10, 2) := by decide +kernel
theorem dX10_does_240 : decode cX10_does 240 = .ok (.iastore, 1) := by decide +kernel
theorem dX10_does_241 : decode cX10_does 241 = .ok (.aload_n 0, 1) := by decide +kernel
theorem dX10_does_242 : decode cX10_does 242 = .ok (.iload_n 3, 1) := by decide +kernel
theorem dX10_does_243 : decode cX10_does 243 = .ok (.aload_n 0, 1) := by decide +kernel
theorem dX10_does_244 : decode cX10_does 244 = .ok (.getfield 22, 3) := by decide +kernel
theorem dX10_does_247 : decode cX10_does 247 = .ok (.iload 9, 2) := by decide +kernel
theorem dX10_does_249 : decode cX10_does 249 = .ok (.iaload, 1) := by decide +kernel
theorem dX10_does_250 : decode cX10_does 250 = .ok (.invokevirtual 222, 3) := by decide +kernel
theorem dX10_does_253 : decode cX10_does 253 = .ok (.goto 24, 3) := by decide +kernel
theorem dX10_does_256 : decode cX10_does 256 = .ok (.aload_n 0, 1) := by decide +kernel
theorem dX10_does_257 : decode cX10_does 257 = .ok (.getfield 22, 3) := by decide +kernel
theorem dX10_does_260 : decode cX10_does 260 = .ok (.iload 9, 2) := by decide +kernel
theorem dX10_does_262 : decode cX10_does 262 = .ok (.iload 8, 2) := by decide +kernel
theorem dX10_does_264 : decode cX10_does 264 = .ok (.iastore, 1) := by decide +kernel
theorem dX10_does_265 : decode cX10_does 265 = .ok (.aload_n 0, 1) := by decide +kernel
theorem dX10_does_266 : decode cX10_does 266 = .ok (.iload 9, 2) := by decide +kernel
theorem dX10_does_268 : decode cX10_does 268 = .ok (.putfield 130, 3) := by decide +kernel
theorem dX10_does_271 : decode cX10_does 271 = .ok (.aload_n 0, 1) := by decide +kernel
theorem dX10_does_272 : decode cX10_does 272 = .ok (.iload 8, 2) := by decide +kernel
theorem dX10_does_274 : decode cX10_does 274 = .ok (.putfield 136, 3) := by decide +kernel
theorem dX10_does_277 : decode cX10_does 277 = .ok (.goto 214, 3) := by decide +kernel
theorem dX10_does_280 : decode cX10_does 280 = .ok (.iload_n 2, 1) := by decide +kernel
theorem dX10_does_281 : decode cX10_does 281 = .ok (.bipush 40, 2) := by decide +kernel
theorem dX10_does_283 : decode cX10_does 283 = .ok (.if_icmp .lt 109, 3) := by decide +kernel
theorem dX10_does_286 : decode cX10_does 286 = .ok (.iload_n 2, 1) := by decide +kernel
theorem dX10_does_287 : decode cX10_does 287 = .ok (.bipush 43, 2) := by decide +kernel
theorem dX10_does_289 : decode cX10_does 289 = .ok (.if_icmp .gt 103, 3) := by decide +kernel
theorem dX10_does_292 : decode cX10_does 292 = .ok (.aload_n 0, 1) := by decide +kernel
theorem dX10_does_293 : decode cX10_does 293 = .ok (.iload_n 2, 1) := by decide +kernel
theorem dX10_does_294 : decode cX10_does 294 = .ok (.bipush 40, 2) := by decide +kernel
theorem dX10_does_296 : decode cX10_does 296 = .ok (.if_icmp .ne 18, 3) := by decide +kernel
theorem dX10_does_299 : decode cX10_does 299 = .ok (.iload 7, 2) := by decide +kernel
theorem dX10_does_301 : decode cX10_does 301 = .ok (.iload 8, 2) := by decide +kernel
theorem dX10_does_303 : decode cX10_does 303 = .ok (.if_icmp .ne 7, 3) := by decide +kernel
theorem dX10_does_306 : decode cX10_does 306 = .ok (.iconst 1, 1) := by decide +kernel
theorem dX10_does_307 : decode cX10_does 307 = .ok (.goto 61, 3) := by decide +kernel
theorem dX10_does_310 : decode cX10_does 310 = .ok (.iconst 0, 1) := by decide +kernel
theorem dX10_does_311 : decode cX10_does 311 = .ok (.goto 57, 3) := by decide +kernel
theorem dX10_does_314 : decode cX10_does 314 = .ok (.iload_n 2, 1) := by decide +kernel
theorem dX10_does_315 : decode cX10_does 315 = .ok (.bipush 41, 2) := by decide +kernel
theorem dX10_does_317 : decode cX10_does 317 = .ok (.if_icmp .ne 18, 3) := by decide +kernel
theorem dX10_does_320 : decode cX10_does 320 = .ok (.iload 7, 2) := by decide +kernel
theorem dX10_does_322 : decode cX10_does 322 = .ok (.iload 8, 2) := by decide +kernel
theorem dX10_does_324 : decode cX10_does 324 = .ok (.if_icmp .eq 7, 3) := by decide +kernel
theorem dX10_does_327 : decode cX10_does 327 = .ok (.iconst 1, 1) := by decide +kernel
theorem dX10_does_328 : decode cX10_does 328 = .ok (.goto 40, 3) := by decide +kernel
theorem dX10_does_331 : decode cX10_does 331 = .ok (.iconst 0, 1) := by decide +kernel
theorem dX10_does_332 : decode cX10_does 332 = .ok (.goto 36, 3) := by decide +kernel
theorem dX10_does_335 : decode cX10_does 335 = .ok (.iload_n 2, 1) := by decide +kernel
theorem dX10_does_336 : decode cX10_does 336 = .ok (.bipush 42, 2) := by decide +kernel
theorem dX10_does_338 : decode cX10_does 338 = .ok (.if_icmp .ne 18, 3) := by decide +kernel
theorem dX10_does_341 : decode cX10_does 341 = .ok (.iload 7, 2) := by decide +kernel
theorem dX10_does_343 : decode cX10_does 343 = .ok (.iload 8, 2) := by decide +kernel
theorem dX10_does_345 : decode cX10_does 345 = .ok (.if_icmp .ge 7, 3) := by decide +kernel
theorem dX10_does_348 : decode cX10_does 348 = .ok (.iconst 1, 1) := by decide +kernel
theorem dX10_does_349 : decode cX10_does 349 = .ok (.goto 19, 3) := by decide +kernel
theorem dX10_does_352 : decode cX10_does 352 = .ok (.iconst 0, 1) := by decide +kernel
theorem dX10_does_353 : decode cX10_does 353 = .ok (.goto 15, 3) := by decide +kernel
theorem dX10_does_356 : decode cX10_does 356 = .ok (.iload 7, 2) := by decide +kernel
theorem dX10_does_358 : decode cX10_does 358 = .ok (.iload 8, 2) := by decide +kernel
theorem dX10_does_360 : decode cX10_does 360 = .ok (.if_icmp .lt 7, 3) := by decide +kernel
theorem dX10_does_363 : decode cX10_does 363 = .ok (.iconst 1, 1) := by decide +kernel
theorem dX10_does_364 : decode cX10_does 364 = .ok (.goto 4, 3) := by decide +kernel
theorem dX10_does_367 : decode cX10_does 367 = .ok (.iconst 0, 1) := by decide +kernel
theorem dX10_does_368 : decode cX10_does 368 = .ok (.putfield 163, 3) := by decide +kernel
theorem dX10_does_371 : decode cX10_does 371 = .ok (.aload_n 0, 1) := by decide +kernel
theorem dX10_does_372 : decode cX10_does 372 = .ok (.getfield 163, 3) := by decide +kernel
theorem dX10_does_375 : decode cX10_does 375 = .ok (.ifCond .eq 116, 3) := by decide +kernel
theorem dX10_does_378 : decode cX10_does 378 = .ok (.aload_n 0, 1) := by decide +kernel
theorem dX10_does_379 : decode cX10_does 379 = .ok (.aload_n 0, 1) := by decide +kernel
theorem dX10_does_380 : decode cX10_does 380 = .ok (.getfield 139, 3) := by decide +kernel
theorem dX10_does_383 : decode cX10_does 383 = .ok (.iload 6, 2) := by decide +kernel
theorem dX10_does_385 : decode cX10_does 385 = .ok (.iadd, 1) := by decide +kernel
theorem dX10_does_386 : decode cX10_does 386 = .ok (.putfield 67, 3) := by decide +kernel
theorem dX10_does_389 : decode cX10_does 389 = .ok (.goto 102, 3) := by decide +kernel
theorem dX10_does_392 : decode cX10_does 392 = .ok (.iload_n 2, 1) := by decide +kernel
theorem dX10_does_393 : decode cX10_does 393 = .ok (.bipush 44, 2) := by decide +kernel
theorem dX10_does_395 : decode cX10_does 395 = .ok (.if_icmp .ne 28, 3) := by decide +kernel
theorem dX10_does_398 : decode cX10_does 398 = .ok (.aload_n 0, 1) := by decide +kernel
theorem dX10_does_399 : decode cX10_does 399 = .ok (.iload_n 3, 1) := by decide +kernel
theorem dX10_does_400 : decode cX10_does 400 = .ok (.aload_n 0, 1) := by decide +kernel
theorem dX10_does_401 : decode cX10_does 401 = .ok (.getfield 139, 3) := by decide +kernel
theorem dX10_does_404 : decode cX10_does 404 = .ok (.iconst 1, 1) := by decide +kernel
theorem dX10_does_405 : decode cX10_does 405 = .ok (.iadd, 1) := by decide +kernel
theorem dX10_does_406 : decode cX10_does 406 = .ok (.invokevirtual 222, 3) := by decide +kernel
theorem dX10_does_409 : decode cX10_does 409 = .ok (.aload_n 0, 1) := by decide +kernel
theorem dX10_does_410 : decode cX10_does 410 = .ok (.aload_n 0, 1) := by decide +kernel
theorem dX10_does_411 : decode cX10_does 411 = .ok (.getfield 139, 3) := by decide +kernel
theorem dX10_does_414 : decode cX10_does 414 = .ok (.iload 6, 2) := by decide +kernel
theorem dX10_does_416 : decode cX10_does 416 = .ok (.iadd, 1) := by decide +kernel
theorem dX10_does_417 : decode cX10_does 417 = .ok (.putfield 67, 3) := by decide +kernel
theorem dX10_does_420 : decode cX10_does 420 = .ok (.goto 71, 3) := by decide +kernel
theorem dX10_does_423 : decode cX10_does 423 = .ok (.iload_n 2, 1) := by decide +kernel
theorem dX10_does_424 : decode cX10_does 424 = .ok (.bipush 45, 2) := by decide +kernel
theorem dX10_does_426 : decode cX10_does 426 = .ok (.if_icmp .ne 26, 3) := by decide +kernel
theorem dX10_does_429 : decode cX10_does 429 = .ok (.aload_n 0, 1) := by decide +kernel
theorem dX10_does_430 : decode cX10_does 430 = .ok (.iload_n 3, 1) := by decide +kernel
theorem dX10_does_431 : decode cX10_does 431 = .ok (.aload_n 0, 1) := by decide +kernel
theorem dX10_does_432 : decode cX10_does 432 = .ok (.getfield 139, 3) := by decide +kernel
theorem dX10_does_435 : decode cX10_does 435 = .ok (.iconst 1, 1) := by decide +kernel
theorem dX10_does_436 : decode cX10_does 436 = .ok (.iadd, 1) := by decide +kernel
theorem dX10_does_437 : decode cX10_does 437 = .ok (.invokevirtual 222, 3) := by decide +kernel
theorem dX10_does_440 : decode cX10_does 440 = .ok (.aload_n 0, 1) := by decide +kernel
theorem dX10_does_441 : decode cX10_does 441 = .ok (.iload 7, 2) := by decide +kernel
theorem dX10_does_443 : decode cX10_does 443 = .ok (.iload 6, 2) := by decide +kernel
theorem dX10_does_445 : decode cX10_does 445 = .ok (.iadd, 1) := by decide +kernel
theorem dX10_does_446 : decode cX10_does 446 = .ok (.putfield 67, 3) := by decide +kernel
theorem dX10_does_449 : decode cX10_does 449 = .ok (.goto 42, 3) := by decide +kernel
theorem dX10_does_452 : decode cX10_does 452 = .ok (.iload_n 2, 1) := by decide +kernel
theorem dX10_does_453 : decode cX10_does 453 = .ok (.bipush 48, 2) := by decide +kernel
theorem dX10_does_455 : decode cX10_does 455 = .ok (.if_icmp .ne 11, 3) := by decide +kernel
theorem dX10_does_458 : decode cX10_does 458 = .ok (.aload_n 0, 1) := by decide +kernel
