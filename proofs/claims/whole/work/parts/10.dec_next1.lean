theorem dX10_next_240 : decode cX10_next 240 = .ok (.iconst 0, 1) := by decide +kernel
theorem dX10_next_241 : decode cX10_next 241 = .ok (.istore 15, 2) := by decide +kernel
theorem dX10_next_243 : decode cX10_next 243 = .ok (.iload 15, 2) := by decide +kernel
theorem dX10_next_245 : decode cX10_next 245 = .ok (.ifCond .ne 45, 3) := by decide +kernel
theorem dX10_next_248 : decode cX10_next 248 = .ok (.iload 9, 2) := by decide +kernel
theorem dX10_next_250 : decode cX10_next 250 = .ok (.bipush 16, 2) := by decide +kernel
theorem dX10_next_252 : decode cX10_next 252 = .ok (.if_icmp .lt 10, 3) := by decide +kernel
theorem dX10_next_255 : decode cX10_next 255 = .ok (.iload 9, 2) := by decide +kernel
theorem dX10_next_257 : decode cX10_next 257 = .ok (.bipush 25, 2) := by decide +kernel
theorem dX10_next_259 : decode cX10_next 259 = .ok (.if_icmp .le 31, 3) := by decide +kernel
theorem dX10_next_262 : decode cX10_next 262 = .ok (.iload 9, 2) := by decide +kernel
theorem dX10_next_264 : decode cX10_next 264 = .ok (.bipush 32, 2) := by decide +kernel
theorem dX10_next_266 : decode cX10_next 266 = .ok (.if_icmp .eq 24, 3) := by decide +kernel
theorem dX10_next_269 : decode cX10_next 269 = .ok (.iload 9, 2) := by decide +kernel
theorem dX10_next_271 : decode cX10_next 271 = .ok (.bipush 33, 2) := by decide +kernel
theorem dX10_next_273 : decode cX10_next 273 = .ok (.if_icmp .eq 17, 3) := by decide +kernel
theorem dX10_next_276 : decode cX10_next 276 = .ok (.iload 9, 2) := by decide +kernel
theorem dX10_next_278 : decode cX10_next 278 = .ok (.bipush 45, 2) := by decide +kernel
theorem dX10_next_280 : decode cX10_next 280 = .ok (.if_icmp .eq 10, 3) := by decide +kernel
theorem dX10_next_283 : decode cX10_next 283 = .ok (.iload 9, 2) := by decide +kernel
theorem dX10_next_285 : decode cX10_next 285 = .ok (.bipush 49, 2) := by decide +kernel
theorem dX10_next_287 : decode cX10_next 287 = .ok (.if_icmp .ne 7, 3) := by decide +kernel
theorem dX10_next_290 : decode cX10_next 290 = .ok (.iconst 1, 1) := by decide +kernel
theorem dX10_next_291 : decode cX10_next 291 = .ok (.goto 4, 3) := by decide +kernel
theorem dX10_next_294 : decode cX10_next 294 = .ok (.iconst 0, 1) := by decide +kernel
theorem dX10_next_295 : decode cX10_next 295 = .ok (.istore 16, 2) := by decide +kernel
theorem dX10_next_297 : decode cX10_next 297 = .ok (.aload_n 0, 1) := by decide +kernel
theorem dX10_next_298 : decode cX10_next 298 = .ok (.aload_n 0, 1) := by decide +kernel
theorem dX10_next_299 : decode cX10_next 299 = .ok (.getfield 190, 3) := by decide +kernel
theorem dX10_next_302 : decode cX10_next 302 = .ok (.lconst 1, 1) := by decide +kernel
theorem dX10_next_303 : decode cX10_next 303 = .ok (.ladd, 1) := by decide +kernel
theorem dX10_next_304 : decode cX10_next 304 = .ok (.lload 5, 2) := by decide +kernel
theorem dX10_next_306 : decode cX10_next 306 = .ok (.invokestatic 178, 3) := by decide +kernel
theorem dX10_next_309 : decode cX10_next 309 = .ok (.putfield 187, 3) := by decide +kernel
theorem dX10_next_312 : decode cX10_next 312 = .ok (.aload_n 0, 1) := by decide +kernel
theorem dX10_next_313 : decode cX10_next 313 = .ok (.aload_n 0, 1) := by decide +kernel
theorem dX10_next_314 : decode cX10_next 314 = .ok (.getfield 187, 3) := by decide +kernel
theorem dX10_next_317 : decode cX10_next 317 = .ok (.lconst 1, 1) := by decide +kernel
theorem dX10_next_318 : decode cX10_next 318 = .ok (.ladd, 1) := by decide +kernel
theorem dX10_next_319 : decode cX10_next 319 = .ok (.lload_n 1, 1) := by decide +kernel
theorem dX10_next_320 : decode cX10_next 320 = .ok (.invokestatic 178, 3) := by decide +kernel
theorem dX10_next_323 : decode cX10_next 323 = .ok (.putfield 184, 3) := by decide +kernel
theorem dX10_next_326 : decode cX10_next 326 = .ok (.aload_n 0, 1) := by decide +kernel
theorem dX10_next_327 : decode cX10_next 327 = .ok (.aload_n 0, 1) := by decide +kernel
theorem dX10_next_328 : decode cX10_next 328 = .ok (.aload_n 0, 1) := by decide +kernel
theorem dX10_next_329 : decode cX10_next 329 = .ok (.getfield 184, 3) := by decide +kernel
theorem dX10_next_332 : decode cX10_next 332 = .ok (.iload 11, 2) := by decide +kernel
theorem dX10_next_334 : decode cX10_next 334 = .ok (.iload 16, 2) := by decide +kernel
theorem dX10_next_336 : decode cX10_next 336 = .ok (.invokevirtual 201, 3) := by decide +kernel
theorem dX10_next_339 : decode cX10_next 339 = .ok (.putfield 184, 3) := by decide +kernel
theorem dX10_next_342 : decode cX10_next 342 = .ok (.aload_n 0, 1) := by decide +kernel
theorem dX10_next_343 : decode cX10_next 343 = .ok (.aload_n 0, 1) := by decide +kernel
theorem dX10_next_344 : decode cX10_next 344 = .ok (.aload_n 0, 1) := by decide +kernel
theorem dX10_next_345 : decode cX10_next 345 = .ok (.getfield 184, 3) := by decide +kernel
theorem dX10_next_348 : decode cX10_next 348 = .ok (.iload 12, 2) := by decide +kernel
theorem dX10_next_350 : decode cX10_next 350 = .ok (.iload 15, 2) := by decide +kernel
theorem dX10_next_352 : decode cX10_next 352 = .ok (.invokevirtual 201, 3) := by decide +kernel
theorem dX10_next_355 : decode cX10_next 355 = .ok (.putfield 184, 3) := by decide +kernel
theorem dX10_next_358 : decode cX10_next 358 = .ok (.aload_n 0, 1) := by decide +kernel
theorem dX10_next_359 : decode cX10_next 359 = .ok (.aload_n 0, 1) := by decide +kernel
theorem dX10_next_360 : decode cX10_next 360 = .ok (.getfield 184, 3) := by decide +kernel
theorem dX10_next_363 : decode cX10_next 363 = .ok (.iload 9, 2) := by decide +kernel
theorem dX10_next_365 : decode cX10_next 365 = .ok (.bipush 10, 2) := by decide +kernel
theorem dX10_next_367 : decode cX10_next 367 = .ok (.if_icmp .ne 7, 3) := by decide +kernel
theorem dX10_next_370 : decode cX10_next 370 = .ok (.iconst 3, 1) := by decide +kernel
theorem dX10_next_371 : decode cX10_next 371 = .ok (.goto 23, 3) := by decide +kernel
theorem dX10_next_374 : decode cX10_next 374 = .ok (.iload 9, 2) := by decide +kernel
theorem dX10_next_376 : decode cX10_next 376 = .ok (.bipush 11, 2) := by decide +kernel
theorem dX10_next_378 : decode cX10_next 378 = .ok (.if_icmp .eq 10, 3) := by decide +kernel
theorem dX10_next_381 : decode cX10_next 381 = .ok (.iload 9, 2) := by decide +kernel
theorem dX10_next_383 : decode cX10_next 383 = .ok (.bipush 12, 2) := by decide +kernel
theorem dX10_next_385 : decode cX10_next 385 = .ok (.if_icmp .ne 8, 3) := by decide +kernel
theorem dX10_next_388 : decode cX10_next 388 = .ok (.bipush 12, 2) := by decide +kernel
theorem dX10_next_390 : decode cX10_next 390 = .ok (.goto 4, 3) := by decide +kernel
theorem dX10_next_393 : decode cX10_next 393 = .ok (.iconst 1, 1) := by decide +kernel
theorem dX10_next_394 : decode cX10_next 394 = .ok (.i2l, 1) := by decide +kernel
theorem dX10_next_395 : decode cX10_next 395 = .ok (.ladd, 1) := by decide +kernel
theorem dX10_next_396 : decode cX10_next 396 = .ok (.lconst 1, 1) := by decide +kernel
theorem dX10_next_397 : decode cX10_next 397 = .ok (.lsub, 1) := by decide +kernel
theorem dX10_next_398 : decode cX10_next 398 = .ok (.putfield 175, 3) := by decide +kernel
theorem dX10_next_401 : decode cX10_next 401 = .ok (.aload_n 0, 1) := by decide +kernel
theorem dX10_next_402 : decode cX10_next 402 = .ok (.aload_n 0, 1) := by decide +kernel
theorem dX10_next_403 : decode cX10_next 403 = .ok (.getfield 175, 3) := by decide +kernel
theorem dX10_next_406 : decode cX10_next 406 = .ok (.lconst 1, 1) := by decide +kernel
theorem dX10_next_407 : decode cX10_next 407 = .ok (.ladd, 1) := by decide +kernel
theorem dX10_next_408 : decode cX10_next 408 = .ok (.lload_n 3, 1) := by decide +kernel
theorem dX10_next_409 : decode cX10_next 409 = .ok (.invokestatic 178, 3) := by decide +kernel
theorem dX10_next_412 : decode cX10_next 412 = .ok (.putfield 181, 3) := by decide +kernel
theorem dX10_next_415 : decode cX10_next 415 = .ok (.aload_n 0, 1) := by decide +kernel
theorem dX10_next_416 : decode cX10_next 416 = .ok (.aload_n 0, 1) := by decide +kernel
theorem dX10_next_417 : decode cX10_next 417 = .ok (.aload_n 0, 1) := by decide +kernel
theorem dX10_next_418 : decode cX10_next 418 = .ok (.getfield 181, 3) := by decide +kernel
theorem dX10_next_421 : decode cX10_next 421 = .ok (.iload 12, 2) := by decide +kernel
theorem dX10_next_423 : decode cX10_next 423 = .ok (.iload 9, 2) := by decide +kernel
theorem dX10_next_425 : decode cX10_next 425 = .ok (.bipush 33, 2) := by decide +kernel
theorem dX10_next_427 : decode cX10_next 427 = .ok (.if_icmp .ne 7, 3) := by decide +kernel
theorem dX10_next_430 : decode cX10_next 430 = .ok (.iconst 1, 1) := by decide +kernel
theorem dX10_next_431 : decode cX10_next 431 = .ok (.goto 4, 3) := by decide +kernel
theorem dX10_next_434 : decode cX10_next 434 = .ok (.iconst 0, 1) := by decide +kernel
theorem dX10_next_435 : decode cX10_next 435 = .ok (.invokevirtual 201, 3) := by decide +kernel
theorem dX10_next_438 : decode cX10_next 438 = .ok (.putfield 181, 3) := by decide +kernel
theorem dX10_next_441 : decode cX10_next 441 = .ok (.aload_n 0, 1) := by decide +kernel
theorem dX10_next_442 : decode cX10_next 442 = .ok (.iload 7, 2) := by decide +kernel
theorem dX10_next_444 : decode cX10_next 444 = .ok (.iload 9, 2) := by decide +kernel
theorem dX10_next_446 : decode cX10_next 446 = .ok (.iload 10, 2) := by decide +kernel
theorem dX10_next_448 : decode cX10_next 448 = .ok (.iload 11, 2) := by decide +kernel
theorem dX10_next_450 : decode cX10_next 450 = .ok (.iload 12, 2) := by decide +kernel
theorem dX10_next_452 : decode cX10_next 452 = .ok (.iload 13, 2) := by decide +kernel
theorem dX10_next_454 : decode cX10_next 454 = .ok (.invokevirtual 205, 3) := by decide +kernel
theorem dX10_next_457 : decode cX10_next 457 = .ok (.aload_n 0, 1) := by decide +kernel
theorem dX10_next_458 : decode cX10_next 458 = .ok (.aload_n 0, 1) := by decide +kernel
theorem dX10_next_459 : decode cX10_next 459 = .ok (.getfield 160, 3) := by decide +kernel
theorem dX10_next_462 : decode cX10_next 462 = .ok (.ifCond .eq 14, 3) := by decide +kernel
theorem dX10_next_465 : decode cX10_next 465 = .ok (.aload_n 0, 1) := by decide +kernel
theorem dX10_next_466 : decode cX10_next 466 = .ok (.getfield 181, 3) := by decide +kernel
theorem dX10_next_469 : decode cX10_next 469 = .ok (.ldc2_w 209, 3) := by decide +kernel
theorem dX10_next_472 : decode cX10_next 472 = .ok (.ladd, 1) := by decide +kernel
theorem dX10_next_473 : decode cX10_next 473 = .ok (.goto 7, 3) := by decide +kernel
theorem dX10_next_476 : decode cX10_next 476 = .ok (.aload_n 0, 1) := by decide +kernel
theorem dX10_next_477 : decode cX10_next 477 = .ok (.getfield 181, 3) := by decide +kernel
