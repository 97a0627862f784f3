theorem dL_law_234 : decode cL_law 234 = .ok (.iload 9, 2) := by decide +kernel
theorem dL_law_236 : decode cL_law 236 = .ok (.ifCond .ne 13, 3) := by decide +kernel
theorem dL_law_239 : decode cL_law 239 = .ok (.iload 10, 2) := by decide +kernel
theorem dL_law_241 : decode cL_law 241 = .ok (.ifCond .ne 8, 3) := by decide +kernel
theorem dL_law_244 : decode cL_law 244 = .ok (.ldc 21, 2) := by decide +kernel
theorem dL_law_246 : decode cL_law 246 = .ok (.goto 4, 3) := by decide +kernel
theorem dL_law_249 : decode cL_law 249 = .ok (.iload_n 2, 1) := by decide +kernel
theorem dL_law_250 : decode cL_law 250 = .ok (.if_icmp .ne 7, 3) := by decide +kernel
theorem dL_law_253 : decode cL_law 253 = .ok (.iconst 1, 1) := by decide +kernel
theorem dL_law_254 : decode cL_law 254 = .ok (.goto 4, 3) := by decide +kernel
theorem dL_law_257 : decode cL_law 257 = .ok (.iconst 0, 1) := by decide +kernel
theorem dL_law_258 : decode cL_law 258 = .ok (.istore 6, 2) := by decide +kernel
theorem dL_law_260 : decode cL_law 260 = .ok (.iload_n 2, 1) := by decide +kernel
theorem dL_law_261 : decode cL_law 261 = .ok (.iload 11, 2) := by decide +kernel
theorem dL_law_263 : decode cL_law 263 = .ok (.ifCond .lt 7, 3) := by decide +kernel
theorem dL_law_266 : decode cL_law 266 = .ok (.iconst 1, 1) := by decide +kernel
theorem dL_law_267 : decode cL_law 267 = .ok (.goto 4, 3) := by decide +kernel
theorem dL_law_270 : decode cL_law 270 = .ok (.iconst 0, 1) := by decide +kernel
theorem dL_law_271 : decode cL_law 271 = .ok (.iadd, 1) := by decide +kernel
theorem dL_law_272 : decode cL_law 272 = .ok (.istore_n 2, 1) := by decide +kernel
theorem dL_law_273 : decode cL_law 273 = .ok (.goto 648, 3) := by decide +kernel
theorem dL_law_276 : decode cL_law 276 = .ok (.iload 7, 2) := by decide +kernel
theorem dL_law_278 : decode cL_law 278 = .ok (.iconst 5, 1) := by decide +kernel
theorem dL_law_279 : decode cL_law 279 = .ok (.if_icmp .ge 43, 3) := by decide +kernel
theorem dL_law_282 : decode cL_law 282 = .ok (.aload_n 1, 1) := by decide +kernel
theorem dL_law_283 : decode cL_law 283 = .ok (.iload_n 2, 1) := by decide +kernel
theorem dL_law_284 : decode cL_law 284 = .ok (.iconst 1, 1) := by decide +kernel
theorem dL_law_285 : decode cL_law 285 = .ok (.iload 5, 2) := by decide +kernel
theorem dL_law_287 : decode cL_law 287 = .ok (.iload 7, 2) := by decide +kernel
theorem dL_law_289 : decode cL_law 289 = .ok (.iconst 3, 1) := by decide +kernel
theorem dL_law_290 : decode cL_law 290 = .ok (.if_icmp .ge 7, 3) := by decide +kernel
theorem dL_law_293 : decode cL_law 293 = .ok (.iconst 4, 1) := by decide +kernel
theorem dL_law_294 : decode cL_law 294 = .ok (.goto 5, 3) := by decide +kernel
theorem dL_law_297 : decode cL_law 297 = .ok (.bipush 60, 2) := by decide +kernel
theorem dL_law_299 : decode cL_law 299 = .ok (.invokestatic 109, 3) := by decide +kernel
theorem dL_law_302 : decode cL_law 302 = .ok (.iadd, 1) := by decide +kernel
theorem dL_law_303 : decode cL_law 303 = .ok (.iload 5, 2) := by decide +kernel
theorem dL_law_305 : decode cL_law 305 = .ok (.bipush 6, 2) := by decide +kernel
theorem dL_law_307 : decode cL_law 307 = .ok (.ishr, 1) := by decide +kernel
theorem dL_law_308 : decode cL_law 308 = .ok (.sipush 3000, 3) := by decide +kernel
theorem dL_law_311 : decode cL_law 311 = .ok (.invokestatic 109, 3) := by decide +kernel
theorem dL_law_314 : decode cL_law 314 = .ok (.invokestatic 113, 3) := by decide +kernel
theorem dL_law_317 : decode cL_law 317 = .ok (.istore 6, 2) := by decide +kernel
theorem dL_law_319 : decode cL_law 319 = .ok (.goto 602, 3) := by decide +kernel
theorem dL_law_322 : decode cL_law 322 = .ok (.iload 7, 2) := by decide +kernel
theorem dL_law_324 : decode cL_law 324 = .ok (.iconst 5, 1) := by decide +kernel
theorem dL_law_325 : decode cL_law 325 = .ok (.if_icmp .ne 157, 3) := by decide +kernel
theorem dL_law_328 : decode cL_law 328 = .ok (.iload 5, 2) := by decide +kernel
theorem dL_law_330 : decode cL_law 330 = .ok (.iconst 3, 1) := by decide +kernel
theorem dL_law_331 : decode cL_law 331 = .ok (.invokestatic 109, 3) := by decide +kernel
theorem dL_law_334 : decode cL_law 334 = .ok (.istore 8, 2) := by decide +kernel
theorem dL_law_336 : decode cL_law 336 = .ok (.iload 5, 2) := by decide +kernel
theorem dL_law_338 : decode cL_law 338 = .ok (.iconst 2, 1) := by decide +kernel
theorem dL_law_339 : decode cL_law 339 = .ok (.ishr, 1) := by decide +kernel
theorem dL_law_340 : decode cL_law 340 = .ok (.iconst 4, 1) := by decide +kernel
theorem dL_law_341 : decode cL_law 341 = .ok (.invokestatic 109, 3) := by decide +kernel
theorem dL_law_344 : decode cL_law 344 = .ok (.istore 9, 2) := by decide +kernel
theorem dL_law_346 : decode cL_law 346 = .ok (.iload 9, 2) := by decide +kernel
theorem dL_law_348 : decode cL_law 348 = .ok (.ifCond .ne 18, 3) := by decide +kernel
theorem dL_law_351 : decode cL_law 351 = .ok (.iconst 1, 1) := by decide +kernel
theorem dL_law_352 : decode cL_law 352 = .ok (.iload 5, 2) := by decide +kernel
theorem dL_law_354 : decode cL_law 354 = .ok (.iconst 4, 1) := by decide +kernel
theorem dL_law_355 : decode cL_law 355 = .ok (.ishr, 1) := by decide +kernel
theorem dL_law_356 : decode cL_law 356 = .ok (.sipush 1000, 3) := by decide +kernel
theorem dL_law_359 : decode cL_law 359 = .ok (.invokestatic 109, 3) := by decide +kernel
theorem dL_law_362 : decode cL_law 362 = .ok (.iadd, 1) := by decide +kernel
theorem dL_law_363 : decode cL_law 363 = .ok (.goto 61, 3) := by decide +kernel
theorem dL_law_366 : decode cL_law 366 = .ok (.iload 9, 2) := by decide +kernel
theorem dL_law_368 : decode cL_law 368 = .ok (.iconst 1, 1) := by decide +kernel
theorem dL_law_369 : decode cL_law 369 = .ok (.if_icmp .ne 20, 3) := by decide +kernel
theorem dL_law_372 : decode cL_law 372 = .ok (.iload 5, 2) := by decide +kernel
theorem dL_law_374 : decode cL_law 374 = .ok (.iconst 4, 1) := by decide +kernel
theorem dL_law_375 : decode cL_law 375 = .ok (.ishr, 1) := by decide +kernel
theorem dL_law_376 : decode cL_law 376 = .ok (.sipush 20001, 3) := by decide +kernel
theorem dL_law_379 : decode cL_law 379 = .ok (.invokestatic 109, 3) := by decide +kernel
theorem dL_law_382 : decode cL_law 382 = .ok (.sipush 10000, 3) := by decide +kernel
theorem dL_law_385 : decode cL_law 385 = .ok (.isub, 1) := by decide +kernel
theorem dL_law_386 : decode cL_law 386 = .ok (.goto 38, 3) := by decide +kernel
theorem dL_law_389 : decode cL_law 389 = .ok (.iload 9, 2) := by decide +kernel
theorem dL_law_391 : decode cL_law 391 = .ok (.iconst 2, 1) := by decide +kernel
theorem dL_law_392 : decode cL_law 392 = .ok (.if_icmp .ne 19, 3) := by decide +kernel
theorem dL_law_395 : decode cL_law 395 = .ok (.iload 5, 2) := by decide +kernel
theorem dL_law_397 : decode cL_law 397 = .ok (.iconst 4, 1) := by decide +kernel
theorem dL_law_398 : decode cL_law 398 = .ok (.ishr, 1) := by decide +kernel
theorem dL_law_399 : decode cL_law 399 = .ok (.sipush 201, 3) := by decide +kernel
theorem dL_law_402 : decode cL_law 402 = .ok (.invokestatic 109, 3) := by decide +kernel
theorem dL_law_405 : decode cL_law 405 = .ok (.bipush 100, 2) := by decide +kernel
theorem dL_law_407 : decode cL_law 407 = .ok (.isub, 1) := by decide +kernel
theorem dL_law_408 : decode cL_law 408 = .ok (.goto 16, 3) := by decide +kernel
theorem dL_law_411 : decode cL_law 411 = .ok (.iload 5, 2) := by decide +kernel
theorem dL_law_413 : decode cL_law 413 = .ok (.iconst 4, 1) := by decide +kernel
theorem dL_law_414 : decode cL_law 414 = .ok (.ishr, 1) := by decide +kernel
theorem dL_law_415 : decode cL_law 415 = .ok (.sipush 201, 3) := by decide +kernel
theorem dL_law_418 : decode cL_law 418 = .ok (.invokestatic 109, 3) := by decide +kernel
theorem dL_law_421 : decode cL_law 421 = .ok (.bipush 100, 2) := by decide +kernel
theorem dL_law_423 : decode cL_law 423 = .ok (.isub, 1) := by decide +kernel
theorem dL_law_424 : decode cL_law 424 = .ok (.istore 10, 2) := by decide +kernel
theorem dL_law_426 : decode cL_law 426 = .ok (.aload_n 1, 1) := by decide +kernel
theorem dL_law_427 : decode cL_law 427 = .ok (.iload 8, 2) := by decide +kernel
theorem dL_law_429 : decode cL_law 429 = .ok (.iconst 5, 1) := by decide +kernel
theorem dL_law_430 : decode cL_law 430 = .ok (.iload 9, 2) := by decide +kernel
theorem dL_law_432 : decode cL_law 432 = .ok (.iadd, 1) := by decide +kernel
theorem dL_law_433 : decode cL_law 433 = .ok (.invokevirtual 56, 3) := by decide +kernel
theorem dL_law_436 : decode cL_law 436 = .ok (.lstore 11, 2) := by decide +kernel
theorem dL_law_438 : decode cL_law 438 = .ok (.aload_n 1, 1) := by decide +kernel
theorem dL_law_439 : decode cL_law 439 = .ok (.iload 8, 2) := by decide +kernel
theorem dL_law_441 : decode cL_law 441 = .ok (.iload 9, 2) := by decide +kernel
theorem dL_law_443 : decode cL_law 443 = .ok (.iload 10, 2) := by decide +kernel
theorem dL_law_445 : decode cL_law 445 = .ok (.invokevirtual 35, 3) := by decide +kernel
theorem dL_law_448 : decode cL_law 448 = .ok (.i2l, 1) := by decide +kernel
theorem dL_law_449 : decode cL_law 449 = .ok (.lload 11, 2) := by decide +kernel
theorem dL_law_451 : decode cL_law 451 = .ok (.lcmp, 1) := by decide +kernel
theorem dL_law_452 : decode cL_law 452 = .ok (.ifCond .ne 24, 3) := by decide +kernel
theorem dL_law_455 : decode cL_law 455 = .ok (.aload_n 1, 1) := by decide +kernel
theorem dL_law_456 : decode cL_law 456 = .ok (.iload 8, 2) := by decide +kernel
theorem dL_law_458 : decode cL_law 458 = .ok (.iconst 5, 1) := by decide +kernel
theorem dL_law_459 : decode cL_law 459 = .ok (.iload 9, 2) := by decide +kernel
theorem dL_law_461 : decode cL_law 461 = .ok (.iadd, 1) := by decide +kernel
theorem dL_law_462 : decode cL_law 462 = .ok (.invokevirtual 56, 3) := by decide +kernel
theorem dL_law_465 : decode cL_law 465 = .ok (.iload 10, 2) := by decide +kernel
theorem dL_law_467 : decode cL_law 467 = .ok (.i2l, 1) := by decide +kernel
theorem dL_law_468 : decode cL_law 468 = .ok (.lcmp, 1) := by decide +kernel
theorem dL_law_469 : decode cL_law 469 = .ok (.ifCond .ne 7, 3) := by decide +kernel
theorem dL_law_472 : decode cL_law 472 = .ok (.iconst 1, 1) := by decide +kernel
theorem dL_law_473 : decode cL_law 473 = .ok (.goto 4, 3) := by decide +kernel
theorem dL_law_476 : decode cL_law 476 = .ok (.iconst 0, 1) := by decide +kernel
theorem dL_law_477 : decode cL_law 477 = .ok (.istore 6, 2) := by decide +kernel
theorem dL_law_479 : decode cL_law 479 = .ok (.goto 442, 3) := by decide +kernel
