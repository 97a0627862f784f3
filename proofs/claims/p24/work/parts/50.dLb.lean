theorem dL_fails_186 : decode cL_fails 186 = .ok (.bipush 101, 2) := by decide +kernel
theorem dL_fails_188 : decode cL_fails 188 = .ok (.invokevirtual 35, 3) := by decide +kernel
theorem dL_fails_191 : decode cL_fails 191 = .ok (.ldc 21, 2) := by decide +kernel
theorem dL_fails_193 : decode cL_fails 193 = .ok (.if_icmp .ne 179, 3) := by decide +kernel
theorem dL_fails_196 : decode cL_fails 196 = .ok (.aload_n 0, 1) := by decide +kernel
theorem dL_fails_197 : decode cL_fails 197 = .ok (.iconst 0, 1) := by decide +kernel
theorem dL_fails_198 : decode cL_fails 198 = .ok (.iconst 3, 1) := by decide +kernel
theorem dL_fails_199 : decode cL_fails 199 = .ok (.sipush (-1001), 3) := by decide +kernel
theorem dL_fails_202 : decode cL_fails 202 = .ok (.invokevirtual 35, 3) := by decide +kernel
theorem dL_fails_205 : decode cL_fails 205 = .ok (.ldc 21, 2) := by decide +kernel
theorem dL_fails_207 : decode cL_fails 207 = .ok (.if_icmp .ne 165, 3) := by decide +kernel
theorem dL_fails_210 : decode cL_fails 210 = .ok (.aload_n 0, 1) := by decide +kernel
theorem dL_fails_211 : decode cL_fails 211 = .ok (.iconst 0, 1) := by decide +kernel
theorem dL_fails_212 : decode cL_fails 212 = .ok (.iconst 4, 1) := by decide +kernel
theorem dL_fails_213 : decode cL_fails 213 = .ok (.iconst 1, 1) := by decide +kernel
theorem dL_fails_214 : decode cL_fails 214 = .ok (.invokevirtual 35, 3) := by decide +kernel
theorem dL_fails_217 : decode cL_fails 217 = .ok (.ldc 21, 2) := by decide +kernel
theorem dL_fails_219 : decode cL_fails 219 = .ok (.if_icmp .ne 153, 3) := by decide +kernel
theorem dL_fails_222 : decode cL_fails 222 = .ok (.aload_n 0, 1) := by decide +kernel
theorem dL_fails_223 : decode cL_fails 223 = .ok (.iconst 5, 1) := by decide +kernel
theorem dL_fails_224 : decode cL_fails 224 = .ok (.iconst 1, 1) := by decide +kernel
theorem dL_fails_225 : decode cL_fails 225 = .ok (.invokevirtual 40, 3) := by decide +kernel
theorem dL_fails_228 : decode cL_fails 228 = .ok (.ldc 21, 2) := by decide +kernel
theorem dL_fails_230 : decode cL_fails 230 = .ok (.if_icmp .ne 142, 3) := by decide +kernel
theorem dL_fails_233 : decode cL_fails 233 = .ok (.aload_n 0, 1) := by decide +kernel
theorem dL_fails_234 : decode cL_fails 234 = .ok (.iconst 0, 1) := by decide +kernel
theorem dL_fails_235 : decode cL_fails 235 = .ok (.sipush 1001, 3) := by decide +kernel
theorem dL_fails_238 : decode cL_fails 238 = .ok (.invokevirtual 40, 3) := by decide +kernel
theorem dL_fails_241 : decode cL_fails 241 = .ok (.ldc 21, 2) := by decide +kernel
theorem dL_fails_243 : decode cL_fails 243 = .ok (.if_icmp .ne 129, 3) := by decide +kernel
theorem dL_fails_246 : decode cL_fails 246 = .ok (.aload_n 0, 1) := by decide +kernel
theorem dL_fails_247 : decode cL_fails 247 = .ok (.iconst 2, 1) := by decide +kernel
theorem dL_fails_248 : decode cL_fails 248 = .ok (.iconst 0, 1) := by decide +kernel
theorem dL_fails_249 : decode cL_fails 249 = .ok (.invokevirtual 40, 3) := by decide +kernel
theorem dL_fails_252 : decode cL_fails 252 = .ok (.ldc 21, 2) := by decide +kernel
theorem dL_fails_254 : decode cL_fails 254 = .ok (.if_icmp .ne 118, 3) := by decide +kernel
theorem dL_fails_257 : decode cL_fails 257 = .ok (.aload_n 0, 1) := by decide +kernel
theorem dL_fails_258 : decode cL_fails 258 = .ok (.iconst 3, 1) := by decide +kernel
theorem dL_fails_259 : decode cL_fails 259 = .ok (.ldc 22, 2) := by decide +kernel
theorem dL_fails_261 : decode cL_fails 261 = .ok (.invokevirtual 40, 3) := by decide +kernel
theorem dL_fails_264 : decode cL_fails 264 = .ok (.ldc 21, 2) := by decide +kernel
theorem dL_fails_266 : decode cL_fails 266 = .ok (.if_icmp .ne 106, 3) := by decide +kernel
theorem dL_fails_269 : decode cL_fails 269 = .ok (.aload_n 0, 1) := by decide +kernel
theorem dL_fails_270 : decode cL_fails 270 = .ok (.iconst 4, 1) := by decide +kernel
theorem dL_fails_271 : decode cL_fails 271 = .ok (.sipush 10001, 3) := by decide +kernel
theorem dL_fails_274 : decode cL_fails 274 = .ok (.invokevirtual 40, 3) := by decide +kernel
theorem dL_fails_277 : decode cL_fails 277 = .ok (.ldc 21, 2) := by decide +kernel
theorem dL_fails_279 : decode cL_fails 279 = .ok (.if_icmp .ne 93, 3) := by decide +kernel
theorem dL_fails_282 : decode cL_fails 282 = .ok (.aload_n 0, 1) := by decide +kernel
theorem dL_fails_283 : decode cL_fails 283 = .ok (.iconst 5, 1) := by decide +kernel
theorem dL_fails_284 : decode cL_fails 284 = .ok (.invokevirtual 43, 3) := by decide +kernel
theorem dL_fails_287 : decode cL_fails 287 = .ok (.ldc 21, 2) := by decide +kernel
theorem dL_fails_289 : decode cL_fails 289 = .ok (.if_icmp .ne 83, 3) := by decide +kernel
theorem dL_fails_292 : decode cL_fails 292 = .ok (.aload_n 0, 1) := by decide +kernel
theorem dL_fails_293 : decode cL_fails 293 = .ok (.iconst 3, 1) := by decide +kernel
theorem dL_fails_294 : decode cL_fails 294 = .ok (.iconst 0, 1) := by decide +kernel
theorem dL_fails_295 : decode cL_fails 295 = .ok (.invokevirtual 47, 3) := by decide +kernel
theorem dL_fails_298 : decode cL_fails 298 = .ok (.ldc2_w 51, 3) := by decide +kernel
theorem dL_fails_301 : decode cL_fails 301 = .ok (.lcmp, 1) := by decide +kernel
theorem dL_fails_302 : decode cL_fails 302 = .ok (.ifCond .ne 70, 3) := by decide +kernel
theorem dL_fails_305 : decode cL_fails 305 = .ok (.aload_n 0, 1) := by decide +kernel
theorem dL_fails_306 : decode cL_fails 306 = .ok (.iconst 0, 1) := by decide +kernel
theorem dL_fails_307 : decode cL_fails 307 = .ok (.ldc 22, 2) := by decide +kernel
theorem dL_fails_309 : decode cL_fails 309 = .ok (.invokevirtual 47, 3) := by decide +kernel
theorem dL_fails_312 : decode cL_fails 312 = .ok (.ldc2_w 51, 3) := by decide +kernel
theorem dL_fails_315 : decode cL_fails 315 = .ok (.lcmp, 1) := by decide +kernel
theorem dL_fails_316 : decode cL_fails 316 = .ok (.ifCond .ne 56, 3) := by decide +kernel
theorem dL_fails_319 : decode cL_fails 319 = .ok (.aload_n 0, 1) := by decide +kernel
theorem dL_fails_320 : decode cL_fails 320 = .ok (.iconst 0, 1) := by decide +kernel
theorem dL_fails_321 : decode cL_fails 321 = .ok (.invokevirtual 53, 3) := by decide +kernel
theorem dL_fails_324 : decode cL_fails 324 = .ok (.ldc 21, 2) := by decide +kernel
theorem dL_fails_326 : decode cL_fails 326 = .ok (.if_icmp .ne 46, 3) := by decide +kernel
theorem dL_fails_329 : decode cL_fails 329 = .ok (.aload_n 0, 1) := by decide +kernel
theorem dL_fails_330 : decode cL_fails 330 = .ok (.sipush 201, 3) := by decide +kernel
theorem dL_fails_333 : decode cL_fails 333 = .ok (.invokevirtual 53, 3) := by decide +kernel
theorem dL_fails_336 : decode cL_fails 336 = .ok (.ldc 21, 2) := by decide +kernel
theorem dL_fails_338 : decode cL_fails 338 = .ok (.if_icmp .ne 34, 3) := by decide +kernel
theorem dL_fails_341 : decode cL_fails 341 = .ok (.aload_n 0, 1) := by decide +kernel
theorem dL_fails_342 : decode cL_fails 342 = .ok (.iconst 3, 1) := by decide +kernel
theorem dL_fails_343 : decode cL_fails 343 = .ok (.iconst 0, 1) := by decide +kernel
theorem dL_fails_344 : decode cL_fails 344 = .ok (.invokevirtual 56, 3) := by decide +kernel
theorem dL_fails_347 : decode cL_fails 347 = .ok (.ldc2_w 51, 3) := by decide +kernel
theorem dL_fails_350 : decode cL_fails 350 = .ok (.lcmp, 1) := by decide +kernel
theorem dL_fails_351 : decode cL_fails 351 = .ok (.ifCond .ne 21, 3) := by decide +kernel
theorem dL_fails_354 : decode cL_fails 354 = .ok (.aload_n 0, 1) := by decide +kernel
theorem dL_fails_355 : decode cL_fails 355 = .ok (.iconst 0, 1) := by decide +kernel
theorem dL_fails_356 : decode cL_fails 356 = .ok (.bipush 10, 2) := by decide +kernel
theorem dL_fails_358 : decode cL_fails 358 = .ok (.invokevirtual 56, 3) := by decide +kernel
theorem dL_fails_361 : decode cL_fails 361 = .ok (.ldc2_w 51, 3) := by decide +kernel
theorem dL_fails_364 : decode cL_fails 364 = .ok (.lcmp, 1) := by decide +kernel
theorem dL_fails_365 : decode cL_fails 365 = .ok (.ifCond .ne 7, 3) := by decide +kernel
theorem dL_fails_368 : decode cL_fails 368 = .ok (.iconst 1, 1) := by decide +kernel
theorem dL_fails_369 : decode cL_fails 369 = .ok (.goto 4, 3) := by decide +kernel
theorem dL_fails_372 : decode cL_fails 372 = .ok (.iconst 0, 1) := by decide +kernel
theorem dL_fails_373 : decode cL_fails 373 = .ok (.istore 4, 2) := by decide +kernel
theorem dL_fails_375 : decode cL_fails 375 = .ok (.iload 4, 2) := by decide +kernel
theorem dL_fails_377 : decode cL_fails 377 = .ok (.ifCond .eq 89, 3) := by decide +kernel
theorem dL_fails_380 : decode cL_fails 380 = .ok (.aload_n 0, 1) := by decide +kernel
theorem dL_fails_381 : decode cL_fails 381 = .ok (.iload_n 1, 1) := by decide +kernel
theorem dL_fails_382 : decode cL_fails 382 = .ok (.iconst 0, 1) := by decide +kernel
theorem dL_fails_383 : decode cL_fails 383 = .ok (.iconst 0, 1) := by decide +kernel
theorem dL_fails_384 : decode cL_fails 384 = .ok (.iconst 0, 1) := by decide +kernel
theorem dL_fails_385 : decode cL_fails 385 = .ok (.invokevirtual 59, 3) := by decide +kernel
theorem dL_fails_388 : decode cL_fails 388 = .ok (.ldc2_w 51, 3) := by decide +kernel
theorem dL_fails_391 : decode cL_fails 391 = .ok (.lcmp, 1) := by decide +kernel
theorem dL_fails_392 : decode cL_fails 392 = .ok (.ifCond .ne 74, 3) := by decide +kernel
theorem dL_fails_395 : decode cL_fails 395 = .ok (.aload_n 0, 1) := by decide +kernel
theorem dL_fails_396 : decode cL_fails 396 = .ok (.iconst 0, 1) := by decide +kernel
theorem dL_fails_397 : decode cL_fails 397 = .ok (.ldc 22, 2) := by decide +kernel
theorem dL_fails_399 : decode cL_fails 399 = .ok (.iconst 0, 1) := by decide +kernel
theorem dL_fails_400 : decode cL_fails 400 = .ok (.iconst 0, 1) := by decide +kernel
theorem dL_fails_401 : decode cL_fails 401 = .ok (.invokevirtual 59, 3) := by decide +kernel
theorem dL_fails_404 : decode cL_fails 404 = .ok (.ldc2_w 51, 3) := by decide +kernel
theorem dL_fails_407 : decode cL_fails 407 = .ok (.lcmp, 1) := by decide +kernel
theorem dL_fails_408 : decode cL_fails 408 = .ok (.ifCond .ne 58, 3) := by decide +kernel
theorem dL_fails_411 : decode cL_fails 411 = .ok (.aload_n 0, 1) := by decide +kernel
theorem dL_fails_412 : decode cL_fails 412 = .ok (.iconst (-1), 1) := by decide +kernel
theorem dL_fails_413 : decode cL_fails 413 = .ok (.invokevirtual 63, 3) := by decide +kernel
theorem dL_fails_416 : decode cL_fails 416 = .ok (.ldc 21, 2) := by decide +kernel
theorem dL_fails_418 : decode cL_fails 418 = .ok (.if_icmp .ne 48, 3) := by decide +kernel
theorem dL_fails_421 : decode cL_fails 421 = .ok (.aload_n 0, 1) := by decide +kernel
theorem dL_fails_422 : decode cL_fails 422 = .ok (.iconst 3, 1) := by decide +kernel
theorem dL_fails_423 : decode cL_fails 423 = .ok (.invokevirtual 63, 3) := by decide +kernel
theorem dL_fails_426 : decode cL_fails 426 = .ok (.ldc 66, 2) := by decide +kernel
theorem dL_fails_428 : decode cL_fails 428 = .ok (.if_icmp .ne 38, 3) := by decide +kernel
theorem dL_fails_431 : decode cL_fails 431 = .ok (.aload_n 0, 1) := by decide +kernel
theorem dL_fails_432 : decode cL_fails 432 = .ok (.iconst (-1), 1) := by decide +kernel
theorem dL_fails_433 : decode cL_fails 433 = .ok (.invokevirtual 67, 3) := by decide +kernel
