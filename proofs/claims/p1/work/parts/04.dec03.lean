theorem dLW_law_240 : decode cLW_law 240 = .ok (.invokevirtual 31, 3) := by decide +kernel
theorem dLW_law_243 : decode cLW_law 243 = .ok (.if_icmp .eq 372, 3) := by decide +kernel
theorem dLW_law_248 : decode cLW_law 248 = .ok (.aload_n 1, 1) := by decide +kernel
theorem dLW_law_249 : decode cLW_law 249 = .ok (.aload_n 0, 1) := by decide +kernel
theorem dLW_law_250 : decode cLW_law 250 = .ok (.iload_n 3, 1) := by decide +kernel
theorem dLW_law_251 : decode cLW_law 251 = .ok (.iconst 1, 1) := by decide +kernel
theorem dLW_law_252 : decode cLW_law 252 = .ok (.iadd, 1) := by decide +kernel
theorem dLW_law_253 : decode cLW_law 253 = .ok (.iaload, 1) := by decide +kernel
theorem dLW_law_254 : decode cLW_law 254 = .ok (.aload_n 0, 1) := by decide +kernel
theorem dLW_law_255 : decode cLW_law 255 = .ok (.iload_n 3, 1) := by decide +kernel
theorem dLW_law_256 : decode cLW_law 256 = .ok (.iconst 2, 1) := by decide +kernel
theorem dLW_law_257 : decode cLW_law 257 = .ok (.iadd, 1) := by decide +kernel
theorem dLW_law_258 : decode cLW_law 258 = .ok (.iaload, 1) := by decide +kernel
theorem dLW_law_259 : decode cLW_law 259 = .ok (.aload_n 0, 1) := by decide +kernel
theorem dLW_law_260 : decode cLW_law 260 = .ok (.iload_n 3, 1) := by decide +kernel
theorem dLW_law_261 : decode cLW_law 261 = .ok (.iconst 3, 1) := by decide +kernel
theorem dLW_law_262 : decode cLW_law 262 = .ok (.iadd, 1) := by decide +kernel
theorem dLW_law_263 : decode cLW_law 263 = .ok (.iaload, 1) := by decide +kernel
theorem dLW_law_264 : decode cLW_law 264 = .ok (.ifCond .eq 7, 3) := by decide +kernel
theorem dLW_law_267 : decode cLW_law 267 = .ok (.iconst 1, 1) := by decide +kernel
theorem dLW_law_268 : decode cLW_law 268 = .ok (.goto 4, 3) := by decide +kernel
theorem dLW_law_271 : decode cLW_law 271 = .ok (.iconst 0, 1) := by decide +kernel
theorem dLW_law_272 : decode cLW_law 272 = .ok (.invokevirtual 32, 3) := by decide +kernel
theorem dLW_law_275 : decode cLW_law 275 = .ok (.aload_n 2, 1) := by decide +kernel
theorem dLW_law_276 : decode cLW_law 276 = .ok (.aload_n 0, 1) := by decide +kernel
theorem dLW_law_277 : decode cLW_law 277 = .ok (.iload_n 3, 1) := by decide +kernel
theorem dLW_law_278 : decode cLW_law 278 = .ok (.iconst 1, 1) := by decide +kernel
theorem dLW_law_279 : decode cLW_law 279 = .ok (.iadd, 1) := by decide +kernel
theorem dLW_law_280 : decode cLW_law 280 = .ok (.iaload, 1) := by decide +kernel
theorem dLW_law_281 : decode cLW_law 281 = .ok (.aload_n 0, 1) := by decide +kernel
theorem dLW_law_282 : decode cLW_law 282 = .ok (.iload_n 3, 1) := by decide +kernel
theorem dLW_law_283 : decode cLW_law 283 = .ok (.iconst 2, 1) := by decide +kernel
theorem dLW_law_284 : decode cLW_law 284 = .ok (.iadd, 1) := by decide +kernel
theorem dLW_law_285 : decode cLW_law 285 = .ok (.iaload, 1) := by decide +kernel
theorem dLW_law_286 : decode cLW_law 286 = .ok (.aload_n 0, 1) := by decide +kernel
theorem dLW_law_287 : decode cLW_law 287 = .ok (.iload_n 3, 1) := by decide +kernel
theorem dLW_law_288 : decode cLW_law 288 = .ok (.iconst 3, 1) := by decide +kernel
theorem dLW_law_289 : decode cLW_law 289 = .ok (.iadd, 1) := by decide +kernel
theorem dLW_law_290 : decode cLW_law 290 = .ok (.iaload, 1) := by decide +kernel
theorem dLW_law_291 : decode cLW_law 291 = .ok (.ifCond .eq 7, 3) := by decide +kernel
theorem dLW_law_294 : decode cLW_law 294 = .ok (.iconst 1, 1) := by decide +kernel
theorem dLW_law_295 : decode cLW_law 295 = .ok (.goto 4, 3) := by decide +kernel
theorem dLW_law_298 : decode cLW_law 298 = .ok (.iconst 0, 1) := by decide +kernel
theorem dLW_law_299 : decode cLW_law 299 = .ok (.invokevirtual 36, 3) := by decide +kernel
theorem dLW_law_302 : decode cLW_law 302 = .ok (.if_icmp .eq 313, 3) := by decide +kernel
theorem dLW_law_307 : decode cLW_law 307 = .ok (.aload_n 1, 1) := by decide +kernel
theorem dLW_law_308 : decode cLW_law 308 = .ok (.invokevirtual 37, 3) := by decide +kernel
theorem dLW_law_311 : decode cLW_law 311 = .ok (.aload_n 2, 1) := by decide +kernel
theorem dLW_law_312 : decode cLW_law 312 = .ok (.invokevirtual 40, 3) := by decide +kernel
theorem dLW_law_315 : decode cLW_law 315 = .ok (.if_icmp .eq 300, 3) := by decide +kernel
theorem dLW_law_320 : decode cLW_law 320 = .ok (.aload_n 1, 1) := by decide +kernel
theorem dLW_law_321 : decode cLW_law 321 = .ok (.invokevirtual 41, 3) := by decide +kernel
theorem dLW_law_324 : decode cLW_law 324 = .ok (.aload_n 2, 1) := by decide +kernel
theorem dLW_law_325 : decode cLW_law 325 = .ok (.invokevirtual 44, 3) := by decide +kernel
theorem dLW_law_328 : decode cLW_law 328 = .ok (.if_icmp .eq 287, 3) := by decide +kernel
theorem dLW_law_333 : decode cLW_law 333 = .ok (.aload_n 1, 1) := by decide +kernel
theorem dLW_law_334 : decode cLW_law 334 = .ok (.invokevirtual 45, 3) := by decide +kernel
theorem dLW_law_337 : decode cLW_law 337 = .ok (.aload_n 2, 1) := by decide +kernel
theorem dLW_law_338 : decode cLW_law 338 = .ok (.invokevirtual 48, 3) := by decide +kernel
theorem dLW_law_341 : decode cLW_law 341 = .ok (.if_icmp .eq 274, 3) := by decide +kernel
theorem dLW_law_346 : decode cLW_law 346 = .ok (.aload_n 1, 1) := by decide +kernel
theorem dLW_law_347 : decode cLW_law 347 = .ok (.aload_n 0, 1) := by decide +kernel
theorem dLW_law_348 : decode cLW_law 348 = .ok (.iload_n 3, 1) := by decide +kernel
theorem dLW_law_349 : decode cLW_law 349 = .ok (.iconst 1, 1) := by decide +kernel
theorem dLW_law_350 : decode cLW_law 350 = .ok (.iadd, 1) := by decide +kernel
theorem dLW_law_351 : decode cLW_law 351 = .ok (.iaload, 1) := by decide +kernel
theorem dLW_law_352 : decode cLW_law 352 = .ok (.aload_n 0, 1) := by decide +kernel
theorem dLW_law_353 : decode cLW_law 353 = .ok (.iload_n 3, 1) := by decide +kernel
theorem dLW_law_354 : decode cLW_law 354 = .ok (.iconst 2, 1) := by decide +kernel
theorem dLW_law_355 : decode cLW_law 355 = .ok (.iadd, 1) := by decide +kernel
theorem dLW_law_356 : decode cLW_law 356 = .ok (.iaload, 1) := by decide +kernel
theorem dLW_law_357 : decode cLW_law 357 = .ok (.invokevirtual 49, 3) := by decide +kernel
theorem dLW_law_360 : decode cLW_law 360 = .ok (.aload_n 2, 1) := by decide +kernel
theorem dLW_law_361 : decode cLW_law 361 = .ok (.aload_n 0, 1) := by decide +kernel
theorem dLW_law_362 : decode cLW_law 362 = .ok (.iload_n 3, 1) := by decide +kernel
theorem dLW_law_363 : decode cLW_law 363 = .ok (.iconst 1, 1) := by decide +kernel
theorem dLW_law_364 : decode cLW_law 364 = .ok (.iadd, 1) := by decide +kernel
theorem dLW_law_365 : decode cLW_law 365 = .ok (.iaload, 1) := by decide +kernel
theorem dLW_law_366 : decode cLW_law 366 = .ok (.aload_n 0, 1) := by decide +kernel
theorem dLW_law_367 : decode cLW_law 367 = .ok (.iload_n 3, 1) := by decide +kernel
theorem dLW_law_368 : decode cLW_law 368 = .ok (.iconst 2, 1) := by decide +kernel
theorem dLW_law_369 : decode cLW_law 369 = .ok (.iadd, 1) := by decide +kernel
theorem dLW_law_370 : decode cLW_law 370 = .ok (.iaload, 1) := by decide +kernel
theorem dLW_law_371 : decode cLW_law 371 = .ok (.invokevirtual 53, 3) := by decide +kernel
theorem dLW_law_374 : decode cLW_law 374 = .ok (.if_icmp .eq 241, 3) := by decide +kernel
theorem dLW_law_379 : decode cLW_law 379 = .ok (.aload_n 1, 1) := by decide +kernel
theorem dLW_law_380 : decode cLW_law 380 = .ok (.invokevirtual 54, 3) := by decide +kernel
theorem dLW_law_383 : decode cLW_law 383 = .ok (.aload_n 2, 1) := by decide +kernel
theorem dLW_law_384 : decode cLW_law 384 = .ok (.invokevirtual 57, 3) := by decide +kernel
theorem dLW_law_387 : decode cLW_law 387 = .ok (.if_icmp .eq 228, 3) := by decide +kernel
theorem dLW_law_392 : decode cLW_law 392 = .ok (.aload_n 1, 1) := by decide +kernel
theorem dLW_law_393 : decode cLW_law 393 = .ok (.invokevirtual 58, 3) := by decide +kernel
theorem dLW_law_396 : decode cLW_law 396 = .ok (.aload_n 2, 1) := by decide +kernel
theorem dLW_law_397 : decode cLW_law 397 = .ok (.invokevirtual 61, 3) := by decide +kernel
theorem dLW_law_400 : decode cLW_law 400 = .ok (.if_icmp .eq 215, 3) := by decide +kernel
theorem dLW_law_405 : decode cLW_law 405 = .ok (.aload_n 1, 1) := by decide +kernel
theorem dLW_law_406 : decode cLW_law 406 = .ok (.aload_n 0, 1) := by decide +kernel
theorem dLW_law_407 : decode cLW_law 407 = .ok (.iload_n 3, 1) := by decide +kernel
theorem dLW_law_408 : decode cLW_law 408 = .ok (.iconst 1, 1) := by decide +kernel
theorem dLW_law_409 : decode cLW_law 409 = .ok (.iadd, 1) := by decide +kernel
theorem dLW_law_410 : decode cLW_law 410 = .ok (.iaload, 1) := by decide +kernel
theorem dLW_law_411 : decode cLW_law 411 = .ok (.invokevirtual 62, 3) := by decide +kernel
theorem dLW_law_414 : decode cLW_law 414 = .ok (.aload_n 2, 1) := by decide +kernel
theorem dLW_law_415 : decode cLW_law 415 = .ok (.aload_n 0, 1) := by decide +kernel
theorem dLW_law_416 : decode cLW_law 416 = .ok (.iload_n 3, 1) := by decide +kernel
theorem dLW_law_417 : decode cLW_law 417 = .ok (.iconst 1, 1) := by decide +kernel
theorem dLW_law_418 : decode cLW_law 418 = .ok (.iadd, 1) := by decide +kernel
theorem dLW_law_419 : decode cLW_law 419 = .ok (.iaload, 1) := by decide +kernel
theorem dLW_law_420 : decode cLW_law 420 = .ok (.invokevirtual 66, 3) := by decide +kernel
theorem dLW_law_423 : decode cLW_law 423 = .ok (.if_icmp .eq 192, 3) := by decide +kernel
theorem dLW_law_428 : decode cLW_law 428 = .ok (.aload_n 1, 1) := by decide +kernel
theorem dLW_law_429 : decode cLW_law 429 = .ok (.aload_n 0, 1) := by decide +kernel
theorem dLW_law_430 : decode cLW_law 430 = .ok (.iload_n 3, 1) := by decide +kernel
theorem dLW_law_431 : decode cLW_law 431 = .ok (.iconst 1, 1) := by decide +kernel
theorem dLW_law_432 : decode cLW_law 432 = .ok (.iadd, 1) := by decide +kernel
theorem dLW_law_433 : decode cLW_law 433 = .ok (.iaload, 1) := by decide +kernel
theorem dLW_law_434 : decode cLW_law 434 = .ok (.aload_n 0, 1) := by decide +kernel
theorem dLW_law_435 : decode cLW_law 435 = .ok (.iload_n 3, 1) := by decide +kernel
theorem dLW_law_436 : decode cLW_law 436 = .ok (.iconst 2, 1) := by decide +kernel
theorem dLW_law_437 : decode cLW_law 437 = .ok (.iadd, 1) := by decide +kernel
