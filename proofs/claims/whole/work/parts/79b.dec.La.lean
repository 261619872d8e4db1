theorem d_La_law_272 : decode code 272 = .ok (.aload_n 0, 1) := by decide +kernel
theorem d_La_law_273 : decode code 273 = .ok (.iload_n 3, 1) := by decide +kernel
theorem d_La_law_274 : decode code 274 = .ok (.iconst 2, 1) := by decide +kernel
theorem d_La_law_275 : decode code 275 = .ok (.iadd, 1) := by decide +kernel
theorem d_La_law_276 : decode code 276 = .ok (.iaload, 1) := by decide +kernel
theorem d_La_law_277 : decode code 277 = .ok (.invokevirtual 39, 3) := by decide +kernel
theorem d_La_law_280 : decode code 280 = .ok (.aload_n 2, 1) := by decide +kernel
theorem d_La_law_281 : decode code 281 = .ok (.aload_n 0, 1) := by decide +kernel
theorem d_La_law_282 : decode code 282 = .ok (.iload_n 3, 1) := by decide +kernel
theorem d_La_law_283 : decode code 283 = .ok (.iconst 1, 1) := by decide +kernel
theorem d_La_law_284 : decode code 284 = .ok (.iadd, 1) := by decide +kernel
theorem d_La_law_285 : decode code 285 = .ok (.iaload, 1) := by decide +kernel
theorem d_La_law_286 : decode code 286 = .ok (.aload_n 0, 1) := by decide +kernel
theorem d_La_law_287 : decode code 287 = .ok (.iload_n 3, 1) := by decide +kernel
theorem d_La_law_288 : decode code 288 = .ok (.iconst 2, 1) := by decide +kernel
theorem d_La_law_289 : decode code 289 = .ok (.iadd, 1) := by decide +kernel
theorem d_La_law_290 : decode code 290 = .ok (.iaload, 1) := by decide +kernel
theorem d_La_law_291 : decode code 291 = .ok (.invokevirtual 43, 3) := by decide +kernel
theorem d_La_law_294 : decode code 294 = .ok (.if_icmp .eq 439, 3) := by decide +kernel
theorem d_La_law_297 : decode code 297 = .ok (.iconst 0, 1) := by decide +kernel
theorem d_La_law_298 : decode code 298 = .ok (.ireturn, 1) := by decide +kernel
theorem d_La_law_299 : decode code 299 = .ok (.aload_n 1, 1) := by decide +kernel
theorem d_La_law_300 : decode code 300 = .ok (.invokevirtual 44, 3) := by decide +kernel
theorem d_La_law_303 : decode code 303 = .ok (.aload_n 2, 1) := by decide +kernel
theorem d_La_law_304 : decode code 304 = .ok (.invokevirtual 47, 3) := by decide +kernel
theorem d_La_law_307 : decode code 307 = .ok (.if_icmp .eq 426, 3) := by decide +kernel
theorem d_La_law_310 : decode code 310 = .ok (.iconst 0, 1) := by decide +kernel
theorem d_La_law_311 : decode code 311 = .ok (.ireturn, 1) := by decide +kernel
theorem d_La_law_312 : decode code 312 = .ok (.aload_n 1, 1) := by decide +kernel
theorem d_La_law_313 : decode code 313 = .ok (.aload_n 0, 1) := by decide +kernel
theorem d_La_law_314 : decode code 314 = .ok (.iload_n 3, 1) := by decide +kernel
theorem d_La_law_315 : decode code 315 = .ok (.iconst 1, 1) := by decide +kernel
theorem d_La_law_316 : decode code 316 = .ok (.iadd, 1) := by decide +kernel
theorem d_La_law_317 : decode code 317 = .ok (.iaload, 1) := by decide +kernel
theorem d_La_law_318 : decode code 318 = .ok (.invokevirtual 48, 3) := by decide +kernel
theorem d_La_law_321 : decode code 321 = .ok (.aload_n 2, 1) := by decide +kernel
theorem d_La_law_322 : decode code 322 = .ok (.aload_n 0, 1) := by decide +kernel
theorem d_La_law_323 : decode code 323 = .ok (.iload_n 3, 1) := by decide +kernel
theorem d_La_law_324 : decode code 324 = .ok (.iconst 1, 1) := by decide +kernel
theorem d_La_law_325 : decode code 325 = .ok (.iadd, 1) := by decide +kernel
theorem d_La_law_326 : decode code 326 = .ok (.iaload, 1) := by decide +kernel
theorem d_La_law_327 : decode code 327 = .ok (.invokevirtual 51, 3) := by decide +kernel
theorem d_La_law_330 : decode code 330 = .ok (.if_icmp .eq 403, 3) := by decide +kernel
theorem d_La_law_333 : decode code 333 = .ok (.iconst 0, 1) := by decide +kernel
theorem d_La_law_334 : decode code 334 = .ok (.ireturn, 1) := by decide +kernel
theorem d_La_law_335 : decode code 335 = .ok (.aload_n 1, 1) := by decide +kernel
theorem d_La_law_336 : decode code 336 = .ok (.aload_n 0, 1) := by decide +kernel
theorem d_La_law_337 : decode code 337 = .ok (.iload_n 3, 1) := by decide +kernel
theorem d_La_law_338 : decode code 338 = .ok (.iconst 1, 1) := by decide +kernel
theorem d_La_law_339 : decode code 339 = .ok (.iadd, 1) := by decide +kernel
theorem d_La_law_340 : decode code 340 = .ok (.iaload, 1) := by decide +kernel
theorem d_La_law_341 : decode code 341 = .ok (.invokevirtual 52, 3) := by decide +kernel
theorem d_La_law_344 : decode code 344 = .ok (.aload_n 2, 1) := by decide +kernel
theorem d_La_law_345 : decode code 345 = .ok (.aload_n 0, 1) := by decide +kernel
theorem d_La_law_346 : decode code 346 = .ok (.iload_n 3, 1) := by decide +kernel
theorem d_La_law_347 : decode code 347 = .ok (.iconst 1, 1) := by decide +kernel
theorem d_La_law_348 : decode code 348 = .ok (.iadd, 1) := by decide +kernel
theorem d_La_law_349 : decode code 349 = .ok (.iaload, 1) := by decide +kernel
theorem d_La_law_350 : decode code 350 = .ok (.invokevirtual 55, 3) := by decide +kernel
theorem d_La_law_353 : decode code 353 = .ok (.if_icmp .eq 380, 3) := by decide +kernel
theorem d_La_law_356 : decode code 356 = .ok (.iconst 0, 1) := by decide +kernel
theorem d_La_law_357 : decode code 357 = .ok (.ireturn, 1) := by decide +kernel
theorem d_La_law_358 : decode code 358 = .ok (.aload_n 1, 1) := by decide +kernel
theorem d_La_law_359 : decode code 359 = .ok (.aload_n 0, 1) := by decide +kernel
theorem d_La_law_360 : decode code 360 = .ok (.iload_n 3, 1) := by decide +kernel
theorem d_La_law_361 : decode code 361 = .ok (.iconst 1, 1) := by decide +kernel
theorem d_La_law_362 : decode code 362 = .ok (.iadd, 1) := by decide +kernel
theorem d_La_law_363 : decode code 363 = .ok (.iaload, 1) := by decide +kernel
theorem d_La_law_364 : decode code 364 = .ok (.invokevirtual 56, 3) := by decide +kernel
theorem d_La_law_367 : decode code 367 = .ok (.aload_n 2, 1) := by decide +kernel
theorem d_La_law_368 : decode code 368 = .ok (.aload_n 0, 1) := by decide +kernel
theorem d_La_law_369 : decode code 369 = .ok (.iload_n 3, 1) := by decide +kernel
theorem d_La_law_370 : decode code 370 = .ok (.iconst 1, 1) := by decide +kernel
theorem d_La_law_371 : decode code 371 = .ok (.iadd, 1) := by decide +kernel
theorem d_La_law_372 : decode code 372 = .ok (.iaload, 1) := by decide +kernel
theorem d_La_law_373 : decode code 373 = .ok (.invokevirtual 59, 3) := by decide +kernel
theorem d_La_law_376 : decode code 376 = .ok (.if_icmp .eq 357, 3) := by decide +kernel
theorem d_La_law_379 : decode code 379 = .ok (.iconst 0, 1) := by decide +kernel
theorem d_La_law_380 : decode code 380 = .ok (.ireturn, 1) := by decide +kernel
theorem d_La_law_381 : decode code 381 = .ok (.aload_n 1, 1) := by decide +kernel
theorem d_La_law_382 : decode code 382 = .ok (.aload_n 0, 1) := by decide +kernel
theorem d_La_law_383 : decode code 383 = .ok (.iload_n 3, 1) := by decide +kernel
theorem d_La_law_384 : decode code 384 = .ok (.iconst 1, 1) := by decide +kernel
theorem d_La_law_385 : decode code 385 = .ok (.iadd, 1) := by decide +kernel
theorem d_La_law_386 : decode code 386 = .ok (.iaload, 1) := by decide +kernel
theorem d_La_law_387 : decode code 387 = .ok (.invokevirtual 60, 3) := by decide +kernel
theorem d_La_law_390 : decode code 390 = .ok (.aload_n 2, 1) := by decide +kernel
theorem d_La_law_391 : decode code 391 = .ok (.aload_n 0, 1) := by decide +kernel
theorem d_La_law_392 : decode code 392 = .ok (.iload_n 3, 1) := by decide +kernel
theorem d_La_law_393 : decode code 393 = .ok (.iconst 1, 1) := by decide +kernel
theorem d_La_law_394 : decode code 394 = .ok (.iadd, 1) := by decide +kernel
theorem d_La_law_395 : decode code 395 = .ok (.iaload, 1) := by decide +kernel
theorem d_La_law_396 : decode code 396 = .ok (.invokevirtual 63, 3) := by decide +kernel
theorem d_La_law_399 : decode code 399 = .ok (.if_icmp .eq 334, 3) := by decide +kernel
theorem d_La_law_402 : decode code 402 = .ok (.iconst 0, 1) := by decide +kernel
theorem d_La_law_403 : decode code 403 = .ok (.ireturn, 1) := by decide +kernel
theorem d_La_law_404 : decode code 404 = .ok (.aload_n 1, 1) := by decide +kernel
theorem d_La_law_405 : decode code 405 = .ok (.aload_n 0, 1) := by decide +kernel
theorem d_La_law_406 : decode code 406 = .ok (.iload_n 3, 1) := by decide +kernel
theorem d_La_law_407 : decode code 407 = .ok (.iconst 1, 1) := by decide +kernel
theorem d_La_law_408 : decode code 408 = .ok (.iadd, 1) := by decide +kernel
theorem d_La_law_409 : decode code 409 = .ok (.iaload, 1) := by decide +kernel
theorem d_La_law_410 : decode code 410 = .ok (.aload_n 0, 1) := by decide +kernel
theorem d_La_law_411 : decode code 411 = .ok (.iload_n 3, 1) := by decide +kernel
theorem d_La_law_412 : decode code 412 = .ok (.iconst 2, 1) := by decide +kernel
theorem d_La_law_413 : decode code 413 = .ok (.iadd, 1) := by decide +kernel
theorem d_La_law_414 : decode code 414 = .ok (.iaload, 1) := by decide +kernel
theorem d_La_law_415 : decode code 415 = .ok (.invokevirtual 64, 3) := by decide +kernel
theorem d_La_law_418 : decode code 418 = .ok (.aload_n 2, 1) := by decide +kernel
theorem d_La_law_419 : decode code 419 = .ok (.aload_n 0, 1) := by decide +kernel
