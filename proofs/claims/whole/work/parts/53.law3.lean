/-! The law's instructions. -/
theorem d_L_law_279 : decode b_L_law 279 = .ok (.aload_n 1, 1) := by decide +kernel
theorem d_L_law_280 : decode b_L_law 280 = .ok (.aload_n 0, 1) := by decide +kernel
theorem d_L_law_281 : decode b_L_law 281 = .ok (.iload_n 3, 1) := by decide +kernel
theorem d_L_law_282 : decode b_L_law 282 = .ok (.iconst 1, 1) := by decide +kernel
theorem d_L_law_283 : decode b_L_law 283 = .ok (.iadd, 1) := by decide +kernel
theorem d_L_law_284 : decode b_L_law 284 = .ok (.iaload, 1) := by decide +kernel
theorem d_L_law_285 : decode b_L_law 285 = .ok (.invokevirtual 37, 3) := by decide +kernel
theorem d_L_law_288 : decode b_L_law 288 = .ok (.aload_n 2, 1) := by decide +kernel
theorem d_L_law_289 : decode b_L_law 289 = .ok (.aload_n 0, 1) := by decide +kernel
theorem d_L_law_290 : decode b_L_law 290 = .ok (.iload_n 3, 1) := by decide +kernel
theorem d_L_law_291 : decode b_L_law 291 = .ok (.iconst 1, 1) := by decide +kernel
theorem d_L_law_292 : decode b_L_law 292 = .ok (.iadd, 1) := by decide +kernel
theorem d_L_law_293 : decode b_L_law 293 = .ok (.iaload, 1) := by decide +kernel
theorem d_L_law_294 : decode b_L_law 294 = .ok (.invokevirtual 40, 3) := by decide +kernel
theorem d_L_law_297 : decode b_L_law 297 = .ok (.if_icmp .eq 157, 3) := by decide +kernel
theorem d_L_law_300 : decode b_L_law 300 = .ok (.iconst 0, 1) := by decide +kernel
theorem d_L_law_301 : decode b_L_law 301 = .ok (.ireturn, 1) := by decide +kernel
theorem d_L_law_302 : decode b_L_law 302 = .ok (.aload_n 1, 1) := by decide +kernel
theorem d_L_law_303 : decode b_L_law 303 = .ok (.aload_n 0, 1) := by decide +kernel
theorem d_L_law_304 : decode b_L_law 304 = .ok (.iload_n 3, 1) := by decide +kernel
theorem d_L_law_305 : decode b_L_law 305 = .ok (.iconst 1, 1) := by decide +kernel
theorem d_L_law_306 : decode b_L_law 306 = .ok (.iadd, 1) := by decide +kernel
theorem d_L_law_307 : decode b_L_law 307 = .ok (.iaload, 1) := by decide +kernel
theorem d_L_law_308 : decode b_L_law 308 = .ok (.invokevirtual 41, 3) := by decide +kernel
theorem d_L_law_311 : decode b_L_law 311 = .ok (.aload_n 2, 1) := by decide +kernel
theorem d_L_law_312 : decode b_L_law 312 = .ok (.aload_n 0, 1) := by decide +kernel
theorem d_L_law_313 : decode b_L_law 313 = .ok (.iload_n 3, 1) := by decide +kernel
theorem d_L_law_314 : decode b_L_law 314 = .ok (.iconst 1, 1) := by decide +kernel
theorem d_L_law_315 : decode b_L_law 315 = .ok (.iadd, 1) := by decide +kernel
theorem d_L_law_316 : decode b_L_law 316 = .ok (.iaload, 1) := by decide +kernel
theorem d_L_law_317 : decode b_L_law 317 = .ok (.invokevirtual 45, 3) := by decide +kernel
theorem d_L_law_320 : decode b_L_law 320 = .ok (.if_icmp .eq 134, 3) := by decide +kernel
theorem d_L_law_323 : decode b_L_law 323 = .ok (.iconst 0, 1) := by decide +kernel
theorem d_L_law_324 : decode b_L_law 324 = .ok (.ireturn, 1) := by decide +kernel
theorem d_L_law_325 : decode b_L_law 325 = .ok (.aload_n 1, 1) := by decide +kernel
theorem d_L_law_326 : decode b_L_law 326 = .ok (.aload_n 0, 1) := by decide +kernel
theorem d_L_law_327 : decode b_L_law 327 = .ok (.iload_n 3, 1) := by decide +kernel
theorem d_L_law_328 : decode b_L_law 328 = .ok (.iconst 1, 1) := by decide +kernel
theorem d_L_law_329 : decode b_L_law 329 = .ok (.iadd, 1) := by decide +kernel
theorem d_L_law_330 : decode b_L_law 330 = .ok (.iaload, 1) := by decide +kernel
theorem d_L_law_331 : decode b_L_law 331 = .ok (.invokevirtual 46, 3) := by decide +kernel
theorem d_L_law_334 : decode b_L_law 334 = .ok (.aload_n 2, 1) := by decide +kernel
theorem d_L_law_335 : decode b_L_law 335 = .ok (.aload_n 0, 1) := by decide +kernel
theorem d_L_law_336 : decode b_L_law 336 = .ok (.iload_n 3, 1) := by decide +kernel
theorem d_L_law_337 : decode b_L_law 337 = .ok (.iconst 1, 1) := by decide +kernel
theorem d_L_law_338 : decode b_L_law 338 = .ok (.iadd, 1) := by decide +kernel
theorem d_L_law_339 : decode b_L_law 339 = .ok (.iaload, 1) := by decide +kernel
theorem d_L_law_340 : decode b_L_law 340 = .ok (.invokevirtual 49, 3) := by decide +kernel
theorem d_L_law_343 : decode b_L_law 343 = .ok (.if_icmp .eq 111, 3) := by decide +kernel
theorem d_L_law_346 : decode b_L_law 346 = .ok (.iconst 0, 1) := by decide +kernel
theorem d_L_law_347 : decode b_L_law 347 = .ok (.ireturn, 1) := by decide +kernel
theorem d_L_law_348 : decode b_L_law 348 = .ok (.aload_n 1, 1) := by decide +kernel
theorem d_L_law_349 : decode b_L_law 349 = .ok (.aload_n 0, 1) := by decide +kernel
theorem d_L_law_350 : decode b_L_law 350 = .ok (.iload_n 3, 1) := by decide +kernel
theorem d_L_law_351 : decode b_L_law 351 = .ok (.iconst 1, 1) := by decide +kernel
theorem d_L_law_352 : decode b_L_law 352 = .ok (.iadd, 1) := by decide +kernel
theorem d_L_law_353 : decode b_L_law 353 = .ok (.iaload, 1) := by decide +kernel
theorem d_L_law_354 : decode b_L_law 354 = .ok (.aload_n 0, 1) := by decide +kernel
theorem d_L_law_355 : decode b_L_law 355 = .ok (.iload_n 3, 1) := by decide +kernel
theorem d_L_law_356 : decode b_L_law 356 = .ok (.iconst 2, 1) := by decide +kernel
theorem d_L_law_357 : decode b_L_law 357 = .ok (.iadd, 1) := by decide +kernel
theorem d_L_law_358 : decode b_L_law 358 = .ok (.iaload, 1) := by decide +kernel
theorem d_L_law_359 : decode b_L_law 359 = .ok (.invokevirtual 50, 3) := by decide +kernel
theorem d_L_law_362 : decode b_L_law 362 = .ok (.aload_n 2, 1) := by decide +kernel
theorem d_L_law_363 : decode b_L_law 363 = .ok (.aload_n 0, 1) := by decide +kernel
theorem d_L_law_364 : decode b_L_law 364 = .ok (.iload_n 3, 1) := by decide +kernel
theorem d_L_law_365 : decode b_L_law 365 = .ok (.iconst 1, 1) := by decide +kernel
theorem d_L_law_366 : decode b_L_law 366 = .ok (.iadd, 1) := by decide +kernel
theorem d_L_law_367 : decode b_L_law 367 = .ok (.iaload, 1) := by decide +kernel
theorem d_L_law_368 : decode b_L_law 368 = .ok (.aload_n 0, 1) := by decide +kernel
theorem d_L_law_369 : decode b_L_law 369 = .ok (.iload_n 3, 1) := by decide +kernel
theorem d_L_law_370 : decode b_L_law 370 = .ok (.iconst 2, 1) := by decide +kernel
theorem d_L_law_371 : decode b_L_law 371 = .ok (.iadd, 1) := by decide +kernel
theorem d_L_law_372 : decode b_L_law 372 = .ok (.iaload, 1) := by decide +kernel
theorem d_L_law_373 : decode b_L_law 373 = .ok (.invokevirtual 53, 3) := by decide +kernel
theorem d_L_law_376 : decode b_L_law 376 = .ok (.if_icmp .eq 78, 3) := by decide +kernel
theorem d_L_law_379 : decode b_L_law 379 = .ok (.iconst 0, 1) := by decide +kernel
theorem d_L_law_380 : decode b_L_law 380 = .ok (.ireturn, 1) := by decide +kernel
theorem d_L_law_381 : decode b_L_law 381 = .ok (.aload_n 1, 1) := by decide +kernel
theorem d_L_law_382 : decode b_L_law 382 = .ok (.aload_n 0, 1) := by decide +kernel
theorem d_L_law_383 : decode b_L_law 383 = .ok (.iload_n 3, 1) := by decide +kernel
theorem d_L_law_384 : decode b_L_law 384 = .ok (.iconst 1, 1) := by decide +kernel
theorem d_L_law_385 : decode b_L_law 385 = .ok (.iadd, 1) := by decide +kernel
theorem d_L_law_386 : decode b_L_law 386 = .ok (.iaload, 1) := by decide +kernel
theorem d_L_law_387 : decode b_L_law 387 = .ok (.invokevirtual 54, 3) := by decide +kernel
theorem d_L_law_390 : decode b_L_law 390 = .ok (.aload_n 2, 1) := by decide +kernel
theorem d_L_law_391 : decode b_L_law 391 = .ok (.aload_n 0, 1) := by decide +kernel
theorem d_L_law_392 : decode b_L_law 392 = .ok (.iload_n 3, 1) := by decide +kernel
theorem d_L_law_393 : decode b_L_law 393 = .ok (.iconst 1, 1) := by decide +kernel
theorem d_L_law_394 : decode b_L_law 394 = .ok (.iadd, 1) := by decide +kernel
theorem d_L_law_395 : decode b_L_law 395 = .ok (.iaload, 1) := by decide +kernel
theorem d_L_law_396 : decode b_L_law 396 = .ok (.invokevirtual 57, 3) := by decide +kernel
theorem d_L_law_399 : decode b_L_law 399 = .ok (.if_icmp .eq 55, 3) := by decide +kernel
theorem d_L_law_402 : decode b_L_law 402 = .ok (.iconst 0, 1) := by decide +kernel
theorem d_L_law_403 : decode b_L_law 403 = .ok (.ireturn, 1) := by decide +kernel
theorem d_L_law_404 : decode b_L_law 404 = .ok (.aload_n 1, 1) := by decide +kernel
theorem d_L_law_405 : decode b_L_law 405 = .ok (.invokevirtual 58, 3) := by decide +kernel
theorem d_L_law_408 : decode b_L_law 408 = .ok (.aload_n 2, 1) := by decide +kernel
theorem d_L_law_409 : decode b_L_law 409 = .ok (.invokevirtual 62, 3) := by decide +kernel
theorem d_L_law_412 : decode b_L_law 412 = .ok (.if_icmp .eq 42, 3) := by decide +kernel
theorem d_L_law_415 : decode b_L_law 415 = .ok (.iconst 0, 1) := by decide +kernel
theorem d_L_law_416 : decode b_L_law 416 = .ok (.ireturn, 1) := by decide +kernel
theorem d_L_law_417 : decode b_L_law 417 = .ok (.aload_n 1, 1) := by decide +kernel
theorem d_L_law_418 : decode b_L_law 418 = .ok (.invokevirtual 63, 3) := by decide +kernel
theorem d_L_law_421 : decode b_L_law 421 = .ok (.aload_n 2, 1) := by decide +kernel
theorem d_L_law_422 : decode b_L_law 422 = .ok (.invokevirtual 66, 3) := by decide +kernel
theorem d_L_law_425 : decode b_L_law 425 = .ok (.goto 29, 3) := by decide +kernel
theorem d_L_law_428 : decode b_L_law 428 = .ok (.aload_n 1, 1) := by decide +kernel
theorem d_L_law_429 : decode b_L_law 429 = .ok (.invokevirtual 67, 3) := by decide +kernel
theorem d_L_law_432 : decode b_L_law 432 = .ok (.aload_n 2, 1) := by decide +kernel
theorem d_L_law_433 : decode b_L_law 433 = .ok (.invokevirtual 70, 3) := by decide +kernel
theorem d_L_law_436 : decode b_L_law 436 = .ok (.if_icmp .eq 18, 3) := by decide +kernel
theorem d_L_law_439 : decode b_L_law 439 = .ok (.iconst 0, 1) := by decide +kernel
theorem d_L_law_440 : decode b_L_law 440 = .ok (.ireturn, 1) := by decide +kernel
theorem d_L_law_441 : decode b_L_law 441 = .ok (.aload_n 1, 1) := by decide +kernel
theorem d_L_law_442 : decode b_L_law 442 = .ok (.invokevirtual 71, 3) := by decide +kernel
theorem d_L_law_445 : decode b_L_law 445 = .ok (.aload_n 2, 1) := by decide +kernel
theorem d_L_law_446 : decode b_L_law 446 = .ok (.invokevirtual 74, 3) := by decide +kernel
theorem d_L_law_449 : decode b_L_law 449 = .ok (.if_icmp .eq 5, 3) := by decide +kernel
theorem d_L_law_452 : decode b_L_law 452 = .ok (.iconst 0, 1) := by decide +kernel
theorem d_L_law_453 : decode b_L_law 453 = .ok (.ireturn, 1) := by decide +kernel
theorem d_L_law_454 : decode b_L_law 454 = .ok (.iinc 3 5, 3) := by decide +kernel
theorem d_L_law_457 : decode b_L_law 457 = .ok (.goto (-439), 3) := by decide +kernel
theorem d_L_law_460 : decode b_L_law 460 = .ok (.iconst 1, 1) := by decide +kernel
theorem d_L_law_461 : decode b_L_law 461 = .ok (.ireturn, 1) := by decide +kernel
