theorem dL_refused_261 : decode cL_refused 261 = .ok (.invokevirtual 90, 3) := by decide +kernel
theorem dL_refused_264 : decode cL_refused 264 = .ok (.iconst (-1), 1) := by decide +kernel
theorem dL_refused_265 : decode cL_refused 265 = .ok (.if_icmp .eq 5, 3) := by decide +kernel
theorem dL_refused_268 : decode cL_refused 268 = .ok (.iconst 0, 1) := by decide +kernel
theorem dL_refused_269 : decode cL_refused 269 = .ok (.ireturn, 1) := by decide +kernel
theorem dL_refused_270 : decode cL_refused 270 = .ok (.iinc 4 1, 3) := by decide +kernel
theorem dL_refused_273 : decode cL_refused 273 = .ok (.goto (-57), 3) := by decide +kernel
theorem dL_refused_276 : decode cL_refused 276 = .ok (.aload_n 0, 1) := by decide +kernel
theorem dL_refused_277 : decode cL_refused 277 = .ok (.iconst 0, 1) := by decide +kernel
theorem dL_refused_278 : decode cL_refused 278 = .ok (.invokevirtual 93, 3) := by decide +kernel
theorem dL_refused_281 : decode cL_refused 281 = .ok (.iconst (-1), 1) := by decide +kernel
theorem dL_refused_282 : decode cL_refused 282 = .ok (.if_icmp .ne 113, 3) := by decide +kernel
theorem dL_refused_285 : decode cL_refused 285 = .ok (.aload_n 0, 1) := by decide +kernel
theorem dL_refused_286 : decode cL_refused 286 = .ok (.sipush 501, 3) := by decide +kernel
theorem dL_refused_289 : decode cL_refused 289 = .ok (.invokevirtual 93, 3) := by decide +kernel
theorem dL_refused_292 : decode cL_refused 292 = .ok (.iconst (-1), 1) := by decide +kernel
theorem dL_refused_293 : decode cL_refused 293 = .ok (.if_icmp .ne 102, 3) := by decide +kernel
theorem dL_refused_296 : decode cL_refused 296 = .ok (.aload_n 0, 1) := by decide +kernel
theorem dL_refused_297 : decode cL_refused 297 = .ok (.iconst (-1), 1) := by decide +kernel
theorem dL_refused_298 : decode cL_refused 298 = .ok (.iconst 0, 1) := by decide +kernel
theorem dL_refused_299 : decode cL_refused 299 = .ok (.invokevirtual 36, 3) := by decide +kernel
theorem dL_refused_302 : decode cL_refused 302 = .ok (.iconst (-1), 1) := by decide +kernel
theorem dL_refused_303 : decode cL_refused 303 = .ok (.if_icmp .ne 92, 3) := by decide +kernel
theorem dL_refused_306 : decode cL_refused 306 = .ok (.aload_n 0, 1) := by decide +kernel
theorem dL_refused_307 : decode cL_refused 307 = .ok (.iconst 0, 1) := by decide +kernel
theorem dL_refused_308 : decode cL_refused 308 = .ok (.iconst 3, 1) := by decide +kernel
theorem dL_refused_309 : decode cL_refused 309 = .ok (.invokevirtual 36, 3) := by decide +kernel
theorem dL_refused_312 : decode cL_refused 312 = .ok (.iconst (-1), 1) := by decide +kernel
theorem dL_refused_313 : decode cL_refused 313 = .ok (.if_icmp .ne 82, 3) := by decide +kernel
theorem dL_refused_316 : decode cL_refused 316 = .ok (.aload_n 0, 1) := by decide +kernel
theorem dL_refused_317 : decode cL_refused 317 = .ok (.iconst 0, 1) := by decide +kernel
theorem dL_refused_318 : decode cL_refused 318 = .ok (.iconst (-1), 1) := by decide +kernel
theorem dL_refused_319 : decode cL_refused 319 = .ok (.invokevirtual 36, 3) := by decide +kernel
theorem dL_refused_322 : decode cL_refused 322 = .ok (.iconst (-1), 1) := by decide +kernel
theorem dL_refused_323 : decode cL_refused 323 = .ok (.if_icmp .ne 72, 3) := by decide +kernel
theorem dL_refused_326 : decode cL_refused 326 = .ok (.aload_n 0, 1) := by decide +kernel
theorem dL_refused_327 : decode cL_refused 327 = .ok (.bipush 52, 2) := by decide +kernel
theorem dL_refused_329 : decode cL_refused 329 = .ok (.iconst 0, 1) := by decide +kernel
theorem dL_refused_330 : decode cL_refused 330 = .ok (.invokevirtual 36, 3) := by decide +kernel
theorem dL_refused_333 : decode cL_refused 333 = .ok (.bipush (-4), 2) := by decide +kernel
theorem dL_refused_335 : decode cL_refused 335 = .ok (.if_icmp .ne 60, 3) := by decide +kernel
theorem dL_refused_338 : decode cL_refused 338 = .ok (.aload_n 0, 1) := by decide +kernel
theorem dL_refused_339 : decode cL_refused 339 = .ok (.iconst (-1), 1) := by decide +kernel
theorem dL_refused_340 : decode cL_refused 340 = .ok (.invokevirtual 13, 3) := by decide +kernel
theorem dL_refused_343 : decode cL_refused 343 = .ok (.iconst (-1), 1) := by decide +kernel
theorem dL_refused_344 : decode cL_refused 344 = .ok (.if_icmp .ne 51, 3) := by decide +kernel
theorem dL_refused_347 : decode cL_refused 347 = .ok (.aload_n 0, 1) := by decide +kernel
theorem dL_refused_348 : decode cL_refused 348 = .ok (.bipush 14, 2) := by decide +kernel
theorem dL_refused_350 : decode cL_refused 350 = .ok (.invokevirtual 13, 3) := by decide +kernel
theorem dL_refused_353 : decode cL_refused 353 = .ok (.iconst (-1), 1) := by decide +kernel
theorem dL_refused_354 : decode cL_refused 354 = .ok (.if_icmp .ne 41, 3) := by decide +kernel
theorem dL_refused_357 : decode cL_refused 357 = .ok (.aload_n 0, 1) := by decide +kernel
theorem dL_refused_358 : decode cL_refused 358 = .ok (.bipush 31, 2) := by decide +kernel
theorem dL_refused_360 : decode cL_refused 360 = .ok (.invokevirtual 96, 3) := by decide +kernel
theorem dL_refused_363 : decode cL_refused 363 = .ok (.iconst (-1), 1) := by decide +kernel
theorem dL_refused_364 : decode cL_refused 364 = .ok (.if_icmp .ne 31, 3) := by decide +kernel
theorem dL_refused_367 : decode cL_refused 367 = .ok (.aload_n 0, 1) := by decide +kernel
theorem dL_refused_368 : decode cL_refused 368 = .ok (.bipush 127, 2) := by decide +kernel
theorem dL_refused_370 : decode cL_refused 370 = .ok (.invokevirtual 96, 3) := by decide +kernel
theorem dL_refused_373 : decode cL_refused 373 = .ok (.iconst (-1), 1) := by decide +kernel
theorem dL_refused_374 : decode cL_refused 374 = .ok (.if_icmp .ne 21, 3) := by decide +kernel
theorem dL_refused_377 : decode cL_refused 377 = .ok (.aload_n 0, 1) := by decide +kernel
theorem dL_refused_378 : decode cL_refused 378 = .ok (.iconst (-1), 1) := by decide +kernel
theorem dL_refused_379 : decode cL_refused 379 = .ok (.invokevirtual 99, 3) := by decide +kernel
theorem dL_refused_382 : decode cL_refused 382 = .ok (.iconst (-1), 1) := by decide +kernel
theorem dL_refused_383 : decode cL_refused 383 = .ok (.if_icmp .ne 12, 3) := by decide +kernel
theorem dL_refused_386 : decode cL_refused 386 = .ok (.aload_n 0, 1) := by decide +kernel
theorem dL_refused_387 : decode cL_refused 387 = .ok (.iconst 2, 1) := by decide +kernel
theorem dL_refused_388 : decode cL_refused 388 = .ok (.invokevirtual 99, 3) := by decide +kernel
theorem dL_refused_391 : decode cL_refused 391 = .ok (.iconst (-1), 1) := by decide +kernel
theorem dL_refused_392 : decode cL_refused 392 = .ok (.if_icmp .eq 5, 3) := by decide +kernel
theorem dL_refused_395 : decode cL_refused 395 = .ok (.iconst 0, 1) := by decide +kernel
theorem dL_refused_396 : decode cL_refused 396 = .ok (.ireturn, 1) := by decide +kernel
theorem dL_refused_397 : decode cL_refused 397 = .ok (.iload_n 3, 1) := by decide +kernel
theorem dL_refused_398 : decode cL_refused 398 = .ok (.ifCond .le 94, 3) := by decide +kernel
theorem dL_refused_401 : decode cL_refused 401 = .ok (.aload_n 0, 1) := by decide +kernel
theorem dL_refused_402 : decode cL_refused 402 = .ok (.iconst 1, 1) := by decide +kernel
theorem dL_refused_403 : decode cL_refused 403 = .ok (.iconst (-1), 1) := by decide +kernel
theorem dL_refused_404 : decode cL_refused 404 = .ok (.invokevirtual 87, 3) := by decide +kernel
theorem dL_refused_407 : decode cL_refused 407 = .ok (.iconst (-1), 1) := by decide +kernel
theorem dL_refused_408 : decode cL_refused 408 = .ok (.if_icmp .ne 82, 3) := by decide +kernel
theorem dL_refused_411 : decode cL_refused 411 = .ok (.aload_n 0, 1) := by decide +kernel
theorem dL_refused_412 : decode cL_refused 412 = .ok (.iconst 1, 1) := by decide +kernel
theorem dL_refused_413 : decode cL_refused 413 = .ok (.sipush 2001, 3) := by decide +kernel
theorem dL_refused_416 : decode cL_refused 416 = .ok (.invokevirtual 87, 3) := by decide +kernel
theorem dL_refused_419 : decode cL_refused 419 = .ok (.iconst (-1), 1) := by decide +kernel
theorem dL_refused_420 : decode cL_refused 420 = .ok (.if_icmp .ne 70, 3) := by decide +kernel
theorem dL_refused_423 : decode cL_refused 423 = .ok (.aload_n 0, 1) := by decide +kernel
theorem dL_refused_424 : decode cL_refused 424 = .ok (.iconst 1, 1) := by decide +kernel
theorem dL_refused_425 : decode cL_refused 425 = .ok (.bipush 6, 2) := by decide +kernel
theorem dL_refused_427 : decode cL_refused 427 = .ok (.invokevirtual 25, 3) := by decide +kernel
theorem dL_refused_430 : decode cL_refused 430 = .ok (.iconst (-1), 1) := by decide +kernel
theorem dL_refused_431 : decode cL_refused 431 = .ok (.if_icmp .ne 59, 3) := by decide +kernel
theorem dL_refused_434 : decode cL_refused 434 = .ok (.aload_n 0, 1) := by decide +kernel
theorem dL_refused_435 : decode cL_refused 435 = .ok (.iconst 1, 1) := by decide +kernel
theorem dL_refused_436 : decode cL_refused 436 = .ok (.iconst (-1), 1) := by decide +kernel
theorem dL_refused_437 : decode cL_refused 437 = .ok (.invokevirtual 25, 3) := by decide +kernel
theorem dL_refused_440 : decode cL_refused 440 = .ok (.iconst (-1), 1) := by decide +kernel
theorem dL_refused_441 : decode cL_refused 441 = .ok (.if_icmp .ne 49, 3) := by decide +kernel
theorem dL_refused_444 : decode cL_refused 444 = .ok (.aload_n 0, 1) := by decide +kernel
theorem dL_refused_445 : decode cL_refused 445 = .ok (.aload_n 0, 1) := by decide +kernel
theorem dL_refused_446 : decode cL_refused 446 = .ok (.iload_n 3, 1) := by decide +kernel
theorem dL_refused_447 : decode cL_refused 447 = .ok (.iconst 0, 1) := by decide +kernel
theorem dL_refused_448 : decode cL_refused 448 = .ok (.invokevirtual 25, 3) := by decide +kernel
theorem dL_refused_451 : decode cL_refused 451 = .ok (.iconst 0, 1) := by decide +kernel
theorem dL_refused_452 : decode cL_refused 452 = .ok (.invokevirtual 79, 3) := by decide +kernel
theorem dL_refused_455 : decode cL_refused 455 = .ok (.bipush (-2), 2) := by decide +kernel
theorem dL_refused_457 : decode cL_refused 457 = .ok (.if_icmp .ne 33, 3) := by decide +kernel
theorem dL_refused_460 : decode cL_refused 460 = .ok (.aload_n 0, 1) := by decide +kernel
theorem dL_refused_461 : decode cL_refused 461 = .ok (.iconst 1, 1) := by decide +kernel
theorem dL_refused_462 : decode cL_refused 462 = .ok (.iconst 1, 1) := by decide +kernel
theorem dL_refused_463 : decode cL_refused 463 = .ok (.invokevirtual 25, 3) := by decide +kernel
theorem dL_refused_466 : decode cL_refused 466 = .ok (.sipush 2000, 3) := by decide +kernel
theorem dL_refused_469 : decode cL_refused 469 = .ok (.if_icmp .ge 23, 3) := by decide +kernel
theorem dL_refused_472 : decode cL_refused 472 = .ok (.aload_n 0, 1) := by decide +kernel
theorem dL_refused_473 : decode cL_refused 473 = .ok (.iconst 1, 1) := by decide +kernel
theorem dL_refused_474 : decode cL_refused 474 = .ok (.aload_n 0, 1) := by decide +kernel
theorem dL_refused_475 : decode cL_refused 475 = .ok (.iconst 1, 1) := by decide +kernel
theorem dL_refused_476 : decode cL_refused 476 = .ok (.iconst 1, 1) := by decide +kernel
theorem dL_refused_477 : decode cL_refused 477 = .ok (.invokevirtual 25, 3) := by decide +kernel
theorem dL_refused_480 : decode cL_refused 480 = .ok (.iconst 1, 1) := by decide +kernel
theorem dL_refused_481 : decode cL_refused 481 = .ok (.iadd, 1) := by decide +kernel
theorem dL_refused_482 : decode cL_refused 482 = .ok (.invokevirtual 87, 3) := by decide +kernel
theorem dL_refused_485 : decode cL_refused 485 = .ok (.bipush (-2), 2) := by decide +kernel
theorem dL_refused_487 : decode cL_refused 487 = .ok (.if_icmp .eq 5, 3) := by decide +kernel
theorem dL_refused_490 : decode cL_refused 490 = .ok (.iconst 0, 1) := by decide +kernel
theorem dL_refused_491 : decode cL_refused 491 = .ok (.ireturn, 1) := by decide +kernel
theorem dL_refused_492 : decode cL_refused 492 = .ok (.aload_n 0, 1) := by decide +kernel
theorem dL_refused_493 : decode cL_refused 493 = .ok (.invokestatic 71, 3) := by decide +kernel
theorem dL_refused_496 : decode cL_refused 496 = .ok (.aload_n 0, 1) := by decide +kernel
theorem dL_refused_497 : decode cL_refused 497 = .ok (.bipush 12, 2) := by decide +kernel
theorem dL_refused_499 : decode cL_refused 499 = .ok (.invokevirtual 13, 3) := by decide +kernel
theorem dL_refused_502 : decode cL_refused 502 = .ok (.i2l, 1) := by decide +kernel
theorem dL_refused_503 : decode cL_refused 503 = .ok (.invokestatic 19, 3) := by decide +kernel
theorem dL_refused_506 : decode cL_refused 506 = .ok (.aload_n 0, 1) := by decide +kernel
theorem dL_refused_507 : decode cL_refused 507 = .ok (.bipush 13, 2) := by decide +kernel
theorem dL_refused_509 : decode cL_refused 509 = .ok (.invokevirtual 13, 3) := by decide +kernel
theorem dL_refused_512 : decode cL_refused 512 = .ok (.i2l, 1) := by decide +kernel
theorem dL_refused_513 : decode cL_refused 513 = .ok (.invokestatic 19, 3) := by decide +kernel
theorem dL_refused_516 : decode cL_refused 516 = .ok (.lload_n 1, 1) := by decide +kernel
theorem dL_refused_517 : decode cL_refused 517 = .ok (.lcmp, 1) := by decide +kernel
theorem dL_refused_518 : decode cL_refused 518 = .ok (.ifCond .ne 7, 3) := by decide +kernel
theorem dL_refused_521 : decode cL_refused 521 = .ok (.iconst 1, 1) := by decide +kernel
theorem dL_refused_522 : decode cL_refused 522 = .ok (.goto 4, 3) := by decide +kernel
theorem dL_refused_525 : decode cL_refused 525 = .ok (.iconst 0, 1) := by decide +kernel
theorem dL_refused_526 : decode cL_refused 526 = .ok (.ireturn, 1) := by decide +kernel
