theorem dL_known_299 : decode cL_known 299 = .ok (.invokevirtual 93, 3) := by decide +kernel
theorem dL_known_302 : decode cL_known 302 = .ok (.bipush 6, 2) := by decide +kernel
theorem dL_known_304 : decode cL_known 304 = .ok (.if_icmp .ne 41, 3) := by decide +kernel
theorem dL_known_307 : decode cL_known 307 = .ok (.aload_n 0, 1) := by decide +kernel
theorem dL_known_308 : decode cL_known 308 = .ok (.iconst 0, 1) := by decide +kernel
theorem dL_known_309 : decode cL_known 309 = .ok (.iconst 1, 1) := by decide +kernel
theorem dL_known_310 : decode cL_known 310 = .ok (.iconst 0, 1) := by decide +kernel
theorem dL_known_311 : decode cL_known 311 = .ok (.invokevirtual 32, 3) := by decide +kernel
theorem dL_known_314 : decode cL_known 314 = .ok (.sipush 24502, 3) := by decide +kernel
theorem dL_known_317 : decode cL_known 317 = .ok (.if_icmp .ne 28, 3) := by decide +kernel
theorem dL_known_320 : decode cL_known 320 = .ok (.aload_n 0, 1) := by decide +kernel
theorem dL_known_321 : decode cL_known 321 = .ok (.iconst 0, 1) := by decide +kernel
theorem dL_known_322 : decode cL_known 322 = .ok (.iconst 3, 1) := by decide +kernel
theorem dL_known_323 : decode cL_known 323 = .ok (.iconst 0, 1) := by decide +kernel
theorem dL_known_324 : decode cL_known 324 = .ok (.invokevirtual 32, 3) := by decide +kernel
theorem dL_known_327 : decode cL_known 327 = .ok (.sipush 16005, 3) := by decide +kernel
theorem dL_known_330 : decode cL_known 330 = .ok (.if_icmp .ne 15, 3) := by decide +kernel
theorem dL_known_333 : decode cL_known 333 = .ok (.aload_n 0, 1) := by decide +kernel
theorem dL_known_334 : decode cL_known 334 = .ok (.iconst 0, 1) := by decide +kernel
theorem dL_known_335 : decode cL_known 335 = .ok (.iconst 0, 1) := by decide +kernel
theorem dL_known_336 : decode cL_known 336 = .ok (.invokevirtual 45, 3) := by decide +kernel
theorem dL_known_339 : decode cL_known 339 = .ok (.sipush 840, 3) := by decide +kernel
theorem dL_known_342 : decode cL_known 342 = .ok (.if_icmp .eq 5, 3) := by decide +kernel
theorem dL_known_345 : decode cL_known 345 = .ok (.iconst 0, 1) := by decide +kernel
theorem dL_known_346 : decode cL_known 346 = .ok (.ireturn, 1) := by decide +kernel
theorem dL_known_347 : decode cL_known 347 = .ok (.aload_n 0, 1) := by decide +kernel
theorem dL_known_348 : decode cL_known 348 = .ok (.sipush 1260, 3) := by decide +kernel
theorem dL_known_351 : decode cL_known 351 = .ok (.sipush 1000, 3) := by decide +kernel
theorem dL_known_354 : decode cL_known 354 = .ok (.invokevirtual 79, 3) := by decide +kernel
theorem dL_known_357 : decode cL_known 357 = .ok (.iconst 1, 1) := by decide +kernel
theorem dL_known_358 : decode cL_known 358 = .ok (.if_icmp .ne 220, 3) := by decide +kernel
theorem dL_known_361 : decode cL_known 361 = .ok (.aload_n 0, 1) := by decide +kernel
theorem dL_known_362 : decode cL_known 362 = .ok (.sipush 420, 3) := by decide +kernel
theorem dL_known_365 : decode cL_known 365 = .ok (.sipush 1000, 3) := by decide +kernel
theorem dL_known_368 : decode cL_known 368 = .ok (.invokevirtual 79, 3) := by decide +kernel
theorem dL_known_371 : decode cL_known 371 = .ok (.iconst 1, 1) := by decide +kernel
theorem dL_known_372 : decode cL_known 372 = .ok (.if_icmp .ne 206, 3) := by decide +kernel
theorem dL_known_375 : decode cL_known 375 = .ok (.aload_n 0, 1) := by decide +kernel
theorem dL_known_376 : decode cL_known 376 = .ok (.sipush 420, 3) := by decide +kernel
theorem dL_known_379 : decode cL_known 379 = .ok (.iconst 5, 1) := by decide +kernel
theorem dL_known_380 : decode cL_known 380 = .ok (.invokevirtual 79, 3) := by decide +kernel
theorem dL_known_383 : decode cL_known 383 = .ok (.bipush (-2), 2) := by decide +kernel
theorem dL_known_385 : decode cL_known 385 = .ok (.if_icmp .ne 193, 3) := by decide +kernel
theorem dL_known_388 : decode cL_known 388 = .ok (.aload_n 0, 1) := by decide +kernel
theorem dL_known_389 : decode cL_known 389 = .ok (.iconst 0, 1) := by decide +kernel
theorem dL_known_390 : decode cL_known 390 = .ok (.bipush 7, 2) := by decide +kernel
theorem dL_known_392 : decode cL_known 392 = .ok (.invokevirtual 29, 3) := by decide +kernel
theorem dL_known_395 : decode cL_known 395 = .ok (.ifCond .eq 183, 3) := by decide +kernel
theorem dL_known_398 : decode cL_known 398 = .ok (.aload_n 0, 1) := by decide +kernel
theorem dL_known_399 : decode cL_known 399 = .ok (.iconst 0, 1) := by decide +kernel
theorem dL_known_400 : decode cL_known 400 = .ok (.iconst 2, 1) := by decide +kernel
theorem dL_known_401 : decode cL_known 401 = .ok (.invokevirtual 42, 3) := by decide +kernel
theorem dL_known_404 : decode cL_known 404 = .ok (.sipush 1260, 3) := by decide +kernel
theorem dL_known_407 : decode cL_known 407 = .ok (.if_icmp .ne 171, 3) := by decide +kernel
theorem dL_known_410 : decode cL_known 410 = .ok (.aload_n 0, 1) := by decide +kernel
theorem dL_known_411 : decode cL_known 411 = .ok (.iconst 0, 1) := by decide +kernel
theorem dL_known_412 : decode cL_known 412 = .ok (.bipush 7, 2) := by decide +kernel
theorem dL_known_414 : decode cL_known 414 = .ok (.invokevirtual 29, 3) := by decide +kernel
theorem dL_known_417 : decode cL_known 417 = .ok (.ifCond .ne 161, 3) := by decide +kernel
theorem dL_known_420 : decode cL_known 420 = .ok (.aload_n 0, 1) := by decide +kernel
theorem dL_known_421 : decode cL_known 421 = .ok (.iconst 0, 1) := by decide +kernel
theorem dL_known_422 : decode cL_known 422 = .ok (.iconst 2, 1) := by decide +kernel
theorem dL_known_423 : decode cL_known 423 = .ok (.invokevirtual 29, 3) := by decide +kernel
theorem dL_known_426 : decode cL_known 426 = .ok (.iconst 2, 1) := by decide +kernel
theorem dL_known_427 : decode cL_known 427 = .ok (.if_icmp .ne 151, 3) := by decide +kernel
theorem dL_known_430 : decode cL_known 430 = .ok (.aload_n 0, 1) := by decide +kernel
theorem dL_known_431 : decode cL_known 431 = .ok (.iconst 0, 1) := by decide +kernel
theorem dL_known_432 : decode cL_known 432 = .ok (.iconst 3, 1) := by decide +kernel
theorem dL_known_433 : decode cL_known 433 = .ok (.invokevirtual 29, 3) := by decide +kernel
theorem dL_known_436 : decode cL_known 436 = .ok (.ifCond .ne 142, 3) := by decide +kernel
theorem dL_known_439 : decode cL_known 439 = .ok (.aload_n 0, 1) := by decide +kernel
theorem dL_known_440 : decode cL_known 440 = .ok (.iconst 0, 1) := by decide +kernel
theorem dL_known_441 : decode cL_known 441 = .ok (.iconst 1, 1) := by decide +kernel
theorem dL_known_442 : decode cL_known 442 = .ok (.invokevirtual 42, 3) := by decide +kernel
theorem dL_known_445 : decode cL_known 445 = .ok (.sipush 2100, 3) := by decide +kernel
theorem dL_known_448 : decode cL_known 448 = .ok (.if_icmp .ne 130, 3) := by decide +kernel
theorem dL_known_451 : decode cL_known 451 = .ok (.aload_n 0, 1) := by decide +kernel
theorem dL_known_452 : decode cL_known 452 = .ok (.iconst 2, 1) := by decide +kernel
theorem dL_known_453 : decode cL_known 453 = .ok (.invokevirtual 90, 3) := by decide +kernel
