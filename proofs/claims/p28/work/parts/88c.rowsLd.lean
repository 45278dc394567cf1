theorem dL_refusesStrings_238 : decode cL_refusesStrings 238 = .ok (.iconst 1, 1) := by decide +kernel
theorem dL_refusesStrings_239 : decode cL_refusesStrings 239 = .ok (.invokevirtual 63, 3) := by decide +kernel
theorem dL_refusesStrings_242 : decode cL_refusesStrings 242 = .ok (.iconst (-1), 1) := by decide +kernel
theorem dL_refusesStrings_243 : decode cL_refusesStrings 243 = .ok (.if_icmp .ne 15, 3) := by decide +kernel
theorem dL_refusesStrings_246 : decode cL_refusesStrings 246 = .ok (.aload_n 0, 1) := by decide +kernel
theorem dL_refusesStrings_247 : decode cL_refusesStrings 247 = .ok (.iconst 0, 1) := by decide +kernel
theorem dL_refusesStrings_248 : decode cL_refusesStrings 248 = .ok (.iconst 1, 1) := by decide +kernel
theorem dL_refusesStrings_249 : decode cL_refusesStrings 249 = .ok (.iconst 1, 1) := by decide +kernel
theorem dL_refusesStrings_250 : decode cL_refusesStrings 250 = .ok (.iload_n 3, 1) := by decide +kernel
theorem dL_refusesStrings_251 : decode cL_refusesStrings 251 = .ok (.invokevirtual 63, 3) := by decide +kernel
theorem dL_refusesStrings_254 : decode cL_refusesStrings 254 = .ok (.iconst (-1), 1) := by decide +kernel
theorem dL_refusesStrings_255 : decode cL_refusesStrings 255 = .ok (.if_icmp .eq 5, 3) := by decide +kernel
theorem dL_refusesStrings_258 : decode cL_refusesStrings 258 = .ok (.iconst 0, 1) := by decide +kernel
theorem dL_refusesStrings_259 : decode cL_refusesStrings 259 = .ok (.ireturn, 1) := by decide +kernel
theorem dL_refusesStrings_260 : decode cL_refusesStrings 260 = .ok (.iload_n 1, 1) := by decide +kernel
theorem dL_refusesStrings_261 : decode cL_refusesStrings 261 = .ok (.ifCond .ne 9, 3) := by decide +kernel
theorem dL_refusesStrings_264 : decode cL_refusesStrings 264 = .ok (.sipush 2520, 3) := by decide +kernel
theorem dL_refusesStrings_267 : decode cL_refusesStrings 267 = .ok (.goto 4, 3) := by decide +kernel
theorem dL_refusesStrings_270 : decode cL_refusesStrings 270 = .ok (.iconst 0, 1) := by decide +kernel
theorem dL_refusesStrings_271 : decode cL_refusesStrings 271 = .ok (.istore 4, 2) := by decide +kernel
theorem dL_refusesStrings_273 : decode cL_refusesStrings 273 = .ok (.aload_n 0, 1) := by decide +kernel
theorem dL_refusesStrings_274 : decode cL_refusesStrings 274 = .ok (.iconst 0, 1) := by decide +kernel
theorem dL_refusesStrings_275 : decode cL_refusesStrings 275 = .ok (.iload 4, 2) := by decide +kernel
theorem dL_refusesStrings_277 : decode cL_refusesStrings 277 = .ok (.iconst 1, 1) := by decide +kernel
theorem dL_refusesStrings_278 : decode cL_refusesStrings 278 = .ok (.invokevirtual 48, 3) := by decide +kernel
theorem dL_refusesStrings_281 : decode cL_refusesStrings 281 = .ok (.iconst (-1), 1) := by decide +kernel
theorem dL_refusesStrings_282 : decode cL_refusesStrings 282 = .ok (.if_icmp .ne 27, 3) := by decide +kernel
theorem dL_refusesStrings_285 : decode cL_refusesStrings 285 = .ok (.aload_n 0, 1) := by decide +kernel
theorem dL_refusesStrings_286 : decode cL_refusesStrings 286 = .ok (.iconst 0, 1) := by decide +kernel
theorem dL_refusesStrings_287 : decode cL_refusesStrings 287 = .ok (.iconst 1, 1) := by decide +kernel
theorem dL_refusesStrings_288 : decode cL_refusesStrings 288 = .ok (.iload 4, 2) := by decide +kernel
theorem dL_refusesStrings_290 : decode cL_refusesStrings 290 = .ok (.invokevirtual 54, 3) := by decide +kernel
theorem dL_refusesStrings_293 : decode cL_refusesStrings 293 = .ok (.iconst (-1), 1) := by decide +kernel
theorem dL_refusesStrings_294 : decode cL_refusesStrings 294 = .ok (.if_icmp .ne 15, 3) := by decide +kernel
theorem dL_refusesStrings_297 : decode cL_refusesStrings 297 = .ok (.aload_n 0, 1) := by decide +kernel
theorem dL_refusesStrings_298 : decode cL_refusesStrings 298 = .ok (.iconst 0, 1) := by decide +kernel
theorem dL_refusesStrings_299 : decode cL_refusesStrings 299 = .ok (.iconst 1, 1) := by decide +kernel
theorem dL_refusesStrings_300 : decode cL_refusesStrings 300 = .ok (.iload 4, 2) := by decide +kernel
theorem dL_refusesStrings_302 : decode cL_refusesStrings 302 = .ok (.invokevirtual 57, 3) := by decide +kernel
theorem dL_refusesStrings_305 : decode cL_refusesStrings 305 = .ok (.iconst (-1), 1) := by decide +kernel
theorem dL_refusesStrings_306 : decode cL_refusesStrings 306 = .ok (.if_icmp .eq 5, 3) := by decide +kernel
theorem dL_refusesStrings_309 : decode cL_refusesStrings 309 = .ok (.iconst 0, 1) := by decide +kernel
theorem dL_refusesStrings_310 : decode cL_refusesStrings 310 = .ok (.ireturn, 1) := by decide +kernel
theorem dL_refusesStrings_311 : decode cL_refusesStrings 311 = .ok (.iinc 1 1, 3) := by decide +kernel
theorem dL_refusesStrings_314 : decode cL_refusesStrings 314 = .ok (.goto (-312), 3) := by decide +kernel
theorem dL_refusesStrings_317 : decode cL_refusesStrings 317 = .ok (.aload_n 0, 1) := by decide +kernel
theorem dL_refusesStrings_318 : decode cL_refusesStrings 318 = .ok (.iconst 0, 1) := by decide +kernel
theorem dL_refusesStrings_319 : decode cL_refusesStrings 319 = .ok (.sipush 999, 3) := by decide +kernel
theorem dL_refusesStrings_322 : decode cL_refusesStrings 322 = .ok (.invokevirtual 39, 3) := by decide +kernel
theorem dL_refusesStrings_325 : decode cL_refusesStrings 325 = .ok (.iconst (-1), 1) := by decide +kernel
theorem dL_refusesStrings_326 : decode cL_refusesStrings 326 = .ok (.if_icmp .ne 156, 3) := by decide +kernel
theorem dL_refusesStrings_329 : decode cL_refusesStrings 329 = .ok (.aload_n 0, 1) := by decide +kernel
theorem dL_refusesStrings_330 : decode cL_refusesStrings 330 = .ok (.iconst 0, 1) := by decide +kernel
theorem dL_refusesStrings_331 : decode cL_refusesStrings 331 = .ok (.ldc 70, 2) := by decide +kernel
theorem dL_refusesStrings_333 : decode cL_refusesStrings 333 = .ok (.invokevirtual 39, 3) := by decide +kernel
theorem dL_refusesStrings_336 : decode cL_refusesStrings 336 = .ok (.iconst (-1), 1) := by decide +kernel
theorem dL_refusesStrings_337 : decode cL_refusesStrings 337 = .ok (.if_icmp .ne 145, 3) := by decide +kernel
theorem dL_refusesStrings_340 : decode cL_refusesStrings 340 = .ok (.aload_n 0, 1) := by decide +kernel
theorem dL_refusesStrings_341 : decode cL_refusesStrings 341 = .ok (.iconst 0, 1) := by decide +kernel
theorem dL_refusesStrings_342 : decode cL_refusesStrings 342 = .ok (.sipush 2520, 3) := by decide +kernel
theorem dL_refusesStrings_345 : decode cL_refusesStrings 345 = .ok (.invokevirtual 45, 3) := by decide +kernel
theorem dL_refusesStrings_348 : decode cL_refusesStrings 348 = .ok (.iconst (-1), 1) := by decide +kernel
theorem dL_refusesStrings_349 : decode cL_refusesStrings 349 = .ok (.if_icmp .ne 133, 3) := by decide +kernel
theorem dL_refusesStrings_352 : decode cL_refusesStrings 352 = .ok (.aload_n 0, 1) := by decide +kernel
theorem dL_refusesStrings_353 : decode cL_refusesStrings 353 = .ok (.iconst 0, 1) := by decide +kernel
theorem dL_refusesStrings_354 : decode cL_refusesStrings 354 = .ok (.iconst (-1), 1) := by decide +kernel
theorem dL_refusesStrings_355 : decode cL_refusesStrings 355 = .ok (.invokevirtual 45, 3) := by decide +kernel
theorem dL_refusesStrings_358 : decode cL_refusesStrings 358 = .ok (.iconst (-1), 1) := by decide +kernel
theorem dL_refusesStrings_359 : decode cL_refusesStrings 359 = .ok (.if_icmp .ne 123, 3) := by decide +kernel
theorem dL_refusesStrings_362 : decode cL_refusesStrings 362 = .ok (.aload_n 0, 1) := by decide +kernel
theorem dL_refusesStrings_363 : decode cL_refusesStrings 363 = .ok (.iconst 0, 1) := by decide +kernel
theorem dL_refusesStrings_364 : decode cL_refusesStrings 364 = .ok (.sipush 2519, 3) := by decide +kernel
theorem dL_refusesStrings_367 : decode cL_refusesStrings 367 = .ok (.iconst 0, 1) := by decide +kernel
theorem dL_refusesStrings_368 : decode cL_refusesStrings 368 = .ok (.invokevirtual 48, 3) := by decide +kernel
theorem dL_refusesStrings_371 : decode cL_refusesStrings 371 = .ok (.iconst (-1), 1) := by decide +kernel
theorem dL_refusesStrings_372 : decode cL_refusesStrings 372 = .ok (.if_icmp .ne 110, 3) := by decide +kernel
theorem dL_refusesStrings_375 : decode cL_refusesStrings 375 = .ok (.aload_n 0, 1) := by decide +kernel
theorem dL_refusesStrings_376 : decode cL_refusesStrings 376 = .ok (.iconst 0, 1) := by decide +kernel
theorem dL_refusesStrings_377 : decode cL_refusesStrings 377 = .ok (.sipush 2519, 3) := by decide +kernel
theorem dL_refusesStrings_380 : decode cL_refusesStrings 380 = .ok (.sipush 1001, 3) := by decide +kernel
theorem dL_refusesStrings_383 : decode cL_refusesStrings 383 = .ok (.invokevirtual 48, 3) := by decide +kernel
theorem dL_refusesStrings_386 : decode cL_refusesStrings 386 = .ok (.iconst (-1), 1) := by decide +kernel
theorem dL_refusesStrings_387 : decode cL_refusesStrings 387 = .ok (.if_icmp .ne 95, 3) := by decide +kernel
theorem dL_refusesStrings_390 : decode cL_refusesStrings 390 = .ok (.aload_n 0, 1) := by decide +kernel
theorem dL_refusesStrings_391 : decode cL_refusesStrings 391 = .ok (.iconst 0, 1) := by decide +kernel
theorem dL_refusesStrings_392 : decode cL_refusesStrings 392 = .ok (.bipush 9, 2) := by decide +kernel
theorem dL_refusesStrings_394 : decode cL_refusesStrings 394 = .ok (.invokevirtual 29, 3) := by decide +kernel
theorem dL_refusesStrings_397 : decode cL_refusesStrings 397 = .ok (.iconst (-1), 1) := by decide +kernel
theorem dL_refusesStrings_398 : decode cL_refusesStrings 398 = .ok (.if_icmp .ne 84, 3) := by decide +kernel
theorem dL_refusesStrings_401 : decode cL_refusesStrings 401 = .ok (.aload_n 0, 1) := by decide +kernel
theorem dL_refusesStrings_402 : decode cL_refusesStrings 402 = .ok (.iconst 0, 1) := by decide +kernel
theorem dL_refusesStrings_403 : decode cL_refusesStrings 403 = .ok (.iconst (-1), 1) := by decide +kernel
theorem dL_refusesStrings_404 : decode cL_refusesStrings 404 = .ok (.invokevirtual 29, 3) := by decide +kernel
theorem dL_refusesStrings_407 : decode cL_refusesStrings 407 = .ok (.iconst (-1), 1) := by decide +kernel
theorem dL_refusesStrings_408 : decode cL_refusesStrings 408 = .ok (.if_icmp .ne 74, 3) := by decide +kernel
theorem dL_refusesStrings_411 : decode cL_refusesStrings 411 = .ok (.aload_n 0, 1) := by decide +kernel
theorem dL_refusesStrings_412 : decode cL_refusesStrings 412 = .ok (.iconst 0, 1) := by decide +kernel
theorem dL_refusesStrings_413 : decode cL_refusesStrings 413 = .ok (.iconst 1, 1) := by decide +kernel
theorem dL_refusesStrings_414 : decode cL_refusesStrings 414 = .ok (.iconst 3, 1) := by decide +kernel
theorem dL_refusesStrings_415 : decode cL_refusesStrings 415 = .ok (.invokevirtual 32, 3) := by decide +kernel
theorem dL_refusesStrings_418 : decode cL_refusesStrings 418 = .ok (.iconst (-1), 1) := by decide +kernel
theorem dL_refusesStrings_419 : decode cL_refusesStrings 419 = .ok (.if_icmp .ne 63, 3) := by decide +kernel
theorem dL_refusesStrings_422 : decode cL_refusesStrings 422 = .ok (.aload_n 0, 1) := by decide +kernel
theorem dL_refusesStrings_423 : decode cL_refusesStrings 423 = .ok (.iconst 0, 1) := by decide +kernel
theorem dL_refusesStrings_424 : decode cL_refusesStrings 424 = .ok (.iconst 1, 1) := by decide +kernel
theorem dL_refusesStrings_425 : decode cL_refusesStrings 425 = .ok (.iconst (-1), 1) := by decide +kernel
theorem dL_refusesStrings_426 : decode cL_refusesStrings 426 = .ok (.invokevirtual 32, 3) := by decide +kernel
theorem dL_refusesStrings_429 : decode cL_refusesStrings 429 = .ok (.iconst (-1), 1) := by decide +kernel
theorem dL_refusesStrings_430 : decode cL_refusesStrings 430 = .ok (.if_icmp .ne 52, 3) := by decide +kernel
theorem dL_refusesStrings_433 : decode cL_refusesStrings 433 = .ok (.aload_n 0, 1) := by decide +kernel
theorem dL_refusesStrings_434 : decode cL_refusesStrings 434 = .ok (.iconst 1, 1) := by decide +kernel
theorem dL_refusesStrings_435 : decode cL_refusesStrings 435 = .ok (.iconst 1, 1) := by decide +kernel
theorem dL_refusesStrings_436 : decode cL_refusesStrings 436 = .ok (.iconst 1, 1) := by decide +kernel
theorem dL_refusesStrings_437 : decode cL_refusesStrings 437 = .ok (.iconst 2, 1) := by decide +kernel
theorem dL_refusesStrings_438 : decode cL_refusesStrings 438 = .ok (.invokevirtual 63, 3) := by decide +kernel
theorem dL_refusesStrings_441 : decode cL_refusesStrings 441 = .ok (.iconst (-1), 1) := by decide +kernel
theorem dL_refusesStrings_442 : decode cL_refusesStrings 442 = .ok (.if_icmp .ne 40, 3) := by decide +kernel
theorem dL_refusesStrings_445 : decode cL_refusesStrings 445 = .ok (.aload_n 0, 1) := by decide +kernel
theorem dL_refusesStrings_446 : decode cL_refusesStrings 446 = .ok (.iconst 1, 1) := by decide +kernel
theorem dL_refusesStrings_447 : decode cL_refusesStrings 447 = .ok (.iconst 1, 1) := by decide +kernel
theorem dL_refusesStrings_448 : decode cL_refusesStrings 448 = .ok (.iconst 0, 1) := by decide +kernel
theorem dL_refusesStrings_449 : decode cL_refusesStrings 449 = .ok (.invokevirtual 67, 3) := by decide +kernel
theorem dL_refusesStrings_452 : decode cL_refusesStrings 452 = .ok (.iconst (-1), 1) := by decide +kernel
theorem dL_refusesStrings_453 : decode cL_refusesStrings 453 = .ok (.if_icmp .ne 29, 3) := by decide +kernel
theorem dL_refusesStrings_456 : decode cL_refusesStrings 456 = .ok (.aload_n 0, 1) := by decide +kernel
theorem dL_refusesStrings_457 : decode cL_refusesStrings 457 = .ok (.iconst 0, 1) := by decide +kernel
theorem dL_refusesStrings_458 : decode cL_refusesStrings 458 = .ok (.iconst 1, 1) := by decide +kernel
theorem dL_refusesStrings_459 : decode cL_refusesStrings 459 = .ok (.iconst 3, 1) := by decide +kernel
theorem dL_refusesStrings_460 : decode cL_refusesStrings 460 = .ok (.invokevirtual 67, 3) := by decide +kernel
theorem dL_refusesStrings_463 : decode cL_refusesStrings 463 = .ok (.iconst (-1), 1) := by decide +kernel
theorem dL_refusesStrings_464 : decode cL_refusesStrings 464 = .ok (.if_icmp .ne 18, 3) := by decide +kernel
theorem dL_refusesStrings_467 : decode cL_refusesStrings 467 = .ok (.aload_n 0, 1) := by decide +kernel
theorem dL_refusesStrings_468 : decode cL_refusesStrings 468 = .ok (.iconst 0, 1) := by decide +kernel
theorem dL_refusesStrings_469 : decode cL_refusesStrings 469 = .ok (.iconst 1, 1) := by decide +kernel
theorem dL_refusesStrings_470 : decode cL_refusesStrings 470 = .ok (.iconst (-1), 1) := by decide +kernel
theorem dL_refusesStrings_471 : decode cL_refusesStrings 471 = .ok (.invokevirtual 67, 3) := by decide +kernel
theorem dL_refusesStrings_474 : decode cL_refusesStrings 474 = .ok (.iconst (-1), 1) := by decide +kernel
theorem dL_refusesStrings_475 : decode cL_refusesStrings 475 = .ok (.if_icmp .ne 7, 3) := by decide +kernel
theorem dL_refusesStrings_478 : decode cL_refusesStrings 478 = .ok (.iconst 1, 1) := by decide +kernel
theorem dL_refusesStrings_479 : decode cL_refusesStrings 479 = .ok (.goto 4, 3) := by decide +kernel
theorem dL_refusesStrings_482 : decode cL_refusesStrings 482 = .ok (.iconst 0, 1) := by decide +kernel
theorem dL_refusesStrings_483 : decode cL_refusesStrings 483 = .ok (.ireturn, 1) := by decide +kernel
