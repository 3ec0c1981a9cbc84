theorem dL_law_326 : decode cL_law 326 = .ok (.iload_n 3, 1) := o29 hcL_law rfl
theorem dL_law_327 : decode cL_law 327 = .ok (.iconst 2, 1) := o5 hcL_law rfl
theorem dL_law_328 : decode cL_law 328 = .ok (.iadd, 1) := o96 hcL_law rfl
theorem dL_law_329 : decode cL_law 329 = .ok (.iaload, 1) := o46 hcL_law rfl
theorem dL_law_330 : decode cL_law 330 = .ok (.invokevirtual 27, 3) := o182 hcL_law rfl
theorem dL_law_333 : decode cL_law 333 = .ok (.pop, 1) := o87 hcL_law rfl
theorem dL_law_334 : decode cL_law 334 = .ok (.aload_n 2, 1) := o44 hcL_law rfl
theorem dL_law_335 : decode cL_law 335 = .ok (.aload_n 0, 1) := o42 hcL_law rfl
theorem dL_law_336 : decode cL_law 336 = .ok (.iload_n 3, 1) := o29 hcL_law rfl
theorem dL_law_337 : decode cL_law 337 = .ok (.iconst 1, 1) := o4 hcL_law rfl
theorem dL_law_338 : decode cL_law 338 = .ok (.iadd, 1) := o96 hcL_law rfl
theorem dL_law_339 : decode cL_law 339 = .ok (.iaload, 1) := o46 hcL_law rfl
theorem dL_law_340 : decode cL_law 340 = .ok (.aload_n 0, 1) := o42 hcL_law rfl
theorem dL_law_341 : decode cL_law 341 = .ok (.iload_n 3, 1) := o29 hcL_law rfl
theorem dL_law_342 : decode cL_law 342 = .ok (.iconst 2, 1) := o5 hcL_law rfl
theorem dL_law_343 : decode cL_law 343 = .ok (.iadd, 1) := o96 hcL_law rfl
theorem dL_law_344 : decode cL_law 344 = .ok (.iaload, 1) := o46 hcL_law rfl
theorem dL_law_345 : decode cL_law 345 = .ok (.invokevirtual 30, 3) := o182 hcL_law rfl
theorem dL_law_348 : decode cL_law 348 = .ok (.pop, 1) := o87 hcL_law rfl
theorem dL_law_349 : decode cL_law 349 = .ok (.goto 1147, 3) := o167 hcL_law (a := 1147) rfl rfl
theorem dL_law_352 : decode cL_law 352 = .ok (.aload_n 1, 1) := o43 hcL_law rfl
theorem dL_law_353 : decode cL_law 353 = .ok (.aload_n 0, 1) := o42 hcL_law rfl
theorem dL_law_354 : decode cL_law 354 = .ok (.iload_n 3, 1) := o29 hcL_law rfl
theorem dL_law_355 : decode cL_law 355 = .ok (.iconst 1, 1) := o4 hcL_law rfl
theorem dL_law_356 : decode cL_law 356 = .ok (.iadd, 1) := o96 hcL_law rfl
theorem dL_law_357 : decode cL_law 357 = .ok (.iaload, 1) := o46 hcL_law rfl
theorem dL_law_358 : decode cL_law 358 = .ok (.aload_n 0, 1) := o42 hcL_law rfl
theorem dL_law_359 : decode cL_law 359 = .ok (.iload_n 3, 1) := o29 hcL_law rfl
theorem dL_law_360 : decode cL_law 360 = .ok (.iconst 2, 1) := o5 hcL_law rfl
theorem dL_law_361 : decode cL_law 361 = .ok (.iadd, 1) := o96 hcL_law rfl
theorem dL_law_362 : decode cL_law 362 = .ok (.iaload, 1) := o46 hcL_law rfl
theorem dL_law_363 : decode cL_law 363 = .ok (.invokevirtual 31, 3) := o182 hcL_law rfl
theorem dL_law_366 : decode cL_law 366 = .ok (.pop, 1) := o87 hcL_law rfl
theorem dL_law_367 : decode cL_law 367 = .ok (.aload_n 2, 1) := o44 hcL_law rfl
theorem dL_law_368 : decode cL_law 368 = .ok (.aload_n 0, 1) := o42 hcL_law rfl
theorem dL_law_369 : decode cL_law 369 = .ok (.iload_n 3, 1) := o29 hcL_law rfl
theorem dL_law_370 : decode cL_law 370 = .ok (.iconst 1, 1) := o4 hcL_law rfl
theorem dL_law_371 : decode cL_law 371 = .ok (.iadd, 1) := o96 hcL_law rfl
theorem dL_law_372 : decode cL_law 372 = .ok (.iaload, 1) := o46 hcL_law rfl
theorem dL_law_373 : decode cL_law 373 = .ok (.aload_n 0, 1) := o42 hcL_law rfl
theorem dL_law_374 : decode cL_law 374 = .ok (.iload_n 3, 1) := o29 hcL_law rfl
theorem dL_law_375 : decode cL_law 375 = .ok (.iconst 2, 1) := o5 hcL_law rfl
theorem dL_law_376 : decode cL_law 376 = .ok (.iadd, 1) := o96 hcL_law rfl
theorem dL_law_377 : decode cL_law 377 = .ok (.iaload, 1) := o46 hcL_law rfl
theorem dL_law_378 : decode cL_law 378 = .ok (.invokevirtual 34, 3) := o182 hcL_law rfl
theorem dL_law_381 : decode cL_law 381 = .ok (.pop, 1) := o87 hcL_law rfl
theorem dL_law_382 : decode cL_law 382 = .ok (.goto 1114, 3) := o167 hcL_law (a := 1114) rfl rfl
theorem dL_law_385 : decode cL_law 385 = .ok (.aload_n 1, 1) := o43 hcL_law rfl
theorem dL_law_386 : decode cL_law 386 = .ok (.aload_n 0, 1) := o42 hcL_law rfl
theorem dL_law_387 : decode cL_law 387 = .ok (.iload_n 3, 1) := o29 hcL_law rfl
theorem dL_law_388 : decode cL_law 388 = .ok (.iconst 1, 1) := o4 hcL_law rfl
theorem dL_law_389 : decode cL_law 389 = .ok (.iadd, 1) := o96 hcL_law rfl
theorem dL_law_390 : decode cL_law 390 = .ok (.iaload, 1) := o46 hcL_law rfl
theorem dL_law_391 : decode cL_law 391 = .ok (.aload_n 0, 1) := o42 hcL_law rfl
theorem dL_law_392 : decode cL_law 392 = .ok (.iload_n 3, 1) := o29 hcL_law rfl
theorem dL_law_393 : decode cL_law 393 = .ok (.iconst 2, 1) := o5 hcL_law rfl
theorem dL_law_394 : decode cL_law 394 = .ok (.iadd, 1) := o96 hcL_law rfl
theorem dL_law_395 : decode cL_law 395 = .ok (.iaload, 1) := o46 hcL_law rfl
theorem dL_law_396 : decode cL_law 396 = .ok (.aload_n 0, 1) := o42 hcL_law rfl
theorem dL_law_397 : decode cL_law 397 = .ok (.iload_n 3, 1) := o29 hcL_law rfl
theorem dL_law_398 : decode cL_law 398 = .ok (.iconst 3, 1) := o6 hcL_law rfl
theorem dL_law_399 : decode cL_law 399 = .ok (.iadd, 1) := o96 hcL_law rfl
theorem dL_law_400 : decode cL_law 400 = .ok (.iaload, 1) := o46 hcL_law rfl
theorem dL_law_401 : decode cL_law 401 = .ok (.ifCond .eq 7, 3) := o153 hcL_law (a := 7) rfl rfl
theorem dL_law_404 : decode cL_law 404 = .ok (.iconst 1, 1) := o4 hcL_law rfl
theorem dL_law_405 : decode cL_law 405 = .ok (.goto 4, 3) := o167 hcL_law (a := 4) rfl rfl
theorem dL_law_408 : decode cL_law 408 = .ok (.iconst 0, 1) := o3 hcL_law rfl
theorem dL_law_409 : decode cL_law 409 = .ok (.invokevirtual 35, 3) := o182 hcL_law rfl
theorem dL_law_412 : decode cL_law 412 = .ok (.pop, 1) := o87 hcL_law rfl
theorem dL_law_413 : decode cL_law 413 = .ok (.aload_n 2, 1) := o44 hcL_law rfl
theorem dL_law_414 : decode cL_law 414 = .ok (.aload_n 0, 1) := o42 hcL_law rfl
theorem dL_law_415 : decode cL_law 415 = .ok (.iload_n 3, 1) := o29 hcL_law rfl
theorem dL_law_416 : decode cL_law 416 = .ok (.iconst 1, 1) := o4 hcL_law rfl
theorem dL_law_417 : decode cL_law 417 = .ok (.iadd, 1) := o96 hcL_law rfl
theorem dL_law_418 : decode cL_law 418 = .ok (.iaload, 1) := o46 hcL_law rfl
theorem dL_law_419 : decode cL_law 419 = .ok (.aload_n 0, 1) := o42 hcL_law rfl
theorem dL_law_420 : decode cL_law 420 = .ok (.iload_n 3, 1) := o29 hcL_law rfl
theorem dL_law_421 : decode cL_law 421 = .ok (.iconst 2, 1) := o5 hcL_law rfl
theorem dL_law_422 : decode cL_law 422 = .ok (.iadd, 1) := o96 hcL_law rfl
theorem dL_law_423 : decode cL_law 423 = .ok (.iaload, 1) := o46 hcL_law rfl
theorem dL_law_424 : decode cL_law 424 = .ok (.aload_n 0, 1) := o42 hcL_law rfl
theorem dL_law_425 : decode cL_law 425 = .ok (.iload_n 3, 1) := o29 hcL_law rfl
theorem dL_law_426 : decode cL_law 426 = .ok (.iconst 3, 1) := o6 hcL_law rfl
theorem dL_law_427 : decode cL_law 427 = .ok (.iadd, 1) := o96 hcL_law rfl
theorem dL_law_428 : decode cL_law 428 = .ok (.iaload, 1) := o46 hcL_law rfl
theorem dL_law_429 : decode cL_law 429 = .ok (.ifCond .eq 7, 3) := o153 hcL_law (a := 7) rfl rfl
theorem dL_law_432 : decode cL_law 432 = .ok (.iconst 1, 1) := o4 hcL_law rfl
theorem dL_law_433 : decode cL_law 433 = .ok (.goto 4, 3) := o167 hcL_law (a := 4) rfl rfl
theorem dL_law_436 : decode cL_law 436 = .ok (.iconst 0, 1) := o3 hcL_law rfl
theorem dL_law_437 : decode cL_law 437 = .ok (.invokevirtual 39, 3) := o182 hcL_law rfl
theorem dL_law_440 : decode cL_law 440 = .ok (.pop, 1) := o87 hcL_law rfl
theorem dL_law_441 : decode cL_law 441 = .ok (.goto 1055, 3) := o167 hcL_law (a := 1055) rfl rfl
theorem dL_law_444 : decode cL_law 444 = .ok (.aload_n 1, 1) := o43 hcL_law rfl
theorem dL_law_445 : decode cL_law 445 = .ok (.aload_n 0, 1) := o42 hcL_law rfl
theorem dL_law_446 : decode cL_law 446 = .ok (.iload_n 3, 1) := o29 hcL_law rfl
theorem dL_law_447 : decode cL_law 447 = .ok (.iconst 1, 1) := o4 hcL_law rfl
theorem dL_law_448 : decode cL_law 448 = .ok (.iadd, 1) := o96 hcL_law rfl
theorem dL_law_449 : decode cL_law 449 = .ok (.iaload, 1) := o46 hcL_law rfl
theorem dL_law_450 : decode cL_law 450 = .ok (.aload_n 0, 1) := o42 hcL_law rfl
theorem dL_law_451 : decode cL_law 451 = .ok (.iload_n 3, 1) := o29 hcL_law rfl
theorem dL_law_452 : decode cL_law 452 = .ok (.iconst 2, 1) := o5 hcL_law rfl
theorem dL_law_453 : decode cL_law 453 = .ok (.iadd, 1) := o96 hcL_law rfl
theorem dL_law_454 : decode cL_law 454 = .ok (.iaload, 1) := o46 hcL_law rfl
theorem dL_law_455 : decode cL_law 455 = .ok (.invokevirtual 40, 3) := o182 hcL_law rfl
theorem dL_law_458 : decode cL_law 458 = .ok (.pop, 1) := o87 hcL_law rfl
theorem dL_law_459 : decode cL_law 459 = .ok (.aload_n 2, 1) := o44 hcL_law rfl
theorem dL_law_460 : decode cL_law 460 = .ok (.aload_n 0, 1) := o42 hcL_law rfl
theorem dL_law_461 : decode cL_law 461 = .ok (.iload_n 3, 1) := o29 hcL_law rfl
theorem dL_law_462 : decode cL_law 462 = .ok (.iconst 1, 1) := o4 hcL_law rfl
theorem dL_law_463 : decode cL_law 463 = .ok (.iadd, 1) := o96 hcL_law rfl
theorem dL_law_464 : decode cL_law 464 = .ok (.iaload, 1) := o46 hcL_law rfl
theorem dL_law_465 : decode cL_law 465 = .ok (.aload_n 0, 1) := o42 hcL_law rfl
theorem dL_law_466 : decode cL_law 466 = .ok (.iload_n 3, 1) := o29 hcL_law rfl
theorem dL_law_467 : decode cL_law 467 = .ok (.iconst 2, 1) := o5 hcL_law rfl
theorem dL_law_468 : decode cL_law 468 = .ok (.iadd, 1) := o96 hcL_law rfl
theorem dL_law_469 : decode cL_law 469 = .ok (.iaload, 1) := o46 hcL_law rfl
theorem dL_law_470 : decode cL_law 470 = .ok (.invokevirtual 43, 3) := o182 hcL_law rfl
theorem dL_law_473 : decode cL_law 473 = .ok (.pop, 1) := o87 hcL_law rfl
theorem dL_law_474 : decode cL_law 474 = .ok (.goto 1022, 3) := o167 hcL_law (a := 1022) rfl rfl
theorem dL_law_477 : decode cL_law 477 = .ok (.aload_n 1, 1) := o43 hcL_law rfl
theorem dL_law_478 : decode cL_law 478 = .ok (.aload_n 0, 1) := o42 hcL_law rfl
theorem dL_law_479 : decode cL_law 479 = .ok (.iload_n 3, 1) := o29 hcL_law rfl
theorem dL_law_480 : decode cL_law 480 = .ok (.iconst 1, 1) := o4 hcL_law rfl
theorem dL_law_481 : decode cL_law 481 = .ok (.iadd, 1) := o96 hcL_law rfl
theorem dL_law_482 : decode cL_law 482 = .ok (.iaload, 1) := o46 hcL_law rfl
theorem dL_law_483 : decode cL_law 483 = .ok (.aload_n 0, 1) := o42 hcL_law rfl
theorem dL_law_484 : decode cL_law 484 = .ok (.iload_n 3, 1) := o29 hcL_law rfl
theorem dL_law_485 : decode cL_law 485 = .ok (.iconst 2, 1) := o5 hcL_law rfl
theorem dL_law_486 : decode cL_law 486 = .ok (.iadd, 1) := o96 hcL_law rfl
theorem dL_law_487 : decode cL_law 487 = .ok (.iaload, 1) := o46 hcL_law rfl
