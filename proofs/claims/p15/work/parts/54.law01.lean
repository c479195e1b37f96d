theorem dL_law_344_g : (decode cL_law 344 = .ok (.iadd, 1)) ∧ (decode cL_law 345 = .ok (.iaload, 1)) ∧ (decode cL_law 346 = .ok (.aload_n 0, 1)) ∧ (decode cL_law 347 = .ok (.iload 4, 2)) ∧ (decode cL_law 349 = .ok (.iconst 2, 1)) ∧ (decode cL_law 350 = .ok (.iadd, 1)) ∧ (decode cL_law 351 = .ok (.iaload, 1)) ∧ (decode cL_law 352 = .ok (.aload_n 0, 1)) := by decide +kernel
theorem dL_law_344 : decode cL_law 344 = .ok (.iadd, 1) := dL_law_344_g.1
theorem dL_law_345 : decode cL_law 345 = .ok (.iaload, 1) := dL_law_344_g.2.1
theorem dL_law_346 : decode cL_law 346 = .ok (.aload_n 0, 1) := dL_law_344_g.2.2.1
theorem dL_law_347 : decode cL_law 347 = .ok (.iload 4, 2) := dL_law_344_g.2.2.2.1
theorem dL_law_349 : decode cL_law 349 = .ok (.iconst 2, 1) := dL_law_344_g.2.2.2.2.1
theorem dL_law_350 : decode cL_law 350 = .ok (.iadd, 1) := dL_law_344_g.2.2.2.2.2.1
theorem dL_law_351 : decode cL_law 351 = .ok (.iaload, 1) := dL_law_344_g.2.2.2.2.2.2.1
theorem dL_law_352 : decode cL_law 352 = .ok (.aload_n 0, 1) := dL_law_344_g.2.2.2.2.2.2.2
theorem dL_law_353_g : (decode cL_law 353 = .ok (.iload 4, 2)) ∧ (decode cL_law 355 = .ok (.iconst 3, 1)) ∧ (decode cL_law 356 = .ok (.iadd, 1)) ∧ (decode cL_law 357 = .ok (.iaload, 1)) ∧ (decode cL_law 358 = .ok (.invokevirtual 38, 3)) ∧ (decode cL_law 361 = .ok (.pop, 1)) ∧ (decode cL_law 362 = .ok (.aload_n 2, 1)) ∧ (decode cL_law 363 = .ok (.aload_n 0, 1)) := by decide +kernel
theorem dL_law_353 : decode cL_law 353 = .ok (.iload 4, 2) := dL_law_353_g.1
theorem dL_law_355 : decode cL_law 355 = .ok (.iconst 3, 1) := dL_law_353_g.2.1
theorem dL_law_356 : decode cL_law 356 = .ok (.iadd, 1) := dL_law_353_g.2.2.1
theorem dL_law_357 : decode cL_law 357 = .ok (.iaload, 1) := dL_law_353_g.2.2.2.1
theorem dL_law_358 : decode cL_law 358 = .ok (.invokevirtual 38, 3) := dL_law_353_g.2.2.2.2.1
theorem dL_law_361 : decode cL_law 361 = .ok (.pop, 1) := dL_law_353_g.2.2.2.2.2.1
theorem dL_law_362 : decode cL_law 362 = .ok (.aload_n 2, 1) := dL_law_353_g.2.2.2.2.2.2.1
theorem dL_law_363 : decode cL_law 363 = .ok (.aload_n 0, 1) := dL_law_353_g.2.2.2.2.2.2.2
theorem dL_law_364_g : (decode cL_law 364 = .ok (.iload 4, 2)) ∧ (decode cL_law 366 = .ok (.iconst 1, 1)) ∧ (decode cL_law 367 = .ok (.iadd, 1)) ∧ (decode cL_law 368 = .ok (.iaload, 1)) ∧ (decode cL_law 369 = .ok (.aload_n 0, 1)) ∧ (decode cL_law 370 = .ok (.iload 4, 2)) ∧ (decode cL_law 372 = .ok (.iconst 2, 1)) ∧ (decode cL_law 373 = .ok (.iadd, 1)) := by decide +kernel
theorem dL_law_364 : decode cL_law 364 = .ok (.iload 4, 2) := dL_law_364_g.1
theorem dL_law_366 : decode cL_law 366 = .ok (.iconst 1, 1) := dL_law_364_g.2.1
theorem dL_law_367 : decode cL_law 367 = .ok (.iadd, 1) := dL_law_364_g.2.2.1
theorem dL_law_368 : decode cL_law 368 = .ok (.iaload, 1) := dL_law_364_g.2.2.2.1
theorem dL_law_369 : decode cL_law 369 = .ok (.aload_n 0, 1) := dL_law_364_g.2.2.2.2.1
theorem dL_law_370 : decode cL_law 370 = .ok (.iload 4, 2) := dL_law_364_g.2.2.2.2.2.1
theorem dL_law_372 : decode cL_law 372 = .ok (.iconst 2, 1) := dL_law_364_g.2.2.2.2.2.2.1
theorem dL_law_373 : decode cL_law 373 = .ok (.iadd, 1) := dL_law_364_g.2.2.2.2.2.2.2
theorem dL_law_374_g : (decode cL_law 374 = .ok (.iaload, 1)) ∧ (decode cL_law 375 = .ok (.aload_n 0, 1)) ∧ (decode cL_law 376 = .ok (.iload 4, 2)) ∧ (decode cL_law 378 = .ok (.iconst 3, 1)) ∧ (decode cL_law 379 = .ok (.iadd, 1)) ∧ (decode cL_law 380 = .ok (.iaload, 1)) ∧ (decode cL_law 381 = .ok (.invokevirtual 41, 3)) ∧ (decode cL_law 384 = .ok (.pop, 1)) := by decide +kernel
theorem dL_law_374 : decode cL_law 374 = .ok (.iaload, 1) := dL_law_374_g.1
theorem dL_law_375 : decode cL_law 375 = .ok (.aload_n 0, 1) := dL_law_374_g.2.1
theorem dL_law_376 : decode cL_law 376 = .ok (.iload 4, 2) := dL_law_374_g.2.2.1
theorem dL_law_378 : decode cL_law 378 = .ok (.iconst 3, 1) := dL_law_374_g.2.2.2.1
theorem dL_law_379 : decode cL_law 379 = .ok (.iadd, 1) := dL_law_374_g.2.2.2.2.1
theorem dL_law_380 : decode cL_law 380 = .ok (.iaload, 1) := dL_law_374_g.2.2.2.2.2.1
theorem dL_law_381 : decode cL_law 381 = .ok (.invokevirtual 41, 3) := dL_law_374_g.2.2.2.2.2.2.1
theorem dL_law_384 : decode cL_law 384 = .ok (.pop, 1) := dL_law_374_g.2.2.2.2.2.2.2
theorem dL_law_385_g : (decode cL_law 385 = .ok (.goto 1209, 3)) ∧ (decode cL_law 388 = .ok (.aload_n 1, 1)) ∧ (decode cL_law 389 = .ok (.aload_n 0, 1)) ∧ (decode cL_law 390 = .ok (.iload 4, 2)) ∧ (decode cL_law 392 = .ok (.iconst 1, 1)) ∧ (decode cL_law 393 = .ok (.iadd, 1)) ∧ (decode cL_law 394 = .ok (.iaload, 1)) ∧ (decode cL_law 395 = .ok (.ifCond .eq 7, 3)) := by decide +kernel
theorem dL_law_385 : decode cL_law 385 = .ok (.goto 1209, 3) := dL_law_385_g.1
theorem dL_law_388 : decode cL_law 388 = .ok (.aload_n 1, 1) := dL_law_385_g.2.1
theorem dL_law_389 : decode cL_law 389 = .ok (.aload_n 0, 1) := dL_law_385_g.2.2.1
theorem dL_law_390 : decode cL_law 390 = .ok (.iload 4, 2) := dL_law_385_g.2.2.2.1
theorem dL_law_392 : decode cL_law 392 = .ok (.iconst 1, 1) := dL_law_385_g.2.2.2.2.1
theorem dL_law_393 : decode cL_law 393 = .ok (.iadd, 1) := dL_law_385_g.2.2.2.2.2.1
theorem dL_law_394 : decode cL_law 394 = .ok (.iaload, 1) := dL_law_385_g.2.2.2.2.2.2.1
theorem dL_law_395 : decode cL_law 395 = .ok (.ifCond .eq 7, 3) := dL_law_385_g.2.2.2.2.2.2.2
theorem dL_law_398_g : (decode cL_law 398 = .ok (.iconst 1, 1)) ∧ (decode cL_law 399 = .ok (.goto 4, 3)) ∧ (decode cL_law 402 = .ok (.iconst 0, 1)) ∧ (decode cL_law 403 = .ok (.aload_n 0, 1)) ∧ (decode cL_law 404 = .ok (.iload 4, 2)) ∧ (decode cL_law 406 = .ok (.iconst 2, 1)) ∧ (decode cL_law 407 = .ok (.iadd, 1)) ∧ (decode cL_law 408 = .ok (.iaload, 1)) := by decide +kernel
theorem dL_law_398 : decode cL_law 398 = .ok (.iconst 1, 1) := dL_law_398_g.1
theorem dL_law_399 : decode cL_law 399 = .ok (.goto 4, 3) := dL_law_398_g.2.1
theorem dL_law_402 : decode cL_law 402 = .ok (.iconst 0, 1) := dL_law_398_g.2.2.1
theorem dL_law_403 : decode cL_law 403 = .ok (.aload_n 0, 1) := dL_law_398_g.2.2.2.1
theorem dL_law_404 : decode cL_law 404 = .ok (.iload 4, 2) := dL_law_398_g.2.2.2.2.1
theorem dL_law_406 : decode cL_law 406 = .ok (.iconst 2, 1) := dL_law_398_g.2.2.2.2.2.1
theorem dL_law_407 : decode cL_law 407 = .ok (.iadd, 1) := dL_law_398_g.2.2.2.2.2.2.1
theorem dL_law_408 : decode cL_law 408 = .ok (.iaload, 1) := dL_law_398_g.2.2.2.2.2.2.2
theorem dL_law_409_g : (decode cL_law 409 = .ok (.aload_n 0, 1)) ∧ (decode cL_law 410 = .ok (.iload 4, 2)) ∧ (decode cL_law 412 = .ok (.iconst 3, 1)) ∧ (decode cL_law 413 = .ok (.iadd, 1)) ∧ (decode cL_law 414 = .ok (.iaload, 1)) ∧ (decode cL_law 415 = .ok (.invokevirtual 42, 3)) ∧ (decode cL_law 418 = .ok (.pop, 1)) ∧ (decode cL_law 419 = .ok (.aload_n 2, 1)) := by decide +kernel
theorem dL_law_409 : decode cL_law 409 = .ok (.aload_n 0, 1) := dL_law_409_g.1
theorem dL_law_410 : decode cL_law 410 = .ok (.iload 4, 2) := dL_law_409_g.2.1
theorem dL_law_412 : decode cL_law 412 = .ok (.iconst 3, 1) := dL_law_409_g.2.2.1
theorem dL_law_413 : decode cL_law 413 = .ok (.iadd, 1) := dL_law_409_g.2.2.2.1
theorem dL_law_414 : decode cL_law 414 = .ok (.iaload, 1) := dL_law_409_g.2.2.2.2.1
theorem dL_law_415 : decode cL_law 415 = .ok (.invokevirtual 42, 3) := dL_law_409_g.2.2.2.2.2.1
theorem dL_law_418 : decode cL_law 418 = .ok (.pop, 1) := dL_law_409_g.2.2.2.2.2.2.1
theorem dL_law_419 : decode cL_law 419 = .ok (.aload_n 2, 1) := dL_law_409_g.2.2.2.2.2.2.2
theorem dL_law_420_g : (decode cL_law 420 = .ok (.aload_n 0, 1)) ∧ (decode cL_law 421 = .ok (.iload 4, 2)) ∧ (decode cL_law 423 = .ok (.iconst 1, 1)) ∧ (decode cL_law 424 = .ok (.iadd, 1)) ∧ (decode cL_law 425 = .ok (.iaload, 1)) ∧ (decode cL_law 426 = .ok (.ifCond .eq 7, 3)) ∧ (decode cL_law 429 = .ok (.iconst 1, 1)) ∧ (decode cL_law 430 = .ok (.goto 4, 3)) := by decide +kernel
theorem dL_law_420 : decode cL_law 420 = .ok (.aload_n 0, 1) := dL_law_420_g.1
theorem dL_law_421 : decode cL_law 421 = .ok (.iload 4, 2) := dL_law_420_g.2.1
theorem dL_law_423 : decode cL_law 423 = .ok (.iconst 1, 1) := dL_law_420_g.2.2.1
theorem dL_law_424 : decode cL_law 424 = .ok (.iadd, 1) := dL_law_420_g.2.2.2.1
theorem dL_law_425 : decode cL_law 425 = .ok (.iaload, 1) := dL_law_420_g.2.2.2.2.1
theorem dL_law_426 : decode cL_law 426 = .ok (.ifCond .eq 7, 3) := dL_law_420_g.2.2.2.2.2.1
theorem dL_law_429 : decode cL_law 429 = .ok (.iconst 1, 1) := dL_law_420_g.2.2.2.2.2.2.1
theorem dL_law_430 : decode cL_law 430 = .ok (.goto 4, 3) := dL_law_420_g.2.2.2.2.2.2.2
theorem dL_law_433_g : (decode cL_law 433 = .ok (.iconst 0, 1)) ∧ (decode cL_law 434 = .ok (.aload_n 0, 1)) ∧ (decode cL_law 435 = .ok (.iload 4, 2)) ∧ (decode cL_law 437 = .ok (.iconst 2, 1)) ∧ (decode cL_law 438 = .ok (.iadd, 1)) ∧ (decode cL_law 439 = .ok (.iaload, 1)) ∧ (decode cL_law 440 = .ok (.aload_n 0, 1)) ∧ (decode cL_law 441 = .ok (.iload 4, 2)) := by decide +kernel
theorem dL_law_433 : decode cL_law 433 = .ok (.iconst 0, 1) := dL_law_433_g.1
theorem dL_law_434 : decode cL_law 434 = .ok (.aload_n 0, 1) := dL_law_433_g.2.1
theorem dL_law_435 : decode cL_law 435 = .ok (.iload 4, 2) := dL_law_433_g.2.2.1
theorem dL_law_437 : decode cL_law 437 = .ok (.iconst 2, 1) := dL_law_433_g.2.2.2.1
theorem dL_law_438 : decode cL_law 438 = .ok (.iadd, 1) := dL_law_433_g.2.2.2.2.1
theorem dL_law_439 : decode cL_law 439 = .ok (.iaload, 1) := dL_law_433_g.2.2.2.2.2.1
theorem dL_law_440 : decode cL_law 440 = .ok (.aload_n 0, 1) := dL_law_433_g.2.2.2.2.2.2.1
theorem dL_law_441 : decode cL_law 441 = .ok (.iload 4, 2) := dL_law_433_g.2.2.2.2.2.2.2
theorem dL_law_443_g : (decode cL_law 443 = .ok (.iconst 3, 1)) ∧ (decode cL_law 444 = .ok (.iadd, 1)) ∧ (decode cL_law 445 = .ok (.iaload, 1)) ∧ (decode cL_law 446 = .ok (.invokevirtual 46, 3)) ∧ (decode cL_law 449 = .ok (.pop, 1)) ∧ (decode cL_law 450 = .ok (.goto 1144, 3)) ∧ (decode cL_law 453 = .ok (.aload_n 1, 1)) ∧ (decode cL_law 454 = .ok (.aload_n 0, 1)) := by decide +kernel
theorem dL_law_443 : decode cL_law 443 = .ok (.iconst 3, 1) := dL_law_443_g.1
theorem dL_law_444 : decode cL_law 444 = .ok (.iadd, 1) := dL_law_443_g.2.1
theorem dL_law_445 : decode cL_law 445 = .ok (.iaload, 1) := dL_law_443_g.2.2.1
theorem dL_law_446 : decode cL_law 446 = .ok (.invokevirtual 46, 3) := dL_law_443_g.2.2.2.1
theorem dL_law_449 : decode cL_law 449 = .ok (.pop, 1) := dL_law_443_g.2.2.2.2.1
theorem dL_law_450 : decode cL_law 450 = .ok (.goto 1144, 3) := dL_law_443_g.2.2.2.2.2.1
theorem dL_law_453 : decode cL_law 453 = .ok (.aload_n 1, 1) := dL_law_443_g.2.2.2.2.2.2.1
theorem dL_law_454 : decode cL_law 454 = .ok (.aload_n 0, 1) := dL_law_443_g.2.2.2.2.2.2.2
theorem dL_law_455_g : (decode cL_law 455 = .ok (.iload 4, 2)) ∧ (decode cL_law 457 = .ok (.iconst 1, 1)) ∧ (decode cL_law 458 = .ok (.iadd, 1)) ∧ (decode cL_law 459 = .ok (.iaload, 1)) ∧ (decode cL_law 460 = .ok (.aload_n 0, 1)) ∧ (decode cL_law 461 = .ok (.iload 4, 2)) ∧ (decode cL_law 463 = .ok (.iconst 2, 1)) ∧ (decode cL_law 464 = .ok (.iadd, 1)) := by decide +kernel
theorem dL_law_455 : decode cL_law 455 = .ok (.iload 4, 2) := dL_law_455_g.1
theorem dL_law_457 : decode cL_law 457 = .ok (.iconst 1, 1) := dL_law_455_g.2.1
theorem dL_law_458 : decode cL_law 458 = .ok (.iadd, 1) := dL_law_455_g.2.2.1
theorem dL_law_459 : decode cL_law 459 = .ok (.iaload, 1) := dL_law_455_g.2.2.2.1
theorem dL_law_460 : decode cL_law 460 = .ok (.aload_n 0, 1) := dL_law_455_g.2.2.2.2.1
theorem dL_law_461 : decode cL_law 461 = .ok (.iload 4, 2) := dL_law_455_g.2.2.2.2.2.1
theorem dL_law_463 : decode cL_law 463 = .ok (.iconst 2, 1) := dL_law_455_g.2.2.2.2.2.2.1
theorem dL_law_464 : decode cL_law 464 = .ok (.iadd, 1) := dL_law_455_g.2.2.2.2.2.2.2
theorem dL_law_465_g : (decode cL_law 465 = .ok (.iaload, 1)) ∧ (decode cL_law 466 = .ok (.invokevirtual 47, 3)) ∧ (decode cL_law 469 = .ok (.pop, 1)) ∧ (decode cL_law 470 = .ok (.aload_n 2, 1)) ∧ (decode cL_law 471 = .ok (.aload_n 0, 1)) ∧ (decode cL_law 472 = .ok (.iload 4, 2)) ∧ (decode cL_law 474 = .ok (.iconst 1, 1)) ∧ (decode cL_law 475 = .ok (.iadd, 1)) := by decide +kernel
theorem dL_law_465 : decode cL_law 465 = .ok (.iaload, 1) := dL_law_465_g.1
theorem dL_law_466 : decode cL_law 466 = .ok (.invokevirtual 47, 3) := dL_law_465_g.2.1
theorem dL_law_469 : decode cL_law 469 = .ok (.pop, 1) := dL_law_465_g.2.2.1
theorem dL_law_470 : decode cL_law 470 = .ok (.aload_n 2, 1) := dL_law_465_g.2.2.2.1
theorem dL_law_471 : decode cL_law 471 = .ok (.aload_n 0, 1) := dL_law_465_g.2.2.2.2.1
theorem dL_law_472 : decode cL_law 472 = .ok (.iload 4, 2) := dL_law_465_g.2.2.2.2.2.1
theorem dL_law_474 : decode cL_law 474 = .ok (.iconst 1, 1) := dL_law_465_g.2.2.2.2.2.2.1
theorem dL_law_475 : decode cL_law 475 = .ok (.iadd, 1) := dL_law_465_g.2.2.2.2.2.2.2
theorem dL_law_476_g : (decode cL_law 476 = .ok (.iaload, 1)) ∧ (decode cL_law 477 = .ok (.aload_n 0, 1)) ∧ (decode cL_law 478 = .ok (.iload 4, 2)) ∧ (decode cL_law 480 = .ok (.iconst 2, 1)) ∧ (decode cL_law 481 = .ok (.iadd, 1)) ∧ (decode cL_law 482 = .ok (.iaload, 1)) ∧ (decode cL_law 483 = .ok (.invokevirtual 50, 3)) ∧ (decode cL_law 486 = .ok (.pop, 1)) := by decide +kernel
theorem dL_law_476 : decode cL_law 476 = .ok (.iaload, 1) := dL_law_476_g.1
theorem dL_law_477 : decode cL_law 477 = .ok (.aload_n 0, 1) := dL_law_476_g.2.1
theorem dL_law_478 : decode cL_law 478 = .ok (.iload 4, 2) := dL_law_476_g.2.2.1
theorem dL_law_480 : decode cL_law 480 = .ok (.iconst 2, 1) := dL_law_476_g.2.2.2.1
theorem dL_law_481 : decode cL_law 481 = .ok (.iadd, 1) := dL_law_476_g.2.2.2.2.1
theorem dL_law_482 : decode cL_law 482 = .ok (.iaload, 1) := dL_law_476_g.2.2.2.2.2.1
theorem dL_law_483 : decode cL_law 483 = .ok (.invokevirtual 50, 3) := dL_law_476_g.2.2.2.2.2.2.1
theorem dL_law_486 : decode cL_law 486 = .ok (.pop, 1) := dL_law_476_g.2.2.2.2.2.2.2
theorem dL_law_487_g : (decode cL_law 487 = .ok (.goto 1107, 3)) ∧ (decode cL_law 490 = .ok (.aload_n 1, 1)) ∧ (decode cL_law 491 = .ok (.invokevirtual 51, 3)) ∧ (decode cL_law 494 = .ok (.pop, 1)) ∧ (decode cL_law 495 = .ok (.aload_n 2, 1)) ∧ (decode cL_law 496 = .ok (.invokevirtual 55, 3)) ∧ (decode cL_law 499 = .ok (.pop, 1)) ∧ (decode cL_law 500 = .ok (.goto 1094, 3)) := by decide +kernel
theorem dL_law_487 : decode cL_law 487 = .ok (.goto 1107, 3) := dL_law_487_g.1
theorem dL_law_490 : decode cL_law 490 = .ok (.aload_n 1, 1) := dL_law_487_g.2.1
theorem dL_law_491 : decode cL_law 491 = .ok (.invokevirtual 51, 3) := dL_law_487_g.2.2.1
theorem dL_law_494 : decode cL_law 494 = .ok (.pop, 1) := dL_law_487_g.2.2.2.1
theorem dL_law_495 : decode cL_law 495 = .ok (.aload_n 2, 1) := dL_law_487_g.2.2.2.2.1
theorem dL_law_496 : decode cL_law 496 = .ok (.invokevirtual 55, 3) := dL_law_487_g.2.2.2.2.2.1
theorem dL_law_499 : decode cL_law 499 = .ok (.pop, 1) := dL_law_487_g.2.2.2.2.2.2.1
theorem dL_law_500 : decode cL_law 500 = .ok (.goto 1094, 3) := dL_law_487_g.2.2.2.2.2.2.2
theorem dL_law_503_g : (decode cL_law 503 = .ok (.aload_n 1, 1)) ∧ (decode cL_law 504 = .ok (.invokevirtual 56, 3)) ∧ (decode cL_law 507 = .ok (.pop, 1)) ∧ (decode cL_law 508 = .ok (.aload_n 2, 1)) ∧ (decode cL_law 509 = .ok (.invokevirtual 59, 3)) ∧ (decode cL_law 512 = .ok (.pop, 1)) ∧ (decode cL_law 513 = .ok (.goto 1081, 3)) ∧ (decode cL_law 516 = .ok (.aload_n 1, 1)) := by decide +kernel
theorem dL_law_503 : decode cL_law 503 = .ok (.aload_n 1, 1) := dL_law_503_g.1
theorem dL_law_504 : decode cL_law 504 = .ok (.invokevirtual 56, 3) := dL_law_503_g.2.1
theorem dL_law_507 : decode cL_law 507 = .ok (.pop, 1) := dL_law_503_g.2.2.1
theorem dL_law_508 : decode cL_law 508 = .ok (.aload_n 2, 1) := dL_law_503_g.2.2.2.1
theorem dL_law_509 : decode cL_law 509 = .ok (.invokevirtual 59, 3) := dL_law_503_g.2.2.2.2.1
theorem dL_law_512 : decode cL_law 512 = .ok (.pop, 1) := dL_law_503_g.2.2.2.2.2.1
theorem dL_law_513 : decode cL_law 513 = .ok (.goto 1081, 3) := dL_law_503_g.2.2.2.2.2.2.1
theorem dL_law_516 : decode cL_law 516 = .ok (.aload_n 1, 1) := dL_law_503_g.2.2.2.2.2.2.2
theorem dL_law_517_g : (decode cL_law 517 = .ok (.aload_n 0, 1)) ∧ (decode cL_law 518 = .ok (.iload 4, 2)) ∧ (decode cL_law 520 = .ok (.iconst 1, 1)) ∧ (decode cL_law 521 = .ok (.iadd, 1)) ∧ (decode cL_law 522 = .ok (.iaload, 1)) ∧ (decode cL_law 523 = .ok (.invokevirtual 60, 3)) ∧ (decode cL_law 526 = .ok (.pop, 1)) ∧ (decode cL_law 527 = .ok (.aload_n 2, 1)) := by decide +kernel
theorem dL_law_517 : decode cL_law 517 = .ok (.aload_n 0, 1) := dL_law_517_g.1
theorem dL_law_518 : decode cL_law 518 = .ok (.iload 4, 2) := dL_law_517_g.2.1
theorem dL_law_520 : decode cL_law 520 = .ok (.iconst 1, 1) := dL_law_517_g.2.2.1
theorem dL_law_521 : decode cL_law 521 = .ok (.iadd, 1) := dL_law_517_g.2.2.2.1
theorem dL_law_522 : decode cL_law 522 = .ok (.iaload, 1) := dL_law_517_g.2.2.2.2.1
theorem dL_law_523 : decode cL_law 523 = .ok (.invokevirtual 60, 3) := dL_law_517_g.2.2.2.2.2.1
theorem dL_law_526 : decode cL_law 526 = .ok (.pop, 1) := dL_law_517_g.2.2.2.2.2.2.1
theorem dL_law_527 : decode cL_law 527 = .ok (.aload_n 2, 1) := dL_law_517_g.2.2.2.2.2.2.2
theorem dL_law_528_g : (decode cL_law 528 = .ok (.aload_n 0, 1)) ∧ (decode cL_law 529 = .ok (.iload 4, 2)) ∧ (decode cL_law 531 = .ok (.iconst 1, 1)) ∧ (decode cL_law 532 = .ok (.iadd, 1)) ∧ (decode cL_law 533 = .ok (.iaload, 1)) ∧ (decode cL_law 534 = .ok (.invokevirtual 64, 3)) ∧ (decode cL_law 537 = .ok (.pop, 1)) ∧ (decode cL_law 538 = .ok (.goto 1056, 3)) := by decide +kernel
theorem dL_law_528 : decode cL_law 528 = .ok (.aload_n 0, 1) := dL_law_528_g.1
theorem dL_law_529 : decode cL_law 529 = .ok (.iload 4, 2) := dL_law_528_g.2.1
theorem dL_law_531 : decode cL_law 531 = .ok (.iconst 1, 1) := dL_law_528_g.2.2.1
theorem dL_law_532 : decode cL_law 532 = .ok (.iadd, 1) := dL_law_528_g.2.2.2.1
theorem dL_law_533 : decode cL_law 533 = .ok (.iaload, 1) := dL_law_528_g.2.2.2.2.1
theorem dL_law_534 : decode cL_law 534 = .ok (.invokevirtual 64, 3) := dL_law_528_g.2.2.2.2.2.1
theorem dL_law_537 : decode cL_law 537 = .ok (.pop, 1) := dL_law_528_g.2.2.2.2.2.2.1
theorem dL_law_538 : decode cL_law 538 = .ok (.goto 1056, 3) := dL_law_528_g.2.2.2.2.2.2.2
theorem dL_law_541_g : (decode cL_law 541 = .ok (.aload_n 1, 1)) ∧ (decode cL_law 542 = .ok (.aload_n 0, 1)) ∧ (decode cL_law 543 = .ok (.iload 4, 2)) ∧ (decode cL_law 545 = .ok (.iconst 1, 1)) ∧ (decode cL_law 546 = .ok (.iadd, 1)) ∧ (decode cL_law 547 = .ok (.iaload, 1)) ∧ (decode cL_law 548 = .ok (.aload_n 0, 1)) ∧ (decode cL_law 549 = .ok (.iload 4, 2)) := by decide +kernel
theorem dL_law_541 : decode cL_law 541 = .ok (.aload_n 1, 1) := dL_law_541_g.1
theorem dL_law_542 : decode cL_law 542 = .ok (.aload_n 0, 1) := dL_law_541_g.2.1
theorem dL_law_543 : decode cL_law 543 = .ok (.iload 4, 2) := dL_law_541_g.2.2.1
theorem dL_law_545 : decode cL_law 545 = .ok (.iconst 1, 1) := dL_law_541_g.2.2.2.1
theorem dL_law_546 : decode cL_law 546 = .ok (.iadd, 1) := dL_law_541_g.2.2.2.2.1
theorem dL_law_547 : decode cL_law 547 = .ok (.iaload, 1) := dL_law_541_g.2.2.2.2.2.1
theorem dL_law_548 : decode cL_law 548 = .ok (.aload_n 0, 1) := dL_law_541_g.2.2.2.2.2.2.1
theorem dL_law_549 : decode cL_law 549 = .ok (.iload 4, 2) := dL_law_541_g.2.2.2.2.2.2.2
theorem dL_law_551_g : (decode cL_law 551 = .ok (.iconst 2, 1)) ∧ (decode cL_law 552 = .ok (.iadd, 1)) ∧ (decode cL_law 553 = .ok (.iaload, 1)) ∧ (decode cL_law 554 = .ok (.aload_n 3, 1)) ∧ (decode cL_law 555 = .ok (.invokestatic 65, 3)) ∧ (decode cL_law 558 = .ok (.istore 5, 2)) := by decide +kernel
theorem dL_law_551 : decode cL_law 551 = .ok (.iconst 2, 1) := dL_law_551_g.1
theorem dL_law_552 : decode cL_law 552 = .ok (.iadd, 1) := dL_law_551_g.2.1
theorem dL_law_553 : decode cL_law 553 = .ok (.iaload, 1) := dL_law_551_g.2.2.1
theorem dL_law_554 : decode cL_law 554 = .ok (.aload_n 3, 1) := dL_law_551_g.2.2.2.1
theorem dL_law_555 : decode cL_law 555 = .ok (.invokestatic 65, 3) := dL_law_551_g.2.2.2.2.1
theorem dL_law_558 : decode cL_law 558 = .ok (.istore 5, 2) := dL_law_551_g.2.2.2.2.2

