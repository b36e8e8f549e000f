theorem dX2_init_356 : decode cX2_init 356 = .ok (.iastore, 1) := by decide +kernel
theorem dX2_init_357 : decode cX2_init 357 = .ok (.dup, 1) := by decide +kernel
theorem dX2_init_358 : decode cX2_init 358 = .ok (.bipush 59, 2) := by decide +kernel
theorem dX2_init_360 : decode cX2_init 360 = .ok (.ldc 66, 2) := by decide +kernel
theorem dX2_init_362 : decode cX2_init 362 = .ok (.iastore, 1) := by decide +kernel
theorem dX2_init_363 : decode cX2_init 363 = .ok (.dup, 1) := by decide +kernel
theorem dX2_init_364 : decode cX2_init 364 = .ok (.bipush 60, 2) := by decide +kernel
theorem dX2_init_366 : decode cX2_init 366 = .ok (.ldc 67, 2) := by decide +kernel
theorem dX2_init_368 : decode cX2_init 368 = .ok (.iastore, 1) := by decide +kernel
theorem dX2_init_369 : decode cX2_init 369 = .ok (.dup, 1) := by decide +kernel
theorem dX2_init_370 : decode cX2_init 370 = .ok (.bipush 61, 2) := by decide +kernel
theorem dX2_init_372 : decode cX2_init 372 = .ok (.ldc 68, 2) := by decide +kernel
theorem dX2_init_374 : decode cX2_init 374 = .ok (.iastore, 1) := by decide +kernel
theorem dX2_init_375 : decode cX2_init 375 = .ok (.dup, 1) := by decide +kernel
theorem dX2_init_376 : decode cX2_init 376 = .ok (.bipush 62, 2) := by decide +kernel
theorem dX2_init_378 : decode cX2_init 378 = .ok (.ldc 69, 2) := by decide +kernel
theorem dX2_init_380 : decode cX2_init 380 = .ok (.iastore, 1) := by decide +kernel
theorem dX2_init_381 : decode cX2_init 381 = .ok (.dup, 1) := by decide +kernel
theorem dX2_init_382 : decode cX2_init 382 = .ok (.bipush 63, 2) := by decide +kernel
theorem dX2_init_384 : decode cX2_init 384 = .ok (.ldc 70, 2) := by decide +kernel
theorem dX2_init_386 : decode cX2_init 386 = .ok (.iastore, 1) := by decide +kernel
theorem dX2_init_387 : decode cX2_init 387 = .ok (.putfield 71, 3) := by decide +kernel
theorem dX2_init_390 : decode cX2_init 390 = .ok (.aload_n 0, 1) := by decide +kernel
theorem dX2_init_391 : decode cX2_init 391 = .ok (.bipush 16, 2) := by decide +kernel
theorem dX2_init_393 : decode cX2_init 393 = .ok (.newarray .int, 2) := by decide +kernel
theorem dX2_init_395 : decode cX2_init 395 = .ok (.dup, 1) := by decide +kernel
theorem dX2_init_396 : decode cX2_init 396 = .ok (.iconst 0, 1) := by decide +kernel
theorem dX2_init_397 : decode cX2_init 397 = .ok (.bipush 7, 2) := by decide +kernel
theorem dX2_init_399 : decode cX2_init 399 = .ok (.iastore, 1) := by decide +kernel
theorem dX2_init_400 : decode cX2_init 400 = .ok (.dup, 1) := by decide +kernel
theorem dX2_init_401 : decode cX2_init 401 = .ok (.iconst 1, 1) := by decide +kernel
theorem dX2_init_402 : decode cX2_init 402 = .ok (.bipush 12, 2) := by decide +kernel
theorem dX2_init_404 : decode cX2_init 404 = .ok (.iastore, 1) := by decide +kernel
theorem dX2_init_405 : decode cX2_init 405 = .ok (.dup, 1) := by decide +kernel
theorem dX2_init_406 : decode cX2_init 406 = .ok (.iconst 2, 1) := by decide +kernel
theorem dX2_init_407 : decode cX2_init 407 = .ok (.bipush 17, 2) := by decide +kernel
theorem dX2_init_409 : decode cX2_init 409 = .ok (.iastore, 1) := by decide +kernel
theorem dX2_init_410 : decode cX2_init 410 = .ok (.dup, 1) := by decide +kernel
theorem dX2_init_411 : decode cX2_init 411 = .ok (.iconst 3, 1) := by decide +kernel
theorem dX2_init_412 : decode cX2_init 412 = .ok (.bipush 22, 2) := by decide +kernel
theorem dX2_init_414 : decode cX2_init 414 = .ok (.iastore, 1) := by decide +kernel
theorem dX2_init_415 : decode cX2_init 415 = .ok (.dup, 1) := by decide +kernel
theorem dX2_init_416 : decode cX2_init 416 = .ok (.iconst 4, 1) := by decide +kernel
theorem dX2_init_417 : decode cX2_init 417 = .ok (.iconst 5, 1) := by decide +kernel
theorem dX2_init_418 : decode cX2_init 418 = .ok (.iastore, 1) := by decide +kernel
theorem dX2_init_419 : decode cX2_init 419 = .ok (.dup, 1) := by decide +kernel
theorem dX2_init_420 : decode cX2_init 420 = .ok (.iconst 5, 1) := by decide +kernel
theorem dX2_init_421 : decode cX2_init 421 = .ok (.bipush 9, 2) := by decide +kernel
theorem dX2_init_423 : decode cX2_init 423 = .ok (.iastore, 1) := by decide +kernel
theorem dX2_init_424 : decode cX2_init 424 = .ok (.dup, 1) := by decide +kernel
theorem dX2_init_425 : decode cX2_init 425 = .ok (.bipush 6, 2) := by decide +kernel
theorem dX2_init_427 : decode cX2_init 427 = .ok (.bipush 14, 2) := by decide +kernel
theorem dX2_init_429 : decode cX2_init 429 = .ok (.iastore, 1) := by decide +kernel
theorem dX2_init_430 : decode cX2_init 430 = .ok (.dup, 1) := by decide +kernel
theorem dX2_init_431 : decode cX2_init 431 = .ok (.bipush 7, 2) := by decide +kernel
theorem dX2_init_433 : decode cX2_init 433 = .ok (.bipush 20, 2) := by decide +kernel
theorem dX2_init_435 : decode cX2_init 435 = .ok (.iastore, 1) := by decide +kernel
theorem dX2_init_436 : decode cX2_init 436 = .ok (.dup, 1) := by decide +kernel
theorem dX2_init_437 : decode cX2_init 437 = .ok (.bipush 8, 2) := by decide +kernel
theorem dX2_init_439 : decode cX2_init 439 = .ok (.iconst 4, 1) := by decide +kernel
theorem dX2_init_440 : decode cX2_init 440 = .ok (.iastore, 1) := by decide +kernel
theorem dX2_init_441 : decode cX2_init 441 = .ok (.dup, 1) := by decide +kernel
theorem dX2_init_442 : decode cX2_init 442 = .ok (.bipush 9, 2) := by decide +kernel
theorem dX2_init_444 : decode cX2_init 444 = .ok (.bipush 11, 2) := by decide +kernel
theorem dX2_init_446 : decode cX2_init 446 = .ok (.iastore, 1) := by decide +kernel
theorem dX2_init_447 : decode cX2_init 447 = .ok (.dup, 1) := by decide +kernel
theorem dX2_init_448 : decode cX2_init 448 = .ok (.bipush 10, 2) := by decide +kernel
theorem dX2_init_450 : decode cX2_init 450 = .ok (.bipush 16, 2) := by decide +kernel
theorem dX2_init_452 : decode cX2_init 452 = .ok (.iastore, 1) := by decide +kernel
theorem dX2_init_453 : decode cX2_init 453 = .ok (.dup, 1) := by decide +kernel
theorem dX2_init_454 : decode cX2_init 454 = .ok (.bipush 11, 2) := by decide +kernel
theorem dX2_init_456 : decode cX2_init 456 = .ok (.bipush 23, 2) := by decide +kernel
theorem dX2_init_458 : decode cX2_init 458 = .ok (.iastore, 1) := by decide +kernel
theorem dX2_init_459 : decode cX2_init 459 = .ok (.dup, 1) := by decide +kernel
theorem dX2_init_460 : decode cX2_init 460 = .ok (.bipush 12, 2) := by decide +kernel
theorem dX2_init_462 : decode cX2_init 462 = .ok (.bipush 6, 2) := by decide +kernel
theorem dX2_init_464 : decode cX2_init 464 = .ok (.iastore, 1) := by decide +kernel
theorem dX2_init_465 : decode cX2_init 465 = .ok (.dup, 1) := by decide +kernel
theorem dX2_init_466 : decode cX2_init 466 = .ok (.bipush 13, 2) := by decide +kernel
theorem dX2_init_468 : decode cX2_init 468 = .ok (.bipush 10, 2) := by decide +kernel
theorem dX2_init_470 : decode cX2_init 470 = .ok (.iastore, 1) := by decide +kernel
theorem dX2_init_471 : decode cX2_init 471 = .ok (.dup, 1) := by decide +kernel
theorem dX2_init_472 : decode cX2_init 472 = .ok (.bipush 14, 2) := by decide +kernel
theorem dX2_init_474 : decode cX2_init 474 = .ok (.bipush 15, 2) := by decide +kernel
theorem dX2_init_476 : decode cX2_init 476 = .ok (.iastore, 1) := by decide +kernel
theorem dX2_init_477 : decode cX2_init 477 = .ok (.dup, 1) := by decide +kernel
theorem dX2_init_478 : decode cX2_init 478 = .ok (.bipush 15, 2) := by decide +kernel
theorem dX2_init_480 : decode cX2_init 480 = .ok (.bipush 21, 2) := by decide +kernel
theorem dX2_init_482 : decode cX2_init 482 = .ok (.iastore, 1) := by decide +kernel
theorem dX2_init_483 : decode cX2_init 483 = .ok (.putfield 77, 3) := by decide +kernel
theorem dX2_init_486 : decode cX2_init 486 = .ok (.aload_n 0, 1) := by decide +kernel
theorem dX2_init_487 : decode cX2_init 487 = .ok (.iconst 4, 1) := by decide +kernel
theorem dX2_init_488 : decode cX2_init 488 = .ok (.newarray .int, 2) := by decide +kernel
theorem dX2_init_490 : decode cX2_init 490 = .ok (.dup, 1) := by decide +kernel
theorem dX2_init_491 : decode cX2_init 491 = .ok (.iconst 0, 1) := by decide +kernel
theorem dX2_init_492 : decode cX2_init 492 = .ok (.ldc 80, 2) := by decide +kernel
theorem dX2_init_494 : decode cX2_init 494 = .ok (.iastore, 1) := by decide +kernel
theorem dX2_init_495 : decode cX2_init 495 = .ok (.dup, 1) := by decide +kernel
theorem dX2_init_496 : decode cX2_init 496 = .ok (.iconst 1, 1) := by decide +kernel
theorem dX2_init_497 : decode cX2_init 497 = .ok (.ldc 81, 2) := by decide +kernel
theorem dX2_init_499 : decode cX2_init 499 = .ok (.iastore, 1) := by decide +kernel
theorem dX2_init_500 : decode cX2_init 500 = .ok (.dup, 1) := by decide +kernel
theorem dX2_init_501 : decode cX2_init 501 = .ok (.iconst 2, 1) := by decide +kernel
theorem dX2_init_502 : decode cX2_init 502 = .ok (.ldc 82, 2) := by decide +kernel
theorem dX2_init_504 : decode cX2_init 504 = .ok (.iastore, 1) := by decide +kernel
theorem dX2_init_505 : decode cX2_init 505 = .ok (.dup, 1) := by decide +kernel
theorem dX2_init_506 : decode cX2_init 506 = .ok (.iconst 3, 1) := by decide +kernel
theorem dX2_init_507 : decode cX2_init 507 = .ok (.ldc 83, 2) := by decide +kernel
theorem dX2_init_509 : decode cX2_init 509 = .ok (.iastore, 1) := by decide +kernel
theorem dX2_init_510 : decode cX2_init 510 = .ok (.putfield 84, 3) := by decide +kernel
theorem dX2_init_513 : decode cX2_init 513 = .ok (.aload_n 0, 1) := by decide +kernel
theorem dX2_init_514 : decode cX2_init 514 = .ok (.iconst 4, 1) := by decide +kernel
theorem dX2_init_515 : decode cX2_init 515 = .ok (.newarray .int, 2) := by decide +kernel
theorem dX2_init_517 : decode cX2_init 517 = .ok (.dup, 1) := by decide +kernel
theorem dX2_init_518 : decode cX2_init 518 = .ok (.iconst 0, 1) := by decide +kernel
theorem dX2_init_519 : decode cX2_init 519 = .ok (.iconst 1, 1) := by decide +kernel
theorem dX2_init_520 : decode cX2_init 520 = .ok (.iastore, 1) := by decide +kernel
theorem dX2_init_521 : decode cX2_init 521 = .ok (.dup, 1) := by decide +kernel
theorem dX2_init_522 : decode cX2_init 522 = .ok (.iconst 1, 1) := by decide +kernel
theorem dX2_init_523 : decode cX2_init 523 = .ok (.iconst 5, 1) := by decide +kernel
