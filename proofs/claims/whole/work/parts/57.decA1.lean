/-! DECODE ROWS. Printed by wip/make.py. -/
theorem d_A_law_289 : decode mt_A_law.2.1 289 = .ok (.aload_n 3, 1) := by decide +kernel
theorem d_A_law_290 : decode mt_A_law.2.1 290 = .ok (.iconst 0, 1) := by decide +kernel
theorem d_A_law_291 : decode mt_A_law.2.1 291 = .ok (.laload, 1) := by decide +kernel
theorem d_A_law_292 : decode mt_A_law.2.1 292 = .ok (.iload 6, 2) := by decide +kernel
theorem d_A_law_294 : decode mt_A_law.2.1 294 = .ok (.i2l, 1) := by decide +kernel
theorem d_A_law_295 : decode mt_A_law.2.1 295 = .ok (.lcmp, 1) := by decide +kernel
theorem d_A_law_296 : decode mt_A_law.2.1 296 = .ok (.ifCond .eq (5), 3) := by decide +kernel
theorem d_A_law_299 : decode mt_A_law.2.1 299 = .ok (.iconst 0, 1) := by decide +kernel
theorem d_A_law_300 : decode mt_A_law.2.1 300 = .ok (.ireturn, 1) := by decide +kernel
theorem d_A_law_301 : decode mt_A_law.2.1 301 = .ok (.goto (761), 3) := by decide +kernel
theorem d_A_law_304 : decode mt_A_law.2.1 304 = .ok (.aload_n 1, 1) := by decide +kernel
theorem d_A_law_305 : decode mt_A_law.2.1 305 = .ok (.aload_n 0, 1) := by decide +kernel
theorem d_A_law_306 : decode mt_A_law.2.1 306 = .ok (.iload 4, 2) := by decide +kernel
theorem d_A_law_308 : decode mt_A_law.2.1 308 = .ok (.iconst 1, 1) := by decide +kernel
theorem d_A_law_309 : decode mt_A_law.2.1 309 = .ok (.iadd, 1) := by decide +kernel
theorem d_A_law_310 : decode mt_A_law.2.1 310 = .ok (.iaload, 1) := by decide +kernel
theorem d_A_law_311 : decode mt_A_law.2.1 311 = .ok (.aload_n 0, 1) := by decide +kernel
theorem d_A_law_312 : decode mt_A_law.2.1 312 = .ok (.iload 4, 2) := by decide +kernel
theorem d_A_law_314 : decode mt_A_law.2.1 314 = .ok (.iconst 2, 1) := by decide +kernel
theorem d_A_law_315 : decode mt_A_law.2.1 315 = .ok (.iadd, 1) := by decide +kernel
theorem d_A_law_316 : decode mt_A_law.2.1 316 = .ok (.iaload, 1) := by decide +kernel
theorem d_A_law_317 : decode mt_A_law.2.1 317 = .ok (.i2l, 1) := by decide +kernel
theorem d_A_law_318 : decode mt_A_law.2.1 318 = .ok (.bipush (32), 2) := by decide +kernel
theorem d_A_law_320 : decode mt_A_law.2.1 320 = .ok (.lshl, 1) := by decide +kernel
theorem d_A_law_321 : decode mt_A_law.2.1 321 = .ok (.aload_n 0, 1) := by decide +kernel
theorem d_A_law_322 : decode mt_A_law.2.1 322 = .ok (.iload 4, 2) := by decide +kernel
theorem d_A_law_324 : decode mt_A_law.2.1 324 = .ok (.iconst 3, 1) := by decide +kernel
theorem d_A_law_325 : decode mt_A_law.2.1 325 = .ok (.iadd, 1) := by decide +kernel
theorem d_A_law_326 : decode mt_A_law.2.1 326 = .ok (.iaload, 1) := by decide +kernel
theorem d_A_law_327 : decode mt_A_law.2.1 327 = .ok (.i2l, 1) := by decide +kernel
theorem d_A_law_328 : decode mt_A_law.2.1 328 = .ok (.ldc2_w 56, 3) := by decide +kernel
theorem d_A_law_331 : decode mt_A_law.2.1 331 = .ok (.land, 1) := by decide +kernel
theorem d_A_law_332 : decode mt_A_law.2.1 332 = .ok (.lor, 1) := by decide +kernel
theorem d_A_law_333 : decode mt_A_law.2.1 333 = .ok (.aload_n 0, 1) := by decide +kernel
theorem d_A_law_334 : decode mt_A_law.2.1 334 = .ok (.iload 4, 2) := by decide +kernel
theorem d_A_law_336 : decode mt_A_law.2.1 336 = .ok (.iconst 4, 1) := by decide +kernel
theorem d_A_law_337 : decode mt_A_law.2.1 337 = .ok (.iadd, 1) := by decide +kernel
theorem d_A_law_338 : decode mt_A_law.2.1 338 = .ok (.iaload, 1) := by decide +kernel
theorem d_A_law_339 : decode mt_A_law.2.1 339 = .ok (.aload_n 0, 1) := by decide +kernel
theorem d_A_law_340 : decode mt_A_law.2.1 340 = .ok (.iload 4, 2) := by decide +kernel
theorem d_A_law_342 : decode mt_A_law.2.1 342 = .ok (.iconst 5, 1) := by decide +kernel
theorem d_A_law_343 : decode mt_A_law.2.1 343 = .ok (.iadd, 1) := by decide +kernel
theorem d_A_law_344 : decode mt_A_law.2.1 344 = .ok (.iaload, 1) := by decide +kernel
theorem d_A_law_345 : decode mt_A_law.2.1 345 = .ok (.aload_n 0, 1) := by decide +kernel
theorem d_A_law_346 : decode mt_A_law.2.1 346 = .ok (.iload 4, 2) := by decide +kernel
theorem d_A_law_348 : decode mt_A_law.2.1 348 = .ok (.bipush (6), 2) := by decide +kernel
theorem d_A_law_350 : decode mt_A_law.2.1 350 = .ok (.iadd, 1) := by decide +kernel
theorem d_A_law_351 : decode mt_A_law.2.1 351 = .ok (.iaload, 1) := by decide +kernel
theorem d_A_law_352 : decode mt_A_law.2.1 352 = .ok (.i2l, 1) := by decide +kernel
theorem d_A_law_353 : decode mt_A_law.2.1 353 = .ok (.bipush (32), 2) := by decide +kernel
theorem d_A_law_355 : decode mt_A_law.2.1 355 = .ok (.lshl, 1) := by decide +kernel
theorem d_A_law_356 : decode mt_A_law.2.1 356 = .ok (.aload_n 0, 1) := by decide +kernel
theorem d_A_law_357 : decode mt_A_law.2.1 357 = .ok (.iload 4, 2) := by decide +kernel
theorem d_A_law_359 : decode mt_A_law.2.1 359 = .ok (.bipush (7), 2) := by decide +kernel
theorem d_A_law_361 : decode mt_A_law.2.1 361 = .ok (.iadd, 1) := by decide +kernel
theorem d_A_law_362 : decode mt_A_law.2.1 362 = .ok (.iaload, 1) := by decide +kernel
theorem d_A_law_363 : decode mt_A_law.2.1 363 = .ok (.i2l, 1) := by decide +kernel
theorem d_A_law_364 : decode mt_A_law.2.1 364 = .ok (.ldc2_w 56, 3) := by decide +kernel
theorem d_A_law_367 : decode mt_A_law.2.1 367 = .ok (.land, 1) := by decide +kernel
theorem d_A_law_368 : decode mt_A_law.2.1 368 = .ok (.lor, 1) := by decide +kernel
theorem d_A_law_369 : decode mt_A_law.2.1 369 = .ok (.aload_n 3, 1) := by decide +kernel
theorem d_A_law_370 : decode mt_A_law.2.1 370 = .ok (.invokestatic 72, 3) := by decide +kernel
theorem d_A_law_373 : decode mt_A_law.2.1 373 = .ok (.istore 5, 2) := by decide +kernel
theorem d_A_law_375 : decode mt_A_law.2.1 375 = .ok (.aload_n 2, 1) := by decide +kernel
theorem d_A_law_376 : decode mt_A_law.2.1 376 = .ok (.aload_n 0, 1) := by decide +kernel
theorem d_A_law_377 : decode mt_A_law.2.1 377 = .ok (.iload 4, 2) := by decide +kernel
theorem d_A_law_379 : decode mt_A_law.2.1 379 = .ok (.iconst 1, 1) := by decide +kernel
theorem d_A_law_380 : decode mt_A_law.2.1 380 = .ok (.iadd, 1) := by decide +kernel
theorem d_A_law_381 : decode mt_A_law.2.1 381 = .ok (.iaload, 1) := by decide +kernel
theorem d_A_law_382 : decode mt_A_law.2.1 382 = .ok (.aload_n 0, 1) := by decide +kernel
theorem d_A_law_383 : decode mt_A_law.2.1 383 = .ok (.iload 4, 2) := by decide +kernel
theorem d_A_law_385 : decode mt_A_law.2.1 385 = .ok (.iconst 2, 1) := by decide +kernel
theorem d_A_law_386 : decode mt_A_law.2.1 386 = .ok (.iadd, 1) := by decide +kernel
theorem d_A_law_387 : decode mt_A_law.2.1 387 = .ok (.iaload, 1) := by decide +kernel
theorem d_A_law_388 : decode mt_A_law.2.1 388 = .ok (.i2l, 1) := by decide +kernel
theorem d_A_law_389 : decode mt_A_law.2.1 389 = .ok (.bipush (32), 2) := by decide +kernel
theorem d_A_law_391 : decode mt_A_law.2.1 391 = .ok (.lshl, 1) := by decide +kernel
theorem d_A_law_392 : decode mt_A_law.2.1 392 = .ok (.aload_n 0, 1) := by decide +kernel
theorem d_A_law_393 : decode mt_A_law.2.1 393 = .ok (.iload 4, 2) := by decide +kernel
theorem d_A_law_395 : decode mt_A_law.2.1 395 = .ok (.iconst 3, 1) := by decide +kernel
theorem d_A_law_396 : decode mt_A_law.2.1 396 = .ok (.iadd, 1) := by decide +kernel
theorem d_A_law_397 : decode mt_A_law.2.1 397 = .ok (.iaload, 1) := by decide +kernel
theorem d_A_law_398 : decode mt_A_law.2.1 398 = .ok (.i2l, 1) := by decide +kernel
theorem d_A_law_399 : decode mt_A_law.2.1 399 = .ok (.ldc2_w 56, 3) := by decide +kernel
theorem d_A_law_402 : decode mt_A_law.2.1 402 = .ok (.land, 1) := by decide +kernel
theorem d_A_law_403 : decode mt_A_law.2.1 403 = .ok (.lor, 1) := by decide +kernel
theorem d_A_law_404 : decode mt_A_law.2.1 404 = .ok (.aload_n 0, 1) := by decide +kernel
theorem d_A_law_405 : decode mt_A_law.2.1 405 = .ok (.iload 4, 2) := by decide +kernel
theorem d_A_law_407 : decode mt_A_law.2.1 407 = .ok (.iconst 4, 1) := by decide +kernel
theorem d_A_law_408 : decode mt_A_law.2.1 408 = .ok (.iadd, 1) := by decide +kernel
theorem d_A_law_409 : decode mt_A_law.2.1 409 = .ok (.iaload, 1) := by decide +kernel
theorem d_A_law_410 : decode mt_A_law.2.1 410 = .ok (.aload_n 0, 1) := by decide +kernel
theorem d_A_law_411 : decode mt_A_law.2.1 411 = .ok (.iload 4, 2) := by decide +kernel
theorem d_A_law_413 : decode mt_A_law.2.1 413 = .ok (.iconst 5, 1) := by decide +kernel
theorem d_A_law_414 : decode mt_A_law.2.1 414 = .ok (.iadd, 1) := by decide +kernel
theorem d_A_law_415 : decode mt_A_law.2.1 415 = .ok (.iaload, 1) := by decide +kernel
theorem d_A_law_416 : decode mt_A_law.2.1 416 = .ok (.aload_n 0, 1) := by decide +kernel
theorem d_A_law_417 : decode mt_A_law.2.1 417 = .ok (.iload 4, 2) := by decide +kernel
theorem d_A_law_419 : decode mt_A_law.2.1 419 = .ok (.bipush (6), 2) := by decide +kernel
theorem d_A_law_421 : decode mt_A_law.2.1 421 = .ok (.iadd, 1) := by decide +kernel
theorem d_A_law_422 : decode mt_A_law.2.1 422 = .ok (.iaload, 1) := by decide +kernel
theorem d_A_law_423 : decode mt_A_law.2.1 423 = .ok (.i2l, 1) := by decide +kernel
theorem d_A_law_424 : decode mt_A_law.2.1 424 = .ok (.bipush (32), 2) := by decide +kernel
theorem d_A_law_426 : decode mt_A_law.2.1 426 = .ok (.lshl, 1) := by decide +kernel
theorem d_A_law_427 : decode mt_A_law.2.1 427 = .ok (.aload_n 0, 1) := by decide +kernel
theorem d_A_law_428 : decode mt_A_law.2.1 428 = .ok (.iload 4, 2) := by decide +kernel
theorem d_A_law_430 : decode mt_A_law.2.1 430 = .ok (.bipush (7), 2) := by decide +kernel
theorem d_A_law_432 : decode mt_A_law.2.1 432 = .ok (.iadd, 1) := by decide +kernel
theorem d_A_law_433 : decode mt_A_law.2.1 433 = .ok (.iaload, 1) := by decide +kernel
theorem d_A_law_434 : decode mt_A_law.2.1 434 = .ok (.i2l, 1) := by decide +kernel
theorem d_A_law_435 : decode mt_A_law.2.1 435 = .ok (.ldc2_w 56, 3) := by decide +kernel
theorem d_A_law_438 : decode mt_A_law.2.1 438 = .ok (.land, 1) := by decide +kernel
theorem d_A_law_439 : decode mt_A_law.2.1 439 = .ok (.lor, 1) := by decide +kernel
theorem d_A_law_440 : decode mt_A_law.2.1 440 = .ok (.invokevirtual 75, 3) := by decide +kernel
theorem d_A_law_443 : decode mt_A_law.2.1 443 = .ok (.istore 6, 2) := by decide +kernel
theorem d_A_law_445 : decode mt_A_law.2.1 445 = .ok (.aload_n 2, 1) := by decide +kernel
theorem d_A_law_446 : decode mt_A_law.2.1 446 = .ok (.invokevirtual 64, 3) := by decide +kernel
theorem d_A_law_449 : decode mt_A_law.2.1 449 = .ok (.iload 5, 2) := by decide +kernel
theorem d_A_law_451 : decode mt_A_law.2.1 451 = .ok (.if_icmp .eq (5), 3) := by decide +kernel
theorem d_A_law_454 : decode mt_A_law.2.1 454 = .ok (.iconst 0, 1) := by decide +kernel
theorem d_A_law_455 : decode mt_A_law.2.1 455 = .ok (.ireturn, 1) := by decide +kernel
theorem d_A_law_456 : decode mt_A_law.2.1 456 = .ok (.iload 5, 2) := by decide +kernel
theorem d_A_law_458 : decode mt_A_law.2.1 458 = .ok (.ifCond .ne (15), 3) := by decide +kernel
theorem d_A_law_461 : decode mt_A_law.2.1 461 = .ok (.aload_n 3, 1) := by decide +kernel
theorem d_A_law_462 : decode mt_A_law.2.1 462 = .ok (.iconst 0, 1) := by decide +kernel
theorem d_A_law_463 : decode mt_A_law.2.1 463 = .ok (.laload, 1) := by decide +kernel
theorem d_A_law_464 : decode mt_A_law.2.1 464 = .ok (.iload 6, 2) := by decide +kernel
theorem d_A_law_466 : decode mt_A_law.2.1 466 = .ok (.i2l, 1) := by decide +kernel
theorem d_A_law_467 : decode mt_A_law.2.1 467 = .ok (.lcmp, 1) := by decide +kernel
theorem d_A_law_468 : decode mt_A_law.2.1 468 = .ok (.ifCond .eq (5), 3) := by decide +kernel
theorem d_A_law_471 : decode mt_A_law.2.1 471 = .ok (.iconst 0, 1) := by decide +kernel
theorem d_A_law_472 : decode mt_A_law.2.1 472 = .ok (.ireturn, 1) := by decide +kernel
theorem d_A_law_473 : decode mt_A_law.2.1 473 = .ok (.goto (589), 3) := by decide +kernel
theorem d_A_law_476 : decode mt_A_law.2.1 476 = .ok (.aload_n 1, 1) := by decide +kernel
theorem d_A_law_477 : decode mt_A_law.2.1 477 = .ok (.aload_n 0, 1) := by decide +kernel
theorem d_A_law_478 : decode mt_A_law.2.1 478 = .ok (.iload 4, 2) := by decide +kernel
theorem d_A_law_480 : decode mt_A_law.2.1 480 = .ok (.iconst 1, 1) := by decide +kernel
theorem d_A_law_481 : decode mt_A_law.2.1 481 = .ok (.iadd, 1) := by decide +kernel
theorem d_A_law_482 : decode mt_A_law.2.1 482 = .ok (.iaload, 1) := by decide +kernel
theorem d_A_law_483 : decode mt_A_law.2.1 483 = .ok (.aload_n 0, 1) := by decide +kernel
theorem d_A_law_484 : decode mt_A_law.2.1 484 = .ok (.iload 4, 2) := by decide +kernel
theorem d_A_law_486 : decode mt_A_law.2.1 486 = .ok (.iconst 2, 1) := by decide +kernel
theorem d_A_law_487 : decode mt_A_law.2.1 487 = .ok (.iadd, 1) := by decide +kernel
theorem d_A_law_488 : decode mt_A_law.2.1 488 = .ok (.iaload, 1) := by decide +kernel
theorem d_A_law_489 : decode mt_A_law.2.1 489 = .ok (.aload_n 0, 1) := by decide +kernel
theorem d_A_law_490 : decode mt_A_law.2.1 490 = .ok (.iload 4, 2) := by decide +kernel
theorem d_A_law_492 : decode mt_A_law.2.1 492 = .ok (.iconst 3, 1) := by decide +kernel
theorem d_A_law_493 : decode mt_A_law.2.1 493 = .ok (.iadd, 1) := by decide +kernel
theorem d_A_law_494 : decode mt_A_law.2.1 494 = .ok (.iaload, 1) := by decide +kernel
theorem d_A_law_495 : decode mt_A_law.2.1 495 = .ok (.invokevirtual 76, 3) := by decide +kernel
theorem d_A_law_498 : decode mt_A_law.2.1 498 = .ok (.aload_n 2, 1) := by decide +kernel
theorem d_A_law_499 : decode mt_A_law.2.1 499 = .ok (.aload_n 0, 1) := by decide +kernel
theorem d_A_law_500 : decode mt_A_law.2.1 500 = .ok (.iload 4, 2) := by decide +kernel
theorem d_A_law_502 : decode mt_A_law.2.1 502 = .ok (.iconst 1, 1) := by decide +kernel
theorem d_A_law_503 : decode mt_A_law.2.1 503 = .ok (.iadd, 1) := by decide +kernel
theorem d_A_law_504 : decode mt_A_law.2.1 504 = .ok (.iaload, 1) := by decide +kernel
theorem d_A_law_505 : decode mt_A_law.2.1 505 = .ok (.aload_n 0, 1) := by decide +kernel
theorem d_A_law_506 : decode mt_A_law.2.1 506 = .ok (.iload 4, 2) := by decide +kernel
theorem d_A_law_508 : decode mt_A_law.2.1 508 = .ok (.iconst 2, 1) := by decide +kernel
theorem d_A_law_509 : decode mt_A_law.2.1 509 = .ok (.iadd, 1) := by decide +kernel
theorem d_A_law_510 : decode mt_A_law.2.1 510 = .ok (.iaload, 1) := by decide +kernel
theorem d_A_law_511 : decode mt_A_law.2.1 511 = .ok (.aload_n 0, 1) := by decide +kernel
theorem d_A_law_512 : decode mt_A_law.2.1 512 = .ok (.iload 4, 2) := by decide +kernel
theorem d_A_law_514 : decode mt_A_law.2.1 514 = .ok (.iconst 3, 1) := by decide +kernel
theorem d_A_law_515 : decode mt_A_law.2.1 515 = .ok (.iadd, 1) := by decide +kernel
theorem d_A_law_516 : decode mt_A_law.2.1 516 = .ok (.iaload, 1) := by decide +kernel
theorem d_A_law_517 : decode mt_A_law.2.1 517 = .ok (.invokevirtual 80, 3) := by decide +kernel
theorem d_A_law_520 : decode mt_A_law.2.1 520 = .ok (.if_icmp .eq (542), 3) := by decide +kernel
theorem d_A_law_523 : decode mt_A_law.2.1 523 = .ok (.iconst 0, 1) := by decide +kernel
theorem d_A_law_524 : decode mt_A_law.2.1 524 = .ok (.ireturn, 1) := by decide +kernel
theorem d_A_law_525 : decode mt_A_law.2.1 525 = .ok (.aload_n 1, 1) := by decide +kernel
theorem d_A_law_526 : decode mt_A_law.2.1 526 = .ok (.aload_n 0, 1) := by decide +kernel
theorem d_A_law_527 : decode mt_A_law.2.1 527 = .ok (.iload 4, 2) := by decide +kernel
theorem d_A_law_529 : decode mt_A_law.2.1 529 = .ok (.iconst 1, 1) := by decide +kernel
theorem d_A_law_530 : decode mt_A_law.2.1 530 = .ok (.iadd, 1) := by decide +kernel
theorem d_A_law_531 : decode mt_A_law.2.1 531 = .ok (.iaload, 1) := by decide +kernel
theorem d_A_law_532 : decode mt_A_law.2.1 532 = .ok (.i2l, 1) := by decide +kernel
theorem d_A_law_533 : decode mt_A_law.2.1 533 = .ok (.bipush (32), 2) := by decide +kernel
theorem d_A_law_535 : decode mt_A_law.2.1 535 = .ok (.lshl, 1) := by decide +kernel
theorem d_A_law_536 : decode mt_A_law.2.1 536 = .ok (.aload_n 0, 1) := by decide +kernel
theorem d_A_law_537 : decode mt_A_law.2.1 537 = .ok (.iload 4, 2) := by decide +kernel
theorem d_A_law_539 : decode mt_A_law.2.1 539 = .ok (.iconst 2, 1) := by decide +kernel
theorem d_A_law_540 : decode mt_A_law.2.1 540 = .ok (.iadd, 1) := by decide +kernel
theorem d_A_law_541 : decode mt_A_law.2.1 541 = .ok (.iaload, 1) := by decide +kernel
theorem d_A_law_542 : decode mt_A_law.2.1 542 = .ok (.i2l, 1) := by decide +kernel
theorem d_A_law_543 : decode mt_A_law.2.1 543 = .ok (.ldc2_w 56, 3) := by decide +kernel
theorem d_A_law_546 : decode mt_A_law.2.1 546 = .ok (.land, 1) := by decide +kernel
theorem d_A_law_547 : decode mt_A_law.2.1 547 = .ok (.lor, 1) := by decide +kernel
theorem d_A_law_548 : decode mt_A_law.2.1 548 = .ok (.invokevirtual 81, 3) := by decide +kernel
theorem d_A_law_551 : decode mt_A_law.2.1 551 = .ok (.aload_n 2, 1) := by decide +kernel
theorem d_A_law_552 : decode mt_A_law.2.1 552 = .ok (.aload_n 0, 1) := by decide +kernel
theorem d_A_law_553 : decode mt_A_law.2.1 553 = .ok (.iload 4, 2) := by decide +kernel
theorem d_A_law_555 : decode mt_A_law.2.1 555 = .ok (.iconst 1, 1) := by decide +kernel
theorem d_A_law_556 : decode mt_A_law.2.1 556 = .ok (.iadd, 1) := by decide +kernel
theorem d_A_law_557 : decode mt_A_law.2.1 557 = .ok (.iaload, 1) := by decide +kernel
theorem d_A_law_558 : decode mt_A_law.2.1 558 = .ok (.i2l, 1) := by decide +kernel
theorem d_A_law_559 : decode mt_A_law.2.1 559 = .ok (.bipush (32), 2) := by decide +kernel
theorem d_A_law_561 : decode mt_A_law.2.1 561 = .ok (.lshl, 1) := by decide +kernel
theorem d_A_law_562 : decode mt_A_law.2.1 562 = .ok (.aload_n 0, 1) := by decide +kernel
theorem d_A_law_563 : decode mt_A_law.2.1 563 = .ok (.iload 4, 2) := by decide +kernel
theorem d_A_law_565 : decode mt_A_law.2.1 565 = .ok (.iconst 2, 1) := by decide +kernel
theorem d_A_law_566 : decode mt_A_law.2.1 566 = .ok (.iadd, 1) := by decide +kernel
theorem d_A_law_567 : decode mt_A_law.2.1 567 = .ok (.iaload, 1) := by decide +kernel
theorem d_A_law_568 : decode mt_A_law.2.1 568 = .ok (.i2l, 1) := by decide +kernel
theorem d_A_law_569 : decode mt_A_law.2.1 569 = .ok (.ldc2_w 56, 3) := by decide +kernel
theorem d_A_law_572 : decode mt_A_law.2.1 572 = .ok (.land, 1) := by decide +kernel
theorem d_A_law_573 : decode mt_A_law.2.1 573 = .ok (.lor, 1) := by decide +kernel
theorem d_A_law_574 : decode mt_A_law.2.1 574 = .ok (.invokevirtual 85, 3) := by decide +kernel
theorem d_A_law_577 : decode mt_A_law.2.1 577 = .ok (.if_icmp .eq (485), 3) := by decide +kernel
theorem d_A_law_580 : decode mt_A_law.2.1 580 = .ok (.iconst 0, 1) := by decide +kernel
theorem d_A_law_581 : decode mt_A_law.2.1 581 = .ok (.ireturn, 1) := by decide +kernel
theorem d_A_law_582 : decode mt_A_law.2.1 582 = .ok (.aload_n 1, 1) := by decide +kernel
theorem d_A_law_583 : decode mt_A_law.2.1 583 = .ok (.aload_n 0, 1) := by decide +kernel
theorem d_A_law_584 : decode mt_A_law.2.1 584 = .ok (.iload 4, 2) := by decide +kernel
theorem d_A_law_586 : decode mt_A_law.2.1 586 = .ok (.iconst 1, 1) := by decide +kernel
theorem d_A_law_587 : decode mt_A_law.2.1 587 = .ok (.iadd, 1) := by decide +kernel
theorem d_A_law_588 : decode mt_A_law.2.1 588 = .ok (.iaload, 1) := by decide +kernel
theorem d_A_law_589 : decode mt_A_law.2.1 589 = .ok (.aload_n 0, 1) := by decide +kernel
theorem d_A_law_590 : decode mt_A_law.2.1 590 = .ok (.iload 4, 2) := by decide +kernel
theorem d_A_law_592 : decode mt_A_law.2.1 592 = .ok (.iconst 2, 1) := by decide +kernel
theorem d_A_law_593 : decode mt_A_law.2.1 593 = .ok (.iadd, 1) := by decide +kernel
theorem d_A_law_594 : decode mt_A_law.2.1 594 = .ok (.iaload, 1) := by decide +kernel
theorem d_A_law_595 : decode mt_A_law.2.1 595 = .ok (.ifCond .eq (7), 3) := by decide +kernel
theorem d_A_law_598 : decode mt_A_law.2.1 598 = .ok (.iconst 1, 1) := by decide +kernel
theorem d_A_law_599 : decode mt_A_law.2.1 599 = .ok (.goto (4), 3) := by decide +kernel
theorem d_A_law_602 : decode mt_A_law.2.1 602 = .ok (.iconst 0, 1) := by decide +kernel
theorem d_A_law_603 : decode mt_A_law.2.1 603 = .ok (.invokevirtual 86, 3) := by decide +kernel
theorem d_A_law_606 : decode mt_A_law.2.1 606 = .ok (.aload_n 2, 1) := by decide +kernel
theorem d_A_law_607 : decode mt_A_law.2.1 607 = .ok (.aload_n 0, 1) := by decide +kernel
theorem d_A_law_608 : decode mt_A_law.2.1 608 = .ok (.iload 4, 2) := by decide +kernel
theorem d_A_law_610 : decode mt_A_law.2.1 610 = .ok (.iconst 1, 1) := by decide +kernel
theorem d_A_law_611 : decode mt_A_law.2.1 611 = .ok (.iadd, 1) := by decide +kernel
theorem d_A_law_612 : decode mt_A_law.2.1 612 = .ok (.iaload, 1) := by decide +kernel
theorem d_A_law_613 : decode mt_A_law.2.1 613 = .ok (.aload_n 0, 1) := by decide +kernel
theorem d_A_law_614 : decode mt_A_law.2.1 614 = .ok (.iload 4, 2) := by decide +kernel
theorem d_A_law_616 : decode mt_A_law.2.1 616 = .ok (.iconst 2, 1) := by decide +kernel
theorem d_A_law_617 : decode mt_A_law.2.1 617 = .ok (.iadd, 1) := by decide +kernel
theorem d_A_law_618 : decode mt_A_law.2.1 618 = .ok (.iaload, 1) := by decide +kernel
theorem d_A_law_619 : decode mt_A_law.2.1 619 = .ok (.ifCond .eq (7), 3) := by decide +kernel
theorem d_A_law_622 : decode mt_A_law.2.1 622 = .ok (.iconst 1, 1) := by decide +kernel
theorem d_A_law_623 : decode mt_A_law.2.1 623 = .ok (.goto (4), 3) := by decide +kernel
theorem d_A_law_626 : decode mt_A_law.2.1 626 = .ok (.iconst 0, 1) := by decide +kernel
theorem d_A_law_627 : decode mt_A_law.2.1 627 = .ok (.invokevirtual 90, 3) := by decide +kernel
theorem d_A_law_630 : decode mt_A_law.2.1 630 = .ok (.if_icmp .eq (432), 3) := by decide +kernel
theorem d_A_law_633 : decode mt_A_law.2.1 633 = .ok (.iconst 0, 1) := by decide +kernel
theorem d_A_law_634 : decode mt_A_law.2.1 634 = .ok (.ireturn, 1) := by decide +kernel
theorem d_A_law_635 : decode mt_A_law.2.1 635 = .ok (.aload_n 1, 1) := by decide +kernel
theorem d_A_law_636 : decode mt_A_law.2.1 636 = .ok (.invokevirtual 91, 3) := by decide +kernel
theorem d_A_law_639 : decode mt_A_law.2.1 639 = .ok (.aload_n 2, 1) := by decide +kernel
theorem d_A_law_640 : decode mt_A_law.2.1 640 = .ok (.invokevirtual 94, 3) := by decide +kernel
theorem d_A_law_643 : decode mt_A_law.2.1 643 = .ok (.if_icmp .eq (419), 3) := by decide +kernel
theorem d_A_law_646 : decode mt_A_law.2.1 646 = .ok (.iconst 0, 1) := by decide +kernel
theorem d_A_law_647 : decode mt_A_law.2.1 647 = .ok (.ireturn, 1) := by decide +kernel
theorem d_A_law_648 : decode mt_A_law.2.1 648 = .ok (.aload_n 1, 1) := by decide +kernel
theorem d_A_law_649 : decode mt_A_law.2.1 649 = .ok (.aload_n 0, 1) := by decide +kernel
theorem d_A_law_650 : decode mt_A_law.2.1 650 = .ok (.iload 4, 2) := by decide +kernel
theorem d_A_law_652 : decode mt_A_law.2.1 652 = .ok (.iconst 1, 1) := by decide +kernel
theorem d_A_law_653 : decode mt_A_law.2.1 653 = .ok (.iadd, 1) := by decide +kernel
theorem d_A_law_654 : decode mt_A_law.2.1 654 = .ok (.iaload, 1) := by decide +kernel
theorem d_A_law_655 : decode mt_A_law.2.1 655 = .ok (.aload_n 0, 1) := by decide +kernel
theorem d_A_law_656 : decode mt_A_law.2.1 656 = .ok (.iload 4, 2) := by decide +kernel
theorem d_A_law_658 : decode mt_A_law.2.1 658 = .ok (.iconst 2, 1) := by decide +kernel
theorem d_A_law_659 : decode mt_A_law.2.1 659 = .ok (.iadd, 1) := by decide +kernel
theorem d_A_law_660 : decode mt_A_law.2.1 660 = .ok (.iaload, 1) := by decide +kernel
theorem d_A_law_661 : decode mt_A_law.2.1 661 = .ok (.aload_n 3, 1) := by decide +kernel
theorem d_A_law_662 : decode mt_A_law.2.1 662 = .ok (.invokestatic 95, 3) := by decide +kernel
theorem d_A_law_665 : decode mt_A_law.2.1 665 = .ok (.istore 5, 2) := by decide +kernel
theorem d_A_law_667 : decode mt_A_law.2.1 667 = .ok (.aload_n 2, 1) := by decide +kernel
theorem d_A_law_668 : decode mt_A_law.2.1 668 = .ok (.aload_n 0, 1) := by decide +kernel
theorem d_A_law_669 : decode mt_A_law.2.1 669 = .ok (.iload 4, 2) := by decide +kernel
theorem d_A_law_671 : decode mt_A_law.2.1 671 = .ok (.iconst 1, 1) := by decide +kernel
theorem d_A_law_672 : decode mt_A_law.2.1 672 = .ok (.iadd, 1) := by decide +kernel
theorem d_A_law_673 : decode mt_A_law.2.1 673 = .ok (.iaload, 1) := by decide +kernel
theorem d_A_law_674 : decode mt_A_law.2.1 674 = .ok (.aload_n 0, 1) := by decide +kernel
theorem d_A_law_675 : decode mt_A_law.2.1 675 = .ok (.iload 4, 2) := by decide +kernel
theorem d_A_law_677 : decode mt_A_law.2.1 677 = .ok (.iconst 2, 1) := by decide +kernel
theorem d_A_law_678 : decode mt_A_law.2.1 678 = .ok (.iadd, 1) := by decide +kernel
theorem d_A_law_679 : decode mt_A_law.2.1 679 = .ok (.iaload, 1) := by decide +kernel
theorem d_A_law_680 : decode mt_A_law.2.1 680 = .ok (.invokevirtual 97, 3) := by decide +kernel
theorem d_A_law_683 : decode mt_A_law.2.1 683 = .ok (.istore 6, 2) := by decide +kernel
theorem d_A_law_685 : decode mt_A_law.2.1 685 = .ok (.aload_n 2, 1) := by decide +kernel
theorem d_A_law_686 : decode mt_A_law.2.1 686 = .ok (.invokevirtual 64, 3) := by decide +kernel
theorem d_A_law_689 : decode mt_A_law.2.1 689 = .ok (.iload 5, 2) := by decide +kernel
theorem d_A_law_691 : decode mt_A_law.2.1 691 = .ok (.if_icmp .eq (5), 3) := by decide +kernel
theorem d_A_law_694 : decode mt_A_law.2.1 694 = .ok (.iconst 0, 1) := by decide +kernel
theorem d_A_law_695 : decode mt_A_law.2.1 695 = .ok (.ireturn, 1) := by decide +kernel
theorem d_A_law_696 : decode mt_A_law.2.1 696 = .ok (.iload 5, 2) := by decide +kernel
theorem d_A_law_698 : decode mt_A_law.2.1 698 = .ok (.ifCond .ne (15), 3) := by decide +kernel
theorem d_A_law_701 : decode mt_A_law.2.1 701 = .ok (.aload_n 3, 1) := by decide +kernel
theorem d_A_law_702 : decode mt_A_law.2.1 702 = .ok (.iconst 0, 1) := by decide +kernel
theorem d_A_law_703 : decode mt_A_law.2.1 703 = .ok (.laload, 1) := by decide +kernel
theorem d_A_law_704 : decode mt_A_law.2.1 704 = .ok (.iload 6, 2) := by decide +kernel
theorem d_A_law_706 : decode mt_A_law.2.1 706 = .ok (.i2l, 1) := by decide +kernel
theorem d_A_law_707 : decode mt_A_law.2.1 707 = .ok (.lcmp, 1) := by decide +kernel
theorem d_A_law_708 : decode mt_A_law.2.1 708 = .ok (.ifCond .eq (5), 3) := by decide +kernel
theorem d_A_law_711 : decode mt_A_law.2.1 711 = .ok (.iconst 0, 1) := by decide +kernel
theorem d_A_law_712 : decode mt_A_law.2.1 712 = .ok (.ireturn, 1) := by decide +kernel
theorem d_A_law_713 : decode mt_A_law.2.1 713 = .ok (.goto (349), 3) := by decide +kernel
theorem d_A_law_716 : decode mt_A_law.2.1 716 = .ok (.aload_n 1, 1) := by decide +kernel
theorem d_A_law_717 : decode mt_A_law.2.1 717 = .ok (.aload_n 0, 1) := by decide +kernel
