theorem d_L_law_267 : decode code 267 = .ok (.iconst 1, 1) := by decide +kernel
theorem d_L_law_268 : decode code 268 = .ok (.iadd, 1) := by decide +kernel
theorem d_L_law_269 : decode code 269 = .ok (.iaload, 1) := by decide +kernel
theorem d_L_law_270 : decode code 270 = .ok (.aload_n 0, 1) := by decide +kernel
theorem d_L_law_271 : decode code 271 = .ok (.iload 4, 2) := by decide +kernel
theorem d_L_law_273 : decode code 273 = .ok (.iconst 2, 1) := by decide +kernel
theorem d_L_law_274 : decode code 274 = .ok (.iadd, 1) := by decide +kernel
theorem d_L_law_275 : decode code 275 = .ok (.iaload, 1) := by decide +kernel
theorem d_L_law_276 : decode code 276 = .ok (.i2l, 1) := by decide +kernel
theorem d_L_law_277 : decode code 277 = .ok (.bipush 32, 2) := by decide +kernel
theorem d_L_law_279 : decode code 279 = .ok (.lshl, 1) := by decide +kernel
theorem d_L_law_280 : decode code 280 = .ok (.aload_n 0, 1) := by decide +kernel
theorem d_L_law_281 : decode code 281 = .ok (.iload 4, 2) := by decide +kernel
theorem d_L_law_283 : decode code 283 = .ok (.iconst 3, 1) := by decide +kernel
theorem d_L_law_284 : decode code 284 = .ok (.iadd, 1) := by decide +kernel
theorem d_L_law_285 : decode code 285 = .ok (.iaload, 1) := by decide +kernel
theorem d_L_law_286 : decode code 286 = .ok (.i2l, 1) := by decide +kernel
theorem d_L_law_287 : decode code 287 = .ok (.ldc2_w 99, 3) := by decide +kernel
theorem d_L_law_290 : decode code 290 = .ok (.land, 1) := by decide +kernel
theorem d_L_law_291 : decode code 291 = .ok (.lor, 1) := by decide +kernel
theorem d_L_law_292 : decode code 292 = .ok (.aload_n 3, 1) := by decide +kernel
theorem d_L_law_293 : decode code 293 = .ok (.invokestatic 101, 3) := by decide +kernel
theorem d_L_law_296 : decode code 296 = .ok (.istore 5, 2) := by decide +kernel
theorem d_L_law_298 : decode code 298 = .ok (.aload_n 2, 1) := by decide +kernel
theorem d_L_law_299 : decode code 299 = .ok (.aload_n 0, 1) := by decide +kernel
theorem d_L_law_300 : decode code 300 = .ok (.iload 4, 2) := by decide +kernel
theorem d_L_law_302 : decode code 302 = .ok (.iconst 1, 1) := by decide +kernel
theorem d_L_law_303 : decode code 303 = .ok (.iadd, 1) := by decide +kernel
theorem d_L_law_304 : decode code 304 = .ok (.iaload, 1) := by decide +kernel
theorem d_L_law_305 : decode code 305 = .ok (.aload_n 0, 1) := by decide +kernel
theorem d_L_law_306 : decode code 306 = .ok (.iload 4, 2) := by decide +kernel
theorem d_L_law_308 : decode code 308 = .ok (.iconst 2, 1) := by decide +kernel
theorem d_L_law_309 : decode code 309 = .ok (.iadd, 1) := by decide +kernel
theorem d_L_law_310 : decode code 310 = .ok (.iaload, 1) := by decide +kernel
theorem d_L_law_311 : decode code 311 = .ok (.i2l, 1) := by decide +kernel
theorem d_L_law_312 : decode code 312 = .ok (.bipush 32, 2) := by decide +kernel
theorem d_L_law_314 : decode code 314 = .ok (.lshl, 1) := by decide +kernel
theorem d_L_law_315 : decode code 315 = .ok (.aload_n 0, 1) := by decide +kernel
theorem d_L_law_316 : decode code 316 = .ok (.iload 4, 2) := by decide +kernel
theorem d_L_law_318 : decode code 318 = .ok (.iconst 3, 1) := by decide +kernel
theorem d_L_law_319 : decode code 319 = .ok (.iadd, 1) := by decide +kernel
theorem d_L_law_320 : decode code 320 = .ok (.iaload, 1) := by decide +kernel
theorem d_L_law_321 : decode code 321 = .ok (.i2l, 1) := by decide +kernel
theorem d_L_law_322 : decode code 322 = .ok (.ldc2_w 99, 3) := by decide +kernel
theorem d_L_law_325 : decode code 325 = .ok (.land, 1) := by decide +kernel
theorem d_L_law_326 : decode code 326 = .ok (.lor, 1) := by decide +kernel
theorem d_L_law_327 : decode code 327 = .ok (.invokevirtual 104, 3) := by decide +kernel
theorem d_L_law_330 : decode code 330 = .ok (.istore 6, 2) := by decide +kernel
theorem d_L_law_332 : decode code 332 = .ok (.aload_n 2, 1) := by decide +kernel
theorem d_L_law_333 : decode code 333 = .ok (.invokevirtual 91, 3) := by decide +kernel
theorem d_L_law_336 : decode code 336 = .ok (.iload 5, 2) := by decide +kernel
theorem d_L_law_338 : decode code 338 = .ok (.if_icmp .eq 5, 3) := by decide +kernel
theorem d_L_law_341 : decode code 341 = .ok (.iconst 0, 1) := by decide +kernel
theorem d_L_law_342 : decode code 342 = .ok (.ireturn, 1) := by decide +kernel
theorem d_L_law_343 : decode code 343 = .ok (.iload 5, 2) := by decide +kernel
theorem d_L_law_345 : decode code 345 = .ok (.ifCond .ne 22, 3) := by decide +kernel
theorem d_L_law_348 : decode code 348 = .ok (.aload_n 3, 1) := by decide +kernel
theorem d_L_law_349 : decode code 349 = .ok (.iconst 0, 1) := by decide +kernel
theorem d_L_law_350 : decode code 350 = .ok (.laload, 1) := by decide +kernel
theorem d_L_law_351 : decode code 351 = .ok (.iload 6, 2) := by decide +kernel
theorem d_L_law_353 : decode code 353 = .ok (.ifCond .eq 7, 3) := by decide +kernel
theorem d_L_law_356 : decode code 356 = .ok (.lconst 1, 1) := by decide +kernel
theorem d_L_law_357 : decode code 357 = .ok (.goto 4, 3) := by decide +kernel
theorem d_L_law_360 : decode code 360 = .ok (.lconst 0, 1) := by decide +kernel
theorem d_L_law_361 : decode code 361 = .ok (.lcmp, 1) := by decide +kernel
theorem d_L_law_362 : decode code 362 = .ok (.ifCond .eq 5, 3) := by decide +kernel
theorem d_L_law_365 : decode code 365 = .ok (.iconst 0, 1) := by decide +kernel
theorem d_L_law_366 : decode code 366 = .ok (.ireturn, 1) := by decide +kernel
theorem d_L_law_367 : decode code 367 = .ok (.goto 1224, 3) := by decide +kernel
theorem d_L_law_370 : decode code 370 = .ok (.aload_n 1, 1) := by decide +kernel
theorem d_L_law_371 : decode code 371 = .ok (.aload_n 0, 1) := by decide +kernel
theorem d_L_law_372 : decode code 372 = .ok (.iload 4, 2) := by decide +kernel
theorem d_L_law_374 : decode code 374 = .ok (.iconst 1, 1) := by decide +kernel
theorem d_L_law_375 : decode code 375 = .ok (.iadd, 1) := by decide +kernel
theorem d_L_law_376 : decode code 376 = .ok (.iaload, 1) := by decide +kernel
theorem d_L_law_377 : decode code 377 = .ok (.aload_n 0, 1) := by decide +kernel
theorem d_L_law_378 : decode code 378 = .ok (.iload 4, 2) := by decide +kernel
theorem d_L_law_380 : decode code 380 = .ok (.iconst 2, 1) := by decide +kernel
theorem d_L_law_381 : decode code 381 = .ok (.iadd, 1) := by decide +kernel
theorem d_L_law_382 : decode code 382 = .ok (.iaload, 1) := by decide +kernel
theorem d_L_law_383 : decode code 383 = .ok (.aload_n 0, 1) := by decide +kernel
theorem d_L_law_384 : decode code 384 = .ok (.iload 4, 2) := by decide +kernel
theorem d_L_law_386 : decode code 386 = .ok (.iconst 3, 1) := by decide +kernel
theorem d_L_law_387 : decode code 387 = .ok (.iadd, 1) := by decide +kernel
theorem d_L_law_388 : decode code 388 = .ok (.iaload, 1) := by decide +kernel
theorem d_L_law_389 : decode code 389 = .ok (.aload_n 3, 1) := by decide +kernel
theorem d_L_law_390 : decode code 390 = .ok (.invokestatic 105, 3) := by decide +kernel
theorem d_L_law_393 : decode code 393 = .ok (.istore 5, 2) := by decide +kernel
theorem d_L_law_395 : decode code 395 = .ok (.aload_n 2, 1) := by decide +kernel
theorem d_L_law_396 : decode code 396 = .ok (.aload_n 0, 1) := by decide +kernel
theorem d_L_law_397 : decode code 397 = .ok (.iload 4, 2) := by decide +kernel
theorem d_L_law_399 : decode code 399 = .ok (.iconst 1, 1) := by decide +kernel
theorem d_L_law_400 : decode code 400 = .ok (.iadd, 1) := by decide +kernel
theorem d_L_law_401 : decode code 401 = .ok (.iaload, 1) := by decide +kernel
theorem d_L_law_402 : decode code 402 = .ok (.aload_n 0, 1) := by decide +kernel
theorem d_L_law_403 : decode code 403 = .ok (.iload 4, 2) := by decide +kernel
theorem d_L_law_405 : decode code 405 = .ok (.iconst 2, 1) := by decide +kernel
theorem d_L_law_406 : decode code 406 = .ok (.iadd, 1) := by decide +kernel
theorem d_L_law_407 : decode code 407 = .ok (.iaload, 1) := by decide +kernel
theorem d_L_law_408 : decode code 408 = .ok (.aload_n 0, 1) := by decide +kernel
theorem d_L_law_409 : decode code 409 = .ok (.iload 4, 2) := by decide +kernel
theorem d_L_law_411 : decode code 411 = .ok (.iconst 3, 1) := by decide +kernel
theorem d_L_law_412 : decode code 412 = .ok (.iadd, 1) := by decide +kernel
theorem d_L_law_413 : decode code 413 = .ok (.iaload, 1) := by decide +kernel
theorem d_L_law_414 : decode code 414 = .ok (.invokevirtual 108, 3) := by decide +kernel
theorem d_L_law_417 : decode code 417 = .ok (.istore 6, 2) := by decide +kernel
theorem d_L_law_419 : decode code 419 = .ok (.aload_n 2, 1) := by decide +kernel
theorem d_L_law_420 : decode code 420 = .ok (.invokevirtual 91, 3) := by decide +kernel
theorem d_L_law_423 : decode code 423 = .ok (.iload 5, 2) := by decide +kernel
theorem d_L_law_425 : decode code 425 = .ok (.if_icmp .eq 5, 3) := by decide +kernel
theorem d_L_law_428 : decode code 428 = .ok (.iconst 0, 1) := by decide +kernel
theorem d_L_law_429 : decode code 429 = .ok (.ireturn, 1) := by decide +kernel
theorem d_L_law_430 : decode code 430 = .ok (.iload 5, 2) := by decide +kernel
theorem d_L_law_432 : decode code 432 = .ok (.ifCond .ne 15, 3) := by decide +kernel
theorem d_L_law_435 : decode code 435 = .ok (.aload_n 3, 1) := by decide +kernel
theorem d_L_law_436 : decode code 436 = .ok (.iconst 0, 1) := by decide +kernel
theorem d_L_law_437 : decode code 437 = .ok (.laload, 1) := by decide +kernel
theorem d_L_law_438 : decode code 438 = .ok (.iload 6, 2) := by decide +kernel
theorem d_L_law_440 : decode code 440 = .ok (.i2l, 1) := by decide +kernel
theorem d_L_law_441 : decode code 441 = .ok (.lcmp, 1) := by decide +kernel
theorem d_L_law_442 : decode code 442 = .ok (.ifCond .eq 5, 3) := by decide +kernel
theorem d_L_law_445 : decode code 445 = .ok (.iconst 0, 1) := by decide +kernel
theorem d_L_law_446 : decode code 446 = .ok (.ireturn, 1) := by decide +kernel
theorem d_L_law_447 : decode code 447 = .ok (.goto 1144, 3) := by decide +kernel
theorem d_L_law_450 : decode code 450 = .ok (.aload_n 1, 1) := by decide +kernel
theorem d_L_law_451 : decode code 451 = .ok (.aload_n 0, 1) := by decide +kernel
theorem d_L_law_452 : decode code 452 = .ok (.iload 4, 2) := by decide +kernel
theorem d_L_law_454 : decode code 454 = .ok (.iconst 1, 1) := by decide +kernel
theorem d_L_law_455 : decode code 455 = .ok (.iadd, 1) := by decide +kernel
theorem d_L_law_456 : decode code 456 = .ok (.iaload, 1) := by decide +kernel
theorem d_L_law_457 : decode code 457 = .ok (.aload_n 0, 1) := by decide +kernel
theorem d_L_law_458 : decode code 458 = .ok (.iload 4, 2) := by decide +kernel
theorem d_L_law_460 : decode code 460 = .ok (.iconst 2, 1) := by decide +kernel
theorem d_L_law_461 : decode code 461 = .ok (.iadd, 1) := by decide +kernel
theorem d_L_law_462 : decode code 462 = .ok (.iaload, 1) := by decide +kernel
theorem d_L_law_463 : decode code 463 = .ok (.aload_n 3, 1) := by decide +kernel
theorem d_L_law_464 : decode code 464 = .ok (.invokestatic 109, 3) := by decide +kernel
theorem d_L_law_467 : decode code 467 = .ok (.istore 5, 2) := by decide +kernel
theorem d_L_law_469 : decode code 469 = .ok (.aload_n 2, 1) := by decide +kernel
theorem d_L_law_470 : decode code 470 = .ok (.aload_n 0, 1) := by decide +kernel
theorem d_L_law_471 : decode code 471 = .ok (.iload 4, 2) := by decide +kernel
theorem d_L_law_473 : decode code 473 = .ok (.iconst 1, 1) := by decide +kernel
theorem d_L_law_474 : decode code 474 = .ok (.iadd, 1) := by decide +kernel
theorem d_L_law_475 : decode code 475 = .ok (.iaload, 1) := by decide +kernel
theorem d_L_law_476 : decode code 476 = .ok (.aload_n 0, 1) := by decide +kernel
theorem d_L_law_477 : decode code 477 = .ok (.iload 4, 2) := by decide +kernel
theorem d_L_law_479 : decode code 479 = .ok (.iconst 2, 1) := by decide +kernel
theorem d_L_law_480 : decode code 480 = .ok (.iadd, 1) := by decide +kernel
theorem d_L_law_481 : decode code 481 = .ok (.iaload, 1) := by decide +kernel
theorem d_L_law_482 : decode code 482 = .ok (.invokevirtual 111, 3) := by decide +kernel
theorem d_L_law_485 : decode code 485 = .ok (.istore 6, 2) := by decide +kernel
theorem d_L_law_487 : decode code 487 = .ok (.aload_n 2, 1) := by decide +kernel
theorem d_L_law_488 : decode code 488 = .ok (.invokevirtual 91, 3) := by decide +kernel
theorem d_L_law_491 : decode code 491 = .ok (.iload 5, 2) := by decide +kernel
theorem d_L_law_493 : decode code 493 = .ok (.if_icmp .eq 5, 3) := by decide +kernel
theorem d_L_law_496 : decode code 496 = .ok (.iconst 0, 1) := by decide +kernel
theorem d_L_law_497 : decode code 497 = .ok (.ireturn, 1) := by decide +kernel
theorem d_L_law_498 : decode code 498 = .ok (.iload 5, 2) := by decide +kernel
theorem d_L_law_500 : decode code 500 = .ok (.ifCond .ne 15, 3) := by decide +kernel
theorem d_L_law_503 : decode code 503 = .ok (.aload_n 3, 1) := by decide +kernel
theorem d_L_law_504 : decode code 504 = .ok (.iconst 0, 1) := by decide +kernel
theorem d_L_law_505 : decode code 505 = .ok (.laload, 1) := by decide +kernel
theorem d_L_law_506 : decode code 506 = .ok (.iload 6, 2) := by decide +kernel
theorem d_L_law_508 : decode code 508 = .ok (.i2l, 1) := by decide +kernel
theorem d_L_law_509 : decode code 509 = .ok (.lcmp, 1) := by decide +kernel
theorem d_L_law_510 : decode code 510 = .ok (.ifCond .eq 5, 3) := by decide +kernel
theorem d_L_law_513 : decode code 513 = .ok (.iconst 0, 1) := by decide +kernel
theorem d_L_law_514 : decode code 514 = .ok (.ireturn, 1) := by decide +kernel
theorem d_L_law_515 : decode code 515 = .ok (.goto 1076, 3) := by decide +kernel
theorem d_L_law_518 : decode code 518 = .ok (.aload_n 1, 1) := by decide +kernel
theorem d_L_law_519 : decode code 519 = .ok (.aload_n 0, 1) := by decide +kernel
theorem d_L_law_520 : decode code 520 = .ok (.iload 4, 2) := by decide +kernel
theorem d_L_law_522 : decode code 522 = .ok (.iconst 1, 1) := by decide +kernel
theorem d_L_law_523 : decode code 523 = .ok (.iadd, 1) := by decide +kernel
theorem d_L_law_524 : decode code 524 = .ok (.iaload, 1) := by decide +kernel
theorem d_L_law_525 : decode code 525 = .ok (.aload_n 0, 1) := by decide +kernel
theorem d_L_law_526 : decode code 526 = .ok (.iload 4, 2) := by decide +kernel
theorem d_L_law_528 : decode code 528 = .ok (.iconst 2, 1) := by decide +kernel
theorem d_L_law_529 : decode code 529 = .ok (.iadd, 1) := by decide +kernel
theorem d_L_law_530 : decode code 530 = .ok (.iaload, 1) := by decide +kernel
theorem d_L_law_531 : decode code 531 = .ok (.aload_n 3, 1) := by decide +kernel
theorem d_L_law_532 : decode code 532 = .ok (.invokestatic 112, 3) := by decide +kernel
theorem d_L_law_535 : decode code 535 = .ok (.istore 5, 2) := by decide +kernel
theorem d_L_law_537 : decode code 537 = .ok (.aload_n 2, 1) := by decide +kernel
theorem d_L_law_538 : decode code 538 = .ok (.aload_n 0, 1) := by decide +kernel
theorem d_L_law_539 : decode code 539 = .ok (.iload 4, 2) := by decide +kernel
theorem d_L_law_541 : decode code 541 = .ok (.iconst 1, 1) := by decide +kernel
theorem d_L_law_542 : decode code 542 = .ok (.iadd, 1) := by decide +kernel
theorem d_L_law_543 : decode code 543 = .ok (.iaload, 1) := by decide +kernel
theorem d_L_law_544 : decode code 544 = .ok (.aload_n 0, 1) := by decide +kernel
theorem d_L_law_545 : decode code 545 = .ok (.iload 4, 2) := by decide +kernel
theorem d_L_law_547 : decode code 547 = .ok (.iconst 2, 1) := by decide +kernel
theorem d_L_law_548 : decode code 548 = .ok (.iadd, 1) := by decide +kernel
theorem d_L_law_549 : decode code 549 = .ok (.iaload, 1) := by decide +kernel
theorem d_L_law_550 : decode code 550 = .ok (.invokevirtual 114, 3) := by decide +kernel
theorem d_L_law_553 : decode code 553 = .ok (.istore 6, 2) := by decide +kernel
theorem d_L_law_555 : decode code 555 = .ok (.aload_n 2, 1) := by decide +kernel
theorem d_L_law_556 : decode code 556 = .ok (.invokevirtual 91, 3) := by decide +kernel
theorem d_L_law_559 : decode code 559 = .ok (.iload 5, 2) := by decide +kernel
theorem d_L_law_561 : decode code 561 = .ok (.if_icmp .eq 5, 3) := by decide +kernel
theorem d_L_law_564 : decode code 564 = .ok (.iconst 0, 1) := by decide +kernel
theorem d_L_law_565 : decode code 565 = .ok (.ireturn, 1) := by decide +kernel
theorem d_L_law_566 : decode code 566 = .ok (.iload 5, 2) := by decide +kernel
theorem d_L_law_568 : decode code 568 = .ok (.ifCond .ne 22, 3) := by decide +kernel
theorem d_L_law_571 : decode code 571 = .ok (.aload_n 3, 1) := by decide +kernel
theorem d_L_law_572 : decode code 572 = .ok (.iconst 0, 1) := by decide +kernel
theorem d_L_law_573 : decode code 573 = .ok (.laload, 1) := by decide +kernel
theorem d_L_law_574 : decode code 574 = .ok (.iload 6, 2) := by decide +kernel
theorem d_L_law_576 : decode code 576 = .ok (.ifCond .eq 7, 3) := by decide +kernel
theorem d_L_law_579 : decode code 579 = .ok (.lconst 1, 1) := by decide +kernel
theorem d_L_law_580 : decode code 580 = .ok (.goto 4, 3) := by decide +kernel
theorem d_L_law_583 : decode code 583 = .ok (.lconst 0, 1) := by decide +kernel
theorem d_L_law_584 : decode code 584 = .ok (.lcmp, 1) := by decide +kernel
theorem d_L_law_585 : decode code 585 = .ok (.ifCond .eq 5, 3) := by decide +kernel
theorem d_L_law_588 : decode code 588 = .ok (.iconst 0, 1) := by decide +kernel
theorem d_L_law_589 : decode code 589 = .ok (.ireturn, 1) := by decide +kernel
theorem d_L_law_590 : decode code 590 = .ok (.goto 1001, 3) := by decide +kernel
theorem d_L_law_593 : decode code 593 = .ok (.aload_n 1, 1) := by decide +kernel
theorem d_L_law_594 : decode code 594 = .ok (.aload_n 0, 1) := by decide +kernel
theorem d_L_law_595 : decode code 595 = .ok (.iload 4, 2) := by decide +kernel
theorem d_L_law_597 : decode code 597 = .ok (.iconst 1, 1) := by decide +kernel
theorem d_L_law_598 : decode code 598 = .ok (.iadd, 1) := by decide +kernel
theorem d_L_law_599 : decode code 599 = .ok (.iaload, 1) := by decide +kernel
theorem d_L_law_600 : decode code 600 = .ok (.aload_n 0, 1) := by decide +kernel
theorem d_L_law_601 : decode code 601 = .ok (.iload 4, 2) := by decide +kernel
theorem d_L_law_603 : decode code 603 = .ok (.iconst 2, 1) := by decide +kernel
theorem d_L_law_604 : decode code 604 = .ok (.iadd, 1) := by decide +kernel
theorem d_L_law_605 : decode code 605 = .ok (.iaload, 1) := by decide +kernel
theorem d_L_law_606 : decode code 606 = .ok (.aload_n 3, 1) := by decide +kernel
theorem d_L_law_607 : decode code 607 = .ok (.invokestatic 115, 3) := by decide +kernel
theorem d_L_law_610 : decode code 610 = .ok (.istore 5, 2) := by decide +kernel
theorem d_L_law_612 : decode code 612 = .ok (.aload_n 2, 1) := by decide +kernel
theorem d_L_law_613 : decode code 613 = .ok (.aload_n 0, 1) := by decide +kernel
theorem d_L_law_614 : decode code 614 = .ok (.iload 4, 2) := by decide +kernel
theorem d_L_law_616 : decode code 616 = .ok (.iconst 1, 1) := by decide +kernel
theorem d_L_law_617 : decode code 617 = .ok (.iadd, 1) := by decide +kernel
theorem d_L_law_618 : decode code 618 = .ok (.iaload, 1) := by decide +kernel
theorem d_L_law_619 : decode code 619 = .ok (.aload_n 0, 1) := by decide +kernel
theorem d_L_law_620 : decode code 620 = .ok (.iload 4, 2) := by decide +kernel
theorem d_L_law_622 : decode code 622 = .ok (.iconst 2, 1) := by decide +kernel
theorem d_L_law_623 : decode code 623 = .ok (.iadd, 1) := by decide +kernel
theorem d_L_law_624 : decode code 624 = .ok (.iaload, 1) := by decide +kernel
theorem d_L_law_625 : decode code 625 = .ok (.invokevirtual 117, 3) := by decide +kernel
theorem d_L_law_628 : decode code 628 = .ok (.istore 6, 2) := by decide +kernel
theorem d_L_law_630 : decode code 630 = .ok (.aload_n 2, 1) := by decide +kernel
theorem d_L_law_631 : decode code 631 = .ok (.invokevirtual 91, 3) := by decide +kernel
theorem d_L_law_634 : decode code 634 = .ok (.iload 5, 2) := by decide +kernel
theorem d_L_law_636 : decode code 636 = .ok (.if_icmp .eq 5, 3) := by decide +kernel
theorem d_L_law_639 : decode code 639 = .ok (.iconst 0, 1) := by decide +kernel
theorem d_L_law_640 : decode code 640 = .ok (.ireturn, 1) := by decide +kernel
theorem d_L_law_641 : decode code 641 = .ok (.iload 5, 2) := by decide +kernel
theorem d_L_law_643 : decode code 643 = .ok (.ifCond .ne 15, 3) := by decide +kernel
theorem d_L_law_646 : decode code 646 = .ok (.aload_n 3, 1) := by decide +kernel
theorem d_L_law_647 : decode code 647 = .ok (.iconst 0, 1) := by decide +kernel
theorem d_L_law_648 : decode code 648 = .ok (.laload, 1) := by decide +kernel
theorem d_L_law_649 : decode code 649 = .ok (.iload 6, 2) := by decide +kernel
theorem d_L_law_651 : decode code 651 = .ok (.i2l, 1) := by decide +kernel
theorem d_L_law_652 : decode code 652 = .ok (.lcmp, 1) := by decide +kernel
theorem d_L_law_653 : decode code 653 = .ok (.ifCond .eq 5, 3) := by decide +kernel
theorem d_L_law_656 : decode code 656 = .ok (.iconst 0, 1) := by decide +kernel
theorem d_L_law_657 : decode code 657 = .ok (.ireturn, 1) := by decide +kernel
theorem d_L_law_658 : decode code 658 = .ok (.goto 933, 3) := by decide +kernel
theorem d_L_law_661 : decode code 661 = .ok (.aload_n 1, 1) := by decide +kernel
theorem d_L_law_662 : decode code 662 = .ok (.aload_n 0, 1) := by decide +kernel
theorem d_L_law_663 : decode code 663 = .ok (.iload 4, 2) := by decide +kernel
theorem d_L_law_665 : decode code 665 = .ok (.iconst 1, 1) := by decide +kernel
theorem d_L_law_666 : decode code 666 = .ok (.iadd, 1) := by decide +kernel
theorem d_L_law_667 : decode code 667 = .ok (.iaload, 1) := by decide +kernel
theorem d_L_law_668 : decode code 668 = .ok (.aload_n 0, 1) := by decide +kernel
theorem d_L_law_669 : decode code 669 = .ok (.iload 4, 2) := by decide +kernel
theorem d_L_law_671 : decode code 671 = .ok (.iconst 2, 1) := by decide +kernel
theorem d_L_law_672 : decode code 672 = .ok (.iadd, 1) := by decide +kernel
theorem d_L_law_673 : decode code 673 = .ok (.iaload, 1) := by decide +kernel
theorem d_L_law_674 : decode code 674 = .ok (.aload_n 3, 1) := by decide +kernel
theorem d_L_law_675 : decode code 675 = .ok (.invokestatic 118, 3) := by decide +kernel
theorem d_L_law_678 : decode code 678 = .ok (.istore 5, 2) := by decide +kernel
theorem d_L_law_680 : decode code 680 = .ok (.aload_n 2, 1) := by decide +kernel
theorem d_L_law_681 : decode code 681 = .ok (.aload_n 0, 1) := by decide +kernel
theorem d_L_law_682 : decode code 682 = .ok (.iload 4, 2) := by decide +kernel
theorem d_L_law_684 : decode code 684 = .ok (.iconst 1, 1) := by decide +kernel
theorem d_L_law_685 : decode code 685 = .ok (.iadd, 1) := by decide +kernel
theorem d_L_law_686 : decode code 686 = .ok (.iaload, 1) := by decide +kernel
theorem d_L_law_687 : decode code 687 = .ok (.aload_n 0, 1) := by decide +kernel
theorem d_L_law_688 : decode code 688 = .ok (.iload 4, 2) := by decide +kernel
theorem d_L_law_690 : decode code 690 = .ok (.iconst 2, 1) := by decide +kernel
theorem d_L_law_691 : decode code 691 = .ok (.iadd, 1) := by decide +kernel
theorem d_L_law_692 : decode code 692 = .ok (.iaload, 1) := by decide +kernel
theorem d_L_law_693 : decode code 693 = .ok (.invokevirtual 120, 3) := by decide +kernel
theorem d_L_law_696 : decode code 696 = .ok (.istore 6, 2) := by decide +kernel
theorem d_L_law_698 : decode code 698 = .ok (.aload_n 2, 1) := by decide +kernel
theorem d_L_law_699 : decode code 699 = .ok (.invokevirtual 91, 3) := by decide +kernel
theorem d_L_law_702 : decode code 702 = .ok (.iload 5, 2) := by decide +kernel
theorem d_L_law_704 : decode code 704 = .ok (.if_icmp .eq 5, 3) := by decide +kernel
theorem d_L_law_707 : decode code 707 = .ok (.iconst 0, 1) := by decide +kernel
theorem d_L_law_708 : decode code 708 = .ok (.ireturn, 1) := by decide +kernel
theorem d_L_law_709 : decode code 709 = .ok (.iload 5, 2) := by decide +kernel
theorem d_L_law_711 : decode code 711 = .ok (.ifCond .ne 15, 3) := by decide +kernel
theorem d_L_law_714 : decode code 714 = .ok (.aload_n 3, 1) := by decide +kernel
theorem d_L_law_715 : decode code 715 = .ok (.iconst 0, 1) := by decide +kernel
theorem d_L_law_716 : decode code 716 = .ok (.laload, 1) := by decide +kernel
theorem d_L_law_717 : decode code 717 = .ok (.iload 6, 2) := by decide +kernel
theorem d_L_law_719 : decode code 719 = .ok (.i2l, 1) := by decide +kernel
theorem d_L_law_720 : decode code 720 = .ok (.lcmp, 1) := by decide +kernel
theorem d_L_law_721 : decode code 721 = .ok (.ifCond .eq 5, 3) := by decide +kernel
theorem d_L_law_724 : decode code 724 = .ok (.iconst 0, 1) := by decide +kernel
theorem d_L_law_725 : decode code 725 = .ok (.ireturn, 1) := by decide +kernel
theorem d_L_law_726 : decode code 726 = .ok (.goto 865, 3) := by decide +kernel
theorem d_L_law_729 : decode code 729 = .ok (.aload_n 1, 1) := by decide +kernel
theorem d_L_law_730 : decode code 730 = .ok (.aload_n 0, 1) := by decide +kernel
theorem d_L_law_731 : decode code 731 = .ok (.iload 4, 2) := by decide +kernel
theorem d_L_law_733 : decode code 733 = .ok (.iconst 1, 1) := by decide +kernel
theorem d_L_law_734 : decode code 734 = .ok (.iadd, 1) := by decide +kernel
theorem d_L_law_735 : decode code 735 = .ok (.iaload, 1) := by decide +kernel
theorem d_L_law_736 : decode code 736 = .ok (.aload_n 0, 1) := by decide +kernel
theorem d_L_law_737 : decode code 737 = .ok (.iload 4, 2) := by decide +kernel
theorem d_L_law_739 : decode code 739 = .ok (.iconst 2, 1) := by decide +kernel
theorem d_L_law_740 : decode code 740 = .ok (.iadd, 1) := by decide +kernel
theorem d_L_law_741 : decode code 741 = .ok (.iaload, 1) := by decide +kernel
theorem d_L_law_742 : decode code 742 = .ok (.aload_n 0, 1) := by decide +kernel
theorem d_L_law_743 : decode code 743 = .ok (.iload 4, 2) := by decide +kernel
theorem d_L_law_745 : decode code 745 = .ok (.iconst 3, 1) := by decide +kernel
theorem d_L_law_746 : decode code 746 = .ok (.iadd, 1) := by decide +kernel
theorem d_L_law_747 : decode code 747 = .ok (.iaload, 1) := by decide +kernel
theorem d_L_law_748 : decode code 748 = .ok (.aload_n 3, 1) := by decide +kernel
theorem d_L_law_749 : decode code 749 = .ok (.invokestatic 121, 3) := by decide +kernel
theorem d_L_law_752 : decode code 752 = .ok (.istore 5, 2) := by decide +kernel
theorem d_L_law_754 : decode code 754 = .ok (.aload_n 2, 1) := by decide +kernel
theorem d_L_law_755 : decode code 755 = .ok (.aload_n 0, 1) := by decide +kernel
theorem d_L_law_756 : decode code 756 = .ok (.iload 4, 2) := by decide +kernel
theorem d_L_law_758 : decode code 758 = .ok (.iconst 1, 1) := by decide +kernel
theorem d_L_law_759 : decode code 759 = .ok (.iadd, 1) := by decide +kernel
theorem d_L_law_760 : decode code 760 = .ok (.iaload, 1) := by decide +kernel
theorem d_L_law_761 : decode code 761 = .ok (.aload_n 0, 1) := by decide +kernel
theorem d_L_law_762 : decode code 762 = .ok (.iload 4, 2) := by decide +kernel
theorem d_L_law_764 : decode code 764 = .ok (.iconst 2, 1) := by decide +kernel
theorem d_L_law_765 : decode code 765 = .ok (.iadd, 1) := by decide +kernel
theorem d_L_law_766 : decode code 766 = .ok (.iaload, 1) := by decide +kernel
theorem d_L_law_767 : decode code 767 = .ok (.aload_n 0, 1) := by decide +kernel
theorem d_L_law_768 : decode code 768 = .ok (.iload 4, 2) := by decide +kernel
theorem d_L_law_770 : decode code 770 = .ok (.iconst 3, 1) := by decide +kernel
theorem d_L_law_771 : decode code 771 = .ok (.iadd, 1) := by decide +kernel
theorem d_L_law_772 : decode code 772 = .ok (.iaload, 1) := by decide +kernel
theorem d_L_law_773 : decode code 773 = .ok (.invokevirtual 123, 3) := by decide +kernel
theorem d_L_law_776 : decode code 776 = .ok (.istore 6, 2) := by decide +kernel
theorem d_L_law_778 : decode code 778 = .ok (.aload_n 2, 1) := by decide +kernel
theorem d_L_law_779 : decode code 779 = .ok (.invokevirtual 91, 3) := by decide +kernel
theorem d_L_law_782 : decode code 782 = .ok (.iload 5, 2) := by decide +kernel
theorem d_L_law_784 : decode code 784 = .ok (.if_icmp .eq 5, 3) := by decide +kernel
theorem d_L_law_787 : decode code 787 = .ok (.iconst 0, 1) := by decide +kernel
theorem d_L_law_788 : decode code 788 = .ok (.ireturn, 1) := by decide +kernel
theorem d_L_law_789 : decode code 789 = .ok (.iload 5, 2) := by decide +kernel
theorem d_L_law_791 : decode code 791 = .ok (.ifCond .ne 15, 3) := by decide +kernel
theorem d_L_law_794 : decode code 794 = .ok (.aload_n 3, 1) := by decide +kernel
theorem d_L_law_795 : decode code 795 = .ok (.iconst 0, 1) := by decide +kernel
theorem d_L_law_796 : decode code 796 = .ok (.laload, 1) := by decide +kernel
theorem d_L_law_797 : decode code 797 = .ok (.iload 6, 2) := by decide +kernel
theorem d_L_law_799 : decode code 799 = .ok (.i2l, 1) := by decide +kernel
theorem d_L_law_800 : decode code 800 = .ok (.lcmp, 1) := by decide +kernel
theorem d_L_law_801 : decode code 801 = .ok (.ifCond .eq 5, 3) := by decide +kernel
theorem d_L_law_804 : decode code 804 = .ok (.iconst 0, 1) := by decide +kernel
theorem d_L_law_805 : decode code 805 = .ok (.ireturn, 1) := by decide +kernel
theorem d_L_law_806 : decode code 806 = .ok (.goto 785, 3) := by decide +kernel
theorem d_L_law_809 : decode code 809 = .ok (.aload_n 1, 1) := by decide +kernel
theorem d_L_law_810 : decode code 810 = .ok (.aload_n 0, 1) := by decide +kernel
theorem d_L_law_811 : decode code 811 = .ok (.iload 4, 2) := by decide +kernel
theorem d_L_law_813 : decode code 813 = .ok (.iconst 1, 1) := by decide +kernel
theorem d_L_law_814 : decode code 814 = .ok (.iadd, 1) := by decide +kernel
theorem d_L_law_815 : decode code 815 = .ok (.iaload, 1) := by decide +kernel
theorem d_L_law_816 : decode code 816 = .ok (.aload_n 0, 1) := by decide +kernel
theorem d_L_law_817 : decode code 817 = .ok (.iload 4, 2) := by decide +kernel
theorem d_L_law_819 : decode code 819 = .ok (.iconst 2, 1) := by decide +kernel
theorem d_L_law_820 : decode code 820 = .ok (.iadd, 1) := by decide +kernel
theorem d_L_law_821 : decode code 821 = .ok (.iaload, 1) := by decide +kernel
theorem d_L_law_822 : decode code 822 = .ok (.aload_n 0, 1) := by decide +kernel
theorem d_L_law_823 : decode code 823 = .ok (.iload 4, 2) := by decide +kernel
theorem d_L_law_825 : decode code 825 = .ok (.iconst 3, 1) := by decide +kernel
theorem d_L_law_826 : decode code 826 = .ok (.iadd, 1) := by decide +kernel
theorem d_L_law_827 : decode code 827 = .ok (.iaload, 1) := by decide +kernel
theorem d_L_law_828 : decode code 828 = .ok (.aload_n 3, 1) := by decide +kernel
theorem d_L_law_829 : decode code 829 = .ok (.invokestatic 124, 3) := by decide +kernel
theorem d_L_law_832 : decode code 832 = .ok (.istore 5, 2) := by decide +kernel
theorem d_L_law_834 : decode code 834 = .ok (.aload_n 2, 1) := by decide +kernel
theorem d_L_law_835 : decode code 835 = .ok (.aload_n 0, 1) := by decide +kernel
theorem d_L_law_836 : decode code 836 = .ok (.iload 4, 2) := by decide +kernel
theorem d_L_law_838 : decode code 838 = .ok (.iconst 1, 1) := by decide +kernel
theorem d_L_law_839 : decode code 839 = .ok (.iadd, 1) := by decide +kernel
theorem d_L_law_840 : decode code 840 = .ok (.iaload, 1) := by decide +kernel
theorem d_L_law_841 : decode code 841 = .ok (.aload_n 0, 1) := by decide +kernel
theorem d_L_law_842 : decode code 842 = .ok (.iload 4, 2) := by decide +kernel
theorem d_L_law_844 : decode code 844 = .ok (.iconst 2, 1) := by decide +kernel
theorem d_L_law_845 : decode code 845 = .ok (.iadd, 1) := by decide +kernel
theorem d_L_law_846 : decode code 846 = .ok (.iaload, 1) := by decide +kernel
theorem d_L_law_847 : decode code 847 = .ok (.aload_n 0, 1) := by decide +kernel
theorem d_L_law_848 : decode code 848 = .ok (.iload 4, 2) := by decide +kernel
theorem d_L_law_850 : decode code 850 = .ok (.iconst 3, 1) := by decide +kernel
theorem d_L_law_851 : decode code 851 = .ok (.iadd, 1) := by decide +kernel
theorem d_L_law_852 : decode code 852 = .ok (.iaload, 1) := by decide +kernel
theorem d_L_law_853 : decode code 853 = .ok (.invokevirtual 126, 3) := by decide +kernel
theorem d_L_law_856 : decode code 856 = .ok (.istore 6, 2) := by decide +kernel
theorem d_L_law_858 : decode code 858 = .ok (.aload_n 2, 1) := by decide +kernel
theorem d_L_law_859 : decode code 859 = .ok (.invokevirtual 91, 3) := by decide +kernel
theorem d_L_law_862 : decode code 862 = .ok (.iload 5, 2) := by decide +kernel
theorem d_L_law_864 : decode code 864 = .ok (.if_icmp .eq 5, 3) := by decide +kernel
theorem d_L_law_867 : decode code 867 = .ok (.iconst 0, 1) := by decide +kernel
theorem d_L_law_868 : decode code 868 = .ok (.ireturn, 1) := by decide +kernel
theorem d_L_law_869 : decode code 869 = .ok (.iload 5, 2) := by decide +kernel
theorem d_L_law_871 : decode code 871 = .ok (.ifCond .ne 15, 3) := by decide +kernel
theorem d_L_law_874 : decode code 874 = .ok (.aload_n 3, 1) := by decide +kernel
theorem d_L_law_875 : decode code 875 = .ok (.iconst 0, 1) := by decide +kernel
theorem d_L_law_876 : decode code 876 = .ok (.laload, 1) := by decide +kernel
theorem d_L_law_877 : decode code 877 = .ok (.iload 6, 2) := by decide +kernel
theorem d_L_law_879 : decode code 879 = .ok (.i2l, 1) := by decide +kernel
theorem d_L_law_880 : decode code 880 = .ok (.lcmp, 1) := by decide +kernel
theorem d_L_law_881 : decode code 881 = .ok (.ifCond .eq 5, 3) := by decide +kernel
theorem d_L_law_884 : decode code 884 = .ok (.iconst 0, 1) := by decide +kernel
theorem d_L_law_885 : decode code 885 = .ok (.ireturn, 1) := by decide +kernel
theorem d_L_law_886 : decode code 886 = .ok (.goto 705, 3) := by decide +kernel
theorem d_L_law_889 : decode code 889 = .ok (.aload_n 1, 1) := by decide +kernel
theorem d_L_law_890 : decode code 890 = .ok (.aload_n 0, 1) := by decide +kernel
theorem d_L_law_891 : decode code 891 = .ok (.iload 4, 2) := by decide +kernel
