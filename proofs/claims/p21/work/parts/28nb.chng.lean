theorem dL_changes_308 : decode cL_changes 308 = .ok (.goto 5, 3) := by decide +kernel
theorem dL_changes_311 : decode cL_changes 311 = .ok (.iload 7, 2) := by decide +kernel
theorem dL_changes_313 : decode cL_changes 313 = .ok (.invokestatic 92, 3) := by decide +kernel
theorem dL_changes_316 : decode cL_changes 316 = .ok (.istore 10, 2) := by decide +kernel
theorem dL_changes_318 : decode cL_changes 318 = .ok (.iload_n 2, 1) := by decide +kernel
theorem dL_changes_319 : decode cL_changes 319 = .ok (.ifCond .eq 17, 3) := by decide +kernel
theorem dL_changes_322 : decode cL_changes 322 = .ok (.iload_n 1, 1) := by decide +kernel
theorem dL_changes_323 : decode cL_changes 323 = .ok (.bipush 9, 2) := by decide +kernel
theorem dL_changes_325 : decode cL_changes 325 = .ok (.ishr, 1) := by decide +kernel
theorem dL_changes_326 : decode cL_changes 326 = .ok (.bipush 7, 2) := by decide +kernel
theorem dL_changes_328 : decode cL_changes 328 = .ok (.invokestatic 92, 3) := by decide +kernel
theorem dL_changes_331 : decode cL_changes 331 = .ok (.iconst 1, 1) := by decide +kernel
theorem dL_changes_332 : decode cL_changes 332 = .ok (.isub, 1) := by decide +kernel
theorem dL_changes_333 : decode cL_changes 333 = .ok (.goto 21, 3) := by decide +kernel
theorem dL_changes_336 : decode cL_changes 336 = .ok (.iload_n 1, 1) := by decide +kernel
theorem dL_changes_337 : decode cL_changes 337 = .ok (.bipush 9, 2) := by decide +kernel
theorem dL_changes_339 : decode cL_changes 339 = .ok (.ishr, 1) := by decide +kernel
theorem dL_changes_340 : decode cL_changes 340 = .ok (.iload 7, 2) := by decide +kernel
theorem dL_changes_342 : decode cL_changes 342 = .ok (.ifCond .ne 7, 3) := by decide +kernel
theorem dL_changes_345 : decode cL_changes 345 = .ok (.iconst 1, 1) := by decide +kernel
theorem dL_changes_346 : decode cL_changes 346 = .ok (.goto 5, 3) := by decide +kernel
theorem dL_changes_349 : decode cL_changes 349 = .ok (.iload 7, 2) := by decide +kernel
theorem dL_changes_351 : decode cL_changes 351 = .ok (.invokestatic 92, 3) := by decide +kernel
theorem dL_changes_354 : decode cL_changes 354 = .ok (.istore 11, 2) := by decide +kernel
theorem dL_changes_356 : decode cL_changes 356 = .ok (.iload_n 2, 1) := by decide +kernel
theorem dL_changes_357 : decode cL_changes 357 = .ok (.ifCond .eq 17, 3) := by decide +kernel
theorem dL_changes_360 : decode cL_changes 360 = .ok (.iload_n 1, 1) := by decide +kernel
theorem dL_changes_361 : decode cL_changes 361 = .ok (.bipush 11, 2) := by decide +kernel
theorem dL_changes_363 : decode cL_changes 363 = .ok (.ishr, 1) := by decide +kernel
theorem dL_changes_364 : decode cL_changes 364 = .ok (.bipush 6, 2) := by decide +kernel
theorem dL_changes_366 : decode cL_changes 366 = .ok (.invokestatic 92, 3) := by decide +kernel
theorem dL_changes_369 : decode cL_changes 369 = .ok (.iconst 1, 1) := by decide +kernel
theorem dL_changes_370 : decode cL_changes 370 = .ok (.isub, 1) := by decide +kernel
theorem dL_changes_371 : decode cL_changes 371 = .ok (.goto 25, 3) := by decide +kernel
theorem dL_changes_374 : decode cL_changes 374 = .ok (.iload_n 1, 1) := by decide +kernel
theorem dL_changes_375 : decode cL_changes 375 = .ok (.bipush 11, 2) := by decide +kernel
theorem dL_changes_377 : decode cL_changes 377 = .ok (.ishr, 1) := by decide +kernel
theorem dL_changes_378 : decode cL_changes 378 = .ok (.iload_n 1, 1) := by decide +kernel
theorem dL_changes_379 : decode cL_changes 379 = .ok (.iconst 2, 1) := by decide +kernel
theorem dL_changes_380 : decode cL_changes 380 = .ok (.ishr, 1) := by decide +kernel
theorem dL_changes_381 : decode cL_changes 381 = .ok (.iconst 2, 1) := by decide +kernel
theorem dL_changes_382 : decode cL_changes 382 = .ok (.invokestatic 92, 3) := by decide +kernel
theorem dL_changes_385 : decode cL_changes 385 = .ok (.ifCond .ne 7, 3) := by decide +kernel
theorem dL_changes_388 : decode cL_changes 388 = .ok (.iconst 4, 1) := by decide +kernel
theorem dL_changes_389 : decode cL_changes 389 = .ok (.goto 4, 3) := by decide +kernel
theorem dL_changes_392 : decode cL_changes 392 = .ok (.iconst 2, 1) := by decide +kernel
theorem dL_changes_393 : decode cL_changes 393 = .ok (.invokestatic 92, 3) := by decide +kernel
theorem dL_changes_396 : decode cL_changes 396 = .ok (.istore 12, 2) := by decide +kernel
theorem dL_changes_398 : decode cL_changes 398 = .ok (.iload 6, 2) := by decide +kernel
theorem dL_changes_400 : decode cL_changes 400 = .ok (.ifCond .ne 27, 3) := by decide +kernel
theorem dL_changes_403 : decode cL_changes 403 = .ok (.iload 10, 2) := by decide +kernel
theorem dL_changes_405 : decode cL_changes 405 = .ok (.ifCond .lt 22, 3) := by decide +kernel
theorem dL_changes_408 : decode cL_changes 408 = .ok (.iload 10, 2) := by decide +kernel
theorem dL_changes_410 : decode cL_changes 410 = .ok (.iload 7, 2) := by decide +kernel
theorem dL_changes_412 : decode cL_changes 412 = .ok (.if_icmp .ge 15, 3) := by decide +kernel
theorem dL_changes_415 : decode cL_changes 415 = .ok (.iload 11, 2) := by decide +kernel
theorem dL_changes_417 : decode cL_changes 417 = .ok (.ifCond .lt 10, 3) := by decide +kernel
theorem dL_changes_420 : decode cL_changes 420 = .ok (.iload 11, 2) := by decide +kernel
theorem dL_changes_422 : decode cL_changes 422 = .ok (.iload 7, 2) := by decide +kernel
theorem dL_changes_424 : decode cL_changes 424 = .ok (.if_icmp .lt 7, 3) := by decide +kernel
theorem dL_changes_427 : decode cL_changes 427 = .ok (.iconst 1, 1) := by decide +kernel
theorem dL_changes_428 : decode cL_changes 428 = .ok (.goto 4, 3) := by decide +kernel
theorem dL_changes_431 : decode cL_changes 431 = .ok (.iconst 0, 1) := by decide +kernel
theorem dL_changes_432 : decode cL_changes 432 = .ok (.istore 6, 2) := by decide +kernel
theorem dL_changes_434 : decode cL_changes 434 = .ok (.aload_n 0, 1) := by decide +kernel
theorem dL_changes_435 : decode cL_changes 435 = .ok (.iconst 1, 1) := by decide +kernel
theorem dL_changes_436 : decode cL_changes 436 = .ok (.iload 5, 2) := by decide +kernel
theorem dL_changes_438 : decode cL_changes 438 = .ok (.iload 10, 2) := by decide +kernel
theorem dL_changes_440 : decode cL_changes 440 = .ok (.iload 11, 2) := by decide +kernel
theorem dL_changes_442 : decode cL_changes 442 = .ok (.iload 12, 2) := by decide +kernel
theorem dL_changes_444 : decode cL_changes 444 = .ok (.invokestatic 85, 3) := by decide +kernel
theorem dL_changes_447 : decode cL_changes 447 = .ok (.istore 13, 2) := by decide +kernel
theorem dL_changes_449 : decode cL_changes 449 = .ok (.iload 6, 2) := by decide +kernel
theorem dL_changes_451 : decode cL_changes 451 = .ok (.ifCond .ne 21, 3) := by decide +kernel
theorem dL_changes_454 : decode cL_changes 454 = .ok (.iload 10, 2) := by decide +kernel
theorem dL_changes_456 : decode cL_changes 456 = .ok (.iload 11, 2) := by decide +kernel
theorem dL_changes_458 : decode cL_changes 458 = .ok (.if_icmp .eq 14, 3) := by decide +kernel
theorem dL_changes_461 : decode cL_changes 461 = .ok (.iload 12, 2) := by decide +kernel
theorem dL_changes_463 : decode cL_changes 463 = .ok (.ifCond .lt 9, 3) := by decide +kernel
theorem dL_changes_466 : decode cL_changes 466 = .ok (.iload 12, 2) := by decide +kernel
theorem dL_changes_468 : decode cL_changes 468 = .ok (.iconst 3, 1) := by decide +kernel
theorem dL_changes_469 : decode cL_changes 469 = .ok (.if_icmp .le 35, 3) := by decide +kernel
theorem dL_changes_472 : decode cL_changes 472 = .ok (.iload 13, 2) := by decide +kernel
theorem dL_changes_474 : decode cL_changes 474 = .ok (.iload 6, 2) := by decide +kernel
theorem dL_changes_476 : decode cL_changes 476 = .ok (.ifCond .eq 8, 3) := by decide +kernel
theorem dL_changes_479 : decode cL_changes 479 = .ok (.bipush (-111), 2) := by decide +kernel
theorem dL_changes_481 : decode cL_changes 481 = .ok (.goto 5, 3) := by decide +kernel
theorem dL_changes_484 : decode cL_changes 484 = .ok (.bipush (-112), 2) := by decide +kernel
theorem dL_changes_486 : decode cL_changes 486 = .ok (.if_icmp .ne 16, 3) := by decide +kernel
theorem dL_changes_489 : decode cL_changes 489 = .ok (.aload_n 0, 1) := by decide +kernel
theorem dL_changes_490 : decode cL_changes 490 = .ok (.invokestatic 88, 3) := by decide +kernel
theorem dL_changes_493 : decode cL_changes 493 = .ok (.lload_n 3, 1) := by decide +kernel
theorem dL_changes_494 : decode cL_changes 494 = .ok (.lcmp, 1) := by decide +kernel
theorem dL_changes_495 : decode cL_changes 495 = .ok (.ifCond .ne 7, 3) := by decide +kernel
theorem dL_changes_498 : decode cL_changes 498 = .ok (.iconst 1, 1) := by decide +kernel
theorem dL_changes_499 : decode cL_changes 499 = .ok (.goto 4, 3) := by decide +kernel
theorem dL_changes_502 : decode cL_changes 502 = .ok (.iconst 0, 1) := by decide +kernel
theorem dL_changes_503 : decode cL_changes 503 = .ok (.ireturn, 1) := by decide +kernel
theorem dL_changes_504 : decode cL_changes 504 = .ok (.aload_n 0, 1) := by decide +kernel
theorem dL_changes_505 : decode cL_changes 505 = .ok (.iload 5, 2) := by decide +kernel
theorem dL_changes_507 : decode cL_changes 507 = .ok (.invokevirtual 45, 3) := by decide +kernel
theorem dL_changes_510 : decode cL_changes 510 = .ok (.iload 8, 2) := by decide +kernel
theorem dL_changes_512 : decode cL_changes 512 = .ok (.iload 13, 2) := by decide +kernel
theorem dL_changes_514 : decode cL_changes 514 = .ok (.iconst 1, 1) := by decide +kernel
theorem dL_changes_515 : decode cL_changes 515 = .ok (.if_icmp .ne 7, 3) := by decide +kernel
theorem dL_changes_518 : decode cL_changes 518 = .ok (.iconst 1, 1) := by decide +kernel
theorem dL_changes_519 : decode cL_changes 519 = .ok (.goto 4, 3) := by decide +kernel
theorem dL_changes_522 : decode cL_changes 522 = .ok (.iconst (-1), 1) := by decide +kernel
theorem dL_changes_523 : decode cL_changes 523 = .ok (.iadd, 1) := by decide +kernel
theorem dL_changes_524 : decode cL_changes 524 = .ok (.if_icmp .ne 27, 3) := by decide +kernel
theorem dL_changes_527 : decode cL_changes 527 = .ok (.iload 13, 2) := by decide +kernel
theorem dL_changes_529 : decode cL_changes 529 = .ok (.ifCond .eq 18, 3) := by decide +kernel
theorem dL_changes_532 : decode cL_changes 532 = .ok (.aload_n 0, 1) := by decide +kernel
theorem dL_changes_533 : decode cL_changes 533 = .ok (.iload 5, 2) := by decide +kernel
theorem dL_changes_535 : decode cL_changes 535 = .ok (.iload 10, 2) := by decide +kernel
theorem dL_changes_537 : decode cL_changes 537 = .ok (.iload 11, 2) := by decide +kernel
theorem dL_changes_539 : decode cL_changes 539 = .ok (.iload 12, 2) := by decide +kernel
theorem dL_changes_541 : decode cL_changes 541 = .ok (.invokevirtual 51, 3) := by decide +kernel
theorem dL_changes_544 : decode cL_changes 544 = .ok (.ifCond .eq 7, 3) := by decide +kernel
theorem dL_changes_547 : decode cL_changes 547 = .ok (.iconst 1, 1) := by decide +kernel
theorem dL_changes_548 : decode cL_changes 548 = .ok (.goto 4, 3) := by decide +kernel
theorem dL_changes_551 : decode cL_changes 551 = .ok (.iconst 0, 1) := by decide +kernel
theorem dL_changes_552 : decode cL_changes 552 = .ok (.istore 14, 2) := by decide +kernel
theorem dL_changes_554 : decode cL_changes 554 = .ok (.aload_n 0, 1) := by decide +kernel
theorem dL_changes_555 : decode cL_changes 555 = .ok (.invokestatic 88, 3) := by decide +kernel
theorem dL_changes_558 : decode cL_changes 558 = .ok (.lstore 15, 2) := by decide +kernel
theorem dL_changes_560 : decode cL_changes 560 = .ok (.iload 14, 2) := by decide +kernel
theorem dL_changes_562 : decode cL_changes 562 = .ok (.ifCond .eq 54, 3) := by decide +kernel
theorem dL_changes_565 : decode cL_changes 565 = .ok (.aload_n 0, 1) := by decide +kernel
theorem dL_changes_566 : decode cL_changes 566 = .ok (.iconst 1, 1) := by decide +kernel
theorem dL_changes_567 : decode cL_changes 567 = .ok (.iload 5, 2) := by decide +kernel
theorem dL_changes_569 : decode cL_changes 569 = .ok (.iload 10, 2) := by decide +kernel
theorem dL_changes_571 : decode cL_changes 571 = .ok (.iload 11, 2) := by decide +kernel
theorem dL_changes_573 : decode cL_changes 573 = .ok (.iload 12, 2) := by decide +kernel
theorem dL_changes_575 : decode cL_changes 575 = .ok (.invokestatic 85, 3) := by decide +kernel
theorem dL_changes_578 : decode cL_changes 578 = .ok (.iconst 1, 1) := by decide +kernel
theorem dL_changes_579 : decode cL_changes 579 = .ok (.iload 13, 2) := by decide +kernel
theorem dL_changes_581 : decode cL_changes 581 = .ok (.isub, 1) := by decide +kernel
theorem dL_changes_582 : decode cL_changes 582 = .ok (.if_icmp .ne 34, 3) := by decide +kernel
theorem dL_changes_585 : decode cL_changes 585 = .ok (.aload_n 0, 1) := by decide +kernel
theorem dL_changes_586 : decode cL_changes 586 = .ok (.invokestatic 88, 3) := by decide +kernel
theorem dL_changes_589 : decode cL_changes 589 = .ok (.lload_n 3, 1) := by decide +kernel
theorem dL_changes_590 : decode cL_changes 590 = .ok (.lcmp, 1) := by decide +kernel
theorem dL_changes_591 : decode cL_changes 591 = .ok (.ifCond .ne 25, 3) := by decide +kernel
theorem dL_changes_594 : decode cL_changes 594 = .ok (.aload_n 0, 1) := by decide +kernel
theorem dL_changes_595 : decode cL_changes 595 = .ok (.iconst 1, 1) := by decide +kernel
theorem dL_changes_596 : decode cL_changes 596 = .ok (.iload 5, 2) := by decide +kernel
theorem dL_changes_598 : decode cL_changes 598 = .ok (.iload 10, 2) := by decide +kernel
theorem dL_changes_600 : decode cL_changes 600 = .ok (.iload 11, 2) := by decide +kernel
theorem dL_changes_602 : decode cL_changes 602 = .ok (.iload 12, 2) := by decide +kernel
theorem dL_changes_604 : decode cL_changes 604 = .ok (.invokestatic 85, 3) := by decide +kernel
theorem dL_changes_607 : decode cL_changes 607 = .ok (.iload 13, 2) := by decide +kernel
theorem dL_changes_609 : decode cL_changes 609 = .ok (.if_icmp .ne 7, 3) := by decide +kernel
theorem dL_changes_612 : decode cL_changes 612 = .ok (.iconst 1, 1) := by decide +kernel
theorem dL_changes_613 : decode cL_changes 613 = .ok (.goto 4, 3) := by decide +kernel
theorem dL_changes_616 : decode cL_changes 616 = .ok (.iconst 0, 1) := by decide +kernel
theorem dL_changes_617 : decode cL_changes 617 = .ok (.istore 14, 2) := by decide +kernel
theorem dL_changes_619 : decode cL_changes 619 = .ok (.iload 14, 2) := by decide +kernel
theorem dL_changes_621 : decode cL_changes 621 = .ok (.ifCond .eq 17, 3) := by decide +kernel
theorem dL_changes_624 : decode cL_changes 624 = .ok (.aload_n 0, 1) := by decide +kernel
