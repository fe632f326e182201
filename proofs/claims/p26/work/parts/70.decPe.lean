theorem dL_suggestions_367 : decode cL_suggestions 367 = .ok (.aload 6, 2) := by decide +kernel
theorem dL_suggestions_369 : decode cL_suggestions 369 = .ok (.iconst 3, 1) := by decide +kernel
theorem dL_suggestions_370 : decode cL_suggestions 370 = .ok (.iload 9, 2) := by decide +kernel
theorem dL_suggestions_372 : decode cL_suggestions 372 = .ok (.imul, 1) := by decide +kernel
theorem dL_suggestions_373 : decode cL_suggestions 373 = .ok (.iconst 1, 1) := by decide +kernel
theorem dL_suggestions_374 : decode cL_suggestions 374 = .ok (.iadd, 1) := by decide +kernel
theorem dL_suggestions_375 : decode cL_suggestions 375 = .ok (.iaload, 1) := by decide +kernel
theorem dL_suggestions_376 : decode cL_suggestions 376 = .ok (.istore 12, 2) := by decide +kernel
theorem dL_suggestions_378 : decode cL_suggestions 378 = .ok (.iload 10, 2) := by decide +kernel
theorem dL_suggestions_380 : decode cL_suggestions 380 = .ok (.bipush 100, 2) := by decide +kernel
theorem dL_suggestions_382 : decode cL_suggestions 382 = .ok (.irem, 1) := by decide +kernel
theorem dL_suggestions_383 : decode cL_suggestions 383 = .ok (.iload 10, 2) := by decide +kernel
theorem dL_suggestions_385 : decode cL_suggestions 385 = .ok (.bipush 100, 2) := by decide +kernel
theorem dL_suggestions_387 : decode cL_suggestions 387 = .ok (.idiv, 1) := by decide +kernel
theorem dL_suggestions_388 : decode cL_suggestions 388 = .ok (.isub, 1) := by decide +kernel
theorem dL_suggestions_389 : decode cL_suggestions 389 = .ok (.istore 13, 2) := by decide +kernel
theorem dL_suggestions_391 : decode cL_suggestions 391 = .ok (.iload 11, 2) := by decide +kernel
theorem dL_suggestions_393 : decode cL_suggestions 393 = .ok (.ifCond .eq 53, 3) := by decide +kernel
theorem dL_suggestions_396 : decode cL_suggestions 396 = .ok (.iload 9, 2) := by decide +kernel
theorem dL_suggestions_398 : decode cL_suggestions 398 = .ok (.aload 4, 2) := by decide +kernel
theorem dL_suggestions_400 : decode cL_suggestions 400 = .ok (.aload 6, 2) := by decide +kernel
theorem dL_suggestions_402 : decode cL_suggestions 402 = .ok (.aload 8, 2) := by decide +kernel
theorem dL_suggestions_404 : decode cL_suggestions 404 = .ok (.invokestatic 82, 3) := by decide +kernel
theorem dL_suggestions_407 : decode cL_suggestions 407 = .ok (.ifCond .ne 39, 3) := by decide +kernel
theorem dL_suggestions_410 : decode cL_suggestions 410 = .ok (.aload 8, 2) := by decide +kernel
theorem dL_suggestions_412 : decode cL_suggestions 412 = .ok (.iconst 0, 1) := by decide +kernel
theorem dL_suggestions_413 : decode cL_suggestions 413 = .ok (.iaload, 1) := by decide +kernel
theorem dL_suggestions_414 : decode cL_suggestions 414 = .ok (.iload 13, 2) := by decide +kernel
theorem dL_suggestions_416 : decode cL_suggestions 416 = .ok (.isub, 1) := by decide +kernel
theorem dL_suggestions_417 : decode cL_suggestions 417 = .ok (.iload 12, 2) := by decide +kernel
theorem dL_suggestions_419 : decode cL_suggestions 419 = .ok (.iadd, 1) := by decide +kernel
theorem dL_suggestions_420 : decode cL_suggestions 420 = .ok (.bipush 60, 2) := by decide +kernel
theorem dL_suggestions_422 : decode cL_suggestions 422 = .ok (.if_icmp .gt 24, 3) := by decide +kernel
theorem dL_suggestions_425 : decode cL_suggestions 425 = .ok (.aload 8, 2) := by decide +kernel
theorem dL_suggestions_427 : decode cL_suggestions 427 = .ok (.iconst 1, 1) := by decide +kernel
theorem dL_suggestions_428 : decode cL_suggestions 428 = .ok (.iaload, 1) := by decide +kernel
theorem dL_suggestions_429 : decode cL_suggestions 429 = .ok (.iload 12, 2) := by decide +kernel
theorem dL_suggestions_431 : decode cL_suggestions 431 = .ok (.ifCond .le 7, 3) := by decide +kernel
theorem dL_suggestions_434 : decode cL_suggestions 434 = .ok (.iconst 2, 1) := by decide +kernel
theorem dL_suggestions_435 : decode cL_suggestions 435 = .ok (.goto 4, 3) := by decide +kernel
theorem dL_suggestions_438 : decode cL_suggestions 438 = .ok (.iconst 1, 1) := by decide +kernel
theorem dL_suggestions_439 : decode cL_suggestions 439 = .ok (.iadd, 1) := by decide +kernel
theorem dL_suggestions_440 : decode cL_suggestions 440 = .ok (.sipush 300, 3) := by decide +kernel
theorem dL_suggestions_443 : decode cL_suggestions 443 = .ok (.if_icmp .le 23, 3) := by decide +kernel
theorem dL_suggestions_446 : decode cL_suggestions 446 = .ok (.aload_n 0, 1) := by decide +kernel
theorem dL_suggestions_447 : decode cL_suggestions 447 = .ok (.iconst 2, 1) := by decide +kernel
theorem dL_suggestions_448 : decode cL_suggestions 448 = .ok (.iload 9, 2) := by decide +kernel
theorem dL_suggestions_450 : decode cL_suggestions 450 = .ok (.iconst 0, 1) := by decide +kernel
theorem dL_suggestions_451 : decode cL_suggestions 451 = .ok (.iconst 0, 1) := by decide +kernel
theorem dL_suggestions_452 : decode cL_suggestions 452 = .ok (.invokestatic 104, 3) := by decide +kernel
theorem dL_suggestions_455 : decode cL_suggestions 455 = .ok (.bipush (-3), 2) := by decide +kernel
theorem dL_suggestions_457 : decode cL_suggestions 457 = .ok (.if_icmp .ne 7, 3) := by decide +kernel
theorem dL_suggestions_460 : decode cL_suggestions 460 = .ok (.iconst 1, 1) := by decide +kernel
theorem dL_suggestions_461 : decode cL_suggestions 461 = .ok (.goto 4, 3) := by decide +kernel
theorem dL_suggestions_464 : decode cL_suggestions 464 = .ok (.iconst 0, 1) := by decide +kernel
theorem dL_suggestions_465 : decode cL_suggestions 465 = .ok (.ireturn, 1) := by decide +kernel
theorem dL_suggestions_466 : decode cL_suggestions 466 = .ok (.iload 10, 2) := by decide +kernel
theorem dL_suggestions_468 : decode cL_suggestions 468 = .ok (.bipush 100, 2) := by decide +kernel
theorem dL_suggestions_470 : decode cL_suggestions 470 = .ok (.idiv, 1) := by decide +kernel
theorem dL_suggestions_471 : decode cL_suggestions 471 = .ok (.iload 13, 2) := by decide +kernel
theorem dL_suggestions_473 : decode cL_suggestions 473 = .ok (.iload 9, 2) := by decide +kernel
theorem dL_suggestions_475 : decode cL_suggestions 475 = .ok (.aload_n 3, 1) := by decide +kernel
theorem dL_suggestions_476 : decode cL_suggestions 476 = .ok (.aload 4, 2) := by decide +kernel
theorem dL_suggestions_478 : decode cL_suggestions 478 = .ok (.aload 6, 2) := by decide +kernel
theorem dL_suggestions_480 : decode cL_suggestions 480 = .ok (.aload 7, 2) := by decide +kernel
theorem dL_suggestions_482 : decode cL_suggestions 482 = .ok (.aload 8, 2) := by decide +kernel
theorem dL_suggestions_484 : decode cL_suggestions 484 = .ok (.invokestatic 116, 3) := by decide +kernel
theorem dL_suggestions_487 : decode cL_suggestions 487 = .ok (.istore 14, 2) := by decide +kernel
theorem dL_suggestions_489 : decode cL_suggestions 489 = .ok (.aload 6, 2) := by decide +kernel
theorem dL_suggestions_491 : decode cL_suggestions 491 = .ok (.iconst 3, 1) := by decide +kernel
theorem dL_suggestions_492 : decode cL_suggestions 492 = .ok (.iload 9, 2) := by decide +kernel
theorem dL_suggestions_494 : decode cL_suggestions 494 = .ok (.imul, 1) := by decide +kernel
theorem dL_suggestions_495 : decode cL_suggestions 495 = .ok (.iconst 2, 1) := by decide +kernel
theorem dL_suggestions_496 : decode cL_suggestions 496 = .ok (.iadd, 1) := by decide +kernel
theorem dL_suggestions_497 : decode cL_suggestions 497 = .ok (.iconst 1, 1) := by decide +kernel
theorem dL_suggestions_498 : decode cL_suggestions 498 = .ok (.iastore, 1) := by decide +kernel
theorem dL_suggestions_499 : decode cL_suggestions 499 = .ok (.iload 12, 2) := by decide +kernel
theorem dL_suggestions_501 : decode cL_suggestions 501 = .ok (.ifCond .le 29, 3) := by decide +kernel
theorem dL_suggestions_504 : decode cL_suggestions 504 = .ok (.iload 10, 2) := by decide +kernel
theorem dL_suggestions_506 : decode cL_suggestions 506 = .ok (.bipush 100, 2) := by decide +kernel
theorem dL_suggestions_508 : decode cL_suggestions 508 = .ok (.idiv, 1) := by decide +kernel
theorem dL_suggestions_509 : decode cL_suggestions 509 = .ok (.aload 6, 2) := by decide +kernel
theorem dL_suggestions_511 : decode cL_suggestions 511 = .ok (.iconst 3, 1) := by decide +kernel
theorem dL_suggestions_512 : decode cL_suggestions 512 = .ok (.iload 9, 2) := by decide +kernel
theorem dL_suggestions_514 : decode cL_suggestions 514 = .ok (.imul, 1) := by decide +kernel
theorem dL_suggestions_515 : decode cL_suggestions 515 = .ok (.iaload, 1) := by decide +kernel
theorem dL_suggestions_516 : decode cL_suggestions 516 = .ok (.iload 12, 2) := by decide +kernel
theorem dL_suggestions_518 : decode cL_suggestions 518 = .ok (.aload_n 3, 1) := by decide +kernel
theorem dL_suggestions_519 : decode cL_suggestions 519 = .ok (.aload 4, 2) := by decide +kernel
theorem dL_suggestions_521 : decode cL_suggestions 521 = .ok (.aload 5, 2) := by decide +kernel
theorem dL_suggestions_523 : decode cL_suggestions 523 = .ok (.aload 7, 2) := by decide +kernel
theorem dL_suggestions_525 : decode cL_suggestions 525 = .ok (.aload 8, 2) := by decide +kernel
theorem dL_suggestions_527 : decode cL_suggestions 527 = .ok (.invokestatic 120, 3) := by decide +kernel
theorem dL_suggestions_530 : decode cL_suggestions 530 = .ok (.aload_n 0, 1) := by decide +kernel
theorem dL_suggestions_531 : decode cL_suggestions 531 = .ok (.iconst 2, 1) := by decide +kernel
theorem dL_suggestions_532 : decode cL_suggestions 532 = .ok (.iload 9, 2) := by decide +kernel
theorem dL_suggestions_534 : decode cL_suggestions 534 = .ok (.iconst 0, 1) := by decide +kernel
theorem dL_suggestions_535 : decode cL_suggestions 535 = .ok (.iconst 0, 1) := by decide +kernel
theorem dL_suggestions_536 : decode cL_suggestions 536 = .ok (.invokestatic 104, 3) := by decide +kernel
theorem dL_suggestions_539 : decode cL_suggestions 539 = .ok (.aload 8, 2) := by decide +kernel
theorem dL_suggestions_541 : decode cL_suggestions 541 = .ok (.iconst 0, 1) := by decide +kernel
theorem dL_suggestions_542 : decode cL_suggestions 542 = .ok (.iaload, 1) := by decide +kernel
theorem dL_suggestions_543 : decode cL_suggestions 543 = .ok (.if_icmp .ne 12, 3) := by decide +kernel
theorem dL_suggestions_546 : decode cL_suggestions 546 = .ok (.iload 14, 2) := by decide +kernel
theorem dL_suggestions_548 : decode cL_suggestions 548 = .ok (.ifCond .lt 7, 3) := by decide +kernel
theorem dL_suggestions_551 : decode cL_suggestions 551 = .ok (.iconst 1, 1) := by decide +kernel
theorem dL_suggestions_552 : decode cL_suggestions 552 = .ok (.goto 4, 3) := by decide +kernel
theorem dL_suggestions_555 : decode cL_suggestions 555 = .ok (.iconst 0, 1) := by decide +kernel
theorem dL_suggestions_556 : decode cL_suggestions 556 = .ok (.ireturn, 1) := by decide +kernel
