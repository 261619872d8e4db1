theorem d_La_law_420 : decode code 420 = .ok (.iload_n 3, 1) := by decide +kernel
theorem d_La_law_421 : decode code 421 = .ok (.iconst 1, 1) := by decide +kernel
theorem d_La_law_422 : decode code 422 = .ok (.iadd, 1) := by decide +kernel
theorem d_La_law_423 : decode code 423 = .ok (.iaload, 1) := by decide +kernel
theorem d_La_law_424 : decode code 424 = .ok (.aload_n 0, 1) := by decide +kernel
theorem d_La_law_425 : decode code 425 = .ok (.iload_n 3, 1) := by decide +kernel
theorem d_La_law_426 : decode code 426 = .ok (.iconst 2, 1) := by decide +kernel
theorem d_La_law_427 : decode code 427 = .ok (.iadd, 1) := by decide +kernel
theorem d_La_law_428 : decode code 428 = .ok (.iaload, 1) := by decide +kernel
theorem d_La_law_429 : decode code 429 = .ok (.invokevirtual 67, 3) := by decide +kernel
theorem d_La_law_432 : decode code 432 = .ok (.if_icmp .eq 301, 3) := by decide +kernel
theorem d_La_law_435 : decode code 435 = .ok (.iconst 0, 1) := by decide +kernel
theorem d_La_law_436 : decode code 436 = .ok (.ireturn, 1) := by decide +kernel
theorem d_La_law_437 : decode code 437 = .ok (.aload_n 1, 1) := by decide +kernel
theorem d_La_law_438 : decode code 438 = .ok (.aload_n 0, 1) := by decide +kernel
theorem d_La_law_439 : decode code 439 = .ok (.iload_n 3, 1) := by decide +kernel
theorem d_La_law_440 : decode code 440 = .ok (.iconst 1, 1) := by decide +kernel
theorem d_La_law_441 : decode code 441 = .ok (.iadd, 1) := by decide +kernel
theorem d_La_law_442 : decode code 442 = .ok (.iaload, 1) := by decide +kernel
theorem d_La_law_443 : decode code 443 = .ok (.aload_n 0, 1) := by decide +kernel
theorem d_La_law_444 : decode code 444 = .ok (.iload_n 3, 1) := by decide +kernel
theorem d_La_law_445 : decode code 445 = .ok (.iconst 2, 1) := by decide +kernel
theorem d_La_law_446 : decode code 446 = .ok (.iadd, 1) := by decide +kernel
theorem d_La_law_447 : decode code 447 = .ok (.iaload, 1) := by decide +kernel
theorem d_La_law_448 : decode code 448 = .ok (.invokevirtual 68, 3) := by decide +kernel
theorem d_La_law_451 : decode code 451 = .ok (.aload_n 2, 1) := by decide +kernel
theorem d_La_law_452 : decode code 452 = .ok (.aload_n 0, 1) := by decide +kernel
theorem d_La_law_453 : decode code 453 = .ok (.iload_n 3, 1) := by decide +kernel
theorem d_La_law_454 : decode code 454 = .ok (.iconst 1, 1) := by decide +kernel
theorem d_La_law_455 : decode code 455 = .ok (.iadd, 1) := by decide +kernel
theorem d_La_law_456 : decode code 456 = .ok (.iaload, 1) := by decide +kernel
theorem d_La_law_457 : decode code 457 = .ok (.aload_n 0, 1) := by decide +kernel
theorem d_La_law_458 : decode code 458 = .ok (.iload_n 3, 1) := by decide +kernel
theorem d_La_law_459 : decode code 459 = .ok (.iconst 2, 1) := by decide +kernel
theorem d_La_law_460 : decode code 460 = .ok (.iadd, 1) := by decide +kernel
theorem d_La_law_461 : decode code 461 = .ok (.iaload, 1) := by decide +kernel
theorem d_La_law_462 : decode code 462 = .ok (.invokevirtual 71, 3) := by decide +kernel
theorem d_La_law_465 : decode code 465 = .ok (.if_icmp .eq 268, 3) := by decide +kernel
theorem d_La_law_468 : decode code 468 = .ok (.iconst 0, 1) := by decide +kernel
theorem d_La_law_469 : decode code 469 = .ok (.ireturn, 1) := by decide +kernel
theorem d_La_law_470 : decode code 470 = .ok (.aload_n 1, 1) := by decide +kernel
theorem d_La_law_471 : decode code 471 = .ok (.aload_n 0, 1) := by decide +kernel
theorem d_La_law_472 : decode code 472 = .ok (.iload_n 3, 1) := by decide +kernel
theorem d_La_law_473 : decode code 473 = .ok (.iconst 1, 1) := by decide +kernel
theorem d_La_law_474 : decode code 474 = .ok (.iadd, 1) := by decide +kernel
theorem d_La_law_475 : decode code 475 = .ok (.iaload, 1) := by decide +kernel
theorem d_La_law_476 : decode code 476 = .ok (.invokevirtual 72, 3) := by decide +kernel
theorem d_La_law_479 : decode code 479 = .ok (.aload_n 2, 1) := by decide +kernel
theorem d_La_law_480 : decode code 480 = .ok (.aload_n 0, 1) := by decide +kernel
theorem d_La_law_481 : decode code 481 = .ok (.iload_n 3, 1) := by decide +kernel
theorem d_La_law_482 : decode code 482 = .ok (.iconst 1, 1) := by decide +kernel
theorem d_La_law_483 : decode code 483 = .ok (.iadd, 1) := by decide +kernel
theorem d_La_law_484 : decode code 484 = .ok (.iaload, 1) := by decide +kernel
theorem d_La_law_485 : decode code 485 = .ok (.invokevirtual 75, 3) := by decide +kernel
theorem d_La_law_488 : decode code 488 = .ok (.if_icmp .eq 245, 3) := by decide +kernel
theorem d_La_law_491 : decode code 491 = .ok (.iconst 0, 1) := by decide +kernel
theorem d_La_law_492 : decode code 492 = .ok (.ireturn, 1) := by decide +kernel
theorem d_La_law_493 : decode code 493 = .ok (.aload_n 1, 1) := by decide +kernel
theorem d_La_law_494 : decode code 494 = .ok (.aload_n 0, 1) := by decide +kernel
theorem d_La_law_495 : decode code 495 = .ok (.iload_n 3, 1) := by decide +kernel
theorem d_La_law_496 : decode code 496 = .ok (.iconst 1, 1) := by decide +kernel
theorem d_La_law_497 : decode code 497 = .ok (.iadd, 1) := by decide +kernel
theorem d_La_law_498 : decode code 498 = .ok (.iaload, 1) := by decide +kernel
theorem d_La_law_499 : decode code 499 = .ok (.invokevirtual 76, 3) := by decide +kernel
theorem d_La_law_502 : decode code 502 = .ok (.aload_n 2, 1) := by decide +kernel
theorem d_La_law_503 : decode code 503 = .ok (.aload_n 0, 1) := by decide +kernel
theorem d_La_law_504 : decode code 504 = .ok (.iload_n 3, 1) := by decide +kernel
theorem d_La_law_505 : decode code 505 = .ok (.iconst 1, 1) := by decide +kernel
theorem d_La_law_506 : decode code 506 = .ok (.iadd, 1) := by decide +kernel
theorem d_La_law_507 : decode code 507 = .ok (.iaload, 1) := by decide +kernel
theorem d_La_law_508 : decode code 508 = .ok (.invokevirtual 79, 3) := by decide +kernel
theorem d_La_law_511 : decode code 511 = .ok (.if_icmp .eq 222, 3) := by decide +kernel
theorem d_La_law_514 : decode code 514 = .ok (.iconst 0, 1) := by decide +kernel
theorem d_La_law_515 : decode code 515 = .ok (.ireturn, 1) := by decide +kernel
theorem d_La_law_516 : decode code 516 = .ok (.aload_n 1, 1) := by decide +kernel
theorem d_La_law_517 : decode code 517 = .ok (.aload_n 0, 1) := by decide +kernel
theorem d_La_law_518 : decode code 518 = .ok (.iload_n 3, 1) := by decide +kernel
theorem d_La_law_519 : decode code 519 = .ok (.iconst 1, 1) := by decide +kernel
theorem d_La_law_520 : decode code 520 = .ok (.iadd, 1) := by decide +kernel
theorem d_La_law_521 : decode code 521 = .ok (.iaload, 1) := by decide +kernel
theorem d_La_law_522 : decode code 522 = .ok (.invokevirtual 80, 3) := by decide +kernel
theorem d_La_law_525 : decode code 525 = .ok (.aload_n 2, 1) := by decide +kernel
theorem d_La_law_526 : decode code 526 = .ok (.aload_n 0, 1) := by decide +kernel
theorem d_La_law_527 : decode code 527 = .ok (.iload_n 3, 1) := by decide +kernel
theorem d_La_law_528 : decode code 528 = .ok (.iconst 1, 1) := by decide +kernel
theorem d_La_law_529 : decode code 529 = .ok (.iadd, 1) := by decide +kernel
theorem d_La_law_530 : decode code 530 = .ok (.iaload, 1) := by decide +kernel
theorem d_La_law_531 : decode code 531 = .ok (.invokevirtual 83, 3) := by decide +kernel
theorem d_La_law_534 : decode code 534 = .ok (.if_icmp .eq 199, 3) := by decide +kernel
theorem d_La_law_537 : decode code 537 = .ok (.iconst 0, 1) := by decide +kernel
theorem d_La_law_538 : decode code 538 = .ok (.ireturn, 1) := by decide +kernel
theorem d_La_law_539 : decode code 539 = .ok (.aload_n 1, 1) := by decide +kernel
theorem d_La_law_540 : decode code 540 = .ok (.aload_n 0, 1) := by decide +kernel
theorem d_La_law_541 : decode code 541 = .ok (.iload_n 3, 1) := by decide +kernel
theorem d_La_law_542 : decode code 542 = .ok (.iconst 1, 1) := by decide +kernel
theorem d_La_law_543 : decode code 543 = .ok (.iadd, 1) := by decide +kernel
theorem d_La_law_544 : decode code 544 = .ok (.iaload, 1) := by decide +kernel
theorem d_La_law_545 : decode code 545 = .ok (.aload_n 0, 1) := by decide +kernel
theorem d_La_law_546 : decode code 546 = .ok (.iload_n 3, 1) := by decide +kernel
theorem d_La_law_547 : decode code 547 = .ok (.iconst 2, 1) := by decide +kernel
theorem d_La_law_548 : decode code 548 = .ok (.iadd, 1) := by decide +kernel
theorem d_La_law_549 : decode code 549 = .ok (.iaload, 1) := by decide +kernel
theorem d_La_law_550 : decode code 550 = .ok (.aload_n 0, 1) := by decide +kernel
theorem d_La_law_551 : decode code 551 = .ok (.iload_n 3, 1) := by decide +kernel
theorem d_La_law_552 : decode code 552 = .ok (.iconst 3, 1) := by decide +kernel
theorem d_La_law_553 : decode code 553 = .ok (.iadd, 1) := by decide +kernel
theorem d_La_law_554 : decode code 554 = .ok (.iaload, 1) := by decide +kernel
theorem d_La_law_555 : decode code 555 = .ok (.invokevirtual 84, 3) := by decide +kernel
theorem d_La_law_558 : decode code 558 = .ok (.aload_n 2, 1) := by decide +kernel
theorem d_La_law_559 : decode code 559 = .ok (.aload_n 0, 1) := by decide +kernel
