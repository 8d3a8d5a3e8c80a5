theorem lr_d_L_426 : decode code 426 = .ok (.iload_n 3, 1) := by decide +kernel
theorem lr_d_L_427 : decode code 427 = .ok (.iconst 1, 1) := by decide +kernel
theorem lr_d_L_428 : decode code 428 = .ok (.iadd, 1) := by decide +kernel
theorem lr_d_L_429 : decode code 429 = .ok (.iaload, 1) := by decide +kernel
theorem lr_d_L_430 : decode code 430 = .ok (.invokevirtual 51, 3) := by decide +kernel
theorem lr_d_L_433 : decode code 433 = .ok (.if_icmp .eq 318, 3) := by decide +kernel
theorem lr_d_L_436 : decode code 436 = .ok (.iconst 0, 1) := by decide +kernel
theorem lr_d_L_437 : decode code 437 = .ok (.ireturn, 1) := by decide +kernel
theorem lr_d_L_438 : decode code 438 = .ok (.aload_n 1, 1) := by decide +kernel
theorem lr_d_L_439 : decode code 439 = .ok (.aload_n 0, 1) := by decide +kernel
theorem lr_d_L_440 : decode code 440 = .ok (.iload_n 3, 1) := by decide +kernel
theorem lr_d_L_441 : decode code 441 = .ok (.iconst 1, 1) := by decide +kernel
theorem lr_d_L_442 : decode code 442 = .ok (.iadd, 1) := by decide +kernel
theorem lr_d_L_443 : decode code 443 = .ok (.iaload, 1) := by decide +kernel
theorem lr_d_L_444 : decode code 444 = .ok (.invokevirtual 52, 3) := by decide +kernel
theorem lr_d_L_447 : decode code 447 = .ok (.aload_n 2, 1) := by decide +kernel
theorem lr_d_L_448 : decode code 448 = .ok (.aload_n 0, 1) := by decide +kernel
theorem lr_d_L_449 : decode code 449 = .ok (.iload_n 3, 1) := by decide +kernel
theorem lr_d_L_450 : decode code 450 = .ok (.iconst 1, 1) := by decide +kernel
theorem lr_d_L_451 : decode code 451 = .ok (.iadd, 1) := by decide +kernel
theorem lr_d_L_452 : decode code 452 = .ok (.iaload, 1) := by decide +kernel
theorem lr_d_L_453 : decode code 453 = .ok (.invokevirtual 55, 3) := by decide +kernel
theorem lr_d_L_456 : decode code 456 = .ok (.if_icmp .eq 295, 3) := by decide +kernel
theorem lr_d_L_459 : decode code 459 = .ok (.iconst 0, 1) := by decide +kernel
theorem lr_d_L_460 : decode code 460 = .ok (.ireturn, 1) := by decide +kernel
theorem lr_d_L_461 : decode code 461 = .ok (.aload_n 1, 1) := by decide +kernel
theorem lr_d_L_462 : decode code 462 = .ok (.aload_n 0, 1) := by decide +kernel
theorem lr_d_L_463 : decode code 463 = .ok (.iload_n 3, 1) := by decide +kernel
theorem lr_d_L_464 : decode code 464 = .ok (.iconst 1, 1) := by decide +kernel
theorem lr_d_L_465 : decode code 465 = .ok (.iadd, 1) := by decide +kernel
theorem lr_d_L_466 : decode code 466 = .ok (.iaload, 1) := by decide +kernel
theorem lr_d_L_467 : decode code 467 = .ok (.invokevirtual 56, 3) := by decide +kernel
theorem lr_d_L_470 : decode code 470 = .ok (.aload_n 2, 1) := by decide +kernel
theorem lr_d_L_471 : decode code 471 = .ok (.aload_n 0, 1) := by decide +kernel
theorem lr_d_L_472 : decode code 472 = .ok (.iload_n 3, 1) := by decide +kernel
theorem lr_d_L_473 : decode code 473 = .ok (.iconst 1, 1) := by decide +kernel
theorem lr_d_L_474 : decode code 474 = .ok (.iadd, 1) := by decide +kernel
theorem lr_d_L_475 : decode code 475 = .ok (.iaload, 1) := by decide +kernel
theorem lr_d_L_476 : decode code 476 = .ok (.invokevirtual 59, 3) := by decide +kernel
theorem lr_d_L_479 : decode code 479 = .ok (.if_icmp .eq 272, 3) := by decide +kernel
theorem lr_d_L_482 : decode code 482 = .ok (.iconst 0, 1) := by decide +kernel
theorem lr_d_L_483 : decode code 483 = .ok (.ireturn, 1) := by decide +kernel
theorem lr_d_L_484 : decode code 484 = .ok (.aload_n 1, 1) := by decide +kernel
theorem lr_d_L_485 : decode code 485 = .ok (.aload_n 0, 1) := by decide +kernel
theorem lr_d_L_486 : decode code 486 = .ok (.iload_n 3, 1) := by decide +kernel
theorem lr_d_L_487 : decode code 487 = .ok (.iconst 1, 1) := by decide +kernel
theorem lr_d_L_488 : decode code 488 = .ok (.iadd, 1) := by decide +kernel
theorem lr_d_L_489 : decode code 489 = .ok (.iaload, 1) := by decide +kernel
theorem lr_d_L_490 : decode code 490 = .ok (.invokevirtual 60, 3) := by decide +kernel
theorem lr_d_L_493 : decode code 493 = .ok (.aload_n 2, 1) := by decide +kernel
theorem lr_d_L_494 : decode code 494 = .ok (.aload_n 0, 1) := by decide +kernel
theorem lr_d_L_495 : decode code 495 = .ok (.iload_n 3, 1) := by decide +kernel
theorem lr_d_L_496 : decode code 496 = .ok (.iconst 1, 1) := by decide +kernel
theorem lr_d_L_497 : decode code 497 = .ok (.iadd, 1) := by decide +kernel
theorem lr_d_L_498 : decode code 498 = .ok (.iaload, 1) := by decide +kernel
theorem lr_d_L_499 : decode code 499 = .ok (.invokevirtual 63, 3) := by decide +kernel
theorem lr_d_L_502 : decode code 502 = .ok (.if_icmp .eq 249, 3) := by decide +kernel
theorem lr_d_L_505 : decode code 505 = .ok (.iconst 0, 1) := by decide +kernel
theorem lr_d_L_506 : decode code 506 = .ok (.ireturn, 1) := by decide +kernel
theorem lr_d_L_507 : decode code 507 = .ok (.aload_n 1, 1) := by decide +kernel
theorem lr_d_L_508 : decode code 508 = .ok (.aload_n 0, 1) := by decide +kernel
theorem lr_d_L_509 : decode code 509 = .ok (.iload_n 3, 1) := by decide +kernel
theorem lr_d_L_510 : decode code 510 = .ok (.iconst 1, 1) := by decide +kernel
theorem lr_d_L_511 : decode code 511 = .ok (.iadd, 1) := by decide +kernel
theorem lr_d_L_512 : decode code 512 = .ok (.iaload, 1) := by decide +kernel
theorem lr_d_L_513 : decode code 513 = .ok (.invokevirtual 64, 3) := by decide +kernel
theorem lr_d_L_516 : decode code 516 = .ok (.aload_n 2, 1) := by decide +kernel
theorem lr_d_L_517 : decode code 517 = .ok (.aload_n 0, 1) := by decide +kernel
theorem lr_d_L_518 : decode code 518 = .ok (.iload_n 3, 1) := by decide +kernel
theorem lr_d_L_519 : decode code 519 = .ok (.iconst 1, 1) := by decide +kernel
theorem lr_d_L_520 : decode code 520 = .ok (.iadd, 1) := by decide +kernel
theorem lr_d_L_521 : decode code 521 = .ok (.iaload, 1) := by decide +kernel
theorem lr_d_L_522 : decode code 522 = .ok (.invokevirtual 67, 3) := by decide +kernel
theorem lr_d_L_525 : decode code 525 = .ok (.if_icmp .eq 226, 3) := by decide +kernel
theorem lr_d_L_528 : decode code 528 = .ok (.iconst 0, 1) := by decide +kernel
theorem lr_d_L_529 : decode code 529 = .ok (.ireturn, 1) := by decide +kernel
theorem lr_d_L_530 : decode code 530 = .ok (.aload_n 1, 1) := by decide +kernel
theorem lr_d_L_531 : decode code 531 = .ok (.invokevirtual 68, 3) := by decide +kernel
theorem lr_d_L_534 : decode code 534 = .ok (.aload_n 2, 1) := by decide +kernel
theorem lr_d_L_535 : decode code 535 = .ok (.invokevirtual 72, 3) := by decide +kernel
theorem lr_d_L_538 : decode code 538 = .ok (.if_icmp .eq 213, 3) := by decide +kernel
theorem lr_d_L_541 : decode code 541 = .ok (.iconst 0, 1) := by decide +kernel
theorem lr_d_L_542 : decode code 542 = .ok (.ireturn, 1) := by decide +kernel
theorem lr_d_L_543 : decode code 543 = .ok (.aload_n 1, 1) := by decide +kernel
theorem lr_d_L_544 : decode code 544 = .ok (.aload_n 0, 1) := by decide +kernel
theorem lr_d_L_545 : decode code 545 = .ok (.iload_n 3, 1) := by decide +kernel
theorem lr_d_L_546 : decode code 546 = .ok (.iconst 1, 1) := by decide +kernel
theorem lr_d_L_547 : decode code 547 = .ok (.iadd, 1) := by decide +kernel
theorem lr_d_L_548 : decode code 548 = .ok (.iaload, 1) := by decide +kernel
theorem lr_d_L_549 : decode code 549 = .ok (.aload_n 0, 1) := by decide +kernel
theorem lr_d_L_550 : decode code 550 = .ok (.iload_n 3, 1) := by decide +kernel
theorem lr_d_L_551 : decode code 551 = .ok (.iconst 2, 1) := by decide +kernel
theorem lr_d_L_552 : decode code 552 = .ok (.iadd, 1) := by decide +kernel
theorem lr_d_L_553 : decode code 553 = .ok (.iaload, 1) := by decide +kernel
theorem lr_d_L_554 : decode code 554 = .ok (.invokevirtual 73, 3) := by decide +kernel
theorem lr_d_L_557 : decode code 557 = .ok (.aload_n 2, 1) := by decide +kernel
theorem lr_d_L_558 : decode code 558 = .ok (.aload_n 0, 1) := by decide +kernel
theorem lr_d_L_559 : decode code 559 = .ok (.iload_n 3, 1) := by decide +kernel
theorem lr_d_L_560 : decode code 560 = .ok (.iconst 1, 1) := by decide +kernel
theorem lr_d_L_561 : decode code 561 = .ok (.iadd, 1) := by decide +kernel
theorem lr_d_L_562 : decode code 562 = .ok (.iaload, 1) := by decide +kernel
theorem lr_d_L_563 : decode code 563 = .ok (.aload_n 0, 1) := by decide +kernel
theorem lr_d_L_564 : decode code 564 = .ok (.iload_n 3, 1) := by decide +kernel
theorem lr_d_L_565 : decode code 565 = .ok (.iconst 2, 1) := by decide +kernel
theorem lr_d_L_566 : decode code 566 = .ok (.iadd, 1) := by decide +kernel
theorem lr_d_L_567 : decode code 567 = .ok (.iaload, 1) := by decide +kernel
theorem lr_d_L_568 : decode code 568 = .ok (.invokevirtual 76, 3) := by decide +kernel
theorem lr_d_L_571 : decode code 571 = .ok (.if_icmp .eq 180, 3) := by decide +kernel
theorem lr_d_L_574 : decode code 574 = .ok (.iconst 0, 1) := by decide +kernel
theorem lr_d_L_575 : decode code 575 = .ok (.ireturn, 1) := by decide +kernel
theorem lr_d_L_576 : decode code 576 = .ok (.aload_n 1, 1) := by decide +kernel
theorem lr_d_L_577 : decode code 577 = .ok (.aload_n 0, 1) := by decide +kernel
theorem lr_d_L_578 : decode code 578 = .ok (.iload_n 3, 1) := by decide +kernel
theorem lr_d_L_579 : decode code 579 = .ok (.iconst 1, 1) := by decide +kernel
theorem lr_d_L_580 : decode code 580 = .ok (.iadd, 1) := by decide +kernel
theorem lr_d_L_581 : decode code 581 = .ok (.iaload, 1) := by decide +kernel
theorem lr_d_L_582 : decode code 582 = .ok (.aload_n 0, 1) := by decide +kernel
theorem lr_d_L_583 : decode code 583 = .ok (.iload_n 3, 1) := by decide +kernel
theorem lr_d_L_584 : decode code 584 = .ok (.iconst 2, 1) := by decide +kernel
theorem lr_d_L_585 : decode code 585 = .ok (.iadd, 1) := by decide +kernel
theorem lr_d_L_586 : decode code 586 = .ok (.iaload, 1) := by decide +kernel
theorem lr_d_L_587 : decode code 587 = .ok (.invokevirtual 77, 3) := by decide +kernel
theorem lr_d_L_590 : decode code 590 = .ok (.aload_n 2, 1) := by decide +kernel
theorem lr_d_L_591 : decode code 591 = .ok (.aload_n 0, 1) := by decide +kernel
theorem lr_d_L_592 : decode code 592 = .ok (.iload_n 3, 1) := by decide +kernel
theorem lr_d_L_593 : decode code 593 = .ok (.iconst 1, 1) := by decide +kernel
theorem lr_d_L_594 : decode code 594 = .ok (.iadd, 1) := by decide +kernel
theorem lr_d_L_595 : decode code 595 = .ok (.iaload, 1) := by decide +kernel
theorem lr_d_L_596 : decode code 596 = .ok (.aload_n 0, 1) := by decide +kernel
theorem lr_d_L_597 : decode code 597 = .ok (.iload_n 3, 1) := by decide +kernel
theorem lr_d_L_598 : decode code 598 = .ok (.iconst 2, 1) := by decide +kernel
theorem lr_d_L_599 : decode code 599 = .ok (.iadd, 1) := by decide +kernel
theorem lr_d_L_600 : decode code 600 = .ok (.iaload, 1) := by decide +kernel
theorem lr_d_L_601 : decode code 601 = .ok (.invokevirtual 80, 3) := by decide +kernel
theorem lr_d_L_604 : decode code 604 = .ok (.if_icmp .eq 147, 3) := by decide +kernel
theorem lr_d_L_607 : decode code 607 = .ok (.iconst 0, 1) := by decide +kernel
theorem lr_d_L_608 : decode code 608 = .ok (.ireturn, 1) := by decide +kernel
theorem lr_d_L_609 : decode code 609 = .ok (.aload_n 1, 1) := by decide +kernel
theorem lr_d_L_610 : decode code 610 = .ok (.aload_n 0, 1) := by decide +kernel
theorem lr_d_L_611 : decode code 611 = .ok (.iload_n 3, 1) := by decide +kernel
