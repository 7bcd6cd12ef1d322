theorem d_law_432 : decode code 432 = .ok (.invokevirtual 50, 3) := by decide +kernel
theorem d_law_435 : decode code 435 = .ok (.aload_n 2, 1) := by decide +kernel
theorem d_law_436 : decode code 436 = .ok (.invokevirtual 54, 3) := by decide +kernel
theorem d_law_439 : decode code 439 = .ok (.if_icmp .eq 178, 3) := by decide +kernel
theorem d_law_442 : decode code 442 = .ok (.iconst 0, 1) := by decide +kernel
theorem d_law_443 : decode code 443 = .ok (.ireturn, 1) := by decide +kernel
theorem d_law_444 : decode code 444 = .ok (.aload_n 1, 1) := by decide +kernel
theorem d_law_445 : decode code 445 = .ok (.aload_n 0, 1) := by decide +kernel
theorem d_law_446 : decode code 446 = .ok (.iload_n 3, 1) := by decide +kernel
theorem d_law_447 : decode code 447 = .ok (.iconst 1, 1) := by decide +kernel
theorem d_law_448 : decode code 448 = .ok (.iadd, 1) := by decide +kernel
theorem d_law_449 : decode code 449 = .ok (.iaload, 1) := by decide +kernel
theorem d_law_450 : decode code 450 = .ok (.invokevirtual 55, 3) := by decide +kernel
theorem d_law_453 : decode code 453 = .ok (.aload_n 2, 1) := by decide +kernel
theorem d_law_454 : decode code 454 = .ok (.aload_n 0, 1) := by decide +kernel
theorem d_law_455 : decode code 455 = .ok (.iload_n 3, 1) := by decide +kernel
theorem d_law_456 : decode code 456 = .ok (.iconst 1, 1) := by decide +kernel
theorem d_law_457 : decode code 457 = .ok (.iadd, 1) := by decide +kernel
theorem d_law_458 : decode code 458 = .ok (.iaload, 1) := by decide +kernel
theorem d_law_459 : decode code 459 = .ok (.invokevirtual 59, 3) := by decide +kernel
theorem d_law_462 : decode code 462 = .ok (.if_icmp .eq 155, 3) := by decide +kernel
theorem d_law_465 : decode code 465 = .ok (.iconst 0, 1) := by decide +kernel
theorem d_law_466 : decode code 466 = .ok (.ireturn, 1) := by decide +kernel
theorem d_law_467 : decode code 467 = .ok (.aload_n 1, 1) := by decide +kernel
theorem d_law_468 : decode code 468 = .ok (.invokevirtual 60, 3) := by decide +kernel
theorem d_law_471 : decode code 471 = .ok (.aload_n 2, 1) := by decide +kernel
theorem d_law_472 : decode code 472 = .ok (.invokevirtual 63, 3) := by decide +kernel
theorem d_law_475 : decode code 475 = .ok (.if_icmp .eq 142, 3) := by decide +kernel
theorem d_law_478 : decode code 478 = .ok (.iconst 0, 1) := by decide +kernel
theorem d_law_479 : decode code 479 = .ok (.ireturn, 1) := by decide +kernel
theorem d_law_480 : decode code 480 = .ok (.aload_n 1, 1) := by decide +kernel
theorem d_law_481 : decode code 481 = .ok (.aload_n 0, 1) := by decide +kernel
theorem d_law_482 : decode code 482 = .ok (.iload_n 3, 1) := by decide +kernel
theorem d_law_483 : decode code 483 = .ok (.iconst 1, 1) := by decide +kernel
theorem d_law_484 : decode code 484 = .ok (.iadd, 1) := by decide +kernel
theorem d_law_485 : decode code 485 = .ok (.iaload, 1) := by decide +kernel
theorem d_law_486 : decode code 486 = .ok (.invokevirtual 64, 3) := by decide +kernel
theorem d_law_489 : decode code 489 = .ok (.aload_n 2, 1) := by decide +kernel
theorem d_law_490 : decode code 490 = .ok (.aload_n 0, 1) := by decide +kernel
theorem d_law_491 : decode code 491 = .ok (.iload_n 3, 1) := by decide +kernel
theorem d_law_492 : decode code 492 = .ok (.iconst 1, 1) := by decide +kernel
theorem d_law_493 : decode code 493 = .ok (.iadd, 1) := by decide +kernel
theorem d_law_494 : decode code 494 = .ok (.iaload, 1) := by decide +kernel
theorem d_law_495 : decode code 495 = .ok (.invokevirtual 67, 3) := by decide +kernel
theorem d_law_498 : decode code 498 = .ok (.if_icmp .eq 119, 3) := by decide +kernel
theorem d_law_501 : decode code 501 = .ok (.iconst 0, 1) := by decide +kernel
theorem d_law_502 : decode code 502 = .ok (.ireturn, 1) := by decide +kernel
theorem d_law_503 : decode code 503 = .ok (.aload_n 1, 1) := by decide +kernel
theorem d_law_504 : decode code 504 = .ok (.aload_n 0, 1) := by decide +kernel
theorem d_law_505 : decode code 505 = .ok (.iload_n 3, 1) := by decide +kernel
theorem d_law_506 : decode code 506 = .ok (.iconst 1, 1) := by decide +kernel
theorem d_law_507 : decode code 507 = .ok (.iadd, 1) := by decide +kernel
theorem d_law_508 : decode code 508 = .ok (.iaload, 1) := by decide +kernel
theorem d_law_509 : decode code 509 = .ok (.aload_n 0, 1) := by decide +kernel
theorem d_law_510 : decode code 510 = .ok (.iload_n 3, 1) := by decide +kernel
theorem d_law_511 : decode code 511 = .ok (.iconst 2, 1) := by decide +kernel
theorem d_law_512 : decode code 512 = .ok (.iadd, 1) := by decide +kernel
theorem d_law_513 : decode code 513 = .ok (.iaload, 1) := by decide +kernel
theorem d_law_514 : decode code 514 = .ok (.invokevirtual 68, 3) := by decide +kernel
theorem d_law_517 : decode code 517 = .ok (.aload_n 2, 1) := by decide +kernel
theorem d_law_518 : decode code 518 = .ok (.aload_n 0, 1) := by decide +kernel
theorem d_law_519 : decode code 519 = .ok (.iload_n 3, 1) := by decide +kernel
theorem d_law_520 : decode code 520 = .ok (.iconst 1, 1) := by decide +kernel
theorem d_law_521 : decode code 521 = .ok (.iadd, 1) := by decide +kernel
theorem d_law_522 : decode code 522 = .ok (.iaload, 1) := by decide +kernel
theorem d_law_523 : decode code 523 = .ok (.aload_n 0, 1) := by decide +kernel
theorem d_law_524 : decode code 524 = .ok (.iload_n 3, 1) := by decide +kernel
theorem d_law_525 : decode code 525 = .ok (.iconst 2, 1) := by decide +kernel
theorem d_law_526 : decode code 526 = .ok (.iadd, 1) := by decide +kernel
theorem d_law_527 : decode code 527 = .ok (.iaload, 1) := by decide +kernel
theorem d_law_528 : decode code 528 = .ok (.invokevirtual 72, 3) := by decide +kernel
theorem d_law_531 : decode code 531 = .ok (.lcmp, 1) := by decide +kernel
theorem d_law_532 : decode code 532 = .ok (.ifCond .eq 85, 3) := by decide +kernel
theorem d_law_535 : decode code 535 = .ok (.iconst 0, 1) := by decide +kernel
theorem d_law_536 : decode code 536 = .ok (.ireturn, 1) := by decide +kernel
theorem d_law_537 : decode code 537 = .ok (.aload_n 1, 1) := by decide +kernel
theorem d_law_538 : decode code 538 = .ok (.aload_n 0, 1) := by decide +kernel
theorem d_law_539 : decode code 539 = .ok (.iload_n 3, 1) := by decide +kernel
theorem d_law_540 : decode code 540 = .ok (.iconst 1, 1) := by decide +kernel
theorem d_law_541 : decode code 541 = .ok (.iadd, 1) := by decide +kernel
theorem d_law_542 : decode code 542 = .ok (.iaload, 1) := by decide +kernel
theorem d_law_543 : decode code 543 = .ok (.invokevirtual 73, 3) := by decide +kernel
theorem d_law_546 : decode code 546 = .ok (.aload_n 2, 1) := by decide +kernel
theorem d_law_547 : decode code 547 = .ok (.aload_n 0, 1) := by decide +kernel
theorem d_law_548 : decode code 548 = .ok (.iload_n 3, 1) := by decide +kernel
theorem d_law_549 : decode code 549 = .ok (.iconst 1, 1) := by decide +kernel
theorem d_law_550 : decode code 550 = .ok (.iadd, 1) := by decide +kernel
theorem d_law_551 : decode code 551 = .ok (.iaload, 1) := by decide +kernel
theorem d_law_552 : decode code 552 = .ok (.invokevirtual 77, 3) := by decide +kernel
theorem d_law_555 : decode code 555 = .ok (.lcmp, 1) := by decide +kernel
theorem d_law_556 : decode code 556 = .ok (.ifCond .eq 61, 3) := by decide +kernel
theorem d_law_559 : decode code 559 = .ok (.iconst 0, 1) := by decide +kernel
theorem d_law_560 : decode code 560 = .ok (.ireturn, 1) := by decide +kernel
theorem d_law_561 : decode code 561 = .ok (.aload_n 1, 1) := by decide +kernel
theorem d_law_562 : decode code 562 = .ok (.aload_n 0, 1) := by decide +kernel
theorem d_law_563 : decode code 563 = .ok (.iload_n 3, 1) := by decide +kernel
theorem d_law_564 : decode code 564 = .ok (.iconst 1, 1) := by decide +kernel
theorem d_law_565 : decode code 565 = .ok (.iadd, 1) := by decide +kernel
theorem d_law_566 : decode code 566 = .ok (.iaload, 1) := by decide +kernel
theorem d_law_567 : decode code 567 = .ok (.aload_n 0, 1) := by decide +kernel
theorem d_law_568 : decode code 568 = .ok (.iload_n 3, 1) := by decide +kernel
theorem d_law_569 : decode code 569 = .ok (.iconst 2, 1) := by decide +kernel
theorem d_law_570 : decode code 570 = .ok (.iadd, 1) := by decide +kernel
theorem d_law_571 : decode code 571 = .ok (.iaload, 1) := by decide +kernel
theorem d_law_572 : decode code 572 = .ok (.invokevirtual 78, 3) := by decide +kernel
theorem d_law_575 : decode code 575 = .ok (.aload_n 2, 1) := by decide +kernel
theorem d_law_576 : decode code 576 = .ok (.aload_n 0, 1) := by decide +kernel
theorem d_law_577 : decode code 577 = .ok (.iload_n 3, 1) := by decide +kernel
theorem d_law_578 : decode code 578 = .ok (.iconst 1, 1) := by decide +kernel
theorem d_law_579 : decode code 579 = .ok (.iadd, 1) := by decide +kernel
theorem d_law_580 : decode code 580 = .ok (.iaload, 1) := by decide +kernel
theorem d_law_581 : decode code 581 = .ok (.aload_n 0, 1) := by decide +kernel
theorem d_law_582 : decode code 582 = .ok (.iload_n 3, 1) := by decide +kernel
theorem d_law_583 : decode code 583 = .ok (.iconst 2, 1) := by decide +kernel
theorem d_law_584 : decode code 584 = .ok (.iadd, 1) := by decide +kernel
theorem d_law_585 : decode code 585 = .ok (.iaload, 1) := by decide +kernel
theorem d_law_586 : decode code 586 = .ok (.invokevirtual 81, 3) := by decide +kernel
theorem d_law_589 : decode code 589 = .ok (.if_icmp .eq 28, 3) := by decide +kernel
theorem d_law_592 : decode code 592 = .ok (.iconst 0, 1) := by decide +kernel
theorem d_law_593 : decode code 593 = .ok (.ireturn, 1) := by decide +kernel
theorem d_law_594 : decode code 594 = .ok (.aload_n 1, 1) := by decide +kernel
theorem d_law_595 : decode code 595 = .ok (.aload_n 0, 1) := by decide +kernel
theorem d_law_596 : decode code 596 = .ok (.iload_n 3, 1) := by decide +kernel
theorem d_law_597 : decode code 597 = .ok (.iconst 1, 1) := by decide +kernel
theorem d_law_598 : decode code 598 = .ok (.iadd, 1) := by decide +kernel
theorem d_law_599 : decode code 599 = .ok (.iaload, 1) := by decide +kernel
theorem d_law_600 : decode code 600 = .ok (.invokevirtual 82, 3) := by decide +kernel
theorem d_law_603 : decode code 603 = .ok (.aload_n 2, 1) := by decide +kernel
theorem d_law_604 : decode code 604 = .ok (.aload_n 0, 1) := by decide +kernel
theorem d_law_605 : decode code 605 = .ok (.iload_n 3, 1) := by decide +kernel
theorem d_law_606 : decode code 606 = .ok (.iconst 1, 1) := by decide +kernel
theorem d_law_607 : decode code 607 = .ok (.iadd, 1) := by decide +kernel
theorem d_law_608 : decode code 608 = .ok (.iaload, 1) := by decide +kernel
theorem d_law_609 : decode code 609 = .ok (.invokevirtual 85, 3) := by decide +kernel
theorem d_law_612 : decode code 612 = .ok (.if_icmp .eq 5, 3) := by decide +kernel
theorem d_law_615 : decode code 615 = .ok (.iconst 0, 1) := by decide +kernel
theorem d_law_616 : decode code 616 = .ok (.ireturn, 1) := by decide +kernel
theorem d_law_617 : decode code 617 = .ok (.iinc 3 6, 3) := by decide +kernel
theorem d_law_620 : decode code 620 = .ok (.goto (-602), 3) := by decide +kernel
theorem d_law_623 : decode code 623 = .ok (.iconst 1, 1) := by decide +kernel
theorem d_law_624 : decode code 624 = .ok (.ireturn, 1) := by decide +kernel
