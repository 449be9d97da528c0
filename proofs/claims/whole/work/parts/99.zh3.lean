/-! decode rows of the law -/
theorem dlaw_484 : decode code 484 = .ok (.invokevirtual 61, 3) := by decide +kernel
theorem dlaw_487 : decode code 487 = .ok (.aload_n 2, 1) := by decide +kernel
theorem dlaw_488 : decode code 488 = .ok (.aload_n 0, 1) := by decide +kernel
theorem dlaw_489 : decode code 489 = .ok (.iload_n 3, 1) := by decide +kernel
theorem dlaw_490 : decode code 490 = .ok (.iconst 1, 1) := by decide +kernel
theorem dlaw_491 : decode code 491 = .ok (.iadd, 1) := by decide +kernel
theorem dlaw_492 : decode code 492 = .ok (.iaload, 1) := by decide +kernel
theorem dlaw_493 : decode code 493 = .ok (.aload_n 0, 1) := by decide +kernel
theorem dlaw_494 : decode code 494 = .ok (.iload_n 3, 1) := by decide +kernel
theorem dlaw_495 : decode code 495 = .ok (.iconst 2, 1) := by decide +kernel
theorem dlaw_496 : decode code 496 = .ok (.iadd, 1) := by decide +kernel
theorem dlaw_497 : decode code 497 = .ok (.iaload, 1) := by decide +kernel
theorem dlaw_498 : decode code 498 = .ok (.invokevirtual 64, 3) := by decide +kernel
theorem dlaw_501 : decode code 501 = .ok (.if_icmp .eq 629, 3) := by decide +kernel
theorem dlaw_504 : decode code 504 = .ok (.iconst 0, 1) := by decide +kernel
theorem dlaw_505 : decode code 505 = .ok (.ireturn, 1) := by decide +kernel
theorem dlaw_506 : decode code 506 = .ok (.aload_n 1, 1) := by decide +kernel
theorem dlaw_507 : decode code 507 = .ok (.aload_n 0, 1) := by decide +kernel
theorem dlaw_508 : decode code 508 = .ok (.iload_n 3, 1) := by decide +kernel
theorem dlaw_509 : decode code 509 = .ok (.iconst 1, 1) := by decide +kernel
theorem dlaw_510 : decode code 510 = .ok (.iadd, 1) := by decide +kernel
theorem dlaw_511 : decode code 511 = .ok (.iaload, 1) := by decide +kernel
theorem dlaw_512 : decode code 512 = .ok (.aload_n 0, 1) := by decide +kernel
theorem dlaw_513 : decode code 513 = .ok (.iload_n 3, 1) := by decide +kernel
theorem dlaw_514 : decode code 514 = .ok (.iconst 2, 1) := by decide +kernel
theorem dlaw_515 : decode code 515 = .ok (.iadd, 1) := by decide +kernel
theorem dlaw_516 : decode code 516 = .ok (.iaload, 1) := by decide +kernel
theorem dlaw_517 : decode code 517 = .ok (.invokevirtual 65, 3) := by decide +kernel
theorem dlaw_520 : decode code 520 = .ok (.aload_n 2, 1) := by decide +kernel
theorem dlaw_521 : decode code 521 = .ok (.aload_n 0, 1) := by decide +kernel
theorem dlaw_522 : decode code 522 = .ok (.iload_n 3, 1) := by decide +kernel
theorem dlaw_523 : decode code 523 = .ok (.iconst 1, 1) := by decide +kernel
theorem dlaw_524 : decode code 524 = .ok (.iadd, 1) := by decide +kernel
theorem dlaw_525 : decode code 525 = .ok (.iaload, 1) := by decide +kernel
theorem dlaw_526 : decode code 526 = .ok (.aload_n 0, 1) := by decide +kernel
theorem dlaw_527 : decode code 527 = .ok (.iload_n 3, 1) := by decide +kernel
theorem dlaw_528 : decode code 528 = .ok (.iconst 2, 1) := by decide +kernel
theorem dlaw_529 : decode code 529 = .ok (.iadd, 1) := by decide +kernel
theorem dlaw_530 : decode code 530 = .ok (.iaload, 1) := by decide +kernel
theorem dlaw_531 : decode code 531 = .ok (.invokevirtual 68, 3) := by decide +kernel
theorem dlaw_534 : decode code 534 = .ok (.if_icmp .eq 596, 3) := by decide +kernel
theorem dlaw_537 : decode code 537 = .ok (.iconst 0, 1) := by decide +kernel
theorem dlaw_538 : decode code 538 = .ok (.ireturn, 1) := by decide +kernel
theorem dlaw_539 : decode code 539 = .ok (.aload_n 1, 1) := by decide +kernel
theorem dlaw_540 : decode code 540 = .ok (.aload_n 0, 1) := by decide +kernel
theorem dlaw_541 : decode code 541 = .ok (.iload_n 3, 1) := by decide +kernel
theorem dlaw_542 : decode code 542 = .ok (.iconst 1, 1) := by decide +kernel
theorem dlaw_543 : decode code 543 = .ok (.iadd, 1) := by decide +kernel
theorem dlaw_544 : decode code 544 = .ok (.iaload, 1) := by decide +kernel
theorem dlaw_545 : decode code 545 = .ok (.invokevirtual 69, 3) := by decide +kernel
theorem dlaw_548 : decode code 548 = .ok (.aload_n 2, 1) := by decide +kernel
theorem dlaw_549 : decode code 549 = .ok (.aload_n 0, 1) := by decide +kernel
theorem dlaw_550 : decode code 550 = .ok (.iload_n 3, 1) := by decide +kernel
theorem dlaw_551 : decode code 551 = .ok (.iconst 1, 1) := by decide +kernel
theorem dlaw_552 : decode code 552 = .ok (.iadd, 1) := by decide +kernel
theorem dlaw_553 : decode code 553 = .ok (.iaload, 1) := by decide +kernel
theorem dlaw_554 : decode code 554 = .ok (.invokevirtual 72, 3) := by decide +kernel
theorem dlaw_557 : decode code 557 = .ok (.if_icmp .eq 573, 3) := by decide +kernel
theorem dlaw_560 : decode code 560 = .ok (.iconst 0, 1) := by decide +kernel
theorem dlaw_561 : decode code 561 = .ok (.ireturn, 1) := by decide +kernel
theorem dlaw_562 : decode code 562 = .ok (.aload_n 1, 1) := by decide +kernel
theorem dlaw_563 : decode code 563 = .ok (.aload_n 0, 1) := by decide +kernel
theorem dlaw_564 : decode code 564 = .ok (.iload_n 3, 1) := by decide +kernel
theorem dlaw_565 : decode code 565 = .ok (.iconst 1, 1) := by decide +kernel
theorem dlaw_566 : decode code 566 = .ok (.iadd, 1) := by decide +kernel
theorem dlaw_567 : decode code 567 = .ok (.iaload, 1) := by decide +kernel
theorem dlaw_568 : decode code 568 = .ok (.aload_n 0, 1) := by decide +kernel
theorem dlaw_569 : decode code 569 = .ok (.iload_n 3, 1) := by decide +kernel
theorem dlaw_570 : decode code 570 = .ok (.iconst 2, 1) := by decide +kernel
theorem dlaw_571 : decode code 571 = .ok (.iadd, 1) := by decide +kernel
theorem dlaw_572 : decode code 572 = .ok (.iaload, 1) := by decide +kernel
theorem dlaw_573 : decode code 573 = .ok (.invokevirtual 73, 3) := by decide +kernel
theorem dlaw_576 : decode code 576 = .ok (.aload_n 2, 1) := by decide +kernel
theorem dlaw_577 : decode code 577 = .ok (.aload_n 0, 1) := by decide +kernel
theorem dlaw_578 : decode code 578 = .ok (.iload_n 3, 1) := by decide +kernel
theorem dlaw_579 : decode code 579 = .ok (.iconst 1, 1) := by decide +kernel
theorem dlaw_580 : decode code 580 = .ok (.iadd, 1) := by decide +kernel
theorem dlaw_581 : decode code 581 = .ok (.iaload, 1) := by decide +kernel
theorem dlaw_582 : decode code 582 = .ok (.aload_n 0, 1) := by decide +kernel
theorem dlaw_583 : decode code 583 = .ok (.iload_n 3, 1) := by decide +kernel
theorem dlaw_584 : decode code 584 = .ok (.iconst 2, 1) := by decide +kernel
theorem dlaw_585 : decode code 585 = .ok (.iadd, 1) := by decide +kernel
theorem dlaw_586 : decode code 586 = .ok (.iaload, 1) := by decide +kernel
theorem dlaw_587 : decode code 587 = .ok (.invokevirtual 76, 3) := by decide +kernel
theorem dlaw_590 : decode code 590 = .ok (.if_icmp .eq 540, 3) := by decide +kernel
theorem dlaw_593 : decode code 593 = .ok (.iconst 0, 1) := by decide +kernel
theorem dlaw_594 : decode code 594 = .ok (.ireturn, 1) := by decide +kernel
theorem dlaw_595 : decode code 595 = .ok (.aload_n 1, 1) := by decide +kernel
theorem dlaw_596 : decode code 596 = .ok (.aload_n 0, 1) := by decide +kernel
theorem dlaw_597 : decode code 597 = .ok (.iload_n 3, 1) := by decide +kernel
theorem dlaw_598 : decode code 598 = .ok (.iconst 1, 1) := by decide +kernel
theorem dlaw_599 : decode code 599 = .ok (.iadd, 1) := by decide +kernel
theorem dlaw_600 : decode code 600 = .ok (.iaload, 1) := by decide +kernel
theorem dlaw_601 : decode code 601 = .ok (.aload_n 0, 1) := by decide +kernel
theorem dlaw_602 : decode code 602 = .ok (.iload_n 3, 1) := by decide +kernel
theorem dlaw_603 : decode code 603 = .ok (.iconst 2, 1) := by decide +kernel
theorem dlaw_604 : decode code 604 = .ok (.iadd, 1) := by decide +kernel
theorem dlaw_605 : decode code 605 = .ok (.iaload, 1) := by decide +kernel
theorem dlaw_606 : decode code 606 = .ok (.invokevirtual 77, 3) := by decide +kernel
theorem dlaw_609 : decode code 609 = .ok (.aload_n 2, 1) := by decide +kernel
theorem dlaw_610 : decode code 610 = .ok (.aload_n 0, 1) := by decide +kernel
theorem dlaw_611 : decode code 611 = .ok (.iload_n 3, 1) := by decide +kernel
theorem dlaw_612 : decode code 612 = .ok (.iconst 1, 1) := by decide +kernel
theorem dlaw_613 : decode code 613 = .ok (.iadd, 1) := by decide +kernel
theorem dlaw_614 : decode code 614 = .ok (.iaload, 1) := by decide +kernel
theorem dlaw_615 : decode code 615 = .ok (.aload_n 0, 1) := by decide +kernel
theorem dlaw_616 : decode code 616 = .ok (.iload_n 3, 1) := by decide +kernel
theorem dlaw_617 : decode code 617 = .ok (.iconst 2, 1) := by decide +kernel
theorem dlaw_618 : decode code 618 = .ok (.iadd, 1) := by decide +kernel
theorem dlaw_619 : decode code 619 = .ok (.iaload, 1) := by decide +kernel
theorem dlaw_620 : decode code 620 = .ok (.invokevirtual 80, 3) := by decide +kernel
theorem dlaw_623 : decode code 623 = .ok (.if_icmp .eq 507, 3) := by decide +kernel
theorem dlaw_626 : decode code 626 = .ok (.iconst 0, 1) := by decide +kernel
theorem dlaw_627 : decode code 627 = .ok (.ireturn, 1) := by decide +kernel
theorem dlaw_628 : decode code 628 = .ok (.aload_n 1, 1) := by decide +kernel
theorem dlaw_629 : decode code 629 = .ok (.aload_n 0, 1) := by decide +kernel
theorem dlaw_630 : decode code 630 = .ok (.iload_n 3, 1) := by decide +kernel
theorem dlaw_631 : decode code 631 = .ok (.iconst 1, 1) := by decide +kernel
theorem dlaw_632 : decode code 632 = .ok (.iadd, 1) := by decide +kernel
theorem dlaw_633 : decode code 633 = .ok (.iaload, 1) := by decide +kernel
theorem dlaw_634 : decode code 634 = .ok (.aload_n 0, 1) := by decide +kernel
theorem dlaw_635 : decode code 635 = .ok (.iload_n 3, 1) := by decide +kernel
theorem dlaw_636 : decode code 636 = .ok (.iconst 2, 1) := by decide +kernel
theorem dlaw_637 : decode code 637 = .ok (.iadd, 1) := by decide +kernel
theorem dlaw_638 : decode code 638 = .ok (.iaload, 1) := by decide +kernel
theorem dlaw_639 : decode code 639 = .ok (.invokevirtual 81, 3) := by decide +kernel
theorem dlaw_642 : decode code 642 = .ok (.aload_n 2, 1) := by decide +kernel
theorem dlaw_643 : decode code 643 = .ok (.aload_n 0, 1) := by decide +kernel
theorem dlaw_644 : decode code 644 = .ok (.iload_n 3, 1) := by decide +kernel
theorem dlaw_645 : decode code 645 = .ok (.iconst 1, 1) := by decide +kernel
