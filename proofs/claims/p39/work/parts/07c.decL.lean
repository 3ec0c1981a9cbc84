theorem dL_law_488 : decode cL_law 488 = .ok (.aload_n 0, 1) := o42 hcL_law rfl
theorem dL_law_489 : decode cL_law 489 = .ok (.iload_n 3, 1) := o29 hcL_law rfl
theorem dL_law_490 : decode cL_law 490 = .ok (.iconst 3, 1) := o6 hcL_law rfl
theorem dL_law_491 : decode cL_law 491 = .ok (.iadd, 1) := o96 hcL_law rfl
theorem dL_law_492 : decode cL_law 492 = .ok (.iaload, 1) := o46 hcL_law rfl
theorem dL_law_493 : decode cL_law 493 = .ok (.invokevirtual 44, 3) := o182 hcL_law rfl
theorem dL_law_496 : decode cL_law 496 = .ok (.pop, 1) := o87 hcL_law rfl
theorem dL_law_497 : decode cL_law 497 = .ok (.aload_n 2, 1) := o44 hcL_law rfl
theorem dL_law_498 : decode cL_law 498 = .ok (.aload_n 0, 1) := o42 hcL_law rfl
theorem dL_law_499 : decode cL_law 499 = .ok (.iload_n 3, 1) := o29 hcL_law rfl
theorem dL_law_500 : decode cL_law 500 = .ok (.iconst 1, 1) := o4 hcL_law rfl
theorem dL_law_501 : decode cL_law 501 = .ok (.iadd, 1) := o96 hcL_law rfl
theorem dL_law_502 : decode cL_law 502 = .ok (.iaload, 1) := o46 hcL_law rfl
theorem dL_law_503 : decode cL_law 503 = .ok (.aload_n 0, 1) := o42 hcL_law rfl
theorem dL_law_504 : decode cL_law 504 = .ok (.iload_n 3, 1) := o29 hcL_law rfl
theorem dL_law_505 : decode cL_law 505 = .ok (.iconst 2, 1) := o5 hcL_law rfl
theorem dL_law_506 : decode cL_law 506 = .ok (.iadd, 1) := o96 hcL_law rfl
theorem dL_law_507 : decode cL_law 507 = .ok (.iaload, 1) := o46 hcL_law rfl
theorem dL_law_508 : decode cL_law 508 = .ok (.aload_n 0, 1) := o42 hcL_law rfl
theorem dL_law_509 : decode cL_law 509 = .ok (.iload_n 3, 1) := o29 hcL_law rfl
theorem dL_law_510 : decode cL_law 510 = .ok (.iconst 3, 1) := o6 hcL_law rfl
theorem dL_law_511 : decode cL_law 511 = .ok (.iadd, 1) := o96 hcL_law rfl
theorem dL_law_512 : decode cL_law 512 = .ok (.iaload, 1) := o46 hcL_law rfl
theorem dL_law_513 : decode cL_law 513 = .ok (.invokevirtual 47, 3) := o182 hcL_law rfl
theorem dL_law_516 : decode cL_law 516 = .ok (.pop, 1) := o87 hcL_law rfl
theorem dL_law_517 : decode cL_law 517 = .ok (.goto 979, 3) := o167 hcL_law (a := 979) rfl rfl
theorem dL_law_520 : decode cL_law 520 = .ok (.aload_n 1, 1) := o43 hcL_law rfl
theorem dL_law_521 : decode cL_law 521 = .ok (.aload_n 0, 1) := o42 hcL_law rfl
theorem dL_law_522 : decode cL_law 522 = .ok (.iload_n 3, 1) := o29 hcL_law rfl
theorem dL_law_523 : decode cL_law 523 = .ok (.iconst 1, 1) := o4 hcL_law rfl
theorem dL_law_524 : decode cL_law 524 = .ok (.iadd, 1) := o96 hcL_law rfl
theorem dL_law_525 : decode cL_law 525 = .ok (.iaload, 1) := o46 hcL_law rfl
theorem dL_law_526 : decode cL_law 526 = .ok (.aload_n 0, 1) := o42 hcL_law rfl
theorem dL_law_527 : decode cL_law 527 = .ok (.iload_n 3, 1) := o29 hcL_law rfl
theorem dL_law_528 : decode cL_law 528 = .ok (.iconst 2, 1) := o5 hcL_law rfl
theorem dL_law_529 : decode cL_law 529 = .ok (.iadd, 1) := o96 hcL_law rfl
theorem dL_law_530 : decode cL_law 530 = .ok (.iaload, 1) := o46 hcL_law rfl
theorem dL_law_531 : decode cL_law 531 = .ok (.aload_n 0, 1) := o42 hcL_law rfl
theorem dL_law_532 : decode cL_law 532 = .ok (.iload_n 3, 1) := o29 hcL_law rfl
theorem dL_law_533 : decode cL_law 533 = .ok (.iconst 3, 1) := o6 hcL_law rfl
theorem dL_law_534 : decode cL_law 534 = .ok (.iadd, 1) := o96 hcL_law rfl
theorem dL_law_535 : decode cL_law 535 = .ok (.iaload, 1) := o46 hcL_law rfl
theorem dL_law_536 : decode cL_law 536 = .ok (.invokevirtual 48, 3) := o182 hcL_law rfl
theorem dL_law_539 : decode cL_law 539 = .ok (.pop, 1) := o87 hcL_law rfl
theorem dL_law_540 : decode cL_law 540 = .ok (.aload_n 2, 1) := o44 hcL_law rfl
theorem dL_law_541 : decode cL_law 541 = .ok (.aload_n 0, 1) := o42 hcL_law rfl
theorem dL_law_542 : decode cL_law 542 = .ok (.iload_n 3, 1) := o29 hcL_law rfl
theorem dL_law_543 : decode cL_law 543 = .ok (.iconst 1, 1) := o4 hcL_law rfl
theorem dL_law_544 : decode cL_law 544 = .ok (.iadd, 1) := o96 hcL_law rfl
theorem dL_law_545 : decode cL_law 545 = .ok (.iaload, 1) := o46 hcL_law rfl
theorem dL_law_546 : decode cL_law 546 = .ok (.aload_n 0, 1) := o42 hcL_law rfl
theorem dL_law_547 : decode cL_law 547 = .ok (.iload_n 3, 1) := o29 hcL_law rfl
theorem dL_law_548 : decode cL_law 548 = .ok (.iconst 2, 1) := o5 hcL_law rfl
theorem dL_law_549 : decode cL_law 549 = .ok (.iadd, 1) := o96 hcL_law rfl
theorem dL_law_550 : decode cL_law 550 = .ok (.iaload, 1) := o46 hcL_law rfl
theorem dL_law_551 : decode cL_law 551 = .ok (.aload_n 0, 1) := o42 hcL_law rfl
theorem dL_law_552 : decode cL_law 552 = .ok (.iload_n 3, 1) := o29 hcL_law rfl
theorem dL_law_553 : decode cL_law 553 = .ok (.iconst 3, 1) := o6 hcL_law rfl
theorem dL_law_554 : decode cL_law 554 = .ok (.iadd, 1) := o96 hcL_law rfl
theorem dL_law_555 : decode cL_law 555 = .ok (.iaload, 1) := o46 hcL_law rfl
theorem dL_law_556 : decode cL_law 556 = .ok (.invokevirtual 51, 3) := o182 hcL_law rfl
theorem dL_law_559 : decode cL_law 559 = .ok (.pop, 1) := o87 hcL_law rfl
theorem dL_law_560 : decode cL_law 560 = .ok (.goto 936, 3) := o167 hcL_law (a := 936) rfl rfl
theorem dL_law_563 : decode cL_law 563 = .ok (.aload_n 1, 1) := o43 hcL_law rfl
theorem dL_law_564 : decode cL_law 564 = .ok (.aload_n 0, 1) := o42 hcL_law rfl
theorem dL_law_565 : decode cL_law 565 = .ok (.iload_n 3, 1) := o29 hcL_law rfl
theorem dL_law_566 : decode cL_law 566 = .ok (.iconst 1, 1) := o4 hcL_law rfl
theorem dL_law_567 : decode cL_law 567 = .ok (.iadd, 1) := o96 hcL_law rfl
theorem dL_law_568 : decode cL_law 568 = .ok (.iaload, 1) := o46 hcL_law rfl
theorem dL_law_569 : decode cL_law 569 = .ok (.invokevirtual 52, 3) := o182 hcL_law rfl
theorem dL_law_572 : decode cL_law 572 = .ok (.pop, 1) := o87 hcL_law rfl
theorem dL_law_573 : decode cL_law 573 = .ok (.aload_n 2, 1) := o44 hcL_law rfl
theorem dL_law_574 : decode cL_law 574 = .ok (.aload_n 0, 1) := o42 hcL_law rfl
theorem dL_law_575 : decode cL_law 575 = .ok (.iload_n 3, 1) := o29 hcL_law rfl
theorem dL_law_576 : decode cL_law 576 = .ok (.iconst 1, 1) := o4 hcL_law rfl
theorem dL_law_577 : decode cL_law 577 = .ok (.iadd, 1) := o96 hcL_law rfl
theorem dL_law_578 : decode cL_law 578 = .ok (.iaload, 1) := o46 hcL_law rfl
theorem dL_law_579 : decode cL_law 579 = .ok (.invokevirtual 56, 3) := o182 hcL_law rfl
theorem dL_law_582 : decode cL_law 582 = .ok (.pop, 1) := o87 hcL_law rfl
theorem dL_law_583 : decode cL_law 583 = .ok (.goto 913, 3) := o167 hcL_law (a := 913) rfl rfl
theorem dL_law_586 : decode cL_law 586 = .ok (.aload_n 1, 1) := o43 hcL_law rfl
theorem dL_law_587 : decode cL_law 587 = .ok (.invokevirtual 57, 3) := o182 hcL_law rfl
theorem dL_law_590 : decode cL_law 590 = .ok (.pop, 1) := o87 hcL_law rfl
theorem dL_law_591 : decode cL_law 591 = .ok (.aload_n 2, 1) := o44 hcL_law rfl
theorem dL_law_592 : decode cL_law 592 = .ok (.invokevirtual 61, 3) := o182 hcL_law rfl
theorem dL_law_595 : decode cL_law 595 = .ok (.pop, 1) := o87 hcL_law rfl
theorem dL_law_596 : decode cL_law 596 = .ok (.goto 900, 3) := o167 hcL_law (a := 900) rfl rfl
theorem dL_law_599 : decode cL_law 599 = .ok (.aload_n 1, 1) := o43 hcL_law rfl
theorem dL_law_600 : decode cL_law 600 = .ok (.invokevirtual 62, 3) := o182 hcL_law rfl
theorem dL_law_603 : decode cL_law 603 = .ok (.pop, 1) := o87 hcL_law rfl
theorem dL_law_604 : decode cL_law 604 = .ok (.aload_n 2, 1) := o44 hcL_law rfl
theorem dL_law_605 : decode cL_law 605 = .ok (.invokevirtual 65, 3) := o182 hcL_law rfl
theorem dL_law_608 : decode cL_law 608 = .ok (.pop, 1) := o87 hcL_law rfl
theorem dL_law_609 : decode cL_law 609 = .ok (.goto 887, 3) := o167 hcL_law (a := 887) rfl rfl
theorem dL_law_612 : decode cL_law 612 = .ok (.aload_n 1, 1) := o43 hcL_law rfl
theorem dL_law_613 : decode cL_law 613 = .ok (.aload_n 0, 1) := o42 hcL_law rfl
theorem dL_law_614 : decode cL_law 614 = .ok (.iload_n 3, 1) := o29 hcL_law rfl
theorem dL_law_615 : decode cL_law 615 = .ok (.iconst 1, 1) := o4 hcL_law rfl
theorem dL_law_616 : decode cL_law 616 = .ok (.iadd, 1) := o96 hcL_law rfl
theorem dL_law_617 : decode cL_law 617 = .ok (.iaload, 1) := o46 hcL_law rfl
theorem dL_law_618 : decode cL_law 618 = .ok (.aload_n 0, 1) := o42 hcL_law rfl
theorem dL_law_619 : decode cL_law 619 = .ok (.iload_n 3, 1) := o29 hcL_law rfl
theorem dL_law_620 : decode cL_law 620 = .ok (.iconst 2, 1) := o5 hcL_law rfl
theorem dL_law_621 : decode cL_law 621 = .ok (.iadd, 1) := o96 hcL_law rfl
theorem dL_law_622 : decode cL_law 622 = .ok (.iaload, 1) := o46 hcL_law rfl
theorem dL_law_623 : decode cL_law 623 = .ok (.aload_n 0, 1) := o42 hcL_law rfl
theorem dL_law_624 : decode cL_law 624 = .ok (.iload_n 3, 1) := o29 hcL_law rfl
theorem dL_law_625 : decode cL_law 625 = .ok (.iconst 3, 1) := o6 hcL_law rfl
theorem dL_law_626 : decode cL_law 626 = .ok (.iadd, 1) := o96 hcL_law rfl
theorem dL_law_627 : decode cL_law 627 = .ok (.iaload, 1) := o46 hcL_law rfl
theorem dL_law_628 : decode cL_law 628 = .ok (.invokevirtual 66, 3) := o182 hcL_law rfl
theorem dL_law_631 : decode cL_law 631 = .ok (.pop, 1) := o87 hcL_law rfl
theorem dL_law_632 : decode cL_law 632 = .ok (.aload_n 2, 1) := o44 hcL_law rfl
theorem dL_law_633 : decode cL_law 633 = .ok (.aload_n 0, 1) := o42 hcL_law rfl
theorem dL_law_634 : decode cL_law 634 = .ok (.iload_n 3, 1) := o29 hcL_law rfl
theorem dL_law_635 : decode cL_law 635 = .ok (.iconst 1, 1) := o4 hcL_law rfl
theorem dL_law_636 : decode cL_law 636 = .ok (.iadd, 1) := o96 hcL_law rfl
theorem dL_law_637 : decode cL_law 637 = .ok (.iaload, 1) := o46 hcL_law rfl
theorem dL_law_638 : decode cL_law 638 = .ok (.aload_n 0, 1) := o42 hcL_law rfl
theorem dL_law_639 : decode cL_law 639 = .ok (.iload_n 3, 1) := o29 hcL_law rfl
theorem dL_law_640 : decode cL_law 640 = .ok (.iconst 2, 1) := o5 hcL_law rfl
theorem dL_law_641 : decode cL_law 641 = .ok (.iadd, 1) := o96 hcL_law rfl
theorem dL_law_642 : decode cL_law 642 = .ok (.iaload, 1) := o46 hcL_law rfl
theorem dL_law_643 : decode cL_law 643 = .ok (.aload_n 0, 1) := o42 hcL_law rfl
theorem dL_law_644 : decode cL_law 644 = .ok (.iload_n 3, 1) := o29 hcL_law rfl
theorem dL_law_645 : decode cL_law 645 = .ok (.iconst 3, 1) := o6 hcL_law rfl
theorem dL_law_646 : decode cL_law 646 = .ok (.iadd, 1) := o96 hcL_law rfl
theorem dL_law_647 : decode cL_law 647 = .ok (.iaload, 1) := o46 hcL_law rfl
theorem dL_law_648 : decode cL_law 648 = .ok (.invokevirtual 69, 3) := o182 hcL_law rfl
theorem dL_law_651 : decode cL_law 651 = .ok (.pop, 1) := o87 hcL_law rfl
