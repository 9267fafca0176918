theorem d_Lw_law_495 : decode k_Lw_law.1 495 = .ok (.laload, 1) := by decide +kernel
theorem d_Lw_law_496 : decode k_Lw_law.1 496 = .ok (.iload 6, 2) := by decide +kernel
theorem d_Lw_law_498 : decode k_Lw_law.1 498 = .ok (.i2l, 1) := by decide +kernel
theorem d_Lw_law_499 : decode k_Lw_law.1 499 = .ok (.lcmp, 1) := by decide +kernel
theorem d_Lw_law_500 : decode k_Lw_law.1 500 = .ok (.ifCond .eq 5, 3) := by decide +kernel
theorem d_Lw_law_503 : decode k_Lw_law.1 503 = .ok (.iconst 0, 1) := by decide +kernel
theorem d_Lw_law_504 : decode k_Lw_law.1 504 = .ok (.ireturn, 1) := by decide +kernel
theorem d_Lw_law_505 : decode k_Lw_law.1 505 = .ok (.goto 433, 3) := by decide +kernel
theorem d_Lw_law_508 : decode k_Lw_law.1 508 = .ok (.aload_n 1, 1) := by decide +kernel
theorem d_Lw_law_509 : decode k_Lw_law.1 509 = .ok (.aload_n 0, 1) := by decide +kernel
theorem d_Lw_law_510 : decode k_Lw_law.1 510 = .ok (.iload 4, 2) := by decide +kernel
theorem d_Lw_law_512 : decode k_Lw_law.1 512 = .ok (.iconst 1, 1) := by decide +kernel
theorem d_Lw_law_513 : decode k_Lw_law.1 513 = .ok (.iadd, 1) := by decide +kernel
theorem d_Lw_law_514 : decode k_Lw_law.1 514 = .ok (.iaload, 1) := by decide +kernel
theorem d_Lw_law_515 : decode k_Lw_law.1 515 = .ok (.aload_n 3, 1) := by decide +kernel
theorem d_Lw_law_516 : decode k_Lw_law.1 516 = .ok (.invokestatic 86, 3) := by decide +kernel
theorem d_Lw_law_519 : decode k_Lw_law.1 519 = .ok (.istore 5, 2) := by decide +kernel
theorem d_Lw_law_521 : decode k_Lw_law.1 521 = .ok (.aload_n 2, 1) := by decide +kernel
theorem d_Lw_law_522 : decode k_Lw_law.1 522 = .ok (.aload_n 0, 1) := by decide +kernel
theorem d_Lw_law_523 : decode k_Lw_law.1 523 = .ok (.iload 4, 2) := by decide +kernel
theorem d_Lw_law_525 : decode k_Lw_law.1 525 = .ok (.iconst 1, 1) := by decide +kernel
theorem d_Lw_law_526 : decode k_Lw_law.1 526 = .ok (.iadd, 1) := by decide +kernel
theorem d_Lw_law_527 : decode k_Lw_law.1 527 = .ok (.iaload, 1) := by decide +kernel
theorem d_Lw_law_528 : decode k_Lw_law.1 528 = .ok (.invokevirtual 88, 3) := by decide +kernel
theorem d_Lw_law_531 : decode k_Lw_law.1 531 = .ok (.istore 6, 2) := by decide +kernel
theorem d_Lw_law_533 : decode k_Lw_law.1 533 = .ok (.aload_n 2, 1) := by decide +kernel
theorem d_Lw_law_534 : decode k_Lw_law.1 534 = .ok (.invokevirtual 65, 3) := by decide +kernel
theorem d_Lw_law_537 : decode k_Lw_law.1 537 = .ok (.iload 5, 2) := by decide +kernel
theorem d_Lw_law_539 : decode k_Lw_law.1 539 = .ok (.if_icmp .eq 5, 3) := by decide +kernel
theorem d_Lw_law_542 : decode k_Lw_law.1 542 = .ok (.iconst 0, 1) := by decide +kernel
theorem d_Lw_law_543 : decode k_Lw_law.1 543 = .ok (.ireturn, 1) := by decide +kernel
theorem d_Lw_law_544 : decode k_Lw_law.1 544 = .ok (.iload 5, 2) := by decide +kernel
theorem d_Lw_law_546 : decode k_Lw_law.1 546 = .ok (.ifCond .ne 15, 3) := by decide +kernel
theorem d_Lw_law_549 : decode k_Lw_law.1 549 = .ok (.aload_n 3, 1) := by decide +kernel
theorem d_Lw_law_550 : decode k_Lw_law.1 550 = .ok (.iconst 0, 1) := by decide +kernel
theorem d_Lw_law_551 : decode k_Lw_law.1 551 = .ok (.laload, 1) := by decide +kernel
theorem d_Lw_law_552 : decode k_Lw_law.1 552 = .ok (.iload 6, 2) := by decide +kernel
theorem d_Lw_law_554 : decode k_Lw_law.1 554 = .ok (.i2l, 1) := by decide +kernel
theorem d_Lw_law_555 : decode k_Lw_law.1 555 = .ok (.lcmp, 1) := by decide +kernel
theorem d_Lw_law_556 : decode k_Lw_law.1 556 = .ok (.ifCond .eq 5, 3) := by decide +kernel
theorem d_Lw_law_559 : decode k_Lw_law.1 559 = .ok (.iconst 0, 1) := by decide +kernel
theorem d_Lw_law_560 : decode k_Lw_law.1 560 = .ok (.ireturn, 1) := by decide +kernel
theorem d_Lw_law_561 : decode k_Lw_law.1 561 = .ok (.goto 377, 3) := by decide +kernel
theorem d_Lw_law_564 : decode k_Lw_law.1 564 = .ok (.aload_n 1, 1) := by decide +kernel
theorem d_Lw_law_565 : decode k_Lw_law.1 565 = .ok (.invokevirtual 89, 3) := by decide +kernel
theorem d_Lw_law_568 : decode k_Lw_law.1 568 = .ok (.aload_n 2, 1) := by decide +kernel
theorem d_Lw_law_569 : decode k_Lw_law.1 569 = .ok (.invokevirtual 92, 3) := by decide +kernel
theorem d_Lw_law_572 : decode k_Lw_law.1 572 = .ok (.if_icmp .eq 366, 3) := by decide +kernel
theorem d_Lw_law_575 : decode k_Lw_law.1 575 = .ok (.iconst 0, 1) := by decide +kernel
theorem d_Lw_law_576 : decode k_Lw_law.1 576 = .ok (.ireturn, 1) := by decide +kernel
theorem d_Lw_law_577 : decode k_Lw_law.1 577 = .ok (.aload_n 1, 1) := by decide +kernel
theorem d_Lw_law_578 : decode k_Lw_law.1 578 = .ok (.aload_n 0, 1) := by decide +kernel
theorem d_Lw_law_579 : decode k_Lw_law.1 579 = .ok (.iload 4, 2) := by decide +kernel
theorem d_Lw_law_581 : decode k_Lw_law.1 581 = .ok (.iconst 1, 1) := by decide +kernel
theorem d_Lw_law_582 : decode k_Lw_law.1 582 = .ok (.iadd, 1) := by decide +kernel
theorem d_Lw_law_583 : decode k_Lw_law.1 583 = .ok (.iaload, 1) := by decide +kernel
theorem d_Lw_law_584 : decode k_Lw_law.1 584 = .ok (.aload_n 3, 1) := by decide +kernel
theorem d_Lw_law_585 : decode k_Lw_law.1 585 = .ok (.invokestatic 93, 3) := by decide +kernel
theorem d_Lw_law_588 : decode k_Lw_law.1 588 = .ok (.istore 5, 2) := by decide +kernel
theorem d_Lw_law_590 : decode k_Lw_law.1 590 = .ok (.aload_n 2, 1) := by decide +kernel
theorem d_Lw_law_591 : decode k_Lw_law.1 591 = .ok (.aload_n 0, 1) := by decide +kernel
theorem d_Lw_law_592 : decode k_Lw_law.1 592 = .ok (.iload 4, 2) := by decide +kernel
theorem d_Lw_law_594 : decode k_Lw_law.1 594 = .ok (.iconst 1, 1) := by decide +kernel
theorem d_Lw_law_595 : decode k_Lw_law.1 595 = .ok (.iadd, 1) := by decide +kernel
theorem d_Lw_law_596 : decode k_Lw_law.1 596 = .ok (.iaload, 1) := by decide +kernel
theorem d_Lw_law_597 : decode k_Lw_law.1 597 = .ok (.invokevirtual 95, 3) := by decide +kernel
theorem d_Lw_law_600 : decode k_Lw_law.1 600 = .ok (.istore 6, 2) := by decide +kernel
theorem d_Lw_law_602 : decode k_Lw_law.1 602 = .ok (.aload_n 2, 1) := by decide +kernel
theorem d_Lw_law_603 : decode k_Lw_law.1 603 = .ok (.invokevirtual 65, 3) := by decide +kernel
theorem d_Lw_law_606 : decode k_Lw_law.1 606 = .ok (.iload 5, 2) := by decide +kernel
theorem d_Lw_law_608 : decode k_Lw_law.1 608 = .ok (.if_icmp .eq 5, 3) := by decide +kernel
theorem d_Lw_law_611 : decode k_Lw_law.1 611 = .ok (.iconst 0, 1) := by decide +kernel
theorem d_Lw_law_612 : decode k_Lw_law.1 612 = .ok (.ireturn, 1) := by decide +kernel
theorem d_Lw_law_613 : decode k_Lw_law.1 613 = .ok (.iload 5, 2) := by decide +kernel
theorem d_Lw_law_615 : decode k_Lw_law.1 615 = .ok (.ifCond .ne 15, 3) := by decide +kernel
theorem d_Lw_law_618 : decode k_Lw_law.1 618 = .ok (.aload_n 3, 1) := by decide +kernel
theorem d_Lw_law_619 : decode k_Lw_law.1 619 = .ok (.iconst 0, 1) := by decide +kernel
theorem d_Lw_law_620 : decode k_Lw_law.1 620 = .ok (.laload, 1) := by decide +kernel
theorem d_Lw_law_621 : decode k_Lw_law.1 621 = .ok (.iload 6, 2) := by decide +kernel
theorem d_Lw_law_623 : decode k_Lw_law.1 623 = .ok (.i2l, 1) := by decide +kernel
theorem d_Lw_law_624 : decode k_Lw_law.1 624 = .ok (.lcmp, 1) := by decide +kernel
theorem d_Lw_law_625 : decode k_Lw_law.1 625 = .ok (.ifCond .eq 5, 3) := by decide +kernel
theorem d_Lw_law_628 : decode k_Lw_law.1 628 = .ok (.iconst 0, 1) := by decide +kernel
theorem d_Lw_law_629 : decode k_Lw_law.1 629 = .ok (.ireturn, 1) := by decide +kernel
theorem d_Lw_law_630 : decode k_Lw_law.1 630 = .ok (.goto 308, 3) := by decide +kernel
theorem d_Lw_law_633 : decode k_Lw_law.1 633 = .ok (.aload_n 1, 1) := by decide +kernel
theorem d_Lw_law_634 : decode k_Lw_law.1 634 = .ok (.aload_n 0, 1) := by decide +kernel
theorem d_Lw_law_635 : decode k_Lw_law.1 635 = .ok (.iload 4, 2) := by decide +kernel
theorem d_Lw_law_637 : decode k_Lw_law.1 637 = .ok (.iconst 1, 1) := by decide +kernel
theorem d_Lw_law_638 : decode k_Lw_law.1 638 = .ok (.iadd, 1) := by decide +kernel
theorem d_Lw_law_639 : decode k_Lw_law.1 639 = .ok (.iaload, 1) := by decide +kernel
theorem d_Lw_law_640 : decode k_Lw_law.1 640 = .ok (.aload_n 3, 1) := by decide +kernel
theorem d_Lw_law_641 : decode k_Lw_law.1 641 = .ok (.invokestatic 96, 3) := by decide +kernel
theorem d_Lw_law_644 : decode k_Lw_law.1 644 = .ok (.istore 5, 2) := by decide +kernel
theorem d_Lw_law_646 : decode k_Lw_law.1 646 = .ok (.aload_n 2, 1) := by decide +kernel
theorem d_Lw_law_647 : decode k_Lw_law.1 647 = .ok (.aload_n 0, 1) := by decide +kernel
theorem d_Lw_law_648 : decode k_Lw_law.1 648 = .ok (.iload 4, 2) := by decide +kernel
theorem d_Lw_law_650 : decode k_Lw_law.1 650 = .ok (.iconst 1, 1) := by decide +kernel
theorem d_Lw_law_651 : decode k_Lw_law.1 651 = .ok (.iadd, 1) := by decide +kernel
theorem d_Lw_law_652 : decode k_Lw_law.1 652 = .ok (.iaload, 1) := by decide +kernel
theorem d_Lw_law_653 : decode k_Lw_law.1 653 = .ok (.invokevirtual 98, 3) := by decide +kernel
theorem d_Lw_law_656 : decode k_Lw_law.1 656 = .ok (.istore 6, 2) := by decide +kernel
theorem d_Lw_law_658 : decode k_Lw_law.1 658 = .ok (.aload_n 2, 1) := by decide +kernel
theorem d_Lw_law_659 : decode k_Lw_law.1 659 = .ok (.invokevirtual 65, 3) := by decide +kernel
theorem d_Lw_law_662 : decode k_Lw_law.1 662 = .ok (.iload 5, 2) := by decide +kernel
theorem d_Lw_law_664 : decode k_Lw_law.1 664 = .ok (.if_icmp .eq 5, 3) := by decide +kernel
theorem d_Lw_law_667 : decode k_Lw_law.1 667 = .ok (.iconst 0, 1) := by decide +kernel
theorem d_Lw_law_668 : decode k_Lw_law.1 668 = .ok (.ireturn, 1) := by decide +kernel
theorem d_Lw_law_669 : decode k_Lw_law.1 669 = .ok (.iload 5, 2) := by decide +kernel
theorem d_Lw_law_671 : decode k_Lw_law.1 671 = .ok (.ifCond .ne 15, 3) := by decide +kernel
theorem d_Lw_law_674 : decode k_Lw_law.1 674 = .ok (.aload_n 3, 1) := by decide +kernel
theorem d_Lw_law_675 : decode k_Lw_law.1 675 = .ok (.iconst 0, 1) := by decide +kernel
theorem d_Lw_law_676 : decode k_Lw_law.1 676 = .ok (.laload, 1) := by decide +kernel
theorem d_Lw_law_677 : decode k_Lw_law.1 677 = .ok (.iload 6, 2) := by decide +kernel
theorem d_Lw_law_679 : decode k_Lw_law.1 679 = .ok (.i2l, 1) := by decide +kernel
theorem d_Lw_law_680 : decode k_Lw_law.1 680 = .ok (.lcmp, 1) := by decide +kernel
theorem d_Lw_law_681 : decode k_Lw_law.1 681 = .ok (.ifCond .eq 5, 3) := by decide +kernel
theorem d_Lw_law_684 : decode k_Lw_law.1 684 = .ok (.iconst 0, 1) := by decide +kernel
theorem d_Lw_law_685 : decode k_Lw_law.1 685 = .ok (.ireturn, 1) := by decide +kernel
theorem d_Lw_law_686 : decode k_Lw_law.1 686 = .ok (.goto 252, 3) := by decide +kernel
