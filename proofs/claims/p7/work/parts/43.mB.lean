set_option maxRecDepth 1000000 in
theorem dL_law_504 : decode code 504 = .ok (.aload_n 0, 1) := by decide +kernel
set_option maxRecDepth 1000000 in
theorem dL_law_505 : decode code 505 = .ok (.iload_n 3, 1) := by decide +kernel
set_option maxRecDepth 1000000 in
theorem dL_law_506 : decode code 506 = .ok (.iconst 1, 1) := by decide +kernel
set_option maxRecDepth 1000000 in
theorem dL_law_507 : decode code 507 = .ok (.iadd, 1) := by decide +kernel
set_option maxRecDepth 1000000 in
theorem dL_law_508 : decode code 508 = .ok (.iaload, 1) := by decide +kernel
set_option maxRecDepth 1000000 in
theorem dL_law_509 : decode code 509 = .ok (.aload_n 0, 1) := by decide +kernel
set_option maxRecDepth 1000000 in
theorem dL_law_510 : decode code 510 = .ok (.iload_n 3, 1) := by decide +kernel
set_option maxRecDepth 1000000 in
theorem dL_law_511 : decode code 511 = .ok (.iconst 2, 1) := by decide +kernel
set_option maxRecDepth 1000000 in
theorem dL_law_512 : decode code 512 = .ok (.iadd, 1) := by decide +kernel
set_option maxRecDepth 1000000 in
theorem dL_law_513 : decode code 513 = .ok (.iaload, 1) := by decide +kernel
set_option maxRecDepth 1000000 in
theorem dL_law_514 : decode code 514 = .ok (.aload_n 0, 1) := by decide +kernel
set_option maxRecDepth 1000000 in
theorem dL_law_515 : decode code 515 = .ok (.iload_n 3, 1) := by decide +kernel
set_option maxRecDepth 1000000 in
theorem dL_law_516 : decode code 516 = .ok (.iconst 3, 1) := by decide +kernel
set_option maxRecDepth 1000000 in
theorem dL_law_517 : decode code 517 = .ok (.iadd, 1) := by decide +kernel
set_option maxRecDepth 1000000 in
theorem dL_law_518 : decode code 518 = .ok (.iaload, 1) := by decide +kernel
set_option maxRecDepth 1000000 in
theorem dL_law_519 : decode code 519 = .ok (.ifCond .eq 7, 3) := by decide +kernel
set_option maxRecDepth 1000000 in
theorem dL_law_522 : decode code 522 = .ok (.iconst 1, 1) := by decide +kernel
set_option maxRecDepth 1000000 in
theorem dL_law_523 : decode code 523 = .ok (.goto 4, 3) := by decide +kernel
set_option maxRecDepth 1000000 in
theorem dL_law_526 : decode code 526 = .ok (.iconst 0, 1) := by decide +kernel
set_option maxRecDepth 1000000 in
theorem dL_law_527 : decode code 527 = .ok (.invokevirtual 50, 3) := by decide +kernel
set_option maxRecDepth 1000000 in
theorem dL_law_530 : decode code 530 = .ok (.pop, 1) := by decide +kernel
set_option maxRecDepth 1000000 in
theorem dL_law_531 : decode code 531 = .ok (.aload_n 2, 1) := by decide +kernel
set_option maxRecDepth 1000000 in
theorem dL_law_532 : decode code 532 = .ok (.aload_n 0, 1) := by decide +kernel
set_option maxRecDepth 1000000 in
theorem dL_law_533 : decode code 533 = .ok (.iload_n 3, 1) := by decide +kernel
set_option maxRecDepth 1000000 in
theorem dL_law_534 : decode code 534 = .ok (.iconst 1, 1) := by decide +kernel
set_option maxRecDepth 1000000 in
theorem dL_law_535 : decode code 535 = .ok (.iadd, 1) := by decide +kernel
set_option maxRecDepth 1000000 in
theorem dL_law_536 : decode code 536 = .ok (.iaload, 1) := by decide +kernel
set_option maxRecDepth 1000000 in
theorem dL_law_537 : decode code 537 = .ok (.aload_n 0, 1) := by decide +kernel
set_option maxRecDepth 1000000 in
theorem dL_law_538 : decode code 538 = .ok (.iload_n 3, 1) := by decide +kernel
set_option maxRecDepth 1000000 in
theorem dL_law_539 : decode code 539 = .ok (.iconst 2, 1) := by decide +kernel
set_option maxRecDepth 1000000 in
theorem dL_law_540 : decode code 540 = .ok (.iadd, 1) := by decide +kernel
set_option maxRecDepth 1000000 in
theorem dL_law_541 : decode code 541 = .ok (.iaload, 1) := by decide +kernel
set_option maxRecDepth 1000000 in
theorem dL_law_542 : decode code 542 = .ok (.aload_n 0, 1) := by decide +kernel
set_option maxRecDepth 1000000 in
theorem dL_law_543 : decode code 543 = .ok (.iload_n 3, 1) := by decide +kernel
set_option maxRecDepth 1000000 in
theorem dL_law_544 : decode code 544 = .ok (.iconst 3, 1) := by decide +kernel
set_option maxRecDepth 1000000 in
theorem dL_law_545 : decode code 545 = .ok (.iadd, 1) := by decide +kernel
set_option maxRecDepth 1000000 in
theorem dL_law_546 : decode code 546 = .ok (.iaload, 1) := by decide +kernel
set_option maxRecDepth 1000000 in
theorem dL_law_547 : decode code 547 = .ok (.ifCond .eq 7, 3) := by decide +kernel
set_option maxRecDepth 1000000 in
theorem dL_law_550 : decode code 550 = .ok (.iconst 1, 1) := by decide +kernel
set_option maxRecDepth 1000000 in
theorem dL_law_551 : decode code 551 = .ok (.goto 4, 3) := by decide +kernel
set_option maxRecDepth 1000000 in
theorem dL_law_554 : decode code 554 = .ok (.iconst 0, 1) := by decide +kernel
set_option maxRecDepth 1000000 in
theorem dL_law_555 : decode code 555 = .ok (.invokevirtual 54, 3) := by decide +kernel
set_option maxRecDepth 1000000 in
theorem dL_law_558 : decode code 558 = .ok (.pop, 1) := by decide +kernel
set_option maxRecDepth 1000000 in
theorem dL_law_559 : decode code 559 = .ok (.goto 917, 3) := by decide +kernel
set_option maxRecDepth 1000000 in
theorem dL_law_562 : decode code 562 = .ok (.aload_n 1, 1) := by decide +kernel
set_option maxRecDepth 1000000 in
theorem dL_law_563 : decode code 563 = .ok (.aload_n 0, 1) := by decide +kernel
set_option maxRecDepth 1000000 in
theorem dL_law_564 : decode code 564 = .ok (.iload_n 3, 1) := by decide +kernel
set_option maxRecDepth 1000000 in
theorem dL_law_565 : decode code 565 = .ok (.iconst 1, 1) := by decide +kernel
set_option maxRecDepth 1000000 in
theorem dL_law_566 : decode code 566 = .ok (.iadd, 1) := by decide +kernel
set_option maxRecDepth 1000000 in
theorem dL_law_567 : decode code 567 = .ok (.iaload, 1) := by decide +kernel
set_option maxRecDepth 1000000 in
theorem dL_law_568 : decode code 568 = .ok (.aload_n 0, 1) := by decide +kernel
set_option maxRecDepth 1000000 in
theorem dL_law_569 : decode code 569 = .ok (.iload_n 3, 1) := by decide +kernel
set_option maxRecDepth 1000000 in
theorem dL_law_570 : decode code 570 = .ok (.iconst 2, 1) := by decide +kernel
set_option maxRecDepth 1000000 in
theorem dL_law_571 : decode code 571 = .ok (.iadd, 1) := by decide +kernel
set_option maxRecDepth 1000000 in
theorem dL_law_572 : decode code 572 = .ok (.iaload, 1) := by decide +kernel
set_option maxRecDepth 1000000 in
theorem dL_law_573 : decode code 573 = .ok (.aload_n 0, 1) := by decide +kernel
set_option maxRecDepth 1000000 in
theorem dL_law_574 : decode code 574 = .ok (.iload_n 3, 1) := by decide +kernel
set_option maxRecDepth 1000000 in
theorem dL_law_575 : decode code 575 = .ok (.iconst 3, 1) := by decide +kernel
set_option maxRecDepth 1000000 in
theorem dL_law_576 : decode code 576 = .ok (.iadd, 1) := by decide +kernel
set_option maxRecDepth 1000000 in
theorem dL_law_577 : decode code 577 = .ok (.iaload, 1) := by decide +kernel
set_option maxRecDepth 1000000 in
theorem dL_law_578 : decode code 578 = .ok (.aload_n 0, 1) := by decide +kernel
set_option maxRecDepth 1000000 in
theorem dL_law_579 : decode code 579 = .ok (.iload_n 3, 1) := by decide +kernel
set_option maxRecDepth 1000000 in
theorem dL_law_580 : decode code 580 = .ok (.iconst 4, 1) := by decide +kernel
set_option maxRecDepth 1000000 in
theorem dL_law_581 : decode code 581 = .ok (.iadd, 1) := by decide +kernel
set_option maxRecDepth 1000000 in
theorem dL_law_582 : decode code 582 = .ok (.iaload, 1) := by decide +kernel
set_option maxRecDepth 1000000 in
theorem dL_law_583 : decode code 583 = .ok (.aload_n 0, 1) := by decide +kernel
set_option maxRecDepth 1000000 in
theorem dL_law_584 : decode code 584 = .ok (.iload_n 3, 1) := by decide +kernel
set_option maxRecDepth 1000000 in
theorem dL_law_585 : decode code 585 = .ok (.iconst 5, 1) := by decide +kernel
set_option maxRecDepth 1000000 in
theorem dL_law_586 : decode code 586 = .ok (.iadd, 1) := by decide +kernel
set_option maxRecDepth 1000000 in
theorem dL_law_587 : decode code 587 = .ok (.iaload, 1) := by decide +kernel
set_option maxRecDepth 1000000 in
theorem dL_law_588 : decode code 588 = .ok (.invokevirtual 55, 3) := by decide +kernel
set_option maxRecDepth 1000000 in
theorem dL_law_591 : decode code 591 = .ok (.pop, 1) := by decide +kernel
set_option maxRecDepth 1000000 in
theorem dL_law_592 : decode code 592 = .ok (.aload_n 2, 1) := by decide +kernel
set_option maxRecDepth 1000000 in
theorem dL_law_593 : decode code 593 = .ok (.aload_n 0, 1) := by decide +kernel
set_option maxRecDepth 1000000 in
theorem dL_law_594 : decode code 594 = .ok (.iload_n 3, 1) := by decide +kernel
set_option maxRecDepth 1000000 in
theorem dL_law_595 : decode code 595 = .ok (.iconst 1, 1) := by decide +kernel
set_option maxRecDepth 1000000 in
theorem dL_law_596 : decode code 596 = .ok (.iadd, 1) := by decide +kernel
set_option maxRecDepth 1000000 in
theorem dL_law_597 : decode code 597 = .ok (.iaload, 1) := by decide +kernel
set_option maxRecDepth 1000000 in
theorem dL_law_598 : decode code 598 = .ok (.aload_n 0, 1) := by decide +kernel
set_option maxRecDepth 1000000 in
theorem dL_law_599 : decode code 599 = .ok (.iload_n 3, 1) := by decide +kernel
set_option maxRecDepth 1000000 in
theorem dL_law_600 : decode code 600 = .ok (.iconst 2, 1) := by decide +kernel
set_option maxRecDepth 1000000 in
theorem dL_law_601 : decode code 601 = .ok (.iadd, 1) := by decide +kernel
set_option maxRecDepth 1000000 in
theorem dL_law_602 : decode code 602 = .ok (.iaload, 1) := by decide +kernel
set_option maxRecDepth 1000000 in
theorem dL_law_603 : decode code 603 = .ok (.aload_n 0, 1) := by decide +kernel
set_option maxRecDepth 1000000 in
theorem dL_law_604 : decode code 604 = .ok (.iload_n 3, 1) := by decide +kernel
set_option maxRecDepth 1000000 in
theorem dL_law_605 : decode code 605 = .ok (.iconst 3, 1) := by decide +kernel
set_option maxRecDepth 1000000 in
theorem dL_law_606 : decode code 606 = .ok (.iadd, 1) := by decide +kernel
set_option maxRecDepth 1000000 in
theorem dL_law_607 : decode code 607 = .ok (.iaload, 1) := by decide +kernel
set_option maxRecDepth 1000000 in
theorem dL_law_608 : decode code 608 = .ok (.aload_n 0, 1) := by decide +kernel
set_option maxRecDepth 1000000 in
theorem dL_law_609 : decode code 609 = .ok (.iload_n 3, 1) := by decide +kernel
set_option maxRecDepth 1000000 in
theorem dL_law_610 : decode code 610 = .ok (.iconst 4, 1) := by decide +kernel
set_option maxRecDepth 1000000 in
theorem dL_law_611 : decode code 611 = .ok (.iadd, 1) := by decide +kernel
set_option maxRecDepth 1000000 in
theorem dL_law_612 : decode code 612 = .ok (.iaload, 1) := by decide +kernel
set_option maxRecDepth 1000000 in
theorem dL_law_613 : decode code 613 = .ok (.aload_n 0, 1) := by decide +kernel
set_option maxRecDepth 1000000 in
theorem dL_law_614 : decode code 614 = .ok (.iload_n 3, 1) := by decide +kernel
set_option maxRecDepth 1000000 in
theorem dL_law_615 : decode code 615 = .ok (.iconst 5, 1) := by decide +kernel
set_option maxRecDepth 1000000 in
theorem dL_law_616 : decode code 616 = .ok (.iadd, 1) := by decide +kernel
set_option maxRecDepth 1000000 in
theorem dL_law_617 : decode code 617 = .ok (.iaload, 1) := by decide +kernel
set_option maxRecDepth 1000000 in
theorem dL_law_618 : decode code 618 = .ok (.invokevirtual 59, 3) := by decide +kernel
set_option maxRecDepth 1000000 in
theorem dL_law_621 : decode code 621 = .ok (.pop, 1) := by decide +kernel
set_option maxRecDepth 1000000 in
theorem dL_law_622 : decode code 622 = .ok (.goto 854, 3) := by decide +kernel
set_option maxRecDepth 1000000 in
theorem dL_law_625 : decode code 625 = .ok (.aload_n 1, 1) := by decide +kernel
set_option maxRecDepth 1000000 in
theorem dL_law_626 : decode code 626 = .ok (.aload_n 0, 1) := by decide +kernel
set_option maxRecDepth 1000000 in
theorem dL_law_627 : decode code 627 = .ok (.iload_n 3, 1) := by decide +kernel
set_option maxRecDepth 1000000 in
theorem dL_law_628 : decode code 628 = .ok (.iconst 1, 1) := by decide +kernel
set_option maxRecDepth 1000000 in
theorem dL_law_629 : decode code 629 = .ok (.iadd, 1) := by decide +kernel
set_option maxRecDepth 1000000 in
theorem dL_law_630 : decode code 630 = .ok (.iaload, 1) := by decide +kernel
set_option maxRecDepth 1000000 in
theorem dL_law_631 : decode code 631 = .ok (.aload_n 0, 1) := by decide +kernel
set_option maxRecDepth 1000000 in
theorem dL_law_632 : decode code 632 = .ok (.iload_n 3, 1) := by decide +kernel
set_option maxRecDepth 1000000 in
theorem dL_law_633 : decode code 633 = .ok (.iconst 2, 1) := by decide +kernel
set_option maxRecDepth 1000000 in
theorem dL_law_634 : decode code 634 = .ok (.iadd, 1) := by decide +kernel
set_option maxRecDepth 1000000 in
theorem dL_law_635 : decode code 635 = .ok (.iaload, 1) := by decide +kernel
set_option maxRecDepth 1000000 in
theorem dL_law_636 : decode code 636 = .ok (.invokevirtual 60, 3) := by decide +kernel
set_option maxRecDepth 1000000 in
theorem dL_law_639 : decode code 639 = .ok (.pop, 1) := by decide +kernel
set_option maxRecDepth 1000000 in
theorem dL_law_640 : decode code 640 = .ok (.aload_n 2, 1) := by decide +kernel
set_option maxRecDepth 1000000 in
theorem dL_law_641 : decode code 641 = .ok (.aload_n 0, 1) := by decide +kernel
set_option maxRecDepth 1000000 in
theorem dL_law_642 : decode code 642 = .ok (.iload_n 3, 1) := by decide +kernel
set_option maxRecDepth 1000000 in
theorem dL_law_643 : decode code 643 = .ok (.iconst 1, 1) := by decide +kernel
set_option maxRecDepth 1000000 in
theorem dL_law_644 : decode code 644 = .ok (.iadd, 1) := by decide +kernel
set_option maxRecDepth 1000000 in
theorem dL_law_645 : decode code 645 = .ok (.iaload, 1) := by decide +kernel
set_option maxRecDepth 1000000 in
theorem dL_law_646 : decode code 646 = .ok (.aload_n 0, 1) := by decide +kernel
set_option maxRecDepth 1000000 in
theorem dL_law_647 : decode code 647 = .ok (.iload_n 3, 1) := by decide +kernel
set_option maxRecDepth 1000000 in
theorem dL_law_648 : decode code 648 = .ok (.iconst 2, 1) := by decide +kernel
set_option maxRecDepth 1000000 in
theorem dL_law_649 : decode code 649 = .ok (.iadd, 1) := by decide +kernel
set_option maxRecDepth 1000000 in
theorem dL_law_650 : decode code 650 = .ok (.iaload, 1) := by decide +kernel
set_option maxRecDepth 1000000 in
theorem dL_law_651 : decode code 651 = .ok (.invokevirtual 64, 3) := by decide +kernel
set_option maxRecDepth 1000000 in
theorem dL_law_654 : decode code 654 = .ok (.pop, 1) := by decide +kernel
set_option maxRecDepth 1000000 in
theorem dL_law_655 : decode code 655 = .ok (.goto 821, 3) := by decide +kernel
set_option maxRecDepth 1000000 in
theorem dL_law_658 : decode code 658 = .ok (.aload_n 1, 1) := by decide +kernel
set_option maxRecDepth 1000000 in
theorem dL_law_659 : decode code 659 = .ok (.aload_n 0, 1) := by decide +kernel
set_option maxRecDepth 1000000 in
theorem dL_law_660 : decode code 660 = .ok (.iload_n 3, 1) := by decide +kernel
set_option maxRecDepth 1000000 in
theorem dL_law_661 : decode code 661 = .ok (.iconst 1, 1) := by decide +kernel
set_option maxRecDepth 1000000 in
theorem dL_law_662 : decode code 662 = .ok (.iadd, 1) := by decide +kernel
set_option maxRecDepth 1000000 in
theorem dL_law_663 : decode code 663 = .ok (.iaload, 1) := by decide +kernel
set_option maxRecDepth 1000000 in
theorem dL_law_664 : decode code 664 = .ok (.invokevirtual 65, 3) := by decide +kernel
set_option maxRecDepth 1000000 in
theorem dL_law_667 : decode code 667 = .ok (.pop, 1) := by decide +kernel
set_option maxRecDepth 1000000 in
theorem dL_law_668 : decode code 668 = .ok (.aload_n 2, 1) := by decide +kernel
set_option maxRecDepth 1000000 in
theorem dL_law_669 : decode code 669 = .ok (.aload_n 0, 1) := by decide +kernel
set_option maxRecDepth 1000000 in
theorem dL_law_670 : decode code 670 = .ok (.iload_n 3, 1) := by decide +kernel
set_option maxRecDepth 1000000 in
theorem dL_law_671 : decode code 671 = .ok (.iconst 1, 1) := by decide +kernel
set_option maxRecDepth 1000000 in
theorem dL_law_672 : decode code 672 = .ok (.iadd, 1) := by decide +kernel
set_option maxRecDepth 1000000 in
theorem dL_law_673 : decode code 673 = .ok (.iaload, 1) := by decide +kernel
set_option maxRecDepth 1000000 in
theorem dL_law_674 : decode code 674 = .ok (.invokevirtual 69, 3) := by decide +kernel
set_option maxRecDepth 1000000 in
theorem dL_law_677 : decode code 677 = .ok (.pop, 1) := by decide +kernel
set_option maxRecDepth 1000000 in
theorem dL_law_678 : decode code 678 = .ok (.goto 798, 3) := by decide +kernel
set_option maxRecDepth 1000000 in
theorem dL_law_681 : decode code 681 = .ok (.aload_n 1, 1) := by decide +kernel
set_option maxRecDepth 1000000 in
theorem dL_law_682 : decode code 682 = .ok (.aload_n 0, 1) := by decide +kernel
set_option maxRecDepth 1000000 in
theorem dL_law_683 : decode code 683 = .ok (.iload_n 3, 1) := by decide +kernel
set_option maxRecDepth 1000000 in
theorem dL_law_684 : decode code 684 = .ok (.iconst 1, 1) := by decide +kernel
set_option maxRecDepth 1000000 in
theorem dL_law_685 : decode code 685 = .ok (.iadd, 1) := by decide +kernel
set_option maxRecDepth 1000000 in
theorem dL_law_686 : decode code 686 = .ok (.iaload, 1) := by decide +kernel
set_option maxRecDepth 1000000 in
theorem dL_law_687 : decode code 687 = .ok (.aload_n 0, 1) := by decide +kernel
set_option maxRecDepth 1000000 in
theorem dL_law_688 : decode code 688 = .ok (.iload_n 3, 1) := by decide +kernel
set_option maxRecDepth 1000000 in
theorem dL_law_689 : decode code 689 = .ok (.iconst 2, 1) := by decide +kernel
set_option maxRecDepth 1000000 in
theorem dL_law_690 : decode code 690 = .ok (.iadd, 1) := by decide +kernel
set_option maxRecDepth 1000000 in
theorem dL_law_691 : decode code 691 = .ok (.iaload, 1) := by decide +kernel
set_option maxRecDepth 1000000 in
theorem dL_law_692 : decode code 692 = .ok (.invokevirtual 70, 3) := by decide +kernel
set_option maxRecDepth 1000000 in
theorem dL_law_695 : decode code 695 = .ok (.pop, 1) := by decide +kernel
set_option maxRecDepth 1000000 in
theorem dL_law_696 : decode code 696 = .ok (.aload_n 2, 1) := by decide +kernel
set_option maxRecDepth 1000000 in
theorem dL_law_697 : decode code 697 = .ok (.aload_n 0, 1) := by decide +kernel
set_option maxRecDepth 1000000 in
theorem dL_law_698 : decode code 698 = .ok (.iload_n 3, 1) := by decide +kernel
set_option maxRecDepth 1000000 in
theorem dL_law_699 : decode code 699 = .ok (.iconst 1, 1) := by decide +kernel
set_option maxRecDepth 1000000 in
theorem dL_law_700 : decode code 700 = .ok (.iadd, 1) := by decide +kernel
set_option maxRecDepth 1000000 in
theorem dL_law_701 : decode code 701 = .ok (.iaload, 1) := by decide +kernel
set_option maxRecDepth 1000000 in
theorem dL_law_702 : decode code 702 = .ok (.aload_n 0, 1) := by decide +kernel
set_option maxRecDepth 1000000 in
theorem dL_law_703 : decode code 703 = .ok (.iload_n 3, 1) := by decide +kernel
set_option maxRecDepth 1000000 in
theorem dL_law_704 : decode code 704 = .ok (.iconst 2, 1) := by decide +kernel
set_option maxRecDepth 1000000 in
theorem dL_law_705 : decode code 705 = .ok (.iadd, 1) := by decide +kernel
set_option maxRecDepth 1000000 in
theorem dL_law_706 : decode code 706 = .ok (.iaload, 1) := by decide +kernel
set_option maxRecDepth 1000000 in
theorem dL_law_707 : decode code 707 = .ok (.invokevirtual 73, 3) := by decide +kernel
set_option maxRecDepth 1000000 in
theorem dL_law_710 : decode code 710 = .ok (.pop, 1) := by decide +kernel
set_option maxRecDepth 1000000 in
theorem dL_law_711 : decode code 711 = .ok (.goto 765, 3) := by decide +kernel
set_option maxRecDepth 1000000 in
theorem dL_law_714 : decode code 714 = .ok (.aload_n 1, 1) := by decide +kernel
set_option maxRecDepth 1000000 in
theorem dL_law_715 : decode code 715 = .ok (.aload_n 0, 1) := by decide +kernel
set_option maxRecDepth 1000000 in
theorem dL_law_716 : decode code 716 = .ok (.iload_n 3, 1) := by decide +kernel
set_option maxRecDepth 1000000 in
theorem dL_law_717 : decode code 717 = .ok (.iconst 1, 1) := by decide +kernel
set_option maxRecDepth 1000000 in
theorem dL_law_718 : decode code 718 = .ok (.iadd, 1) := by decide +kernel
set_option maxRecDepth 1000000 in
theorem dL_law_719 : decode code 719 = .ok (.iaload, 1) := by decide +kernel
set_option maxRecDepth 1000000 in
theorem dL_law_720 : decode code 720 = .ok (.aload_n 0, 1) := by decide +kernel
set_option maxRecDepth 1000000 in
theorem dL_law_721 : decode code 721 = .ok (.iload_n 3, 1) := by decide +kernel
set_option maxRecDepth 1000000 in
theorem dL_law_722 : decode code 722 = .ok (.iconst 2, 1) := by decide +kernel
set_option maxRecDepth 1000000 in
theorem dL_law_723 : decode code 723 = .ok (.iadd, 1) := by decide +kernel
set_option maxRecDepth 1000000 in
theorem dL_law_724 : decode code 724 = .ok (.iaload, 1) := by decide +kernel
set_option maxRecDepth 1000000 in
theorem dL_law_725 : decode code 725 = .ok (.invokevirtual 74, 3) := by decide +kernel
set_option maxRecDepth 1000000 in
theorem dL_law_728 : decode code 728 = .ok (.pop, 1) := by decide +kernel
set_option maxRecDepth 1000000 in
theorem dL_law_729 : decode code 729 = .ok (.aload_n 2, 1) := by decide +kernel
set_option maxRecDepth 1000000 in
theorem dL_law_730 : decode code 730 = .ok (.aload_n 0, 1) := by decide +kernel
set_option maxRecDepth 1000000 in
theorem dL_law_731 : decode code 731 = .ok (.iload_n 3, 1) := by decide +kernel
set_option maxRecDepth 1000000 in
theorem dL_law_732 : decode code 732 = .ok (.iconst 1, 1) := by decide +kernel
set_option maxRecDepth 1000000 in
theorem dL_law_733 : decode code 733 = .ok (.iadd, 1) := by decide +kernel
set_option maxRecDepth 1000000 in
theorem dL_law_734 : decode code 734 = .ok (.iaload, 1) := by decide +kernel
set_option maxRecDepth 1000000 in
theorem dL_law_735 : decode code 735 = .ok (.aload_n 0, 1) := by decide +kernel
set_option maxRecDepth 1000000 in
theorem dL_law_736 : decode code 736 = .ok (.iload_n 3, 1) := by decide +kernel
set_option maxRecDepth 1000000 in
theorem dL_law_737 : decode code 737 = .ok (.iconst 2, 1) := by decide +kernel
set_option maxRecDepth 1000000 in
theorem dL_law_738 : decode code 738 = .ok (.iadd, 1) := by decide +kernel
set_option maxRecDepth 1000000 in
theorem dL_law_739 : decode code 739 = .ok (.iaload, 1) := by decide +kernel
set_option maxRecDepth 1000000 in
theorem dL_law_740 : decode code 740 = .ok (.invokevirtual 77, 3) := by decide +kernel
set_option maxRecDepth 1000000 in
theorem dL_law_743 : decode code 743 = .ok (.pop, 1) := by decide +kernel
set_option maxRecDepth 1000000 in
theorem dL_law_744 : decode code 744 = .ok (.goto 732, 3) := by decide +kernel
set_option maxRecDepth 1000000 in
theorem dL_law_747 : decode code 747 = .ok (.aload_n 1, 1) := by decide +kernel
set_option maxRecDepth 1000000 in
theorem dL_law_748 : decode code 748 = .ok (.aload_n 0, 1) := by decide +kernel
set_option maxRecDepth 1000000 in
theorem dL_law_749 : decode code 749 = .ok (.iload_n 3, 1) := by decide +kernel
set_option maxRecDepth 1000000 in
theorem dL_law_750 : decode code 750 = .ok (.iconst 1, 1) := by decide +kernel
set_option maxRecDepth 1000000 in
theorem dL_law_751 : decode code 751 = .ok (.iadd, 1) := by decide +kernel
set_option maxRecDepth 1000000 in
theorem dL_law_752 : decode code 752 = .ok (.iaload, 1) := by decide +kernel
set_option maxRecDepth 1000000 in
theorem dL_law_753 : decode code 753 = .ok (.aload_n 0, 1) := by decide +kernel
set_option maxRecDepth 1000000 in
theorem dL_law_754 : decode code 754 = .ok (.iload_n 3, 1) := by decide +kernel
set_option maxRecDepth 1000000 in
theorem dL_law_755 : decode code 755 = .ok (.iconst 2, 1) := by decide +kernel
set_option maxRecDepth 1000000 in
theorem dL_law_756 : decode code 756 = .ok (.iadd, 1) := by decide +kernel
set_option maxRecDepth 1000000 in
theorem dL_law_757 : decode code 757 = .ok (.iaload, 1) := by decide +kernel
set_option maxRecDepth 1000000 in
theorem dL_law_758 : decode code 758 = .ok (.aload_n 0, 1) := by decide +kernel
set_option maxRecDepth 1000000 in
theorem dL_law_759 : decode code 759 = .ok (.iload_n 3, 1) := by decide +kernel
set_option maxRecDepth 1000000 in
theorem dL_law_760 : decode code 760 = .ok (.iconst 3, 1) := by decide +kernel
set_option maxRecDepth 1000000 in
theorem dL_law_761 : decode code 761 = .ok (.iadd, 1) := by decide +kernel
set_option maxRecDepth 1000000 in
theorem dL_law_762 : decode code 762 = .ok (.iaload, 1) := by decide +kernel
set_option maxRecDepth 1000000 in
theorem dL_law_763 : decode code 763 = .ok (.invokevirtual 78, 3) := by decide +kernel
set_option maxRecDepth 1000000 in
theorem dL_law_766 : decode code 766 = .ok (.pop, 1) := by decide +kernel
set_option maxRecDepth 1000000 in
theorem dL_law_767 : decode code 767 = .ok (.aload_n 2, 1) := by decide +kernel
set_option maxRecDepth 1000000 in
theorem dL_law_768 : decode code 768 = .ok (.aload_n 0, 1) := by decide +kernel
set_option maxRecDepth 1000000 in
theorem dL_law_769 : decode code 769 = .ok (.iload_n 3, 1) := by decide +kernel
set_option maxRecDepth 1000000 in
theorem dL_law_770 : decode code 770 = .ok (.iconst 1, 1) := by decide +kernel
set_option maxRecDepth 1000000 in
theorem dL_law_771 : decode code 771 = .ok (.iadd, 1) := by decide +kernel
set_option maxRecDepth 1000000 in
theorem dL_law_772 : decode code 772 = .ok (.iaload, 1) := by decide +kernel
set_option maxRecDepth 1000000 in
theorem dL_law_773 : decode code 773 = .ok (.aload_n 0, 1) := by decide +kernel
set_option maxRecDepth 1000000 in
theorem dL_law_774 : decode code 774 = .ok (.iload_n 3, 1) := by decide +kernel
set_option maxRecDepth 1000000 in
theorem dL_law_775 : decode code 775 = .ok (.iconst 2, 1) := by decide +kernel
set_option maxRecDepth 1000000 in
theorem dL_law_776 : decode code 776 = .ok (.iadd, 1) := by decide +kernel
set_option maxRecDepth 1000000 in
theorem dL_law_777 : decode code 777 = .ok (.iaload, 1) := by decide +kernel
set_option maxRecDepth 1000000 in
theorem dL_law_778 : decode code 778 = .ok (.aload_n 0, 1) := by decide +kernel
set_option maxRecDepth 1000000 in
theorem dL_law_779 : decode code 779 = .ok (.iload_n 3, 1) := by decide +kernel
set_option maxRecDepth 1000000 in
theorem dL_law_780 : decode code 780 = .ok (.iconst 3, 1) := by decide +kernel
set_option maxRecDepth 1000000 in
theorem dL_law_781 : decode code 781 = .ok (.iadd, 1) := by decide +kernel
set_option maxRecDepth 1000000 in
theorem dL_law_782 : decode code 782 = .ok (.iaload, 1) := by decide +kernel
set_option maxRecDepth 1000000 in
theorem dL_law_783 : decode code 783 = .ok (.invokevirtual 82, 3) := by decide +kernel
set_option maxRecDepth 1000000 in
theorem dL_law_786 : decode code 786 = .ok (.pop, 1) := by decide +kernel
set_option maxRecDepth 1000000 in
theorem dL_law_787 : decode code 787 = .ok (.goto 689, 3) := by decide +kernel
set_option maxRecDepth 1000000 in
theorem dL_law_790 : decode code 790 = .ok (.aload_n 1, 1) := by decide +kernel
set_option maxRecDepth 1000000 in
theorem dL_law_791 : decode code 791 = .ok (.aload_n 0, 1) := by decide +kernel
set_option maxRecDepth 1000000 in
theorem dL_law_792 : decode code 792 = .ok (.iload_n 3, 1) := by decide +kernel
set_option maxRecDepth 1000000 in
theorem dL_law_793 : decode code 793 = .ok (.iconst 1, 1) := by decide +kernel
set_option maxRecDepth 1000000 in
theorem dL_law_794 : decode code 794 = .ok (.iadd, 1) := by decide +kernel
set_option maxRecDepth 1000000 in
theorem dL_law_795 : decode code 795 = .ok (.iaload, 1) := by decide +kernel
set_option maxRecDepth 1000000 in
theorem dL_law_796 : decode code 796 = .ok (.invokevirtual 83, 3) := by decide +kernel
set_option maxRecDepth 1000000 in
theorem dL_law_799 : decode code 799 = .ok (.pop, 1) := by decide +kernel
set_option maxRecDepth 1000000 in
theorem dL_law_800 : decode code 800 = .ok (.aload_n 2, 1) := by decide +kernel
set_option maxRecDepth 1000000 in
theorem dL_law_801 : decode code 801 = .ok (.aload_n 0, 1) := by decide +kernel
set_option maxRecDepth 1000000 in
theorem dL_law_802 : decode code 802 = .ok (.iload_n 3, 1) := by decide +kernel
set_option maxRecDepth 1000000 in
theorem dL_law_803 : decode code 803 = .ok (.iconst 1, 1) := by decide +kernel
set_option maxRecDepth 1000000 in
theorem dL_law_804 : decode code 804 = .ok (.iadd, 1) := by decide +kernel
set_option maxRecDepth 1000000 in
theorem dL_law_805 : decode code 805 = .ok (.iaload, 1) := by decide +kernel
set_option maxRecDepth 1000000 in
theorem dL_law_806 : decode code 806 = .ok (.invokevirtual 86, 3) := by decide +kernel
set_option maxRecDepth 1000000 in
theorem dL_law_809 : decode code 809 = .ok (.pop, 1) := by decide +kernel
set_option maxRecDepth 1000000 in
theorem dL_law_810 : decode code 810 = .ok (.goto 666, 3) := by decide +kernel
set_option maxRecDepth 1000000 in
theorem dL_law_813 : decode code 813 = .ok (.aload_n 1, 1) := by decide +kernel
set_option maxRecDepth 1000000 in
theorem dL_law_814 : decode code 814 = .ok (.aload_n 0, 1) := by decide +kernel
set_option maxRecDepth 1000000 in
theorem dL_law_815 : decode code 815 = .ok (.iload_n 3, 1) := by decide +kernel
set_option maxRecDepth 1000000 in
theorem dL_law_816 : decode code 816 = .ok (.iconst 1, 1) := by decide +kernel
set_option maxRecDepth 1000000 in
theorem dL_law_817 : decode code 817 = .ok (.iadd, 1) := by decide +kernel
set_option maxRecDepth 1000000 in
theorem dL_law_818 : decode code 818 = .ok (.iaload, 1) := by decide +kernel
set_option maxRecDepth 1000000 in
theorem dL_law_819 : decode code 819 = .ok (.aload_n 0, 1) := by decide +kernel
set_option maxRecDepth 1000000 in
theorem dL_law_820 : decode code 820 = .ok (.iload_n 3, 1) := by decide +kernel
set_option maxRecDepth 1000000 in
theorem dL_law_821 : decode code 821 = .ok (.iconst 2, 1) := by decide +kernel
set_option maxRecDepth 1000000 in
theorem dL_law_822 : decode code 822 = .ok (.iadd, 1) := by decide +kernel
set_option maxRecDepth 1000000 in
theorem dL_law_823 : decode code 823 = .ok (.iaload, 1) := by decide +kernel
set_option maxRecDepth 1000000 in
theorem dL_law_824 : decode code 824 = .ok (.invokevirtual 87, 3) := by decide +kernel
set_option maxRecDepth 1000000 in
theorem dL_law_827 : decode code 827 = .ok (.pop, 1) := by decide +kernel
set_option maxRecDepth 1000000 in
theorem dL_law_828 : decode code 828 = .ok (.aload_n 2, 1) := by decide +kernel
set_option maxRecDepth 1000000 in
theorem dL_law_829 : decode code 829 = .ok (.aload_n 0, 1) := by decide +kernel
set_option maxRecDepth 1000000 in
theorem dL_law_830 : decode code 830 = .ok (.iload_n 3, 1) := by decide +kernel
set_option maxRecDepth 1000000 in
theorem dL_law_831 : decode code 831 = .ok (.iconst 1, 1) := by decide +kernel
set_option maxRecDepth 1000000 in
theorem dL_law_832 : decode code 832 = .ok (.iadd, 1) := by decide +kernel
set_option maxRecDepth 1000000 in
theorem dL_law_833 : decode code 833 = .ok (.iaload, 1) := by decide +kernel
set_option maxRecDepth 1000000 in
theorem dL_law_834 : decode code 834 = .ok (.aload_n 0, 1) := by decide +kernel
set_option maxRecDepth 1000000 in
theorem dL_law_835 : decode code 835 = .ok (.iload_n 3, 1) := by decide +kernel
set_option maxRecDepth 1000000 in
theorem dL_law_836 : decode code 836 = .ok (.iconst 2, 1) := by decide +kernel
set_option maxRecDepth 1000000 in
theorem dL_law_837 : decode code 837 = .ok (.iadd, 1) := by decide +kernel
set_option maxRecDepth 1000000 in
theorem dL_law_838 : decode code 838 = .ok (.iaload, 1) := by decide +kernel
set_option maxRecDepth 1000000 in
theorem dL_law_839 : decode code 839 = .ok (.invokevirtual 90, 3) := by decide +kernel
set_option maxRecDepth 1000000 in
theorem dL_law_842 : decode code 842 = .ok (.pop, 1) := by decide +kernel
set_option maxRecDepth 1000000 in
theorem dL_law_843 : decode code 843 = .ok (.goto 633, 3) := by decide +kernel
