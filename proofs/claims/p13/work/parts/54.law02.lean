theorem dL_law_560_g : (decode cL_law 560 = .ok (.aload_n 2, 1)) ∧ (decode cL_law 561 = .ok (.aload_n 0, 1)) ∧ (decode cL_law 562 = .ok (.iload 4, 2)) ∧ (decode cL_law 564 = .ok (.iconst 1, 1)) ∧ (decode cL_law 565 = .ok (.iadd, 1)) ∧ (decode cL_law 566 = .ok (.iaload, 1)) ∧ (decode cL_law 567 = .ok (.aload_n 0, 1)) ∧ (decode cL_law 568 = .ok (.iload 4, 2)) := by decide +kernel
theorem dL_law_560 : decode cL_law 560 = .ok (.aload_n 2, 1) := dL_law_560_g.1
theorem dL_law_561 : decode cL_law 561 = .ok (.aload_n 0, 1) := dL_law_560_g.2.1
theorem dL_law_562 : decode cL_law 562 = .ok (.iload 4, 2) := dL_law_560_g.2.2.1
theorem dL_law_564 : decode cL_law 564 = .ok (.iconst 1, 1) := dL_law_560_g.2.2.2.1
theorem dL_law_565 : decode cL_law 565 = .ok (.iadd, 1) := dL_law_560_g.2.2.2.2.1
theorem dL_law_566 : decode cL_law 566 = .ok (.iaload, 1) := dL_law_560_g.2.2.2.2.2.1
theorem dL_law_567 : decode cL_law 567 = .ok (.aload_n 0, 1) := dL_law_560_g.2.2.2.2.2.2.1
theorem dL_law_568 : decode cL_law 568 = .ok (.iload 4, 2) := dL_law_560_g.2.2.2.2.2.2.2
theorem dL_law_570_g : (decode cL_law 570 = .ok (.iconst 2, 1)) ∧ (decode cL_law 571 = .ok (.iadd, 1)) ∧ (decode cL_law 572 = .ok (.iaload, 1)) ∧ (decode cL_law 573 = .ok (.invokevirtual 70, 3)) ∧ (decode cL_law 576 = .ok (.istore 6, 2)) ∧ (decode cL_law 578 = .ok (.goto 1043, 3)) ∧ (decode cL_law 581 = .ok (.aload_n 1, 1)) ∧ (decode cL_law 582 = .ok (.aload_n 0, 1)) := by decide +kernel
theorem dL_law_570 : decode cL_law 570 = .ok (.iconst 2, 1) := dL_law_570_g.1
theorem dL_law_571 : decode cL_law 571 = .ok (.iadd, 1) := dL_law_570_g.2.1
theorem dL_law_572 : decode cL_law 572 = .ok (.iaload, 1) := dL_law_570_g.2.2.1
theorem dL_law_573 : decode cL_law 573 = .ok (.invokevirtual 70, 3) := dL_law_570_g.2.2.2.1
theorem dL_law_576 : decode cL_law 576 = .ok (.istore 6, 2) := dL_law_570_g.2.2.2.2.1
theorem dL_law_578 : decode cL_law 578 = .ok (.goto 1043, 3) := dL_law_570_g.2.2.2.2.2.1
theorem dL_law_581 : decode cL_law 581 = .ok (.aload_n 1, 1) := dL_law_570_g.2.2.2.2.2.2.1
theorem dL_law_582 : decode cL_law 582 = .ok (.aload_n 0, 1) := dL_law_570_g.2.2.2.2.2.2.2
theorem dL_law_583_g : (decode cL_law 583 = .ok (.iload 4, 2)) ∧ (decode cL_law 585 = .ok (.iconst 1, 1)) ∧ (decode cL_law 586 = .ok (.iadd, 1)) ∧ (decode cL_law 587 = .ok (.iaload, 1)) ∧ (decode cL_law 588 = .ok (.aload_n 0, 1)) ∧ (decode cL_law 589 = .ok (.iload 4, 2)) ∧ (decode cL_law 591 = .ok (.iconst 2, 1)) ∧ (decode cL_law 592 = .ok (.iadd, 1)) := by decide +kernel
theorem dL_law_583 : decode cL_law 583 = .ok (.iload 4, 2) := dL_law_583_g.1
theorem dL_law_585 : decode cL_law 585 = .ok (.iconst 1, 1) := dL_law_583_g.2.1
theorem dL_law_586 : decode cL_law 586 = .ok (.iadd, 1) := dL_law_583_g.2.2.1
theorem dL_law_587 : decode cL_law 587 = .ok (.iaload, 1) := dL_law_583_g.2.2.2.1
theorem dL_law_588 : decode cL_law 588 = .ok (.aload_n 0, 1) := dL_law_583_g.2.2.2.2.1
theorem dL_law_589 : decode cL_law 589 = .ok (.iload 4, 2) := dL_law_583_g.2.2.2.2.2.1
theorem dL_law_591 : decode cL_law 591 = .ok (.iconst 2, 1) := dL_law_583_g.2.2.2.2.2.2.1
theorem dL_law_592 : decode cL_law 592 = .ok (.iadd, 1) := dL_law_583_g.2.2.2.2.2.2.2
theorem dL_law_593_g : (decode cL_law 593 = .ok (.iaload, 1)) ∧ (decode cL_law 594 = .ok (.invokevirtual 71, 3)) ∧ (decode cL_law 597 = .ok (.pop, 1)) ∧ (decode cL_law 598 = .ok (.aload_n 2, 1)) ∧ (decode cL_law 599 = .ok (.aload_n 0, 1)) ∧ (decode cL_law 600 = .ok (.iload 4, 2)) ∧ (decode cL_law 602 = .ok (.iconst 1, 1)) ∧ (decode cL_law 603 = .ok (.iadd, 1)) := by decide +kernel
theorem dL_law_593 : decode cL_law 593 = .ok (.iaload, 1) := dL_law_593_g.1
theorem dL_law_594 : decode cL_law 594 = .ok (.invokevirtual 71, 3) := dL_law_593_g.2.1
theorem dL_law_597 : decode cL_law 597 = .ok (.pop, 1) := dL_law_593_g.2.2.1
theorem dL_law_598 : decode cL_law 598 = .ok (.aload_n 2, 1) := dL_law_593_g.2.2.2.1
theorem dL_law_599 : decode cL_law 599 = .ok (.aload_n 0, 1) := dL_law_593_g.2.2.2.2.1
theorem dL_law_600 : decode cL_law 600 = .ok (.iload 4, 2) := dL_law_593_g.2.2.2.2.2.1
theorem dL_law_602 : decode cL_law 602 = .ok (.iconst 1, 1) := dL_law_593_g.2.2.2.2.2.2.1
theorem dL_law_603 : decode cL_law 603 = .ok (.iadd, 1) := dL_law_593_g.2.2.2.2.2.2.2
theorem dL_law_604_g : (decode cL_law 604 = .ok (.iaload, 1)) ∧ (decode cL_law 605 = .ok (.aload_n 0, 1)) ∧ (decode cL_law 606 = .ok (.iload 4, 2)) ∧ (decode cL_law 608 = .ok (.iconst 2, 1)) ∧ (decode cL_law 609 = .ok (.iadd, 1)) ∧ (decode cL_law 610 = .ok (.iaload, 1)) ∧ (decode cL_law 611 = .ok (.invokevirtual 74, 3)) ∧ (decode cL_law 614 = .ok (.pop, 1)) := by decide +kernel
theorem dL_law_604 : decode cL_law 604 = .ok (.iaload, 1) := dL_law_604_g.1
theorem dL_law_605 : decode cL_law 605 = .ok (.aload_n 0, 1) := dL_law_604_g.2.1
theorem dL_law_606 : decode cL_law 606 = .ok (.iload 4, 2) := dL_law_604_g.2.2.1
theorem dL_law_608 : decode cL_law 608 = .ok (.iconst 2, 1) := dL_law_604_g.2.2.2.1
theorem dL_law_609 : decode cL_law 609 = .ok (.iadd, 1) := dL_law_604_g.2.2.2.2.1
theorem dL_law_610 : decode cL_law 610 = .ok (.iaload, 1) := dL_law_604_g.2.2.2.2.2.1
theorem dL_law_611 : decode cL_law 611 = .ok (.invokevirtual 74, 3) := dL_law_604_g.2.2.2.2.2.2.1
theorem dL_law_614 : decode cL_law 614 = .ok (.pop, 1) := dL_law_604_g.2.2.2.2.2.2.2
theorem dL_law_615_g : (decode cL_law 615 = .ok (.goto 1006, 3)) ∧ (decode cL_law 618 = .ok (.aload_n 1, 1)) ∧ (decode cL_law 619 = .ok (.aload_n 0, 1)) ∧ (decode cL_law 620 = .ok (.iload 4, 2)) ∧ (decode cL_law 622 = .ok (.iconst 1, 1)) ∧ (decode cL_law 623 = .ok (.iadd, 1)) ∧ (decode cL_law 624 = .ok (.iaload, 1)) ∧ (decode cL_law 625 = .ok (.aload_n 0, 1)) := by decide +kernel
theorem dL_law_615 : decode cL_law 615 = .ok (.goto 1006, 3) := dL_law_615_g.1
theorem dL_law_618 : decode cL_law 618 = .ok (.aload_n 1, 1) := dL_law_615_g.2.1
theorem dL_law_619 : decode cL_law 619 = .ok (.aload_n 0, 1) := dL_law_615_g.2.2.1
theorem dL_law_620 : decode cL_law 620 = .ok (.iload 4, 2) := dL_law_615_g.2.2.2.1
theorem dL_law_622 : decode cL_law 622 = .ok (.iconst 1, 1) := dL_law_615_g.2.2.2.2.1
theorem dL_law_623 : decode cL_law 623 = .ok (.iadd, 1) := dL_law_615_g.2.2.2.2.2.1
theorem dL_law_624 : decode cL_law 624 = .ok (.iaload, 1) := dL_law_615_g.2.2.2.2.2.2.1
theorem dL_law_625 : decode cL_law 625 = .ok (.aload_n 0, 1) := dL_law_615_g.2.2.2.2.2.2.2
theorem dL_law_626_g : (decode cL_law 626 = .ok (.iload 4, 2)) ∧ (decode cL_law 628 = .ok (.iconst 2, 1)) ∧ (decode cL_law 629 = .ok (.iadd, 1)) ∧ (decode cL_law 630 = .ok (.iaload, 1)) ∧ (decode cL_law 631 = .ok (.aload_n 0, 1)) ∧ (decode cL_law 632 = .ok (.iload 4, 2)) ∧ (decode cL_law 634 = .ok (.iconst 3, 1)) ∧ (decode cL_law 635 = .ok (.iadd, 1)) := by decide +kernel
theorem dL_law_626 : decode cL_law 626 = .ok (.iload 4, 2) := dL_law_626_g.1
theorem dL_law_628 : decode cL_law 628 = .ok (.iconst 2, 1) := dL_law_626_g.2.1
theorem dL_law_629 : decode cL_law 629 = .ok (.iadd, 1) := dL_law_626_g.2.2.1
theorem dL_law_630 : decode cL_law 630 = .ok (.iaload, 1) := dL_law_626_g.2.2.2.1
theorem dL_law_631 : decode cL_law 631 = .ok (.aload_n 0, 1) := dL_law_626_g.2.2.2.2.1
theorem dL_law_632 : decode cL_law 632 = .ok (.iload 4, 2) := dL_law_626_g.2.2.2.2.2.1
theorem dL_law_634 : decode cL_law 634 = .ok (.iconst 3, 1) := dL_law_626_g.2.2.2.2.2.2.1
theorem dL_law_635 : decode cL_law 635 = .ok (.iadd, 1) := dL_law_626_g.2.2.2.2.2.2.2
theorem dL_law_636_g : (decode cL_law 636 = .ok (.iaload, 1)) ∧ (decode cL_law 637 = .ok (.aload_n 3, 1)) ∧ (decode cL_law 638 = .ok (.invokestatic 75, 3)) ∧ (decode cL_law 641 = .ok (.istore 5, 2)) ∧ (decode cL_law 643 = .ok (.aload_n 2, 1)) ∧ (decode cL_law 644 = .ok (.aload_n 0, 1)) ∧ (decode cL_law 645 = .ok (.iload 4, 2)) ∧ (decode cL_law 647 = .ok (.iconst 1, 1)) := by decide +kernel
theorem dL_law_636 : decode cL_law 636 = .ok (.iaload, 1) := dL_law_636_g.1
theorem dL_law_637 : decode cL_law 637 = .ok (.aload_n 3, 1) := dL_law_636_g.2.1
theorem dL_law_638 : decode cL_law 638 = .ok (.invokestatic 75, 3) := dL_law_636_g.2.2.1
theorem dL_law_641 : decode cL_law 641 = .ok (.istore 5, 2) := dL_law_636_g.2.2.2.1
theorem dL_law_643 : decode cL_law 643 = .ok (.aload_n 2, 1) := dL_law_636_g.2.2.2.2.1
theorem dL_law_644 : decode cL_law 644 = .ok (.aload_n 0, 1) := dL_law_636_g.2.2.2.2.2.1
theorem dL_law_645 : decode cL_law 645 = .ok (.iload 4, 2) := dL_law_636_g.2.2.2.2.2.2.1
theorem dL_law_647 : decode cL_law 647 = .ok (.iconst 1, 1) := dL_law_636_g.2.2.2.2.2.2.2
theorem dL_law_648_g : (decode cL_law 648 = .ok (.iadd, 1)) ∧ (decode cL_law 649 = .ok (.iaload, 1)) ∧ (decode cL_law 650 = .ok (.aload_n 0, 1)) ∧ (decode cL_law 651 = .ok (.iload 4, 2)) ∧ (decode cL_law 653 = .ok (.iconst 2, 1)) ∧ (decode cL_law 654 = .ok (.iadd, 1)) ∧ (decode cL_law 655 = .ok (.iaload, 1)) ∧ (decode cL_law 656 = .ok (.aload_n 0, 1)) := by decide +kernel
theorem dL_law_648 : decode cL_law 648 = .ok (.iadd, 1) := dL_law_648_g.1
theorem dL_law_649 : decode cL_law 649 = .ok (.iaload, 1) := dL_law_648_g.2.1
theorem dL_law_650 : decode cL_law 650 = .ok (.aload_n 0, 1) := dL_law_648_g.2.2.1
theorem dL_law_651 : decode cL_law 651 = .ok (.iload 4, 2) := dL_law_648_g.2.2.2.1
theorem dL_law_653 : decode cL_law 653 = .ok (.iconst 2, 1) := dL_law_648_g.2.2.2.2.1
theorem dL_law_654 : decode cL_law 654 = .ok (.iadd, 1) := dL_law_648_g.2.2.2.2.2.1
theorem dL_law_655 : decode cL_law 655 = .ok (.iaload, 1) := dL_law_648_g.2.2.2.2.2.2.1
theorem dL_law_656 : decode cL_law 656 = .ok (.aload_n 0, 1) := dL_law_648_g.2.2.2.2.2.2.2
theorem dL_law_657_g : (decode cL_law 657 = .ok (.iload 4, 2)) ∧ (decode cL_law 659 = .ok (.iconst 3, 1)) ∧ (decode cL_law 660 = .ok (.iadd, 1)) ∧ (decode cL_law 661 = .ok (.iaload, 1)) ∧ (decode cL_law 662 = .ok (.invokevirtual 78, 3)) ∧ (decode cL_law 665 = .ok (.istore 6, 2)) ∧ (decode cL_law 667 = .ok (.aload_n 2, 1)) ∧ (decode cL_law 668 = .ok (.invokevirtual 79, 3)) := by decide +kernel
theorem dL_law_657 : decode cL_law 657 = .ok (.iload 4, 2) := dL_law_657_g.1
theorem dL_law_659 : decode cL_law 659 = .ok (.iconst 3, 1) := dL_law_657_g.2.1
theorem dL_law_660 : decode cL_law 660 = .ok (.iadd, 1) := dL_law_657_g.2.2.1
theorem dL_law_661 : decode cL_law 661 = .ok (.iaload, 1) := dL_law_657_g.2.2.2.1
theorem dL_law_662 : decode cL_law 662 = .ok (.invokevirtual 78, 3) := dL_law_657_g.2.2.2.2.1
theorem dL_law_665 : decode cL_law 665 = .ok (.istore 6, 2) := dL_law_657_g.2.2.2.2.2.1
theorem dL_law_667 : decode cL_law 667 = .ok (.aload_n 2, 1) := dL_law_657_g.2.2.2.2.2.2.1
theorem dL_law_668 : decode cL_law 668 = .ok (.invokevirtual 79, 3) := dL_law_657_g.2.2.2.2.2.2.2
theorem dL_law_671_g : (decode cL_law 671 = .ok (.iload 5, 2)) ∧ (decode cL_law 673 = .ok (.if_icmp .eq 5, 3)) ∧ (decode cL_law 678 = .ok (.iload 5, 2)) ∧ (decode cL_law 680 = .ok (.ifCond .ne 15, 3)) ∧ (decode cL_law 683 = .ok (.aload_n 3, 1)) ∧ (decode cL_law 684 = .ok (.iconst 0, 1)) ∧ (decode cL_law 685 = .ok (.laload, 1)) ∧ (decode cL_law 686 = .ok (.iload 6, 2)) := by decide +kernel
theorem dL_law_671 : decode cL_law 671 = .ok (.iload 5, 2) := dL_law_671_g.1
theorem dL_law_673 : decode cL_law 673 = .ok (.if_icmp .eq 5, 3) := dL_law_671_g.2.1
theorem dL_law_678 : decode cL_law 678 = .ok (.iload 5, 2) := dL_law_671_g.2.2.1
theorem dL_law_680 : decode cL_law 680 = .ok (.ifCond .ne 15, 3) := dL_law_671_g.2.2.2.1
theorem dL_law_683 : decode cL_law 683 = .ok (.aload_n 3, 1) := dL_law_671_g.2.2.2.2.1
theorem dL_law_684 : decode cL_law 684 = .ok (.iconst 0, 1) := dL_law_671_g.2.2.2.2.2.1
theorem dL_law_685 : decode cL_law 685 = .ok (.laload, 1) := dL_law_671_g.2.2.2.2.2.2.1
theorem dL_law_686 : decode cL_law 686 = .ok (.iload 6, 2) := dL_law_671_g.2.2.2.2.2.2.2
theorem dL_law_688_g : (decode cL_law 688 = .ok (.i2l, 1)) ∧ (decode cL_law 689 = .ok (.lcmp, 1)) ∧ (decode cL_law 690 = .ok (.ifCond .eq 5, 3)) ∧ (decode cL_law 695 = .ok (.goto 926, 3)) ∧ (decode cL_law 698 = .ok (.aload_n 1, 1)) ∧ (decode cL_law 699 = .ok (.aload_n 0, 1)) ∧ (decode cL_law 700 = .ok (.iload 4, 2)) ∧ (decode cL_law 702 = .ok (.iconst 1, 1)) := by decide +kernel
theorem dL_law_688 : decode cL_law 688 = .ok (.i2l, 1) := dL_law_688_g.1
theorem dL_law_689 : decode cL_law 689 = .ok (.lcmp, 1) := dL_law_688_g.2.1
theorem dL_law_690 : decode cL_law 690 = .ok (.ifCond .eq 5, 3) := dL_law_688_g.2.2.1
theorem dL_law_695 : decode cL_law 695 = .ok (.goto 926, 3) := dL_law_688_g.2.2.2.1
theorem dL_law_698 : decode cL_law 698 = .ok (.aload_n 1, 1) := dL_law_688_g.2.2.2.2.1
theorem dL_law_699 : decode cL_law 699 = .ok (.aload_n 0, 1) := dL_law_688_g.2.2.2.2.2.1
theorem dL_law_700 : decode cL_law 700 = .ok (.iload 4, 2) := dL_law_688_g.2.2.2.2.2.2.1
theorem dL_law_702 : decode cL_law 702 = .ok (.iconst 1, 1) := dL_law_688_g.2.2.2.2.2.2.2
theorem dL_law_703_g : (decode cL_law 703 = .ok (.iadd, 1)) ∧ (decode cL_law 704 = .ok (.iaload, 1)) ∧ (decode cL_law 705 = .ok (.aload_n 0, 1)) ∧ (decode cL_law 706 = .ok (.iload 4, 2)) ∧ (decode cL_law 708 = .ok (.iconst 2, 1)) ∧ (decode cL_law 709 = .ok (.iadd, 1)) ∧ (decode cL_law 710 = .ok (.iaload, 1)) ∧ (decode cL_law 711 = .ok (.invokevirtual 82, 3)) := by decide +kernel
theorem dL_law_703 : decode cL_law 703 = .ok (.iadd, 1) := dL_law_703_g.1
theorem dL_law_704 : decode cL_law 704 = .ok (.iaload, 1) := dL_law_703_g.2.1
theorem dL_law_705 : decode cL_law 705 = .ok (.aload_n 0, 1) := dL_law_703_g.2.2.1
theorem dL_law_706 : decode cL_law 706 = .ok (.iload 4, 2) := dL_law_703_g.2.2.2.1
theorem dL_law_708 : decode cL_law 708 = .ok (.iconst 2, 1) := dL_law_703_g.2.2.2.2.1
theorem dL_law_709 : decode cL_law 709 = .ok (.iadd, 1) := dL_law_703_g.2.2.2.2.2.1
theorem dL_law_710 : decode cL_law 710 = .ok (.iaload, 1) := dL_law_703_g.2.2.2.2.2.2.1
theorem dL_law_711 : decode cL_law 711 = .ok (.invokevirtual 82, 3) := dL_law_703_g.2.2.2.2.2.2.2
theorem dL_law_714_g : (decode cL_law 714 = .ok (.pop, 1)) ∧ (decode cL_law 715 = .ok (.aload_n 2, 1)) ∧ (decode cL_law 716 = .ok (.aload_n 0, 1)) ∧ (decode cL_law 717 = .ok (.iload 4, 2)) ∧ (decode cL_law 719 = .ok (.iconst 1, 1)) ∧ (decode cL_law 720 = .ok (.iadd, 1)) ∧ (decode cL_law 721 = .ok (.iaload, 1)) ∧ (decode cL_law 722 = .ok (.aload_n 0, 1)) := by decide +kernel
theorem dL_law_714 : decode cL_law 714 = .ok (.pop, 1) := dL_law_714_g.1
theorem dL_law_715 : decode cL_law 715 = .ok (.aload_n 2, 1) := dL_law_714_g.2.1
theorem dL_law_716 : decode cL_law 716 = .ok (.aload_n 0, 1) := dL_law_714_g.2.2.1
theorem dL_law_717 : decode cL_law 717 = .ok (.iload 4, 2) := dL_law_714_g.2.2.2.1
theorem dL_law_719 : decode cL_law 719 = .ok (.iconst 1, 1) := dL_law_714_g.2.2.2.2.1
theorem dL_law_720 : decode cL_law 720 = .ok (.iadd, 1) := dL_law_714_g.2.2.2.2.2.1
theorem dL_law_721 : decode cL_law 721 = .ok (.iaload, 1) := dL_law_714_g.2.2.2.2.2.2.1
theorem dL_law_722 : decode cL_law 722 = .ok (.aload_n 0, 1) := dL_law_714_g.2.2.2.2.2.2.2
theorem dL_law_723_g : (decode cL_law 723 = .ok (.iload 4, 2)) ∧ (decode cL_law 725 = .ok (.iconst 2, 1)) ∧ (decode cL_law 726 = .ok (.iadd, 1)) ∧ (decode cL_law 727 = .ok (.iaload, 1)) ∧ (decode cL_law 728 = .ok (.invokevirtual 85, 3)) ∧ (decode cL_law 731 = .ok (.pop, 1)) ∧ (decode cL_law 732 = .ok (.goto 889, 3)) ∧ (decode cL_law 735 = .ok (.aload_n 1, 1)) := by decide +kernel
theorem dL_law_723 : decode cL_law 723 = .ok (.iload 4, 2) := dL_law_723_g.1
theorem dL_law_725 : decode cL_law 725 = .ok (.iconst 2, 1) := dL_law_723_g.2.1
theorem dL_law_726 : decode cL_law 726 = .ok (.iadd, 1) := dL_law_723_g.2.2.1
theorem dL_law_727 : decode cL_law 727 = .ok (.iaload, 1) := dL_law_723_g.2.2.2.1
theorem dL_law_728 : decode cL_law 728 = .ok (.invokevirtual 85, 3) := dL_law_723_g.2.2.2.2.1
theorem dL_law_731 : decode cL_law 731 = .ok (.pop, 1) := dL_law_723_g.2.2.2.2.2.1
theorem dL_law_732 : decode cL_law 732 = .ok (.goto 889, 3) := dL_law_723_g.2.2.2.2.2.2.1
theorem dL_law_735 : decode cL_law 735 = .ok (.aload_n 1, 1) := dL_law_723_g.2.2.2.2.2.2.2
theorem dL_law_736_g : (decode cL_law 736 = .ok (.aload_n 0, 1)) ∧ (decode cL_law 737 = .ok (.iload 4, 2)) ∧ (decode cL_law 739 = .ok (.iconst 1, 1)) ∧ (decode cL_law 740 = .ok (.iadd, 1)) ∧ (decode cL_law 741 = .ok (.iaload, 1)) ∧ (decode cL_law 742 = .ok (.aload_n 0, 1)) ∧ (decode cL_law 743 = .ok (.iload 4, 2)) ∧ (decode cL_law 745 = .ok (.iconst 2, 1)) := by decide +kernel
theorem dL_law_736 : decode cL_law 736 = .ok (.aload_n 0, 1) := dL_law_736_g.1
theorem dL_law_737 : decode cL_law 737 = .ok (.iload 4, 2) := dL_law_736_g.2.1
theorem dL_law_739 : decode cL_law 739 = .ok (.iconst 1, 1) := dL_law_736_g.2.2.1
theorem dL_law_740 : decode cL_law 740 = .ok (.iadd, 1) := dL_law_736_g.2.2.2.1
theorem dL_law_741 : decode cL_law 741 = .ok (.iaload, 1) := dL_law_736_g.2.2.2.2.1
theorem dL_law_742 : decode cL_law 742 = .ok (.aload_n 0, 1) := dL_law_736_g.2.2.2.2.2.1
theorem dL_law_743 : decode cL_law 743 = .ok (.iload 4, 2) := dL_law_736_g.2.2.2.2.2.2.1
theorem dL_law_745 : decode cL_law 745 = .ok (.iconst 2, 1) := dL_law_736_g.2.2.2.2.2.2.2
theorem dL_law_746_g : (decode cL_law 746 = .ok (.iadd, 1)) ∧ (decode cL_law 747 = .ok (.iaload, 1)) ∧ (decode cL_law 748 = .ok (.invokevirtual 86, 3)) ∧ (decode cL_law 751 = .ok (.pop2, 1)) ∧ (decode cL_law 752 = .ok (.aload_n 2, 1)) ∧ (decode cL_law 753 = .ok (.aload_n 0, 1)) ∧ (decode cL_law 754 = .ok (.iload 4, 2)) ∧ (decode cL_law 756 = .ok (.iconst 1, 1)) := by decide +kernel
theorem dL_law_746 : decode cL_law 746 = .ok (.iadd, 1) := dL_law_746_g.1
theorem dL_law_747 : decode cL_law 747 = .ok (.iaload, 1) := dL_law_746_g.2.1
theorem dL_law_748 : decode cL_law 748 = .ok (.invokevirtual 86, 3) := dL_law_746_g.2.2.1
theorem dL_law_751 : decode cL_law 751 = .ok (.pop2, 1) := dL_law_746_g.2.2.2.1
theorem dL_law_752 : decode cL_law 752 = .ok (.aload_n 2, 1) := dL_law_746_g.2.2.2.2.1
theorem dL_law_753 : decode cL_law 753 = .ok (.aload_n 0, 1) := dL_law_746_g.2.2.2.2.2.1
theorem dL_law_754 : decode cL_law 754 = .ok (.iload 4, 2) := dL_law_746_g.2.2.2.2.2.2.1
theorem dL_law_756 : decode cL_law 756 = .ok (.iconst 1, 1) := dL_law_746_g.2.2.2.2.2.2.2
theorem dL_law_757_g : (decode cL_law 757 = .ok (.iadd, 1)) ∧ (decode cL_law 758 = .ok (.iaload, 1)) ∧ (decode cL_law 759 = .ok (.aload_n 0, 1)) ∧ (decode cL_law 760 = .ok (.iload 4, 2)) ∧ (decode cL_law 762 = .ok (.iconst 2, 1)) ∧ (decode cL_law 763 = .ok (.iadd, 1)) ∧ (decode cL_law 764 = .ok (.iaload, 1)) ∧ (decode cL_law 765 = .ok (.invokevirtual 90, 3)) := by decide +kernel
theorem dL_law_757 : decode cL_law 757 = .ok (.iadd, 1) := dL_law_757_g.1
theorem dL_law_758 : decode cL_law 758 = .ok (.iaload, 1) := dL_law_757_g.2.1
theorem dL_law_759 : decode cL_law 759 = .ok (.aload_n 0, 1) := dL_law_757_g.2.2.1
theorem dL_law_760 : decode cL_law 760 = .ok (.iload 4, 2) := dL_law_757_g.2.2.2.1
theorem dL_law_762 : decode cL_law 762 = .ok (.iconst 2, 1) := dL_law_757_g.2.2.2.2.1
theorem dL_law_763 : decode cL_law 763 = .ok (.iadd, 1) := dL_law_757_g.2.2.2.2.2.1
theorem dL_law_764 : decode cL_law 764 = .ok (.iaload, 1) := dL_law_757_g.2.2.2.2.2.2.1
theorem dL_law_765 : decode cL_law 765 = .ok (.invokevirtual 90, 3) := dL_law_757_g.2.2.2.2.2.2.2
theorem dL_law_768_g : (decode cL_law 768 = .ok (.pop2, 1)) ∧ (decode cL_law 769 = .ok (.goto 852, 3)) ∧ (decode cL_law 772 = .ok (.aload_n 1, 1)) ∧ (decode cL_law 773 = .ok (.aload_n 0, 1)) ∧ (decode cL_law 774 = .ok (.iload 4, 2)) ∧ (decode cL_law 776 = .ok (.iconst 1, 1)) := by decide +kernel
theorem dL_law_768 : decode cL_law 768 = .ok (.pop2, 1) := dL_law_768_g.1
theorem dL_law_769 : decode cL_law 769 = .ok (.goto 852, 3) := dL_law_768_g.2.1
theorem dL_law_772 : decode cL_law 772 = .ok (.aload_n 1, 1) := dL_law_768_g.2.2.1
theorem dL_law_773 : decode cL_law 773 = .ok (.aload_n 0, 1) := dL_law_768_g.2.2.2.1
theorem dL_law_774 : decode cL_law 774 = .ok (.iload 4, 2) := dL_law_768_g.2.2.2.2.1
theorem dL_law_776 : decode cL_law 776 = .ok (.iconst 1, 1) := dL_law_768_g.2.2.2.2.2

