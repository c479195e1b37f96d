theorem dL_law_560_g : (decode cL_law 560 = .ok (.aload_n 2, 1)) ∧ (decode cL_law 561 = .ok (.aload_n 0, 1)) ∧ (decode cL_law 562 = .ok (.iload 4, 2)) ∧ (decode cL_law 564 = .ok (.iconst 1, 1)) ∧ (decode cL_law 565 = .ok (.iadd, 1)) ∧ (decode cL_law 566 = .ok (.iaload, 1)) ∧ (decode cL_law 567 = .ok (.aload_n 0, 1)) ∧ (decode cL_law 568 = .ok (.iload 4, 2)) := by decide +kernel
theorem dL_law_560 : decode cL_law 560 = .ok (.aload_n 2, 1) := dL_law_560_g.1
theorem dL_law_561 : decode cL_law 561 = .ok (.aload_n 0, 1) := dL_law_560_g.2.1
theorem dL_law_562 : decode cL_law 562 = .ok (.iload 4, 2) := dL_law_560_g.2.2.1
theorem dL_law_564 : decode cL_law 564 = .ok (.iconst 1, 1) := dL_law_560_g.2.2.2.1
theorem dL_law_565 : decode cL_law 565 = .ok (.iadd, 1) := dL_law_560_g.2.2.2.2.1
theorem dL_law_566 : decode cL_law 566 = .ok (.iaload, 1) := dL_law_560_g.2.2.2.2.2.1
theorem dL_law_567 : decode cL_law 567 = .ok (.aload_n 0, 1) := dL_law_560_g.2.2.2.2.2.2.1
theorem dL_law_568 : decode cL_law 568 = .ok (.iload 4, 2) := dL_law_560_g.2.2.2.2.2.2.2
theorem dL_law_570_g : (decode cL_law 570 = .ok (.iconst 2, 1)) ∧ (decode cL_law 571 = .ok (.iadd, 1)) ∧ (decode cL_law 572 = .ok (.iaload, 1)) ∧ (decode cL_law 573 = .ok (.invokevirtual 70, 3)) ∧ (decode cL_law 576 = .ok (.istore 6, 2)) ∧ (decode cL_law 578 = .ok (.goto 1016, 3)) ∧ (decode cL_law 581 = .ok (.aload_n 1, 1)) ∧ (decode cL_law 582 = .ok (.aload_n 0, 1)) := by decide +kernel
theorem dL_law_570 : decode cL_law 570 = .ok (.iconst 2, 1) := dL_law_570_g.1
theorem dL_law_571 : decode cL_law 571 = .ok (.iadd, 1) := dL_law_570_g.2.1
theorem dL_law_572 : decode cL_law 572 = .ok (.iaload, 1) := dL_law_570_g.2.2.1
theorem dL_law_573 : decode cL_law 573 = .ok (.invokevirtual 70, 3) := dL_law_570_g.2.2.2.1
theorem dL_law_576 : decode cL_law 576 = .ok (.istore 6, 2) := dL_law_570_g.2.2.2.2.1
theorem dL_law_578 : decode cL_law 578 = .ok (.goto 1016, 3) := dL_law_570_g.2.2.2.2.2.1
theorem dL_law_581 : decode cL_law 581 = .ok (.aload_n 1, 1) := dL_law_570_g.2.2.2.2.2.2.1
theorem dL_law_582 : decode cL_law 582 = .ok (.aload_n 0, 1) := dL_law_570_g.2.2.2.2.2.2.2
theorem dL_law_583_g : (decode cL_law 583 = .ok (.iload 4, 2)) ∧ (decode cL_law 585 = .ok (.iconst 1, 1)) ∧ (decode cL_law 586 = .ok (.iadd, 1)) ∧ (decode cL_law 587 = .ok (.iaload, 1)) ∧ (decode cL_law 588 = .ok (.aload_n 0, 1)) ∧ (decode cL_law 589 = .ok (.iload 4, 2)) ∧ (decode cL_law 591 = .ok (.iconst 2, 1)) ∧ (decode cL_law 592 = .ok (.iadd, 1)) := by decide +kernel
theorem dL_law_583 : decode cL_law 583 = .ok (.iload 4, 2) := dL_law_583_g.1
theorem dL_law_585 : decode cL_law 585 = .ok (.iconst 1, 1) := dL_law_583_g.2.1
theorem dL_law_586 : decode cL_law 586 = .ok (.iadd, 1) := dL_law_583_g.2.2.1
theorem dL_law_587 : decode cL_law 587 = .ok (.iaload, 1) := dL_law_583_g.2.2.2.1
theorem dL_law_588 : decode cL_law 588 = .ok (.aload_n 0, 1) := dL_law_583_g.2.2.2.2.1
theorem dL_law_589 : decode cL_law 589 = .ok (.iload 4, 2) := dL_law_583_g.2.2.2.2.2.1
theorem dL_law_591 : decode cL_law 591 = .ok (.iconst 2, 1) := dL_law_583_g.2.2.2.2.2.2.1
theorem dL_law_592 : decode cL_law 592 = .ok (.iadd, 1) := dL_law_583_g.2.2.2.2.2.2.2
theorem dL_law_593_g : (decode cL_law 593 = .ok (.iaload, 1)) ∧ (decode cL_law 594 = .ok (.invokevirtual 71, 3)) ∧ (decode cL_law 597 = .ok (.pop, 1)) ∧ (decode cL_law 598 = .ok (.aload_n 2, 1)) ∧ (decode cL_law 599 = .ok (.aload_n 0, 1)) ∧ (decode cL_law 600 = .ok (.iload 4, 2)) ∧ (decode cL_law 602 = .ok (.iconst 1, 1)) ∧ (decode cL_law 603 = .ok (.iadd, 1)) := by decide +kernel
theorem dL_law_593 : decode cL_law 593 = .ok (.iaload, 1) := dL_law_593_g.1
theorem dL_law_594 : decode cL_law 594 = .ok (.invokevirtual 71, 3) := dL_law_593_g.2.1
theorem dL_law_597 : decode cL_law 597 = .ok (.pop, 1) := dL_law_593_g.2.2.1
theorem dL_law_598 : decode cL_law 598 = .ok (.aload_n 2, 1) := dL_law_593_g.2.2.2.1
theorem dL_law_599 : decode cL_law 599 = .ok (.aload_n 0, 1) := dL_law_593_g.2.2.2.2.1
theorem dL_law_600 : decode cL_law 600 = .ok (.iload 4, 2) := dL_law_593_g.2.2.2.2.2.1
theorem dL_law_602 : decode cL_law 602 = .ok (.iconst 1, 1) := dL_law_593_g.2.2.2.2.2.2.1
theorem dL_law_603 : decode cL_law 603 = .ok (.iadd, 1) := dL_law_593_g.2.2.2.2.2.2.2
theorem dL_law_604_g : (decode cL_law 604 = .ok (.iaload, 1)) ∧ (decode cL_law 605 = .ok (.aload_n 0, 1)) ∧ (decode cL_law 606 = .ok (.iload 4, 2)) ∧ (decode cL_law 608 = .ok (.iconst 2, 1)) ∧ (decode cL_law 609 = .ok (.iadd, 1)) ∧ (decode cL_law 610 = .ok (.iaload, 1)) ∧ (decode cL_law 611 = .ok (.invokevirtual 74, 3)) ∧ (decode cL_law 614 = .ok (.pop, 1)) := by decide +kernel
theorem dL_law_604 : decode cL_law 604 = .ok (.iaload, 1) := dL_law_604_g.1
theorem dL_law_605 : decode cL_law 605 = .ok (.aload_n 0, 1) := dL_law_604_g.2.1
theorem dL_law_606 : decode cL_law 606 = .ok (.iload 4, 2) := dL_law_604_g.2.2.1
theorem dL_law_608 : decode cL_law 608 = .ok (.iconst 2, 1) := dL_law_604_g.2.2.2.1
theorem dL_law_609 : decode cL_law 609 = .ok (.iadd, 1) := dL_law_604_g.2.2.2.2.1
theorem dL_law_610 : decode cL_law 610 = .ok (.iaload, 1) := dL_law_604_g.2.2.2.2.2.1
theorem dL_law_611 : decode cL_law 611 = .ok (.invokevirtual 74, 3) := dL_law_604_g.2.2.2.2.2.2.1
theorem dL_law_614 : decode cL_law 614 = .ok (.pop, 1) := dL_law_604_g.2.2.2.2.2.2.2
theorem dL_law_615_g : (decode cL_law 615 = .ok (.goto 979, 3)) ∧ (decode cL_law 618 = .ok (.aload_n 1, 1)) ∧ (decode cL_law 619 = .ok (.aload_n 0, 1)) ∧ (decode cL_law 620 = .ok (.iload 4, 2)) ∧ (decode cL_law 622 = .ok (.iconst 1, 1)) ∧ (decode cL_law 623 = .ok (.iadd, 1)) ∧ (decode cL_law 624 = .ok (.iaload, 1)) ∧ (decode cL_law 625 = .ok (.aload_n 0, 1)) := by decide +kernel
theorem dL_law_615 : decode cL_law 615 = .ok (.goto 979, 3) := dL_law_615_g.1
theorem dL_law_618 : decode cL_law 618 = .ok (.aload_n 1, 1) := dL_law_615_g.2.1
theorem dL_law_619 : decode cL_law 619 = .ok (.aload_n 0, 1) := dL_law_615_g.2.2.1
theorem dL_law_620 : decode cL_law 620 = .ok (.iload 4, 2) := dL_law_615_g.2.2.2.1
theorem dL_law_622 : decode cL_law 622 = .ok (.iconst 1, 1) := dL_law_615_g.2.2.2.2.1
theorem dL_law_623 : decode cL_law 623 = .ok (.iadd, 1) := dL_law_615_g.2.2.2.2.2.1
theorem dL_law_624 : decode cL_law 624 = .ok (.iaload, 1) := dL_law_615_g.2.2.2.2.2.2.1
theorem dL_law_625 : decode cL_law 625 = .ok (.aload_n 0, 1) := dL_law_615_g.2.2.2.2.2.2.2
theorem dL_law_626_g : (decode cL_law 626 = .ok (.iload 4, 2)) ∧ (decode cL_law 628 = .ok (.iconst 2, 1)) ∧ (decode cL_law 629 = .ok (.iadd, 1)) ∧ (decode cL_law 630 = .ok (.iaload, 1)) ∧ (decode cL_law 631 = .ok (.aload_n 0, 1)) ∧ (decode cL_law 632 = .ok (.iload 4, 2)) ∧ (decode cL_law 634 = .ok (.iconst 3, 1)) ∧ (decode cL_law 635 = .ok (.iadd, 1)) := by decide +kernel
theorem dL_law_626 : decode cL_law 626 = .ok (.iload 4, 2) := dL_law_626_g.1
theorem dL_law_628 : decode cL_law 628 = .ok (.iconst 2, 1) := dL_law_626_g.2.1
theorem dL_law_629 : decode cL_law 629 = .ok (.iadd, 1) := dL_law_626_g.2.2.1
theorem dL_law_630 : decode cL_law 630 = .ok (.iaload, 1) := dL_law_626_g.2.2.2.1
theorem dL_law_631 : decode cL_law 631 = .ok (.aload_n 0, 1) := dL_law_626_g.2.2.2.2.1
theorem dL_law_632 : decode cL_law 632 = .ok (.iload 4, 2) := dL_law_626_g.2.2.2.2.2.1
theorem dL_law_634 : decode cL_law 634 = .ok (.iconst 3, 1) := dL_law_626_g.2.2.2.2.2.2.1
theorem dL_law_635 : decode cL_law 635 = .ok (.iadd, 1) := dL_law_626_g.2.2.2.2.2.2.2
theorem dL_law_636_g : (decode cL_law 636 = .ok (.iaload, 1)) ∧ (decode cL_law 637 = .ok (.aload_n 3, 1)) ∧ (decode cL_law 638 = .ok (.invokestatic 75, 3)) ∧ (decode cL_law 641 = .ok (.istore 5, 2)) ∧ (decode cL_law 643 = .ok (.aload_n 2, 1)) ∧ (decode cL_law 644 = .ok (.aload_n 0, 1)) ∧ (decode cL_law 645 = .ok (.iload 4, 2)) ∧ (decode cL_law 647 = .ok (.iconst 1, 1)) := by decide +kernel
theorem dL_law_636 : decode cL_law 636 = .ok (.iaload, 1) := dL_law_636_g.1
theorem dL_law_637 : decode cL_law 637 = .ok (.aload_n 3, 1) := dL_law_636_g.2.1
theorem dL_law_638 : decode cL_law 638 = .ok (.invokestatic 75, 3) := dL_law_636_g.2.2.1
theorem dL_law_641 : decode cL_law 641 = .ok (.istore 5, 2) := dL_law_636_g.2.2.2.1
theorem dL_law_643 : decode cL_law 643 = .ok (.aload_n 2, 1) := dL_law_636_g.2.2.2.2.1
theorem dL_law_644 : decode cL_law 644 = .ok (.aload_n 0, 1) := dL_law_636_g.2.2.2.2.2.1
theorem dL_law_645 : decode cL_law 645 = .ok (.iload 4, 2) := dL_law_636_g.2.2.2.2.2.2.1
theorem dL_law_647 : decode cL_law 647 = .ok (.iconst 1, 1) := dL_law_636_g.2.2.2.2.2.2.2
theorem dL_law_648_g : (decode cL_law 648 = .ok (.iadd, 1)) ∧ (decode cL_law 649 = .ok (.iaload, 1)) ∧ (decode cL_law 650 = .ok (.aload_n 0, 1)) ∧ (decode cL_law 651 = .ok (.iload 4, 2)) ∧ (decode cL_law 653 = .ok (.iconst 2, 1)) ∧ (decode cL_law 654 = .ok (.iadd, 1)) ∧ (decode cL_law 655 = .ok (.iaload, 1)) ∧ (decode cL_law 656 = .ok (.aload_n 0, 1)) := by decide +kernel
theorem dL_law_648 : decode cL_law 648 = .ok (.iadd, 1) := dL_law_648_g.1
theorem dL_law_649 : decode cL_law 649 = .ok (.iaload, 1) := dL_law_648_g.2.1
theorem dL_law_650 : decode cL_law 650 = .ok (.aload_n 0, 1) := dL_law_648_g.2.2.1
theorem dL_law_651 : decode cL_law 651 = .ok (.iload 4, 2) := dL_law_648_g.2.2.2.1
theorem dL_law_653 : decode cL_law 653 = .ok (.iconst 2, 1) := dL_law_648_g.2.2.2.2.1
theorem dL_law_654 : decode cL_law 654 = .ok (.iadd, 1) := dL_law_648_g.2.2.2.2.2.1
theorem dL_law_655 : decode cL_law 655 = .ok (.iaload, 1) := dL_law_648_g.2.2.2.2.2.2.1
theorem dL_law_656 : decode cL_law 656 = .ok (.aload_n 0, 1) := dL_law_648_g.2.2.2.2.2.2.2
theorem dL_law_657_g : (decode cL_law 657 = .ok (.iload 4, 2)) ∧ (decode cL_law 659 = .ok (.iconst 3, 1)) ∧ (decode cL_law 660 = .ok (.iadd, 1)) ∧ (decode cL_law 661 = .ok (.iaload, 1)) ∧ (decode cL_law 662 = .ok (.invokevirtual 78, 3)) ∧ (decode cL_law 665 = .ok (.istore 6, 2)) ∧ (decode cL_law 667 = .ok (.goto 927, 3)) ∧ (decode cL_law 670 = .ok (.aload_n 1, 1)) := by decide +kernel
theorem dL_law_657 : decode cL_law 657 = .ok (.iload 4, 2) := dL_law_657_g.1
theorem dL_law_659 : decode cL_law 659 = .ok (.iconst 3, 1) := dL_law_657_g.2.1
theorem dL_law_660 : decode cL_law 660 = .ok (.iadd, 1) := dL_law_657_g.2.2.1
theorem dL_law_661 : decode cL_law 661 = .ok (.iaload, 1) := dL_law_657_g.2.2.2.1
theorem dL_law_662 : decode cL_law 662 = .ok (.invokevirtual 78, 3) := dL_law_657_g.2.2.2.2.1
theorem dL_law_665 : decode cL_law 665 = .ok (.istore 6, 2) := dL_law_657_g.2.2.2.2.2.1
theorem dL_law_667 : decode cL_law 667 = .ok (.goto 927, 3) := dL_law_657_g.2.2.2.2.2.2.1
theorem dL_law_670 : decode cL_law 670 = .ok (.aload_n 1, 1) := dL_law_657_g.2.2.2.2.2.2.2
theorem dL_law_671_g : (decode cL_law 671 = .ok (.aload_n 0, 1)) ∧ (decode cL_law 672 = .ok (.iload 4, 2)) ∧ (decode cL_law 674 = .ok (.iconst 1, 1)) ∧ (decode cL_law 675 = .ok (.iadd, 1)) ∧ (decode cL_law 676 = .ok (.iaload, 1)) ∧ (decode cL_law 677 = .ok (.aload_n 0, 1)) ∧ (decode cL_law 678 = .ok (.iload 4, 2)) ∧ (decode cL_law 680 = .ok (.iconst 2, 1)) := by decide +kernel
theorem dL_law_671 : decode cL_law 671 = .ok (.aload_n 0, 1) := dL_law_671_g.1
theorem dL_law_672 : decode cL_law 672 = .ok (.iload 4, 2) := dL_law_671_g.2.1
theorem dL_law_674 : decode cL_law 674 = .ok (.iconst 1, 1) := dL_law_671_g.2.2.1
theorem dL_law_675 : decode cL_law 675 = .ok (.iadd, 1) := dL_law_671_g.2.2.2.1
theorem dL_law_676 : decode cL_law 676 = .ok (.iaload, 1) := dL_law_671_g.2.2.2.2.1
theorem dL_law_677 : decode cL_law 677 = .ok (.aload_n 0, 1) := dL_law_671_g.2.2.2.2.2.1
theorem dL_law_678 : decode cL_law 678 = .ok (.iload 4, 2) := dL_law_671_g.2.2.2.2.2.2.1
theorem dL_law_680 : decode cL_law 680 = .ok (.iconst 2, 1) := dL_law_671_g.2.2.2.2.2.2.2
theorem dL_law_681_g : (decode cL_law 681 = .ok (.iadd, 1)) ∧ (decode cL_law 682 = .ok (.iaload, 1)) ∧ (decode cL_law 683 = .ok (.invokevirtual 79, 3)) ∧ (decode cL_law 686 = .ok (.pop, 1)) ∧ (decode cL_law 687 = .ok (.aload_n 2, 1)) ∧ (decode cL_law 688 = .ok (.aload_n 0, 1)) ∧ (decode cL_law 689 = .ok (.iload 4, 2)) ∧ (decode cL_law 691 = .ok (.iconst 1, 1)) := by decide +kernel
theorem dL_law_681 : decode cL_law 681 = .ok (.iadd, 1) := dL_law_681_g.1
theorem dL_law_682 : decode cL_law 682 = .ok (.iaload, 1) := dL_law_681_g.2.1
theorem dL_law_683 : decode cL_law 683 = .ok (.invokevirtual 79, 3) := dL_law_681_g.2.2.1
theorem dL_law_686 : decode cL_law 686 = .ok (.pop, 1) := dL_law_681_g.2.2.2.1
theorem dL_law_687 : decode cL_law 687 = .ok (.aload_n 2, 1) := dL_law_681_g.2.2.2.2.1
theorem dL_law_688 : decode cL_law 688 = .ok (.aload_n 0, 1) := dL_law_681_g.2.2.2.2.2.1
theorem dL_law_689 : decode cL_law 689 = .ok (.iload 4, 2) := dL_law_681_g.2.2.2.2.2.2.1
theorem dL_law_691 : decode cL_law 691 = .ok (.iconst 1, 1) := dL_law_681_g.2.2.2.2.2.2.2
theorem dL_law_692_g : (decode cL_law 692 = .ok (.iadd, 1)) ∧ (decode cL_law 693 = .ok (.iaload, 1)) ∧ (decode cL_law 694 = .ok (.aload_n 0, 1)) ∧ (decode cL_law 695 = .ok (.iload 4, 2)) ∧ (decode cL_law 697 = .ok (.iconst 2, 1)) ∧ (decode cL_law 698 = .ok (.iadd, 1)) ∧ (decode cL_law 699 = .ok (.iaload, 1)) ∧ (decode cL_law 700 = .ok (.invokevirtual 82, 3)) := by decide +kernel
theorem dL_law_692 : decode cL_law 692 = .ok (.iadd, 1) := dL_law_692_g.1
theorem dL_law_693 : decode cL_law 693 = .ok (.iaload, 1) := dL_law_692_g.2.1
theorem dL_law_694 : decode cL_law 694 = .ok (.aload_n 0, 1) := dL_law_692_g.2.2.1
theorem dL_law_695 : decode cL_law 695 = .ok (.iload 4, 2) := dL_law_692_g.2.2.2.1
theorem dL_law_697 : decode cL_law 697 = .ok (.iconst 2, 1) := dL_law_692_g.2.2.2.2.1
theorem dL_law_698 : decode cL_law 698 = .ok (.iadd, 1) := dL_law_692_g.2.2.2.2.2.1
theorem dL_law_699 : decode cL_law 699 = .ok (.iaload, 1) := dL_law_692_g.2.2.2.2.2.2.1
theorem dL_law_700 : decode cL_law 700 = .ok (.invokevirtual 82, 3) := dL_law_692_g.2.2.2.2.2.2.2
theorem dL_law_703_g : (decode cL_law 703 = .ok (.pop, 1)) ∧ (decode cL_law 704 = .ok (.goto 890, 3)) ∧ (decode cL_law 707 = .ok (.aload_n 1, 1)) ∧ (decode cL_law 708 = .ok (.aload_n 0, 1)) ∧ (decode cL_law 709 = .ok (.iload 4, 2)) ∧ (decode cL_law 711 = .ok (.iconst 1, 1)) ∧ (decode cL_law 712 = .ok (.iadd, 1)) ∧ (decode cL_law 713 = .ok (.iaload, 1)) := by decide +kernel
theorem dL_law_703 : decode cL_law 703 = .ok (.pop, 1) := dL_law_703_g.1
theorem dL_law_704 : decode cL_law 704 = .ok (.goto 890, 3) := dL_law_703_g.2.1
theorem dL_law_707 : decode cL_law 707 = .ok (.aload_n 1, 1) := dL_law_703_g.2.2.1
theorem dL_law_708 : decode cL_law 708 = .ok (.aload_n 0, 1) := dL_law_703_g.2.2.2.1
theorem dL_law_709 : decode cL_law 709 = .ok (.iload 4, 2) := dL_law_703_g.2.2.2.2.1
theorem dL_law_711 : decode cL_law 711 = .ok (.iconst 1, 1) := dL_law_703_g.2.2.2.2.2.1
theorem dL_law_712 : decode cL_law 712 = .ok (.iadd, 1) := dL_law_703_g.2.2.2.2.2.2.1
theorem dL_law_713 : decode cL_law 713 = .ok (.iaload, 1) := dL_law_703_g.2.2.2.2.2.2.2
theorem dL_law_714_g : (decode cL_law 714 = .ok (.aload_n 0, 1)) ∧ (decode cL_law 715 = .ok (.iload 4, 2)) ∧ (decode cL_law 717 = .ok (.iconst 2, 1)) ∧ (decode cL_law 718 = .ok (.iadd, 1)) ∧ (decode cL_law 719 = .ok (.iaload, 1)) ∧ (decode cL_law 720 = .ok (.invokevirtual 83, 3)) ∧ (decode cL_law 723 = .ok (.aload_n 2, 1)) ∧ (decode cL_law 724 = .ok (.aload_n 0, 1)) := by decide +kernel
theorem dL_law_714 : decode cL_law 714 = .ok (.aload_n 0, 1) := dL_law_714_g.1
theorem dL_law_715 : decode cL_law 715 = .ok (.iload 4, 2) := dL_law_714_g.2.1
theorem dL_law_717 : decode cL_law 717 = .ok (.iconst 2, 1) := dL_law_714_g.2.2.1
theorem dL_law_718 : decode cL_law 718 = .ok (.iadd, 1) := dL_law_714_g.2.2.2.1
theorem dL_law_719 : decode cL_law 719 = .ok (.iaload, 1) := dL_law_714_g.2.2.2.2.1
theorem dL_law_720 : decode cL_law 720 = .ok (.invokevirtual 83, 3) := dL_law_714_g.2.2.2.2.2.1
theorem dL_law_723 : decode cL_law 723 = .ok (.aload_n 2, 1) := dL_law_714_g.2.2.2.2.2.2.1
theorem dL_law_724 : decode cL_law 724 = .ok (.aload_n 0, 1) := dL_law_714_g.2.2.2.2.2.2.2
theorem dL_law_725_g : (decode cL_law 725 = .ok (.iload 4, 2)) ∧ (decode cL_law 727 = .ok (.iconst 1, 1)) ∧ (decode cL_law 728 = .ok (.iadd, 1)) ∧ (decode cL_law 729 = .ok (.iaload, 1)) ∧ (decode cL_law 730 = .ok (.aload_n 0, 1)) ∧ (decode cL_law 731 = .ok (.iload 4, 2)) ∧ (decode cL_law 733 = .ok (.iconst 2, 1)) ∧ (decode cL_law 734 = .ok (.iadd, 1)) := by decide +kernel
theorem dL_law_725 : decode cL_law 725 = .ok (.iload 4, 2) := dL_law_725_g.1
theorem dL_law_727 : decode cL_law 727 = .ok (.iconst 1, 1) := dL_law_725_g.2.1
theorem dL_law_728 : decode cL_law 728 = .ok (.iadd, 1) := dL_law_725_g.2.2.1
theorem dL_law_729 : decode cL_law 729 = .ok (.iaload, 1) := dL_law_725_g.2.2.2.1
theorem dL_law_730 : decode cL_law 730 = .ok (.aload_n 0, 1) := dL_law_725_g.2.2.2.2.1
theorem dL_law_731 : decode cL_law 731 = .ok (.iload 4, 2) := dL_law_725_g.2.2.2.2.2.1
theorem dL_law_733 : decode cL_law 733 = .ok (.iconst 2, 1) := dL_law_725_g.2.2.2.2.2.2.1
theorem dL_law_734 : decode cL_law 734 = .ok (.iadd, 1) := dL_law_725_g.2.2.2.2.2.2.2
theorem dL_law_735_g : (decode cL_law 735 = .ok (.iaload, 1)) ∧ (decode cL_law 736 = .ok (.invokevirtual 87, 3)) ∧ (decode cL_law 739 = .ok (.lcmp, 1)) ∧ (decode cL_law 740 = .ok (.ifCond .eq 854, 3)) ∧ (decode cL_law 745 = .ok (.aload_n 1, 1)) ∧ (decode cL_law 746 = .ok (.aload_n 0, 1)) ∧ (decode cL_law 747 = .ok (.iload 4, 2)) ∧ (decode cL_law 749 = .ok (.iconst 1, 1)) := by decide +kernel
theorem dL_law_735 : decode cL_law 735 = .ok (.iaload, 1) := dL_law_735_g.1
theorem dL_law_736 : decode cL_law 736 = .ok (.invokevirtual 87, 3) := dL_law_735_g.2.1
theorem dL_law_739 : decode cL_law 739 = .ok (.lcmp, 1) := dL_law_735_g.2.2.1
theorem dL_law_740 : decode cL_law 740 = .ok (.ifCond .eq 854, 3) := dL_law_735_g.2.2.2.1
theorem dL_law_745 : decode cL_law 745 = .ok (.aload_n 1, 1) := dL_law_735_g.2.2.2.2.1
theorem dL_law_746 : decode cL_law 746 = .ok (.aload_n 0, 1) := dL_law_735_g.2.2.2.2.2.1
theorem dL_law_747 : decode cL_law 747 = .ok (.iload 4, 2) := dL_law_735_g.2.2.2.2.2.2.1
theorem dL_law_749 : decode cL_law 749 = .ok (.iconst 1, 1) := dL_law_735_g.2.2.2.2.2.2.2
theorem dL_law_750_g : (decode cL_law 750 = .ok (.iadd, 1)) ∧ (decode cL_law 751 = .ok (.iaload, 1)) ∧ (decode cL_law 752 = .ok (.aload_n 0, 1)) ∧ (decode cL_law 753 = .ok (.iload 4, 2)) ∧ (decode cL_law 755 = .ok (.iconst 2, 1)) ∧ (decode cL_law 756 = .ok (.iadd, 1)) ∧ (decode cL_law 757 = .ok (.iaload, 1)) ∧ (decode cL_law 758 = .ok (.invokevirtual 88, 3)) := by decide +kernel
theorem dL_law_750 : decode cL_law 750 = .ok (.iadd, 1) := dL_law_750_g.1
theorem dL_law_751 : decode cL_law 751 = .ok (.iaload, 1) := dL_law_750_g.2.1
theorem dL_law_752 : decode cL_law 752 = .ok (.aload_n 0, 1) := dL_law_750_g.2.2.1
theorem dL_law_753 : decode cL_law 753 = .ok (.iload 4, 2) := dL_law_750_g.2.2.2.1
theorem dL_law_755 : decode cL_law 755 = .ok (.iconst 2, 1) := dL_law_750_g.2.2.2.2.1
theorem dL_law_756 : decode cL_law 756 = .ok (.iadd, 1) := dL_law_750_g.2.2.2.2.2.1
theorem dL_law_757 : decode cL_law 757 = .ok (.iaload, 1) := dL_law_750_g.2.2.2.2.2.2.1
theorem dL_law_758 : decode cL_law 758 = .ok (.invokevirtual 88, 3) := dL_law_750_g.2.2.2.2.2.2.2
theorem dL_law_761_g : (decode cL_law 761 = .ok (.pop, 1)) ∧ (decode cL_law 762 = .ok (.aload_n 2, 1)) ∧ (decode cL_law 763 = .ok (.aload_n 0, 1)) ∧ (decode cL_law 764 = .ok (.iload 4, 2)) ∧ (decode cL_law 766 = .ok (.iconst 1, 1)) ∧ (decode cL_law 767 = .ok (.iadd, 1)) := by decide +kernel
theorem dL_law_761 : decode cL_law 761 = .ok (.pop, 1) := dL_law_761_g.1
theorem dL_law_762 : decode cL_law 762 = .ok (.aload_n 2, 1) := dL_law_761_g.2.1
theorem dL_law_763 : decode cL_law 763 = .ok (.aload_n 0, 1) := dL_law_761_g.2.2.1
theorem dL_law_764 : decode cL_law 764 = .ok (.iload 4, 2) := dL_law_761_g.2.2.2.1
theorem dL_law_766 : decode cL_law 766 = .ok (.iconst 1, 1) := dL_law_761_g.2.2.2.2.1
theorem dL_law_767 : decode cL_law 767 = .ok (.iadd, 1) := dL_law_761_g.2.2.2.2.2

