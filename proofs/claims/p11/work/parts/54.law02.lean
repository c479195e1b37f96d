theorem dL_law_560_g : (decode cL_law 560 = .ok (.aload_n 2, 1)) ∧ (decode cL_law 561 = .ok (.aload_n 0, 1)) ∧ (decode cL_law 562 = .ok (.iload 4, 2)) ∧ (decode cL_law 564 = .ok (.iconst 1, 1)) ∧ (decode cL_law 565 = .ok (.iadd, 1)) ∧ (decode cL_law 566 = .ok (.iaload, 1)) ∧ (decode cL_law 567 = .ok (.aload_n 0, 1)) ∧ (decode cL_law 568 = .ok (.iload 4, 2)) := by decide +kernel
theorem dL_law_560 : decode cL_law 560 = .ok (.aload_n 2, 1) := dL_law_560_g.1
theorem dL_law_561 : decode cL_law 561 = .ok (.aload_n 0, 1) := dL_law_560_g.2.1
theorem dL_law_562 : decode cL_law 562 = .ok (.iload 4, 2) := dL_law_560_g.2.2.1
theorem dL_law_564 : decode cL_law 564 = .ok (.iconst 1, 1) := dL_law_560_g.2.2.2.1
theorem dL_law_565 : decode cL_law 565 = .ok (.iadd, 1) := dL_law_560_g.2.2.2.2.1
theorem dL_law_566 : decode cL_law 566 = .ok (.iaload, 1) := dL_law_560_g.2.2.2.2.2.1
theorem dL_law_567 : decode cL_law 567 = .ok (.aload_n 0, 1) := dL_law_560_g.2.2.2.2.2.2.1
theorem dL_law_568 : decode cL_law 568 = .ok (.iload 4, 2) := dL_law_560_g.2.2.2.2.2.2.2
theorem dL_law_570_g : (decode cL_law 570 = .ok (.iconst 2, 1)) ∧ (decode cL_law 571 = .ok (.iadd, 1)) ∧ (decode cL_law 572 = .ok (.iaload, 1)) ∧ (decode cL_law 573 = .ok (.invokevirtual 70, 3)) ∧ (decode cL_law 576 = .ok (.istore 6, 2)) ∧ (decode cL_law 578 = .ok (.aload_n 2, 1)) ∧ (decode cL_law 579 = .ok (.invokevirtual 71, 3)) ∧ (decode cL_law 582 = .ok (.iload 5, 2)) := by decide +kernel
theorem dL_law_570 : decode cL_law 570 = .ok (.iconst 2, 1) := dL_law_570_g.1
theorem dL_law_571 : decode cL_law 571 = .ok (.iadd, 1) := dL_law_570_g.2.1
theorem dL_law_572 : decode cL_law 572 = .ok (.iaload, 1) := dL_law_570_g.2.2.1
theorem dL_law_573 : decode cL_law 573 = .ok (.invokevirtual 70, 3) := dL_law_570_g.2.2.2.1
theorem dL_law_576 : decode cL_law 576 = .ok (.istore 6, 2) := dL_law_570_g.2.2.2.2.1
theorem dL_law_578 : decode cL_law 578 = .ok (.aload_n 2, 1) := dL_law_570_g.2.2.2.2.2.1
theorem dL_law_579 : decode cL_law 579 = .ok (.invokevirtual 71, 3) := dL_law_570_g.2.2.2.2.2.2.1
theorem dL_law_582 : decode cL_law 582 = .ok (.iload 5, 2) := dL_law_570_g.2.2.2.2.2.2.2
theorem dL_law_584_g : (decode cL_law 584 = .ok (.if_icmp .eq 5, 3)) ∧ (decode cL_law 589 = .ok (.iload 5, 2)) ∧ (decode cL_law 591 = .ok (.ifCond .ne 15, 3)) ∧ (decode cL_law 594 = .ok (.aload_n 3, 1)) ∧ (decode cL_law 595 = .ok (.iconst 0, 1)) ∧ (decode cL_law 596 = .ok (.laload, 1)) ∧ (decode cL_law 597 = .ok (.iload 6, 2)) ∧ (decode cL_law 599 = .ok (.i2l, 1)) := by decide +kernel
theorem dL_law_584 : decode cL_law 584 = .ok (.if_icmp .eq 5, 3) := dL_law_584_g.1
theorem dL_law_589 : decode cL_law 589 = .ok (.iload 5, 2) := dL_law_584_g.2.1
theorem dL_law_591 : decode cL_law 591 = .ok (.ifCond .ne 15, 3) := dL_law_584_g.2.2.1
theorem dL_law_594 : decode cL_law 594 = .ok (.aload_n 3, 1) := dL_law_584_g.2.2.2.1
theorem dL_law_595 : decode cL_law 595 = .ok (.iconst 0, 1) := dL_law_584_g.2.2.2.2.1
theorem dL_law_596 : decode cL_law 596 = .ok (.laload, 1) := dL_law_584_g.2.2.2.2.2.1
theorem dL_law_597 : decode cL_law 597 = .ok (.iload 6, 2) := dL_law_584_g.2.2.2.2.2.2.1
theorem dL_law_599 : decode cL_law 599 = .ok (.i2l, 1) := dL_law_584_g.2.2.2.2.2.2.2
theorem dL_law_600_g : (decode cL_law 600 = .ok (.lcmp, 1)) ∧ (decode cL_law 601 = .ok (.ifCond .eq 5, 3)) ∧ (decode cL_law 606 = .ok (.goto 1015, 3)) ∧ (decode cL_law 609 = .ok (.aload_n 1, 1)) ∧ (decode cL_law 610 = .ok (.aload_n 0, 1)) ∧ (decode cL_law 611 = .ok (.iload 4, 2)) ∧ (decode cL_law 613 = .ok (.iconst 1, 1)) ∧ (decode cL_law 614 = .ok (.iadd, 1)) := by decide +kernel
theorem dL_law_600 : decode cL_law 600 = .ok (.lcmp, 1) := dL_law_600_g.1
theorem dL_law_601 : decode cL_law 601 = .ok (.ifCond .eq 5, 3) := dL_law_600_g.2.1
theorem dL_law_606 : decode cL_law 606 = .ok (.goto 1015, 3) := dL_law_600_g.2.2.1
theorem dL_law_609 : decode cL_law 609 = .ok (.aload_n 1, 1) := dL_law_600_g.2.2.2.1
theorem dL_law_610 : decode cL_law 610 = .ok (.aload_n 0, 1) := dL_law_600_g.2.2.2.2.1
theorem dL_law_611 : decode cL_law 611 = .ok (.iload 4, 2) := dL_law_600_g.2.2.2.2.2.1
theorem dL_law_613 : decode cL_law 613 = .ok (.iconst 1, 1) := dL_law_600_g.2.2.2.2.2.2.1
theorem dL_law_614 : decode cL_law 614 = .ok (.iadd, 1) := dL_law_600_g.2.2.2.2.2.2.2
theorem dL_law_615_g : (decode cL_law 615 = .ok (.iaload, 1)) ∧ (decode cL_law 616 = .ok (.aload_n 0, 1)) ∧ (decode cL_law 617 = .ok (.iload 4, 2)) ∧ (decode cL_law 619 = .ok (.iconst 2, 1)) ∧ (decode cL_law 620 = .ok (.iadd, 1)) ∧ (decode cL_law 621 = .ok (.iaload, 1)) ∧ (decode cL_law 622 = .ok (.invokevirtual 74, 3)) ∧ (decode cL_law 625 = .ok (.pop, 1)) := by decide +kernel
theorem dL_law_615 : decode cL_law 615 = .ok (.iaload, 1) := dL_law_615_g.1
theorem dL_law_616 : decode cL_law 616 = .ok (.aload_n 0, 1) := dL_law_615_g.2.1
theorem dL_law_617 : decode cL_law 617 = .ok (.iload 4, 2) := dL_law_615_g.2.2.1
theorem dL_law_619 : decode cL_law 619 = .ok (.iconst 2, 1) := dL_law_615_g.2.2.2.1
theorem dL_law_620 : decode cL_law 620 = .ok (.iadd, 1) := dL_law_615_g.2.2.2.2.1
theorem dL_law_621 : decode cL_law 621 = .ok (.iaload, 1) := dL_law_615_g.2.2.2.2.2.1
theorem dL_law_622 : decode cL_law 622 = .ok (.invokevirtual 74, 3) := dL_law_615_g.2.2.2.2.2.2.1
theorem dL_law_625 : decode cL_law 625 = .ok (.pop, 1) := dL_law_615_g.2.2.2.2.2.2.2
theorem dL_law_626_g : (decode cL_law 626 = .ok (.aload_n 2, 1)) ∧ (decode cL_law 627 = .ok (.aload_n 0, 1)) ∧ (decode cL_law 628 = .ok (.iload 4, 2)) ∧ (decode cL_law 630 = .ok (.iconst 1, 1)) ∧ (decode cL_law 631 = .ok (.iadd, 1)) ∧ (decode cL_law 632 = .ok (.iaload, 1)) ∧ (decode cL_law 633 = .ok (.aload_n 0, 1)) ∧ (decode cL_law 634 = .ok (.iload 4, 2)) := by decide +kernel
theorem dL_law_626 : decode cL_law 626 = .ok (.aload_n 2, 1) := dL_law_626_g.1
theorem dL_law_627 : decode cL_law 627 = .ok (.aload_n 0, 1) := dL_law_626_g.2.1
theorem dL_law_628 : decode cL_law 628 = .ok (.iload 4, 2) := dL_law_626_g.2.2.1
theorem dL_law_630 : decode cL_law 630 = .ok (.iconst 1, 1) := dL_law_626_g.2.2.2.1
theorem dL_law_631 : decode cL_law 631 = .ok (.iadd, 1) := dL_law_626_g.2.2.2.2.1
theorem dL_law_632 : decode cL_law 632 = .ok (.iaload, 1) := dL_law_626_g.2.2.2.2.2.1
theorem dL_law_633 : decode cL_law 633 = .ok (.aload_n 0, 1) := dL_law_626_g.2.2.2.2.2.2.1
theorem dL_law_634 : decode cL_law 634 = .ok (.iload 4, 2) := dL_law_626_g.2.2.2.2.2.2.2
theorem dL_law_636_g : (decode cL_law 636 = .ok (.iconst 2, 1)) ∧ (decode cL_law 637 = .ok (.iadd, 1)) ∧ (decode cL_law 638 = .ok (.iaload, 1)) ∧ (decode cL_law 639 = .ok (.invokevirtual 77, 3)) ∧ (decode cL_law 642 = .ok (.pop, 1)) ∧ (decode cL_law 643 = .ok (.goto 978, 3)) ∧ (decode cL_law 646 = .ok (.aload_n 1, 1)) ∧ (decode cL_law 647 = .ok (.aload_n 0, 1)) := by decide +kernel
theorem dL_law_636 : decode cL_law 636 = .ok (.iconst 2, 1) := dL_law_636_g.1
theorem dL_law_637 : decode cL_law 637 = .ok (.iadd, 1) := dL_law_636_g.2.1
theorem dL_law_638 : decode cL_law 638 = .ok (.iaload, 1) := dL_law_636_g.2.2.1
theorem dL_law_639 : decode cL_law 639 = .ok (.invokevirtual 77, 3) := dL_law_636_g.2.2.2.1
theorem dL_law_642 : decode cL_law 642 = .ok (.pop, 1) := dL_law_636_g.2.2.2.2.1
theorem dL_law_643 : decode cL_law 643 = .ok (.goto 978, 3) := dL_law_636_g.2.2.2.2.2.1
theorem dL_law_646 : decode cL_law 646 = .ok (.aload_n 1, 1) := dL_law_636_g.2.2.2.2.2.2.1
theorem dL_law_647 : decode cL_law 647 = .ok (.aload_n 0, 1) := dL_law_636_g.2.2.2.2.2.2.2
theorem dL_law_648_g : (decode cL_law 648 = .ok (.iload 4, 2)) ∧ (decode cL_law 650 = .ok (.iconst 1, 1)) ∧ (decode cL_law 651 = .ok (.iadd, 1)) ∧ (decode cL_law 652 = .ok (.iaload, 1)) ∧ (decode cL_law 653 = .ok (.aload_n 0, 1)) ∧ (decode cL_law 654 = .ok (.iload 4, 2)) ∧ (decode cL_law 656 = .ok (.iconst 2, 1)) ∧ (decode cL_law 657 = .ok (.iadd, 1)) := by decide +kernel
theorem dL_law_648 : decode cL_law 648 = .ok (.iload 4, 2) := dL_law_648_g.1
theorem dL_law_650 : decode cL_law 650 = .ok (.iconst 1, 1) := dL_law_648_g.2.1
theorem dL_law_651 : decode cL_law 651 = .ok (.iadd, 1) := dL_law_648_g.2.2.1
theorem dL_law_652 : decode cL_law 652 = .ok (.iaload, 1) := dL_law_648_g.2.2.2.1
theorem dL_law_653 : decode cL_law 653 = .ok (.aload_n 0, 1) := dL_law_648_g.2.2.2.2.1
theorem dL_law_654 : decode cL_law 654 = .ok (.iload 4, 2) := dL_law_648_g.2.2.2.2.2.1
theorem dL_law_656 : decode cL_law 656 = .ok (.iconst 2, 1) := dL_law_648_g.2.2.2.2.2.2.1
theorem dL_law_657 : decode cL_law 657 = .ok (.iadd, 1) := dL_law_648_g.2.2.2.2.2.2.2
theorem dL_law_658_g : (decode cL_law 658 = .ok (.iaload, 1)) ∧ (decode cL_law 659 = .ok (.aload_n 0, 1)) ∧ (decode cL_law 660 = .ok (.iload 4, 2)) ∧ (decode cL_law 662 = .ok (.iconst 3, 1)) ∧ (decode cL_law 663 = .ok (.iadd, 1)) ∧ (decode cL_law 664 = .ok (.iaload, 1)) ∧ (decode cL_law 665 = .ok (.aload_n 3, 1)) ∧ (decode cL_law 666 = .ok (.invokestatic 78, 3)) := by decide +kernel
theorem dL_law_658 : decode cL_law 658 = .ok (.iaload, 1) := dL_law_658_g.1
theorem dL_law_659 : decode cL_law 659 = .ok (.aload_n 0, 1) := dL_law_658_g.2.1
theorem dL_law_660 : decode cL_law 660 = .ok (.iload 4, 2) := dL_law_658_g.2.2.1
theorem dL_law_662 : decode cL_law 662 = .ok (.iconst 3, 1) := dL_law_658_g.2.2.2.1
theorem dL_law_663 : decode cL_law 663 = .ok (.iadd, 1) := dL_law_658_g.2.2.2.2.1
theorem dL_law_664 : decode cL_law 664 = .ok (.iaload, 1) := dL_law_658_g.2.2.2.2.2.1
theorem dL_law_665 : decode cL_law 665 = .ok (.aload_n 3, 1) := dL_law_658_g.2.2.2.2.2.2.1
theorem dL_law_666 : decode cL_law 666 = .ok (.invokestatic 78, 3) := dL_law_658_g.2.2.2.2.2.2.2
theorem dL_law_669_g : (decode cL_law 669 = .ok (.istore 5, 2)) ∧ (decode cL_law 671 = .ok (.aload_n 2, 1)) ∧ (decode cL_law 672 = .ok (.aload_n 0, 1)) ∧ (decode cL_law 673 = .ok (.iload 4, 2)) ∧ (decode cL_law 675 = .ok (.iconst 1, 1)) ∧ (decode cL_law 676 = .ok (.iadd, 1)) ∧ (decode cL_law 677 = .ok (.iaload, 1)) ∧ (decode cL_law 678 = .ok (.aload_n 0, 1)) := by decide +kernel
theorem dL_law_669 : decode cL_law 669 = .ok (.istore 5, 2) := dL_law_669_g.1
theorem dL_law_671 : decode cL_law 671 = .ok (.aload_n 2, 1) := dL_law_669_g.2.1
theorem dL_law_672 : decode cL_law 672 = .ok (.aload_n 0, 1) := dL_law_669_g.2.2.1
theorem dL_law_673 : decode cL_law 673 = .ok (.iload 4, 2) := dL_law_669_g.2.2.2.1
theorem dL_law_675 : decode cL_law 675 = .ok (.iconst 1, 1) := dL_law_669_g.2.2.2.2.1
theorem dL_law_676 : decode cL_law 676 = .ok (.iadd, 1) := dL_law_669_g.2.2.2.2.2.1
theorem dL_law_677 : decode cL_law 677 = .ok (.iaload, 1) := dL_law_669_g.2.2.2.2.2.2.1
theorem dL_law_678 : decode cL_law 678 = .ok (.aload_n 0, 1) := dL_law_669_g.2.2.2.2.2.2.2
theorem dL_law_679_g : (decode cL_law 679 = .ok (.iload 4, 2)) ∧ (decode cL_law 681 = .ok (.iconst 2, 1)) ∧ (decode cL_law 682 = .ok (.iadd, 1)) ∧ (decode cL_law 683 = .ok (.iaload, 1)) ∧ (decode cL_law 684 = .ok (.aload_n 0, 1)) ∧ (decode cL_law 685 = .ok (.iload 4, 2)) ∧ (decode cL_law 687 = .ok (.iconst 3, 1)) ∧ (decode cL_law 688 = .ok (.iadd, 1)) := by decide +kernel
theorem dL_law_679 : decode cL_law 679 = .ok (.iload 4, 2) := dL_law_679_g.1
theorem dL_law_681 : decode cL_law 681 = .ok (.iconst 2, 1) := dL_law_679_g.2.1
theorem dL_law_682 : decode cL_law 682 = .ok (.iadd, 1) := dL_law_679_g.2.2.1
theorem dL_law_683 : decode cL_law 683 = .ok (.iaload, 1) := dL_law_679_g.2.2.2.1
theorem dL_law_684 : decode cL_law 684 = .ok (.aload_n 0, 1) := dL_law_679_g.2.2.2.2.1
theorem dL_law_685 : decode cL_law 685 = .ok (.iload 4, 2) := dL_law_679_g.2.2.2.2.2.1
theorem dL_law_687 : decode cL_law 687 = .ok (.iconst 3, 1) := dL_law_679_g.2.2.2.2.2.2.1
theorem dL_law_688 : decode cL_law 688 = .ok (.iadd, 1) := dL_law_679_g.2.2.2.2.2.2.2
theorem dL_law_689_g : (decode cL_law 689 = .ok (.iaload, 1)) ∧ (decode cL_law 690 = .ok (.invokevirtual 81, 3)) ∧ (decode cL_law 693 = .ok (.istore 6, 2)) ∧ (decode cL_law 695 = .ok (.goto 926, 3)) ∧ (decode cL_law 698 = .ok (.aload_n 1, 1)) ∧ (decode cL_law 699 = .ok (.aload_n 0, 1)) ∧ (decode cL_law 700 = .ok (.iload 4, 2)) ∧ (decode cL_law 702 = .ok (.iconst 1, 1)) := by decide +kernel
theorem dL_law_689 : decode cL_law 689 = .ok (.iaload, 1) := dL_law_689_g.1
theorem dL_law_690 : decode cL_law 690 = .ok (.invokevirtual 81, 3) := dL_law_689_g.2.1
theorem dL_law_693 : decode cL_law 693 = .ok (.istore 6, 2) := dL_law_689_g.2.2.1
theorem dL_law_695 : decode cL_law 695 = .ok (.goto 926, 3) := dL_law_689_g.2.2.2.1
theorem dL_law_698 : decode cL_law 698 = .ok (.aload_n 1, 1) := dL_law_689_g.2.2.2.2.1
theorem dL_law_699 : decode cL_law 699 = .ok (.aload_n 0, 1) := dL_law_689_g.2.2.2.2.2.1
theorem dL_law_700 : decode cL_law 700 = .ok (.iload 4, 2) := dL_law_689_g.2.2.2.2.2.2.1
theorem dL_law_702 : decode cL_law 702 = .ok (.iconst 1, 1) := dL_law_689_g.2.2.2.2.2.2.2
theorem dL_law_703_g : (decode cL_law 703 = .ok (.iadd, 1)) ∧ (decode cL_law 704 = .ok (.iaload, 1)) ∧ (decode cL_law 705 = .ok (.aload_n 0, 1)) ∧ (decode cL_law 706 = .ok (.iload 4, 2)) ∧ (decode cL_law 708 = .ok (.iconst 2, 1)) ∧ (decode cL_law 709 = .ok (.iadd, 1)) ∧ (decode cL_law 710 = .ok (.iaload, 1)) ∧ (decode cL_law 711 = .ok (.invokevirtual 82, 3)) := by decide +kernel
theorem dL_law_703 : decode cL_law 703 = .ok (.iadd, 1) := dL_law_703_g.1
theorem dL_law_704 : decode cL_law 704 = .ok (.iaload, 1) := dL_law_703_g.2.1
theorem dL_law_705 : decode cL_law 705 = .ok (.aload_n 0, 1) := dL_law_703_g.2.2.1
theorem dL_law_706 : decode cL_law 706 = .ok (.iload 4, 2) := dL_law_703_g.2.2.2.1
theorem dL_law_708 : decode cL_law 708 = .ok (.iconst 2, 1) := dL_law_703_g.2.2.2.2.1
theorem dL_law_709 : decode cL_law 709 = .ok (.iadd, 1) := dL_law_703_g.2.2.2.2.2.1
theorem dL_law_710 : decode cL_law 710 = .ok (.iaload, 1) := dL_law_703_g.2.2.2.2.2.2.1
theorem dL_law_711 : decode cL_law 711 = .ok (.invokevirtual 82, 3) := dL_law_703_g.2.2.2.2.2.2.2
theorem dL_law_714_g : (decode cL_law 714 = .ok (.pop, 1)) ∧ (decode cL_law 715 = .ok (.aload_n 2, 1)) ∧ (decode cL_law 716 = .ok (.aload_n 0, 1)) ∧ (decode cL_law 717 = .ok (.iload 4, 2)) ∧ (decode cL_law 719 = .ok (.iconst 1, 1)) ∧ (decode cL_law 720 = .ok (.iadd, 1)) ∧ (decode cL_law 721 = .ok (.iaload, 1)) ∧ (decode cL_law 722 = .ok (.aload_n 0, 1)) := by decide +kernel
theorem dL_law_714 : decode cL_law 714 = .ok (.pop, 1) := dL_law_714_g.1
theorem dL_law_715 : decode cL_law 715 = .ok (.aload_n 2, 1) := dL_law_714_g.2.1
theorem dL_law_716 : decode cL_law 716 = .ok (.aload_n 0, 1) := dL_law_714_g.2.2.1
theorem dL_law_717 : decode cL_law 717 = .ok (.iload 4, 2) := dL_law_714_g.2.2.2.1
theorem dL_law_719 : decode cL_law 719 = .ok (.iconst 1, 1) := dL_law_714_g.2.2.2.2.1
theorem dL_law_720 : decode cL_law 720 = .ok (.iadd, 1) := dL_law_714_g.2.2.2.2.2.1
theorem dL_law_721 : decode cL_law 721 = .ok (.iaload, 1) := dL_law_714_g.2.2.2.2.2.2.1
theorem dL_law_722 : decode cL_law 722 = .ok (.aload_n 0, 1) := dL_law_714_g.2.2.2.2.2.2.2
theorem dL_law_723_g : (decode cL_law 723 = .ok (.iload 4, 2)) ∧ (decode cL_law 725 = .ok (.iconst 2, 1)) ∧ (decode cL_law 726 = .ok (.iadd, 1)) ∧ (decode cL_law 727 = .ok (.iaload, 1)) ∧ (decode cL_law 728 = .ok (.invokevirtual 85, 3)) ∧ (decode cL_law 731 = .ok (.pop, 1)) ∧ (decode cL_law 732 = .ok (.goto 889, 3)) ∧ (decode cL_law 735 = .ok (.aload_n 1, 1)) := by decide +kernel
theorem dL_law_723 : decode cL_law 723 = .ok (.iload 4, 2) := dL_law_723_g.1
theorem dL_law_725 : decode cL_law 725 = .ok (.iconst 2, 1) := dL_law_723_g.2.1
theorem dL_law_726 : decode cL_law 726 = .ok (.iadd, 1) := dL_law_723_g.2.2.1
theorem dL_law_727 : decode cL_law 727 = .ok (.iaload, 1) := dL_law_723_g.2.2.2.1
theorem dL_law_728 : decode cL_law 728 = .ok (.invokevirtual 85, 3) := dL_law_723_g.2.2.2.2.1
theorem dL_law_731 : decode cL_law 731 = .ok (.pop, 1) := dL_law_723_g.2.2.2.2.2.1
theorem dL_law_732 : decode cL_law 732 = .ok (.goto 889, 3) := dL_law_723_g.2.2.2.2.2.2.1
theorem dL_law_735 : decode cL_law 735 = .ok (.aload_n 1, 1) := dL_law_723_g.2.2.2.2.2.2.2
theorem dL_law_736_g : (decode cL_law 736 = .ok (.aload_n 0, 1)) ∧ (decode cL_law 737 = .ok (.iload 4, 2)) ∧ (decode cL_law 739 = .ok (.iconst 1, 1)) ∧ (decode cL_law 740 = .ok (.iadd, 1)) ∧ (decode cL_law 741 = .ok (.iaload, 1)) ∧ (decode cL_law 742 = .ok (.aload_n 0, 1)) ∧ (decode cL_law 743 = .ok (.iload 4, 2)) ∧ (decode cL_law 745 = .ok (.iconst 2, 1)) := by decide +kernel
theorem dL_law_736 : decode cL_law 736 = .ok (.aload_n 0, 1) := dL_law_736_g.1
theorem dL_law_737 : decode cL_law 737 = .ok (.iload 4, 2) := dL_law_736_g.2.1
theorem dL_law_739 : decode cL_law 739 = .ok (.iconst 1, 1) := dL_law_736_g.2.2.1
theorem dL_law_740 : decode cL_law 740 = .ok (.iadd, 1) := dL_law_736_g.2.2.2.1
theorem dL_law_741 : decode cL_law 741 = .ok (.iaload, 1) := dL_law_736_g.2.2.2.2.1
theorem dL_law_742 : decode cL_law 742 = .ok (.aload_n 0, 1) := dL_law_736_g.2.2.2.2.2.1
theorem dL_law_743 : decode cL_law 743 = .ok (.iload 4, 2) := dL_law_736_g.2.2.2.2.2.2.1
theorem dL_law_745 : decode cL_law 745 = .ok (.iconst 2, 1) := dL_law_736_g.2.2.2.2.2.2.2
theorem dL_law_746_g : (decode cL_law 746 = .ok (.iadd, 1)) ∧ (decode cL_law 747 = .ok (.iaload, 1)) ∧ (decode cL_law 748 = .ok (.invokevirtual 86, 3)) ∧ (decode cL_law 751 = .ok (.pop2, 1)) ∧ (decode cL_law 752 = .ok (.aload_n 2, 1)) ∧ (decode cL_law 753 = .ok (.aload_n 0, 1)) ∧ (decode cL_law 754 = .ok (.iload 4, 2)) ∧ (decode cL_law 756 = .ok (.iconst 1, 1)) := by decide +kernel
theorem dL_law_746 : decode cL_law 746 = .ok (.iadd, 1) := dL_law_746_g.1
theorem dL_law_747 : decode cL_law 747 = .ok (.iaload, 1) := dL_law_746_g.2.1
theorem dL_law_748 : decode cL_law 748 = .ok (.invokevirtual 86, 3) := dL_law_746_g.2.2.1
theorem dL_law_751 : decode cL_law 751 = .ok (.pop2, 1) := dL_law_746_g.2.2.2.1
theorem dL_law_752 : decode cL_law 752 = .ok (.aload_n 2, 1) := dL_law_746_g.2.2.2.2.1
theorem dL_law_753 : decode cL_law 753 = .ok (.aload_n 0, 1) := dL_law_746_g.2.2.2.2.2.1
theorem dL_law_754 : decode cL_law 754 = .ok (.iload 4, 2) := dL_law_746_g.2.2.2.2.2.2.1
theorem dL_law_756 : decode cL_law 756 = .ok (.iconst 1, 1) := dL_law_746_g.2.2.2.2.2.2.2
theorem dL_law_757_g : (decode cL_law 757 = .ok (.iadd, 1)) ∧ (decode cL_law 758 = .ok (.iaload, 1)) ∧ (decode cL_law 759 = .ok (.aload_n 0, 1)) ∧ (decode cL_law 760 = .ok (.iload 4, 2)) ∧ (decode cL_law 762 = .ok (.iconst 2, 1)) ∧ (decode cL_law 763 = .ok (.iadd, 1)) ∧ (decode cL_law 764 = .ok (.iaload, 1)) ∧ (decode cL_law 765 = .ok (.invokevirtual 90, 3)) := by decide +kernel
theorem dL_law_757 : decode cL_law 757 = .ok (.iadd, 1) := dL_law_757_g.1
theorem dL_law_758 : decode cL_law 758 = .ok (.iaload, 1) := dL_law_757_g.2.1
theorem dL_law_759 : decode cL_law 759 = .ok (.aload_n 0, 1) := dL_law_757_g.2.2.1
theorem dL_law_760 : decode cL_law 760 = .ok (.iload 4, 2) := dL_law_757_g.2.2.2.1
theorem dL_law_762 : decode cL_law 762 = .ok (.iconst 2, 1) := dL_law_757_g.2.2.2.2.1
theorem dL_law_763 : decode cL_law 763 = .ok (.iadd, 1) := dL_law_757_g.2.2.2.2.2.1
theorem dL_law_764 : decode cL_law 764 = .ok (.iaload, 1) := dL_law_757_g.2.2.2.2.2.2.1
theorem dL_law_765 : decode cL_law 765 = .ok (.invokevirtual 90, 3) := dL_law_757_g.2.2.2.2.2.2.2
theorem dL_law_768_g : (decode cL_law 768 = .ok (.pop2, 1)) ∧ (decode cL_law 769 = .ok (.goto 852, 3)) ∧ (decode cL_law 772 = .ok (.aload_n 1, 1)) ∧ (decode cL_law 773 = .ok (.aload_n 0, 1)) ∧ (decode cL_law 774 = .ok (.iload 4, 2)) ∧ (decode cL_law 776 = .ok (.iconst 1, 1)) := by decide +kernel
theorem dL_law_768 : decode cL_law 768 = .ok (.pop2, 1) := dL_law_768_g.1
theorem dL_law_769 : decode cL_law 769 = .ok (.goto 852, 3) := dL_law_768_g.2.1
theorem dL_law_772 : decode cL_law 772 = .ok (.aload_n 1, 1) := dL_law_768_g.2.2.1
theorem dL_law_773 : decode cL_law 773 = .ok (.aload_n 0, 1) := dL_law_768_g.2.2.2.1
theorem dL_law_774 : decode cL_law 774 = .ok (.iload 4, 2) := dL_law_768_g.2.2.2.2.1
theorem dL_law_776 : decode cL_law 776 = .ok (.iconst 1, 1) := dL_law_768_g.2.2.2.2.2

