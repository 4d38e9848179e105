theorem d_L_law_593 : decode code 593 = .ok (.iaload, 1) := by decide +kernel
theorem d_L_law_594 : decode code 594 = .ok (.aload_n 0, 1) := by decide +kernel
theorem d_L_law_595 : decode code 595 = .ok (.iload_n 3, 1) := by decide +kernel
theorem d_L_law_596 : decode code 596 = .ok (.iconst 2, 1) := by decide +kernel
theorem d_L_law_597 : decode code 597 = .ok (.iadd, 1) := by decide +kernel
theorem d_L_law_598 : decode code 598 = .ok (.iaload, 1) := by decide +kernel
theorem d_L_law_599 : decode code 599 = .ok (.i2l, 1) := by decide +kernel
theorem d_L_law_600 : decode code 600 = .ok (.bipush 32, 2) := by decide +kernel
theorem d_L_law_602 : decode code 602 = .ok (.lshl, 1) := by decide +kernel
theorem d_L_law_603 : decode code 603 = .ok (.aload_n 0, 1) := by decide +kernel
theorem d_L_law_604 : decode code 604 = .ok (.iload_n 3, 1) := by decide +kernel
theorem d_L_law_605 : decode code 605 = .ok (.iconst 3, 1) := by decide +kernel
theorem d_L_law_606 : decode code 606 = .ok (.iadd, 1) := by decide +kernel
theorem d_L_law_607 : decode code 607 = .ok (.iaload, 1) := by decide +kernel
theorem d_L_law_608 : decode code 608 = .ok (.i2l, 1) := by decide +kernel
theorem d_L_law_609 : decode code 609 = .ok (.ldc2_w 23, 3) := by decide +kernel
theorem d_L_law_612 : decode code 612 = .ok (.land, 1) := by decide +kernel
theorem d_L_law_613 : decode code 613 = .ok (.lor, 1) := by decide +kernel
theorem d_L_law_614 : decode code 614 = .ok (.invokevirtual 57, 3) := by decide +kernel
theorem d_L_law_617 : decode code 617 = .ok (.lcmp, 1) := by decide +kernel
theorem d_L_law_618 : decode code 618 = .ok (.ifCond .eq 287, 3) := by decide +kernel
theorem d_L_law_621 : decode code 621 = .ok (.iconst 0, 1) := by decide +kernel
theorem d_L_law_622 : decode code 622 = .ok (.ireturn, 1) := by decide +kernel
theorem d_L_law_623 : decode code 623 = .ok (.aload_n 1, 1) := by decide +kernel
theorem d_L_law_624 : decode code 624 = .ok (.aload_n 0, 1) := by decide +kernel
theorem d_L_law_625 : decode code 625 = .ok (.iload_n 3, 1) := by decide +kernel
theorem d_L_law_626 : decode code 626 = .ok (.iconst 1, 1) := by decide +kernel
theorem d_L_law_627 : decode code 627 = .ok (.iadd, 1) := by decide +kernel
theorem d_L_law_628 : decode code 628 = .ok (.iaload, 1) := by decide +kernel
theorem d_L_law_629 : decode code 629 = .ok (.aload_n 0, 1) := by decide +kernel
theorem d_L_law_630 : decode code 630 = .ok (.iload_n 3, 1) := by decide +kernel
theorem d_L_law_631 : decode code 631 = .ok (.iconst 2, 1) := by decide +kernel
theorem d_L_law_632 : decode code 632 = .ok (.iadd, 1) := by decide +kernel
theorem d_L_law_633 : decode code 633 = .ok (.iaload, 1) := by decide +kernel
theorem d_L_law_634 : decode code 634 = .ok (.i2l, 1) := by decide +kernel
theorem d_L_law_635 : decode code 635 = .ok (.bipush 32, 2) := by decide +kernel
theorem d_L_law_637 : decode code 637 = .ok (.lshl, 1) := by decide +kernel
theorem d_L_law_638 : decode code 638 = .ok (.aload_n 0, 1) := by decide +kernel
theorem d_L_law_639 : decode code 639 = .ok (.iload_n 3, 1) := by decide +kernel
theorem d_L_law_640 : decode code 640 = .ok (.iconst 3, 1) := by decide +kernel
theorem d_L_law_641 : decode code 641 = .ok (.iadd, 1) := by decide +kernel
theorem d_L_law_642 : decode code 642 = .ok (.iaload, 1) := by decide +kernel
theorem d_L_law_643 : decode code 643 = .ok (.i2l, 1) := by decide +kernel
theorem d_L_law_644 : decode code 644 = .ok (.ldc2_w 23, 3) := by decide +kernel
theorem d_L_law_647 : decode code 647 = .ok (.land, 1) := by decide +kernel
theorem d_L_law_648 : decode code 648 = .ok (.lor, 1) := by decide +kernel
theorem d_L_law_649 : decode code 649 = .ok (.invokevirtual 58, 3) := by decide +kernel
theorem d_L_law_652 : decode code 652 = .ok (.aload_n 2, 1) := by decide +kernel
theorem d_L_law_653 : decode code 653 = .ok (.aload_n 0, 1) := by decide +kernel
theorem d_L_law_654 : decode code 654 = .ok (.iload_n 3, 1) := by decide +kernel
theorem d_L_law_655 : decode code 655 = .ok (.iconst 1, 1) := by decide +kernel
theorem d_L_law_656 : decode code 656 = .ok (.iadd, 1) := by decide +kernel
theorem d_L_law_657 : decode code 657 = .ok (.iaload, 1) := by decide +kernel
theorem d_L_law_658 : decode code 658 = .ok (.aload_n 0, 1) := by decide +kernel
theorem d_L_law_659 : decode code 659 = .ok (.iload_n 3, 1) := by decide +kernel
theorem d_L_law_660 : decode code 660 = .ok (.iconst 2, 1) := by decide +kernel
theorem d_L_law_661 : decode code 661 = .ok (.iadd, 1) := by decide +kernel
theorem d_L_law_662 : decode code 662 = .ok (.iaload, 1) := by decide +kernel
theorem d_L_law_663 : decode code 663 = .ok (.i2l, 1) := by decide +kernel
theorem d_L_law_664 : decode code 664 = .ok (.bipush 32, 2) := by decide +kernel
theorem d_L_law_666 : decode code 666 = .ok (.lshl, 1) := by decide +kernel
theorem d_L_law_667 : decode code 667 = .ok (.aload_n 0, 1) := by decide +kernel
theorem d_L_law_668 : decode code 668 = .ok (.iload_n 3, 1) := by decide +kernel
theorem d_L_law_669 : decode code 669 = .ok (.iconst 3, 1) := by decide +kernel
theorem d_L_law_670 : decode code 670 = .ok (.iadd, 1) := by decide +kernel
theorem d_L_law_671 : decode code 671 = .ok (.iaload, 1) := by decide +kernel
theorem d_L_law_672 : decode code 672 = .ok (.i2l, 1) := by decide +kernel
theorem d_L_law_673 : decode code 673 = .ok (.ldc2_w 23, 3) := by decide +kernel
theorem d_L_law_676 : decode code 676 = .ok (.land, 1) := by decide +kernel
theorem d_L_law_677 : decode code 677 = .ok (.lor, 1) := by decide +kernel
theorem d_L_law_678 : decode code 678 = .ok (.invokevirtual 62, 3) := by decide +kernel
theorem d_L_law_681 : decode code 681 = .ok (.if_icmp .eq 224, 3) := by decide +kernel
theorem d_L_law_684 : decode code 684 = .ok (.iconst 0, 1) := by decide +kernel
theorem d_L_law_685 : decode code 685 = .ok (.ireturn, 1) := by decide +kernel
theorem d_L_law_686 : decode code 686 = .ok (.aload_n 1, 1) := by decide +kernel
theorem d_L_law_687 : decode code 687 = .ok (.aload_n 0, 1) := by decide +kernel
theorem d_L_law_688 : decode code 688 = .ok (.iload_n 3, 1) := by decide +kernel
theorem d_L_law_689 : decode code 689 = .ok (.iconst 1, 1) := by decide +kernel
theorem d_L_law_690 : decode code 690 = .ok (.iadd, 1) := by decide +kernel
theorem d_L_law_691 : decode code 691 = .ok (.iaload, 1) := by decide +kernel
