theorem d_Lw_law_571 : decode code 571 = .ok (.invokevirtual 92, 3) := by decide +kernel
theorem d_Lw_law_574 : decode code 574 = .ok (.iload 5, 2) := by decide +kernel
theorem d_Lw_law_576 : decode code 576 = .ok (.if_icmp .eq 5, 3) := by decide +kernel
theorem d_Lw_law_581 : decode code 581 = .ok (.iload 5, 2) := by decide +kernel
theorem d_Lw_law_583 : decode code 583 = .ok (.ifCond .ne 22, 3) := by decide +kernel
theorem d_Lw_law_605 : decode code 605 = .ok (.goto 468, 3) := by decide +kernel
theorem d_Lw_law_608 : decode code 608 = .ok (.aload_n 1, 1) := by decide +kernel
theorem d_Lw_law_609 : decode code 609 = .ok (.aload_n 0, 1) := by decide +kernel
theorem d_Lw_law_610 : decode code 610 = .ok (.iload 4, 2) := by decide +kernel
theorem d_Lw_law_612 : decode code 612 = .ok (.iconst 1, 1) := by decide +kernel
theorem d_Lw_law_613 : decode code 613 = .ok (.iadd, 1) := by decide +kernel
theorem d_Lw_law_614 : decode code 614 = .ok (.iaload, 1) := by decide +kernel
theorem d_Lw_law_615 : decode code 615 = .ok (.invokestatic 118, 3) := by decide +kernel
theorem d_Lw_law_618 : decode code 618 = .ok (.istore 5, 2) := by decide +kernel
theorem d_Lw_law_620 : decode code 620 = .ok (.aload_n 2, 1) := by decide +kernel
theorem d_Lw_law_621 : decode code 621 = .ok (.aload_n 0, 1) := by decide +kernel
theorem d_Lw_law_622 : decode code 622 = .ok (.iload 4, 2) := by decide +kernel
theorem d_Lw_law_624 : decode code 624 = .ok (.iconst 1, 1) := by decide +kernel
theorem d_Lw_law_625 : decode code 625 = .ok (.iadd, 1) := by decide +kernel
theorem d_Lw_law_626 : decode code 626 = .ok (.iaload, 1) := by decide +kernel
theorem d_Lw_law_627 : decode code 627 = .ok (.invokevirtual 121, 3) := by decide +kernel
theorem d_Lw_law_630 : decode code 630 = .ok (.aload_n 2, 1) := by decide +kernel
theorem d_Lw_law_631 : decode code 631 = .ok (.invokevirtual 92, 3) := by decide +kernel
theorem d_Lw_law_634 : decode code 634 = .ok (.iload 5, 2) := by decide +kernel
theorem d_Lw_law_636 : decode code 636 = .ok (.if_icmp .eq 5, 3) := by decide +kernel
theorem d_Lw_law_641 : decode code 641 = .ok (.goto 432, 3) := by decide +kernel
theorem d_Lw_law_644 : decode code 644 = .ok (.aload_n 1, 1) := by decide +kernel
theorem d_Lw_law_645 : decode code 645 = .ok (.aload_n 0, 1) := by decide +kernel
theorem d_Lw_law_646 : decode code 646 = .ok (.iload 4, 2) := by decide +kernel
theorem d_Lw_law_648 : decode code 648 = .ok (.iconst 1, 1) := by decide +kernel
theorem d_Lw_law_649 : decode code 649 = .ok (.iadd, 1) := by decide +kernel
theorem d_Lw_law_650 : decode code 650 = .ok (.iaload, 1) := by decide +kernel
theorem d_Lw_law_651 : decode code 651 = .ok (.invokestatic 122, 3) := by decide +kernel
theorem d_Lw_law_654 : decode code 654 = .ok (.istore 5, 2) := by decide +kernel
theorem d_Lw_law_656 : decode code 656 = .ok (.aload_n 2, 1) := by decide +kernel
theorem d_Lw_law_657 : decode code 657 = .ok (.aload_n 0, 1) := by decide +kernel
theorem d_Lw_law_658 : decode code 658 = .ok (.iload 4, 2) := by decide +kernel
theorem d_Lw_law_660 : decode code 660 = .ok (.iconst 1, 1) := by decide +kernel
theorem d_Lw_law_661 : decode code 661 = .ok (.iadd, 1) := by decide +kernel
theorem d_Lw_law_662 : decode code 662 = .ok (.iaload, 1) := by decide +kernel
theorem d_Lw_law_663 : decode code 663 = .ok (.invokevirtual 124, 3) := by decide +kernel
theorem d_Lw_law_666 : decode code 666 = .ok (.aload_n 2, 1) := by decide +kernel
theorem d_Lw_law_667 : decode code 667 = .ok (.invokevirtual 92, 3) := by decide +kernel
theorem d_Lw_law_670 : decode code 670 = .ok (.iload 5, 2) := by decide +kernel
theorem d_Lw_law_672 : decode code 672 = .ok (.if_icmp .eq 5, 3) := by decide +kernel
theorem d_Lw_law_677 : decode code 677 = .ok (.goto 396, 3) := by decide +kernel
theorem d_Lw_law_680 : decode code 680 = .ok (.aload_n 1, 1) := by decide +kernel
theorem d_Lw_law_681 : decode code 681 = .ok (.aload_n 0, 1) := by decide +kernel
theorem d_Lw_law_682 : decode code 682 = .ok (.iload 4, 2) := by decide +kernel
theorem d_Lw_law_684 : decode code 684 = .ok (.iconst 1, 1) := by decide +kernel
theorem d_Lw_law_685 : decode code 685 = .ok (.iadd, 1) := by decide +kernel
theorem d_Lw_law_686 : decode code 686 = .ok (.iaload, 1) := by decide +kernel
theorem d_Lw_law_687 : decode code 687 = .ok (.aload_n 3, 1) := by decide +kernel
theorem d_Lw_law_688 : decode code 688 = .ok (.invokestatic 125, 3) := by decide +kernel
theorem d_Lw_law_691 : decode code 691 = .ok (.istore 5, 2) := by decide +kernel
theorem d_Lw_law_693 : decode code 693 = .ok (.aload_n 2, 1) := by decide +kernel
theorem d_Lw_law_694 : decode code 694 = .ok (.aload_n 0, 1) := by decide +kernel
theorem d_Lw_law_695 : decode code 695 = .ok (.iload 4, 2) := by decide +kernel
theorem d_Lw_law_697 : decode code 697 = .ok (.iconst 1, 1) := by decide +kernel
theorem d_Lw_law_698 : decode code 698 = .ok (.iadd, 1) := by decide +kernel
