theorem d_Lw_law_699 : decode code 699 = .ok (.iaload, 1) := by decide +kernel
theorem d_Lw_law_700 : decode code 700 = .ok (.invokevirtual 127, 3) := by decide +kernel
theorem d_Lw_law_703 : decode code 703 = .ok (.istore 6, 2) := by decide +kernel
theorem d_Lw_law_705 : decode code 705 = .ok (.aload_n 2, 1) := by decide +kernel
theorem d_Lw_law_706 : decode code 706 = .ok (.invokevirtual 92, 3) := by decide +kernel
theorem d_Lw_law_709 : decode code 709 = .ok (.iload 5, 2) := by decide +kernel
theorem d_Lw_law_711 : decode code 711 = .ok (.if_icmp .eq 5, 3) := by decide +kernel
theorem d_Lw_law_716 : decode code 716 = .ok (.iload 5, 2) := by decide +kernel
theorem d_Lw_law_718 : decode code 718 = .ok (.ifCond .ne 15, 3) := by decide +kernel
theorem d_Lw_law_721 : decode code 721 = .ok (.aload_n 3, 1) := by decide +kernel
theorem d_Lw_law_722 : decode code 722 = .ok (.iconst 0, 1) := by decide +kernel
theorem d_Lw_law_723 : decode code 723 = .ok (.laload, 1) := by decide +kernel
theorem d_Lw_law_724 : decode code 724 = .ok (.iload 6, 2) := by decide +kernel
theorem d_Lw_law_726 : decode code 726 = .ok (.i2l, 1) := by decide +kernel
theorem d_Lw_law_727 : decode code 727 = .ok (.lcmp, 1) := by decide +kernel
theorem d_Lw_law_728 : decode code 728 = .ok (.ifCond .eq 5, 3) := by decide +kernel
theorem d_Lw_law_733 : decode code 733 = .ok (.goto 340, 3) := by decide +kernel
theorem d_Lw_law_736 : decode code 736 = .ok (.aload_n 1, 1) := by decide +kernel
theorem d_Lw_law_737 : decode code 737 = .ok (.aload_n 0, 1) := by decide +kernel
theorem d_Lw_law_738 : decode code 738 = .ok (.iload 4, 2) := by decide +kernel
theorem d_Lw_law_740 : decode code 740 = .ok (.iconst 1, 1) := by decide +kernel
theorem d_Lw_law_741 : decode code 741 = .ok (.iadd, 1) := by decide +kernel
theorem d_Lw_law_742 : decode code 742 = .ok (.iaload, 1) := by decide +kernel
theorem d_Lw_law_743 : decode code 743 = .ok (.aload_n 0, 1) := by decide +kernel
theorem d_Lw_law_744 : decode code 744 = .ok (.iload 4, 2) := by decide +kernel
theorem d_Lw_law_746 : decode code 746 = .ok (.iconst 2, 1) := by decide +kernel
theorem d_Lw_law_747 : decode code 747 = .ok (.iadd, 1) := by decide +kernel
theorem d_Lw_law_748 : decode code 748 = .ok (.iaload, 1) := by decide +kernel
theorem d_Lw_law_749 : decode code 749 = .ok (.aload_n 0, 1) := by decide +kernel
theorem d_Lw_law_750 : decode code 750 = .ok (.iload 4, 2) := by decide +kernel
theorem d_Lw_law_752 : decode code 752 = .ok (.iconst 3, 1) := by decide +kernel
theorem d_Lw_law_753 : decode code 753 = .ok (.iadd, 1) := by decide +kernel
theorem d_Lw_law_754 : decode code 754 = .ok (.iaload, 1) := by decide +kernel
theorem d_Lw_law_755 : decode code 755 = .ok (.invokestatic 128, 3) := by decide +kernel
theorem d_Lw_law_758 : decode code 758 = .ok (.istore 5, 2) := by decide +kernel
theorem d_Lw_law_760 : decode code 760 = .ok (.aload_n 2, 1) := by decide +kernel
theorem d_Lw_law_761 : decode code 761 = .ok (.aload_n 0, 1) := by decide +kernel
theorem d_Lw_law_762 : decode code 762 = .ok (.iload 4, 2) := by decide +kernel
theorem d_Lw_law_764 : decode code 764 = .ok (.iconst 1, 1) := by decide +kernel
theorem d_Lw_law_765 : decode code 765 = .ok (.iadd, 1) := by decide +kernel
theorem d_Lw_law_766 : decode code 766 = .ok (.iaload, 1) := by decide +kernel
theorem d_Lw_law_767 : decode code 767 = .ok (.aload_n 0, 1) := by decide +kernel
theorem d_Lw_law_768 : decode code 768 = .ok (.iload 4, 2) := by decide +kernel
theorem d_Lw_law_770 : decode code 770 = .ok (.iconst 2, 1) := by decide +kernel
theorem d_Lw_law_771 : decode code 771 = .ok (.iadd, 1) := by decide +kernel
theorem d_Lw_law_772 : decode code 772 = .ok (.iaload, 1) := by decide +kernel
theorem d_Lw_law_773 : decode code 773 = .ok (.aload_n 0, 1) := by decide +kernel
theorem d_Lw_law_774 : decode code 774 = .ok (.iload 4, 2) := by decide +kernel
theorem d_Lw_law_776 : decode code 776 = .ok (.iconst 3, 1) := by decide +kernel
theorem d_Lw_law_777 : decode code 777 = .ok (.iadd, 1) := by decide +kernel
theorem d_Lw_law_778 : decode code 778 = .ok (.iaload, 1) := by decide +kernel
theorem d_Lw_law_779 : decode code 779 = .ok (.invokevirtual 131, 3) := by decide +kernel
theorem d_Lw_law_782 : decode code 782 = .ok (.aload_n 2, 1) := by decide +kernel
theorem d_Lw_law_783 : decode code 783 = .ok (.invokevirtual 92, 3) := by decide +kernel
theorem d_Lw_law_786 : decode code 786 = .ok (.iload 5, 2) := by decide +kernel
theorem d_Lw_law_788 : decode code 788 = .ok (.if_icmp .eq 5, 3) := by decide +kernel
theorem d_Lw_law_793 : decode code 793 = .ok (.goto 280, 3) := by decide +kernel
theorem d_Lw_law_796 : decode code 796 = .ok (.aload_n 1, 1) := by decide +kernel
theorem d_Lw_law_797 : decode code 797 = .ok (.aload_n 0, 1) := by decide +kernel
theorem d_Lw_law_798 : decode code 798 = .ok (.iload 4, 2) := by decide +kernel
