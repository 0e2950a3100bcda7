theorem d_Lw_law_800 : decode code 800 = .ok (.iconst 1, 1) := by decide +kernel
theorem d_Lw_law_801 : decode code 801 = .ok (.iadd, 1) := by decide +kernel
theorem d_Lw_law_802 : decode code 802 = .ok (.iaload, 1) := by decide +kernel
theorem d_Lw_law_803 : decode code 803 = .ok (.invokestatic 132, 3) := by decide +kernel
theorem d_Lw_law_806 : decode code 806 = .ok (.istore 5, 2) := by decide +kernel
theorem d_Lw_law_808 : decode code 808 = .ok (.aload_n 2, 1) := by decide +kernel
theorem d_Lw_law_809 : decode code 809 = .ok (.aload_n 0, 1) := by decide +kernel
theorem d_Lw_law_810 : decode code 810 = .ok (.iload 4, 2) := by decide +kernel
theorem d_Lw_law_812 : decode code 812 = .ok (.iconst 1, 1) := by decide +kernel
theorem d_Lw_law_813 : decode code 813 = .ok (.iadd, 1) := by decide +kernel
theorem d_Lw_law_814 : decode code 814 = .ok (.iaload, 1) := by decide +kernel
theorem d_Lw_law_815 : decode code 815 = .ok (.invokevirtual 134, 3) := by decide +kernel
theorem d_Lw_law_818 : decode code 818 = .ok (.aload_n 2, 1) := by decide +kernel
theorem d_Lw_law_819 : decode code 819 = .ok (.invokevirtual 92, 3) := by decide +kernel
theorem d_Lw_law_822 : decode code 822 = .ok (.iload 5, 2) := by decide +kernel
theorem d_Lw_law_824 : decode code 824 = .ok (.if_icmp .eq 5, 3) := by decide +kernel
theorem d_Lw_law_829 : decode code 829 = .ok (.goto 244, 3) := by decide +kernel
theorem d_Lw_law_832 : decode code 832 = .ok (.aload_n 1, 1) := by decide +kernel
theorem d_Lw_law_833 : decode code 833 = .ok (.aload_n 0, 1) := by decide +kernel
theorem d_Lw_law_834 : decode code 834 = .ok (.iload 4, 2) := by decide +kernel
theorem d_Lw_law_836 : decode code 836 = .ok (.iconst 1, 1) := by decide +kernel
theorem d_Lw_law_837 : decode code 837 = .ok (.iadd, 1) := by decide +kernel
theorem d_Lw_law_838 : decode code 838 = .ok (.iaload, 1) := by decide +kernel
theorem d_Lw_law_839 : decode code 839 = .ok (.invokestatic 135, 3) := by decide +kernel
theorem d_Lw_law_842 : decode code 842 = .ok (.istore 5, 2) := by decide +kernel
theorem d_Lw_law_844 : decode code 844 = .ok (.aload_n 2, 1) := by decide +kernel
theorem d_Lw_law_845 : decode code 845 = .ok (.aload_n 0, 1) := by decide +kernel
theorem d_Lw_law_846 : decode code 846 = .ok (.iload 4, 2) := by decide +kernel
theorem d_Lw_law_848 : decode code 848 = .ok (.iconst 1, 1) := by decide +kernel
theorem d_Lw_law_849 : decode code 849 = .ok (.iadd, 1) := by decide +kernel
theorem d_Lw_law_850 : decode code 850 = .ok (.iaload, 1) := by decide +kernel
theorem d_Lw_law_851 : decode code 851 = .ok (.invokevirtual 137, 3) := by decide +kernel
theorem d_Lw_law_854 : decode code 854 = .ok (.aload_n 2, 1) := by decide +kernel
theorem d_Lw_law_855 : decode code 855 = .ok (.invokevirtual 92, 3) := by decide +kernel
theorem d_Lw_law_858 : decode code 858 = .ok (.iload 5, 2) := by decide +kernel
theorem d_Lw_law_860 : decode code 860 = .ok (.if_icmp .eq 5, 3) := by decide +kernel
theorem d_Lw_law_865 : decode code 865 = .ok (.goto 208, 3) := by decide +kernel
theorem d_Lw_law_868 : decode code 868 = .ok (.aload_n 1, 1) := by decide +kernel
theorem d_Lw_law_869 : decode code 869 = .ok (.invokevirtual 138, 3) := by decide +kernel
theorem d_Lw_law_872 : decode code 872 = .ok (.aload_n 2, 1) := by decide +kernel
theorem d_Lw_law_873 : decode code 873 = .ok (.invokevirtual 141, 3) := by decide +kernel
theorem d_Lw_law_876 : decode code 876 = .ok (.if_icmp .eq 197, 3) := by decide +kernel
theorem d_Lw_law_881 : decode code 881 = .ok (.aload_n 1, 1) := by decide +kernel
theorem d_Lw_law_882 : decode code 882 = .ok (.aload_n 0, 1) := by decide +kernel
theorem d_Lw_law_883 : decode code 883 = .ok (.iload 4, 2) := by decide +kernel
theorem d_Lw_law_885 : decode code 885 = .ok (.iconst 1, 1) := by decide +kernel
theorem d_Lw_law_886 : decode code 886 = .ok (.iadd, 1) := by decide +kernel
theorem d_Lw_law_887 : decode code 887 = .ok (.iaload, 1) := by decide +kernel
theorem d_Lw_law_888 : decode code 888 = .ok (.aload_n 0, 1) := by decide +kernel
theorem d_Lw_law_889 : decode code 889 = .ok (.iload 4, 2) := by decide +kernel
theorem d_Lw_law_891 : decode code 891 = .ok (.iconst 2, 1) := by decide +kernel
theorem d_Lw_law_892 : decode code 892 = .ok (.iadd, 1) := by decide +kernel
theorem d_Lw_law_893 : decode code 893 = .ok (.iaload, 1) := by decide +kernel
theorem d_Lw_law_894 : decode code 894 = .ok (.aload_n 3, 1) := by decide +kernel
theorem d_Lw_law_895 : decode code 895 = .ok (.invokestatic 142, 3) := by decide +kernel
theorem d_Lw_law_898 : decode code 898 = .ok (.istore 5, 2) := by decide +kernel
theorem d_Lw_law_900 : decode code 900 = .ok (.aload_n 2, 1) := by decide +kernel
theorem d_Lw_law_901 : decode code 901 = .ok (.aload_n 0, 1) := by decide +kernel
theorem d_Lw_law_902 : decode code 902 = .ok (.iload 4, 2) := by decide +kernel
theorem d_Lw_law_904 : decode code 904 = .ok (.iconst 1, 1) := by decide +kernel
