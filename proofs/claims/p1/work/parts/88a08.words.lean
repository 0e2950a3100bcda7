theorem d_Lw_law_905 : decode code 905 = .ok (.iadd, 1) := by decide +kernel
theorem d_Lw_law_906 : decode code 906 = .ok (.iaload, 1) := by decide +kernel
theorem d_Lw_law_907 : decode code 907 = .ok (.aload_n 0, 1) := by decide +kernel
theorem d_Lw_law_908 : decode code 908 = .ok (.iload 4, 2) := by decide +kernel
theorem d_Lw_law_910 : decode code 910 = .ok (.iconst 2, 1) := by decide +kernel
theorem d_Lw_law_911 : decode code 911 = .ok (.iadd, 1) := by decide +kernel
theorem d_Lw_law_912 : decode code 912 = .ok (.iaload, 1) := by decide +kernel
theorem d_Lw_law_913 : decode code 913 = .ok (.invokevirtual 145, 3) := by decide +kernel
theorem d_Lw_law_916 : decode code 916 = .ok (.istore 6, 2) := by decide +kernel
theorem d_Lw_law_918 : decode code 918 = .ok (.aload_n 2, 1) := by decide +kernel
theorem d_Lw_law_919 : decode code 919 = .ok (.invokevirtual 92, 3) := by decide +kernel
theorem d_Lw_law_922 : decode code 922 = .ok (.iload 5, 2) := by decide +kernel
theorem d_Lw_law_924 : decode code 924 = .ok (.if_icmp .eq 5, 3) := by decide +kernel
theorem d_Lw_law_929 : decode code 929 = .ok (.iload 5, 2) := by decide +kernel
theorem d_Lw_law_931 : decode code 931 = .ok (.ifCond .ne 15, 3) := by decide +kernel
theorem d_Lw_law_946 : decode code 946 = .ok (.goto 127, 3) := by decide +kernel
theorem d_Lw_law_949 : decode code 949 = .ok (.aload_n 1, 1) := by decide +kernel
theorem d_Lw_law_950 : decode code 950 = .ok (.aload_n 0, 1) := by decide +kernel
theorem d_Lw_law_951 : decode code 951 = .ok (.iload 4, 2) := by decide +kernel
theorem d_Lw_law_953 : decode code 953 = .ok (.iconst 1, 1) := by decide +kernel
theorem d_Lw_law_954 : decode code 954 = .ok (.iadd, 1) := by decide +kernel
theorem d_Lw_law_955 : decode code 955 = .ok (.iaload, 1) := by decide +kernel
theorem d_Lw_law_956 : decode code 956 = .ok (.aload_n 0, 1) := by decide +kernel
theorem d_Lw_law_957 : decode code 957 = .ok (.iload 4, 2) := by decide +kernel
theorem d_Lw_law_959 : decode code 959 = .ok (.iconst 2, 1) := by decide +kernel
theorem d_Lw_law_960 : decode code 960 = .ok (.iadd, 1) := by decide +kernel
theorem d_Lw_law_961 : decode code 961 = .ok (.iaload, 1) := by decide +kernel
theorem d_Lw_law_962 : decode code 962 = .ok (.aload_n 3, 1) := by decide +kernel
theorem d_Lw_law_963 : decode code 963 = .ok (.invokestatic 146, 3) := by decide +kernel
theorem d_Lw_law_966 : decode code 966 = .ok (.istore 5, 2) := by decide +kernel
theorem d_Lw_law_968 : decode code 968 = .ok (.aload_n 2, 1) := by decide +kernel
theorem d_Lw_law_969 : decode code 969 = .ok (.aload_n 0, 1) := by decide +kernel
theorem d_Lw_law_970 : decode code 970 = .ok (.iload 4, 2) := by decide +kernel
theorem d_Lw_law_972 : decode code 972 = .ok (.iconst 1, 1) := by decide +kernel
theorem d_Lw_law_973 : decode code 973 = .ok (.iadd, 1) := by decide +kernel
theorem d_Lw_law_974 : decode code 974 = .ok (.iaload, 1) := by decide +kernel
theorem d_Lw_law_975 : decode code 975 = .ok (.aload_n 0, 1) := by decide +kernel
theorem d_Lw_law_976 : decode code 976 = .ok (.iload 4, 2) := by decide +kernel
theorem d_Lw_law_978 : decode code 978 = .ok (.iconst 2, 1) := by decide +kernel
theorem d_Lw_law_979 : decode code 979 = .ok (.iadd, 1) := by decide +kernel
theorem d_Lw_law_980 : decode code 980 = .ok (.iaload, 1) := by decide +kernel
theorem d_Lw_law_981 : decode code 981 = .ok (.invokevirtual 148, 3) := by decide +kernel
theorem d_Lw_law_984 : decode code 984 = .ok (.istore 6, 2) := by decide +kernel
theorem d_Lw_law_986 : decode code 986 = .ok (.aload_n 2, 1) := by decide +kernel
theorem d_Lw_law_987 : decode code 987 = .ok (.invokevirtual 92, 3) := by decide +kernel
theorem d_Lw_law_990 : decode code 990 = .ok (.iload 5, 2) := by decide +kernel
theorem d_Lw_law_992 : decode code 992 = .ok (.if_icmp .eq 5, 3) := by decide +kernel
theorem d_Lw_law_997 : decode code 997 = .ok (.iload 5, 2) := by decide +kernel
theorem d_Lw_law_999 : decode code 999 = .ok (.ifCond .ne 15, 3) := by decide +kernel
