theorem d_Lw_law_1002 : decode code 1002 = .ok (.aload_n 3, 1) := by decide +kernel
theorem d_Lw_law_1003 : decode code 1003 = .ok (.iconst 0, 1) := by decide +kernel
theorem d_Lw_law_1004 : decode code 1004 = .ok (.laload, 1) := by decide +kernel
theorem d_Lw_law_1005 : decode code 1005 = .ok (.iload 6, 2) := by decide +kernel
theorem d_Lw_law_1007 : decode code 1007 = .ok (.i2l, 1) := by decide +kernel
theorem d_Lw_law_1008 : decode code 1008 = .ok (.lcmp, 1) := by decide +kernel
theorem d_Lw_law_1009 : decode code 1009 = .ok (.ifCond .eq 5, 3) := by decide +kernel
theorem d_Lw_law_1014 : decode code 1014 = .ok (.goto 59, 3) := by decide +kernel
theorem d_Lw_law_1017 : decode code 1017 = .ok (.aload_n 1, 1) := by decide +kernel
theorem d_Lw_law_1018 : decode code 1018 = .ok (.aload_n 0, 1) := by decide +kernel
theorem d_Lw_law_1019 : decode code 1019 = .ok (.iload 4, 2) := by decide +kernel
theorem d_Lw_law_1021 : decode code 1021 = .ok (.iconst 1, 1) := by decide +kernel
theorem d_Lw_law_1022 : decode code 1022 = .ok (.iadd, 1) := by decide +kernel
theorem d_Lw_law_1023 : decode code 1023 = .ok (.iaload, 1) := by decide +kernel
theorem d_Lw_law_1024 : decode code 1024 = .ok (.aload_n 3, 1) := by decide +kernel
theorem d_Lw_law_1025 : decode code 1025 = .ok (.invokestatic 149, 3) := by decide +kernel
theorem d_Lw_law_1028 : decode code 1028 = .ok (.istore 5, 2) := by decide +kernel
theorem d_Lw_law_1030 : decode code 1030 = .ok (.aload_n 2, 1) := by decide +kernel
theorem d_Lw_law_1031 : decode code 1031 = .ok (.aload_n 0, 1) := by decide +kernel
theorem d_Lw_law_1032 : decode code 1032 = .ok (.iload 4, 2) := by decide +kernel
theorem d_Lw_law_1034 : decode code 1034 = .ok (.iconst 1, 1) := by decide +kernel
theorem d_Lw_law_1035 : decode code 1035 = .ok (.iadd, 1) := by decide +kernel
theorem d_Lw_law_1036 : decode code 1036 = .ok (.iaload, 1) := by decide +kernel
theorem d_Lw_law_1037 : decode code 1037 = .ok (.invokevirtual 151, 3) := by decide +kernel
theorem d_Lw_law_1040 : decode code 1040 = .ok (.istore 6, 2) := by decide +kernel
theorem d_Lw_law_1042 : decode code 1042 = .ok (.aload_n 2, 1) := by decide +kernel
theorem d_Lw_law_1043 : decode code 1043 = .ok (.invokevirtual 92, 3) := by decide +kernel
theorem d_Lw_law_1046 : decode code 1046 = .ok (.iload 5, 2) := by decide +kernel
theorem d_Lw_law_1048 : decode code 1048 = .ok (.if_icmp .eq 5, 3) := by decide +kernel
theorem d_Lw_law_1053 : decode code 1053 = .ok (.iload 5, 2) := by decide +kernel
theorem d_Lw_law_1055 : decode code 1055 = .ok (.ifCond .ne 15, 3) := by decide +kernel
theorem d_Lw_law_1058 : decode code 1058 = .ok (.aload_n 3, 1) := by decide +kernel
theorem d_Lw_law_1059 : decode code 1059 = .ok (.iconst 0, 1) := by decide +kernel
theorem d_Lw_law_1060 : decode code 1060 = .ok (.laload, 1) := by decide +kernel
theorem d_Lw_law_1061 : decode code 1061 = .ok (.iload 6, 2) := by decide +kernel
theorem d_Lw_law_1063 : decode code 1063 = .ok (.i2l, 1) := by decide +kernel
theorem d_Lw_law_1064 : decode code 1064 = .ok (.lcmp, 1) := by decide +kernel
theorem d_Lw_law_1065 : decode code 1065 = .ok (.ifCond .eq 5, 3) := by decide +kernel
theorem d_Lw_law_1070 : decode code 1070 = .ok (.goto 3, 3) := by decide +kernel
theorem d_Lw_law_128 : decode code 128 = .ok (.aload_n 1, 1) := by decide +kernel
theorem d_Lw_law_129 : decode code 129 = .ok (.aload_n 0, 1) := by decide +kernel
theorem d_Lw_law_130 : decode code 130 = .ok (.iload 4, 2) := by decide +kernel
theorem d_Lw_law_132 : decode code 132 = .ok (.iconst 1, 1) := by decide +kernel
theorem d_Lw_law_133 : decode code 133 = .ok (.iadd, 1) := by decide +kernel
theorem d_Lw_law_134 : decode code 134 = .ok (.iaload, 1) := by decide +kernel
theorem d_Lw_law_135 : decode code 135 = .ok (.aload_n 0, 1) := by decide +kernel
theorem d_Lw_law_136 : decode code 136 = .ok (.iload 4, 2) := by decide +kernel
theorem d_Lw_law_138 : decode code 138 = .ok (.iconst 2, 1) := by decide +kernel
theorem d_Lw_law_139 : decode code 139 = .ok (.iadd, 1) := by decide +kernel
theorem d_Lw_law_140 : decode code 140 = .ok (.iaload, 1) := by decide +kernel
theorem d_Lw_law_141 : decode code 141 = .ok (.invokevirtual 81, 3) := by decide +kernel
theorem d_Lw_law_144 : decode code 144 = .ok (.aload_n 2, 1) := by decide +kernel
theorem d_Lw_law_145 : decode code 145 = .ok (.aload_n 0, 1) := by decide +kernel
theorem d_Lw_law_146 : decode code 146 = .ok (.iload 4, 2) := by decide +kernel
theorem d_Lw_law_148 : decode code 148 = .ok (.iconst 1, 1) := by decide +kernel
theorem d_Lw_law_149 : decode code 149 = .ok (.iadd, 1) := by decide +kernel
theorem d_Lw_law_150 : decode code 150 = .ok (.iaload, 1) := by decide +kernel
theorem d_Lw_law_151 : decode code 151 = .ok (.aload_n 0, 1) := by decide +kernel
theorem d_Lw_law_152 : decode code 152 = .ok (.iload 4, 2) := by decide +kernel
theorem d_Lw_law_154 : decode code 154 = .ok (.iconst 2, 1) := by decide +kernel
