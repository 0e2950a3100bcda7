theorem d_Lw_law_0 : decode code 0 = .ok (.new 8, 3) := by decide +kernel
theorem d_Lw_law_1073 : decode code 1073 = .ok (.iinc 4 4, 3) := by decide +kernel
theorem d_Lw_law_1076 : decode code 1076 = .ok (.goto (-1053), 3) := by decide +kernel
theorem d_Lw_law_1079 : decode code 1079 = .ok (.iconst 1, 1) := by decide +kernel
theorem d_Lw_law_1080 : decode code 1080 = .ok (.ireturn, 1) := by decide +kernel
theorem d_Lw_law_11 : decode code 11 = .ok (.dup, 1) := by decide +kernel
theorem d_Lw_law_12 : decode code 12 = .ok (.invokespecial 80, 3) := by decide +kernel
theorem d_Lw_law_15 : decode code 15 = .ok (.astore_n 2, 1) := by decide +kernel
theorem d_Lw_law_16 : decode code 16 = .ok (.iconst 1, 1) := by decide +kernel
theorem d_Lw_law_17 : decode code 17 = .ok (.newarray .long, 2) := by decide +kernel
theorem d_Lw_law_19 : decode code 19 = .ok (.astore_n 3, 1) := by decide +kernel
theorem d_Lw_law_20 : decode code 20 = .ok (.iconst 0, 1) := by decide +kernel
theorem d_Lw_law_21 : decode code 21 = .ok (.istore 4, 2) := by decide +kernel
theorem d_Lw_law_23 : decode code 23 = .ok (.iload 4, 2) := by decide +kernel
theorem d_Lw_law_25 : decode code 25 = .ok (.aload_n 0, 1) := by decide +kernel
theorem d_Lw_law_26 : decode code 26 = .ok (.arraylength, 1) := by decide +kernel
theorem d_Lw_law_27 : decode code 27 = .ok (.iconst 4, 1) := by decide +kernel
theorem d_Lw_law_28 : decode code 28 = .ok (.isub, 1) := by decide +kernel
theorem d_Lw_law_29 : decode code 29 = .ok (.if_icmp .gt 1050, 3) := by decide +kernel
theorem d_Lw_law_3 : decode code 3 = .ok (.dup, 1) := by decide +kernel
theorem d_Lw_law_32 : decode code 32 = .ok (.aload_n 0, 1) := by decide +kernel
theorem d_Lw_law_33 : decode code 33 = .ok (.iload 4, 2) := by decide +kernel
theorem d_Lw_law_35 : decode code 35 = .ok (.iaload, 1) := by decide +kernel
theorem d_Lw_law_36 : decode code 36 = .ok (.bipush 31, 2) := by decide +kernel
theorem d_Lw_law_38 : decode code 38 = .ok (.iand, 1) := by decide +kernel
theorem d_Lw_law_39 : decode code 39 = .ok (.tableswitch 1034 0 18 #[89, 126, 170, 226, 270, 314, 394, 450, 506, 569, 605, 641, 697, 757, 793, 829, 842, 910, 978], 89) := by decide +kernel
theorem d_Lw_law_4 : decode code 4 = .ok (.invokespecial 77, 3) := by decide +kernel
theorem d_Lw_law_7 : decode code 7 = .ok (.astore_n 1, 1) := by decide +kernel
theorem d_Lw_law_8 : decode code 8 = .ok (.new 78, 3) := by decide +kernel
