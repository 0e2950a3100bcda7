theorem d_Mo_files_0 : decode b_Mo_files 0 = .ok (.iconst 0, 1) := by decide +kernel
theorem d_Mo_files_1 : decode b_Mo_files 1 = .ok (.istore_n 1, 1) := by decide +kernel
theorem d_Mo_files_10 : decode b_Mo_files 10 = .ok (.aload_n 0, 1) := by decide +kernel
theorem d_Mo_files_11 : decode b_Mo_files 11 = .ok (.iload_n 2, 1) := by decide +kernel
theorem d_Mo_files_12 : decode b_Mo_files 12 = .ok (.invokevirtual 172, 3) := by decide +kernel
theorem d_Mo_files_15 : decode b_Mo_files 15 = .ok (.ifCond .eq 7, 3) := by decide +kernel
theorem d_Mo_files_2 : decode b_Mo_files 2 = .ok (.iconst 0, 1) := by decide +kernel
theorem d_Mo_files_22 : decode b_Mo_files 22 = .ok (.iconst 0, 1) := by decide +kernel
theorem d_Mo_files_23 : decode b_Mo_files 23 = .ok (.iadd, 1) := by decide +kernel
theorem d_Mo_files_24 : decode b_Mo_files 24 = .ok (.istore_n 1, 1) := by decide +kernel
theorem d_Mo_files_25 : decode b_Mo_files 25 = .ok (.iinc 2 1, 3) := by decide +kernel
theorem d_Mo_files_28 : decode b_Mo_files 28 = .ok (.goto (-24), 3) := by decide +kernel
theorem d_Mo_files_3 : decode b_Mo_files 3 = .ok (.istore_n 2, 1) := by decide +kernel
theorem d_Mo_files_31 : decode b_Mo_files 31 = .ok (.iload_n 1, 1) := by decide +kernel
theorem d_Mo_files_32 : decode b_Mo_files 32 = .ok (.ireturn, 1) := by decide +kernel
theorem d_Mo_files_4 : decode b_Mo_files 4 = .ok (.iload_n 2, 1) := by decide +kernel
theorem d_Mo_files_5 : decode b_Mo_files 5 = .ok (.iconst 4, 1) := by decide +kernel
theorem d_Mo_files_6 : decode b_Mo_files 6 = .ok (.if_icmp .ge 25, 3) := by decide +kernel
theorem d_Mo_files_9 : decode b_Mo_files 9 = .ok (.iload_n 1, 1) := by decide +kernel
theorem d_Mo_isBlock_0 : decode b_Mo_isBlock 0 = .ok (.iload_n 0, 1) := by decide +kernel
theorem d_Mo_isBlock_1 : decode b_Mo_isBlock 1 = .ok (.ifCond .lt 13, 3) := by decide +kernel
theorem d_Mo_isBlock_10 : decode b_Mo_isBlock 10 = .ok (.iconst 1, 1) := by decide +kernel
theorem d_Mo_isBlock_11 : decode b_Mo_isBlock 11 = .ok (.goto 4, 3) := by decide +kernel
theorem d_Mo_isBlock_14 : decode b_Mo_isBlock 14 = .ok (.iconst 0, 1) := by decide +kernel
theorem d_Mo_isBlock_15 : decode b_Mo_isBlock 15 = .ok (.ireturn, 1) := by decide +kernel
theorem d_Mo_isBlock_4 : decode b_Mo_isBlock 4 = .ok (.iload_n 0, 1) := by decide +kernel
theorem d_Mo_isBlock_5 : decode b_Mo_isBlock 5 = .ok (.bipush 44, 2) := by decide +kernel
theorem d_Mo_isBlock_7 : decode b_Mo_isBlock 7 = .ok (.if_icmp .ge 7, 3) := by decide +kernel
theorem d_Mo_isGoodHeader_0 : decode b_Mo_isGoodHeader 0 = .ok (.bipush 64, 2) := by decide +kernel
theorem d_Mo_isGoodHeader_10 : decode b_Mo_isGoodHeader 10 = .ok (.iconst 1, 1) := by decide +kernel
theorem d_Mo_isGoodHeader_11 : decode b_Mo_isGoodHeader 11 = .ok (.iadd, 1) := by decide +kernel
theorem d_Mo_isGoodHeader_12 : decode b_Mo_isGoodHeader 12 = .ok (.iaload, 1) := by decide +kernel
theorem d_Mo_isGoodHeader_13 : decode b_Mo_isGoodHeader 13 = .ok (.istore 4, 2) := by decide +kernel
theorem d_Mo_isGoodHeader_15 : decode b_Mo_isGoodHeader 15 = .ok (.aload_n 0, 1) := by decide +kernel
theorem d_Mo_isGoodHeader_16 : decode b_Mo_isGoodHeader 16 = .ok (.getfield 13, 3) := by decide +kernel
theorem d_Mo_isGoodHeader_19 : decode b_Mo_isGoodHeader 19 = .ok (.iload_n 2, 1) := by decide +kernel
theorem d_Mo_isGoodHeader_2 : decode b_Mo_isGoodHeader 2 = .ok (.iload_n 2, 1) := by decide +kernel
theorem d_Mo_isGoodHeader_20 : decode b_Mo_isGoodHeader 20 = .ok (.baload, 1) := by decide +kernel
theorem d_Mo_isGoodHeader_21 : decode b_Mo_isGoodHeader 21 = .ok (.ifCond .ne 40, 3) := by decide +kernel
theorem d_Mo_isGoodHeader_24 : decode b_Mo_isGoodHeader 24 = .ok (.aload_n 0, 1) := by decide +kernel
theorem d_Mo_isGoodHeader_25 : decode b_Mo_isGoodHeader 25 = .ok (.getfield 7, 3) := by decide +kernel
theorem d_Mo_isGoodHeader_28 : decode b_Mo_isGoodHeader 28 = .ok (.iload_n 3, 1) := by decide +kernel
theorem d_Mo_isGoodHeader_29 : decode b_Mo_isGoodHeader 29 = .ok (.iaload, 1) := by decide +kernel
theorem d_Mo_isGoodHeader_3 : decode b_Mo_isGoodHeader 3 = .ok (.imul, 1) := by decide +kernel
theorem d_Mo_isGoodHeader_30 : decode b_Mo_isGoodHeader 30 = .ok (.iload_n 1, 1) := by decide +kernel
theorem d_Mo_isGoodHeader_31 : decode b_Mo_isGoodHeader 31 = .ok (.iconst 1, 1) := by decide +kernel
theorem d_Mo_isGoodHeader_32 : decode b_Mo_isGoodHeader 32 = .ok (.iadd, 1) := by decide +kernel
theorem d_Mo_isGoodHeader_33 : decode b_Mo_isGoodHeader 33 = .ok (.if_icmp .ne 28, 3) := by decide +kernel
theorem d_Mo_isGoodHeader_4 : decode b_Mo_isGoodHeader 4 = .ok (.istore_n 3, 1) := by decide +kernel
theorem d_Mo_isGoodHeader_5 : decode b_Mo_isGoodHeader 5 = .ok (.aload_n 0, 1) := by decide +kernel
theorem d_Mo_isGoodHeader_6 : decode b_Mo_isGoodHeader 6 = .ok (.getfield 7, 3) := by decide +kernel
theorem d_Mo_isGoodHeader_61 : decode b_Mo_isGoodHeader 61 = .ok (.iconst 0, 1) := by decide +kernel
theorem d_Mo_isGoodHeader_62 : decode b_Mo_isGoodHeader 62 = .ok (.ireturn, 1) := by decide +kernel
theorem d_Mo_isGoodHeader_9 : decode b_Mo_isGoodHeader 9 = .ok (.iload_n 3, 1) := by decide +kernel
theorem d_Mo_isOfFile_0 : decode b_Mo_isOfFile 0 = .ok (.iconst 0, 1) := by decide +kernel
theorem d_Mo_isOfFile_1 : decode b_Mo_isOfFile 1 = .ok (.istore_n 2, 1) := by decide +kernel
theorem d_Mo_isOfFile_12 : decode b_Mo_isOfFile 12 = .ok (.ifCond .eq 26, 3) := by decide +kernel
theorem d_Mo_isOfFile_2 : decode b_Mo_isOfFile 2 = .ok (.iload_n 2, 1) := by decide +kernel
theorem d_Mo_isOfFile_3 : decode b_Mo_isOfFile 3 = .ok (.iconst 4, 1) := by decide +kernel
theorem d_Mo_isOfFile_38 : decode b_Mo_isOfFile 38 = .ok (.iinc 2 1, 3) := by decide +kernel
