theorem d_Mo_state_63 : decode b_Mo_state 63 = .ok (.if_icmp .ne 18, 3) := by decide +kernel
theorem d_Mo_state_66 : decode b_Mo_state 66 = .ok (.aload_n 0, 1) := by decide +kernel
theorem d_Mo_state_67 : decode b_Mo_state 67 = .ok (.getfield 180, 3) := by decide +kernel
theorem d_Mo_state_7 : decode b_Mo_state 7 = .ok (.if_icmp .le 7, 3) := by decide +kernel
theorem d_Mo_state_70 : decode b_Mo_state 70 = .ok (.ifCond .eq 7, 3) := by decide +kernel
theorem d_Mo_state_77 : decode b_Mo_state 77 = .ok (.iconst 0, 1) := by decide +kernel
theorem d_Mo_state_78 : decode b_Mo_state 78 = .ok (.goto 7, 3) := by decide +kernel
theorem d_Mo_state_81 : decode b_Mo_state 81 = .ok (.aload_n 0, 1) := by decide +kernel
theorem d_Mo_state_82 : decode b_Mo_state 82 = .ok (.getfield 224, 3) := by decide +kernel
theorem d_Mo_state_85 : decode b_Mo_state 85 = .ok (.ireturn, 1) := by decide +kernel
theorem d_Mo_state_86 : decode b_Mo_state 86 = .ok (.aload_n 0, 1) := by decide +kernel
theorem d_Mo_state_87 : decode b_Mo_state 87 = .ok (.invokevirtual 176, 3) := by decide +kernel
theorem d_Mo_state_90 : decode b_Mo_state 90 = .ok (.istore_n 2, 1) := by decide +kernel
theorem d_Mo_state_91 : decode b_Mo_state 91 = .ok (.iconst 0, 1) := by decide +kernel
theorem d_Mo_state_92 : decode b_Mo_state 92 = .ok (.istore_n 3, 1) := by decide +kernel
theorem d_Mo_state_93 : decode b_Mo_state 93 = .ok (.iconst 0, 1) := by decide +kernel
theorem d_Mo_state_94 : decode b_Mo_state 94 = .ok (.istore 4, 2) := by decide +kernel
theorem d_Mo_state_96 : decode b_Mo_state 96 = .ok (.iload 4, 2) := by decide +kernel
theorem d_Mo_state_98 : decode b_Mo_state 98 = .ok (.bipush 6, 2) := by decide +kernel
theorem d_Mo_stopAfter_0 : decode b_Mo_stopAfter 0 = .ok (.aload_n 0, 1) := by decide +kernel
theorem d_Mo_stopAfter_1 : decode b_Mo_stopAfter 1 = .ok (.iload_n 1, 1) := by decide +kernel
theorem d_Mo_stopAfter_11 : decode b_Mo_stopAfter 11 = .ok (.iconst 0, 1) := by decide +kernel
theorem d_Mo_stopAfter_12 : decode b_Mo_stopAfter 12 = .ok (.putfield 87, 3) := by decide +kernel
theorem d_Mo_stopAfter_15 : decode b_Mo_stopAfter 15 = .ok (.aload_n 0, 1) := by decide +kernel
theorem d_Mo_stopAfter_16 : decode b_Mo_stopAfter 16 = .ok (.getfield 87, 3) := by decide +kernel
theorem d_Mo_stopAfter_19 : decode b_Mo_stopAfter 19 = .ok (.ifCond .ne 16, 3) := by decide +kernel
theorem d_Mo_stopAfter_2 : decode b_Mo_stopAfter 2 = .ok (.bipush 100, 2) := by decide +kernel
theorem d_Mo_stopAfter_22 : decode b_Mo_stopAfter 22 = .ok (.aload_n 0, 1) := by decide +kernel
theorem d_Mo_stopAfter_23 : decode b_Mo_stopAfter 23 = .ok (.iload_n 1, 1) := by decide +kernel
theorem d_Mo_stopAfter_24 : decode b_Mo_stopAfter 24 = .ok (.ifCond .ge 7, 3) := by decide +kernel
theorem d_Mo_stopAfter_27 : decode b_Mo_stopAfter 27 = .ok (.iconst (-1), 1) := by decide +kernel
theorem d_Mo_stopAfter_28 : decode b_Mo_stopAfter 28 = .ok (.goto 4, 3) := by decide +kernel
theorem d_Mo_stopAfter_31 : decode b_Mo_stopAfter 31 = .ok (.iload_n 1, 1) := by decide +kernel
theorem d_Mo_stopAfter_32 : decode b_Mo_stopAfter 32 = .ok (.putfield 29, 3) := by decide +kernel
theorem d_Mo_stopAfter_35 : decode b_Mo_stopAfter 35 = .ok (.return_, 1) := by decide +kernel
theorem d_Mo_stopAfter_4 : decode b_Mo_stopAfter 4 = .ok (.if_icmp .le 7, 3) := by decide +kernel
theorem d_Mo_stopAfter_7 : decode b_Mo_stopAfter 7 = .ok (.iconst 1, 1) := by decide +kernel
theorem d_Mo_stopAfter_8 : decode b_Mo_stopAfter 8 = .ok (.goto 4, 3) := by decide +kernel
theorem d_Mo_verify_0 : decode b_Mo_verify 0 = .ok (.aload_n 0, 1) := by decide +kernel
theorem d_Mo_verify_1 : decode b_Mo_verify 1 = .ok (.aload_n 0, 1) := by decide +kernel
theorem d_Mo_verify_13 : decode b_Mo_verify 13 = .ok (.iconst 1, 1) := by decide +kernel
theorem d_Mo_verify_14 : decode b_Mo_verify 14 = .ok (.putfield 87, 3) := by decide +kernel
theorem d_Mo_verify_17 : decode b_Mo_verify 17 = .ok (.aload_n 0, 1) := by decide +kernel
theorem d_Mo_verify_18 : decode b_Mo_verify 18 = .ok (.getfield 87, 3) := by decide +kernel
theorem d_Mo_verify_2 : decode b_Mo_verify 2 = .ok (.iload_n 1, 1) := by decide +kernel
theorem d_Mo_verify_21 : decode b_Mo_verify 21 = .ok (.ifCond .le 5, 3) := by decide +kernel
theorem d_Mo_verify_24 : decode b_Mo_verify 24 = .ok (.iconst 0, 1) := by decide +kernel
theorem d_Mo_verify_25 : decode b_Mo_verify 25 = .ok (.ireturn, 1) := by decide +kernel
theorem d_Mo_verify_3 : decode b_Mo_verify 3 = .ok (.invokevirtual 172, 3) := by decide +kernel
theorem d_Mo_verify_6 : decode b_Mo_verify 6 = .ok (.ifCond .eq 7, 3) := by decide +kernel
