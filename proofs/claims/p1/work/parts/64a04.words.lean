theorem d_TS_state_49 : decode b_TS_state 49 = .ok (.aload_n 0, 1) := by decide +kernel
theorem d_TS_state_5 : decode b_TS_state 5 = .ok (.tableswitch 86 0 5 #[39, 44, 49, 57, 65, 81], 39) := by decide +kernel
theorem d_TS_state_50 : decode b_TS_state 50 = .ok (.invokevirtual 237, 3) := by decide +kernel
theorem d_TS_state_53 : decode b_TS_state 53 = .ok (.ireturn, 1) := by decide +kernel
theorem d_TS_state_54 : decode b_TS_state 54 = .ok (.aload_n 0, 1) := by decide +kernel
theorem d_TS_state_55 : decode b_TS_state 55 = .ok (.getfield 19, 3) := by decide +kernel
theorem d_TS_state_58 : decode b_TS_state 58 = .ok (.getfield 82, 3) := by decide +kernel
theorem d_TS_state_61 : decode b_TS_state 61 = .ok (.ireturn, 1) := by decide +kernel
theorem d_TS_state_62 : decode b_TS_state 62 = .ok (.aload_n 0, 1) := by decide +kernel
theorem d_TS_state_63 : decode b_TS_state 63 = .ok (.getfield 10, 3) := by decide +kernel
theorem d_TS_state_66 : decode b_TS_state 66 = .ok (.getfield 240, 3) := by decide +kernel
theorem d_TS_state_69 : decode b_TS_state 69 = .ok (.ireturn, 1) := by decide +kernel
theorem d_TS_state_70 : decode b_TS_state 70 = .ok (.aload_n 0, 1) := by decide +kernel
theorem d_TS_state_71 : decode b_TS_state 71 = .ok (.getfield 10, 3) := by decide +kernel
theorem d_TS_state_74 : decode b_TS_state 74 = .ok (.getfield 85, 3) := by decide +kernel
theorem d_TS_state_77 : decode b_TS_state 77 = .ok (.ifCond .eq 7, 3) := by decide +kernel
theorem d_TS_state_84 : decode b_TS_state 84 = .ok (.iconst 0, 1) := by decide +kernel
theorem d_TS_state_85 : decode b_TS_state 85 = .ok (.ireturn, 1) := by decide +kernel
theorem d_TS_state_86 : decode b_TS_state 86 = .ok (.aload_n 0, 1) := by decide +kernel
theorem d_TS_state_87 : decode b_TS_state 87 = .ok (.getfield 78, 3) := by decide +kernel
theorem d_TS_state_90 : decode b_TS_state 90 = .ok (.ireturn, 1) := by decide +kernel
theorem d_TS_state_91 : decode b_TS_state 91 = .ok (.new 150, 3) := by decide +kernel
theorem d_TS_state_94 : decode b_TS_state 94 = .ok (.dup, 1) := by decide +kernel
theorem d_TS_state_95 : decode b_TS_state 95 = .ok (.invokespecial 152, 3) := by decide +kernel
theorem d_TS_state_98 : decode b_TS_state 98 = .ok (.athrow, 1) := by decide +kernel
theorem d_TS_stopAfter_0 : decode b_TS_stopAfter 0 = .ok (.iload_n 1, 1) := by decide +kernel
theorem d_TS_stopAfter_1 : decode b_TS_stopAfter 1 = .ok (.bipush 100, 2) := by decide +kernel
theorem d_TS_stopAfter_10 : decode b_TS_stopAfter 10 = .ok (.invokespecial 152, 3) := by decide +kernel
theorem d_TS_stopAfter_13 : decode b_TS_stopAfter 13 = .ok (.athrow, 1) := by decide +kernel
theorem d_TS_stopAfter_3 : decode b_TS_stopAfter 3 = .ok (.if_icmp .le 11, 3) := by decide +kernel
theorem d_TS_stopAfter_6 : decode b_TS_stopAfter 6 = .ok (.new 150, 3) := by decide +kernel
theorem d_TS_stopAfter_9 : decode b_TS_stopAfter 9 = .ok (.dup, 1) := by decide +kernel
theorem d_TS_verify_0 : decode b_TS_verify 0 = .ok (.aload_n 0, 1) := by decide +kernel
theorem d_TS_verify_1 : decode b_TS_verify 1 = .ok (.invokevirtual 99, 3) := by decide +kernel
theorem d_TS_verify_12 : decode b_TS_verify 12 = .ok (.new 146, 3) := by decide +kernel
theorem d_TS_verify_15 : decode b_TS_verify 15 = .ok (.dup, 1) := by decide +kernel
theorem d_TS_verify_16 : decode b_TS_verify 16 = .ok (.invokespecial 148, 3) := by decide +kernel
theorem d_TS_verify_19 : decode b_TS_verify 19 = .ok (.athrow, 1) := by decide +kernel
theorem d_TS_verify_4 : decode b_TS_verify 4 = .ok (.aload_n 0, 1) := by decide +kernel
theorem d_TS_verify_5 : decode b_TS_verify 5 = .ok (.iload_n 1, 1) := by decide +kernel
theorem d_TS_verify_6 : decode b_TS_verify 6 = .ok (.invokevirtual 142, 3) := by decide +kernel
theorem d_TS_verify_9 : decode b_TS_verify 9 = .ok (.ifCond .ne 11, 3) := by decide +kernel
