theorem d_Lw_spoil_5 : decode b_Lw_spoil 5 = .ok (.goto 6, 3) := by decide +kernel
theorem d_Lw_spoil_8 : decode b_Lw_spoil 8 = .ok (.astore_n 2, 1) := by decide +kernel
theorem d_Lw_spoil_9 : decode b_Lw_spoil 9 = .ok (.iconst 1, 1) := by decide +kernel
theorem d_Lw_state_0 : decode b_Lw_state 0 = .ok (.aload_n 2, 1) := by decide +kernel
theorem d_Lw_state_1 : decode b_Lw_state 1 = .ok (.iconst 0, 1) := by decide +kernel
theorem d_Lw_state_12 : decode b_Lw_state 12 = .ok (.astore_n 3, 1) := by decide +kernel
theorem d_Lw_state_13 : decode b_Lw_state 13 = .ok (.iconst 1, 1) := by decide +kernel
theorem d_Lw_state_14 : decode b_Lw_state 14 = .ok (.ireturn, 1) := by decide +kernel
theorem d_Lw_state_15 : decode b_Lw_state 15 = .ok (.iconst 0, 1) := by decide +kernel
theorem d_Lw_state_16 : decode b_Lw_state 16 = .ok (.ireturn, 1) := by decide +kernel
theorem d_Lw_state_2 : decode b_Lw_state 2 = .ok (.aload_n 0, 1) := by decide +kernel
theorem d_Lw_state_3 : decode b_Lw_state 3 = .ok (.iload_n 1, 1) := by decide +kernel
theorem d_Lw_state_4 : decode b_Lw_state 4 = .ok (.invokevirtual 74, 3) := by decide +kernel
theorem d_Lw_state_7 : decode b_Lw_state 7 = .ok (.i2l, 1) := by decide +kernel
theorem d_Lw_state_8 : decode b_Lw_state 8 = .ok (.lastore, 1) := by decide +kernel
theorem d_Lw_state_9 : decode b_Lw_state 9 = .ok (.goto 6, 3) := by decide +kernel
theorem d_Lw_stopAfter_0 : decode b_Lw_stopAfter 0 = .ok (.aload_n 0, 1) := by decide +kernel
theorem d_Lw_stopAfter_1 : decode b_Lw_stopAfter 1 = .ok (.iload_n 1, 1) := by decide +kernel
theorem d_Lw_stopAfter_10 : decode b_Lw_stopAfter 10 = .ok (.ireturn, 1) := by decide +kernel
theorem d_Lw_stopAfter_11 : decode b_Lw_stopAfter 11 = .ok (.iconst 0, 1) := by decide +kernel
theorem d_Lw_stopAfter_12 : decode b_Lw_stopAfter 12 = .ok (.ireturn, 1) := by decide +kernel
theorem d_Lw_stopAfter_2 : decode b_Lw_stopAfter 2 = .ok (.invokevirtual 64, 3) := by decide +kernel
theorem d_Lw_stopAfter_5 : decode b_Lw_stopAfter 5 = .ok (.goto 6, 3) := by decide +kernel
theorem d_Lw_stopAfter_8 : decode b_Lw_stopAfter 8 = .ok (.astore_n 2, 1) := by decide +kernel
theorem d_Lw_stopAfter_9 : decode b_Lw_stopAfter 9 = .ok (.iconst 1, 1) := by decide +kernel
theorem d_Lw_verify_0 : decode b_Lw_verify 0 = .ok (.aload_n 2, 1) := by decide +kernel
theorem d_Lw_verify_1 : decode b_Lw_verify 1 = .ok (.iconst 0, 1) := by decide +kernel
theorem d_Lw_verify_12 : decode b_Lw_verify 12 = .ok (.astore_n 3, 1) := by decide +kernel
theorem d_Lw_verify_13 : decode b_Lw_verify 13 = .ok (.iconst 1, 1) := by decide +kernel
theorem d_Lw_verify_14 : decode b_Lw_verify 14 = .ok (.ireturn, 1) := by decide +kernel
theorem d_Lw_verify_2 : decode b_Lw_verify 2 = .ok (.aload_n 0, 1) := by decide +kernel
theorem d_Lw_verify_3 : decode b_Lw_verify 3 = .ok (.iload_n 1, 1) := by decide +kernel
theorem d_Lw_verify_4 : decode b_Lw_verify 4 = .ok (.invokevirtual 40, 3) := by decide +kernel
