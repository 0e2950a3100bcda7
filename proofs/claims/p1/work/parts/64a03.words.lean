theorem d_TS_output_6 : decode b_TS_output 6 = .ok (.getfield 166, 3) := by decide +kernel
theorem d_TS_output_9 : decode b_TS_output 9 = .ok (.if_icmp .lt 11, 3) := by decide +kernel
theorem d_TS_read_0 : decode b_TS_read 0 = .ok (.aload_n 0, 1) := by decide +kernel
theorem d_TS_read_1 : decode b_TS_read 1 = .ok (.invokevirtual 99, 3) := by decide +kernel
theorem d_TS_read_12 : decode b_TS_read 12 = .ok (.new 146, 3) := by decide +kernel
theorem d_TS_read_15 : decode b_TS_read 15 = .ok (.dup, 1) := by decide +kernel
theorem d_TS_read_16 : decode b_TS_read 16 = .ok (.invokespecial 148, 3) := by decide +kernel
theorem d_TS_read_19 : decode b_TS_read 19 = .ok (.athrow, 1) := by decide +kernel
theorem d_TS_read_4 : decode b_TS_read 4 = .ok (.aload_n 0, 1) := by decide +kernel
theorem d_TS_read_5 : decode b_TS_read 5 = .ok (.iload_n 1, 1) := by decide +kernel
theorem d_TS_read_6 : decode b_TS_read 6 = .ok (.invokevirtual 142, 3) := by decide +kernel
theorem d_TS_read_9 : decode b_TS_read 9 = .ok (.ifCond .ne 11, 3) := by decide +kernel
theorem d_TS_rewrap_0 : decode b_TS_rewrap 0 = .ok (.aload_n 0, 1) := by decide +kernel
theorem d_TS_rewrap_1 : decode b_TS_rewrap 1 = .ok (.invokevirtual 99, 3) := by decide +kernel
theorem d_TS_rewrap_12 : decode b_TS_rewrap 12 = .ok (.new 146, 3) := by decide +kernel
theorem d_TS_rewrap_15 : decode b_TS_rewrap 15 = .ok (.dup, 1) := by decide +kernel
theorem d_TS_rewrap_16 : decode b_TS_rewrap 16 = .ok (.invokespecial 148, 3) := by decide +kernel
theorem d_TS_rewrap_19 : decode b_TS_rewrap 19 = .ok (.athrow, 1) := by decide +kernel
theorem d_TS_rewrap_4 : decode b_TS_rewrap 4 = .ok (.aload_n 0, 1) := by decide +kernel
theorem d_TS_rewrap_5 : decode b_TS_rewrap 5 = .ok (.iload_n 1, 1) := by decide +kernel
theorem d_TS_rewrap_6 : decode b_TS_rewrap 6 = .ok (.invokevirtual 142, 3) := by decide +kernel
theorem d_TS_rewrap_9 : decode b_TS_rewrap 9 = .ok (.ifCond .ne 11, 3) := by decide +kernel
theorem d_TS_scrub_0 : decode b_TS_scrub 0 = .ok (.iload_n 1, 1) := by decide +kernel
theorem d_TS_scrub_1 : decode b_TS_scrub 1 = .ok (.ifCond .lt 9, 3) := by decide +kernel
theorem d_TS_scrub_10 : decode b_TS_scrub 10 = .ok (.new 150, 3) := by decide +kernel
theorem d_TS_scrub_13 : decode b_TS_scrub 13 = .ok (.dup, 1) := by decide +kernel
theorem d_TS_scrub_14 : decode b_TS_scrub 14 = .ok (.invokespecial 152, 3) := by decide +kernel
theorem d_TS_scrub_17 : decode b_TS_scrub 17 = .ok (.athrow, 1) := by decide +kernel
theorem d_TS_scrub_18 : decode b_TS_scrub 18 = .ok (.aload_n 0, 1) := by decide +kernel
theorem d_TS_scrub_19 : decode b_TS_scrub 19 = .ok (.getfield 10, 3) := by decide +kernel
theorem d_TS_scrub_22 : decode b_TS_scrub 22 = .ok (.getfield 85, 3) := by decide +kernel
theorem d_TS_scrub_25 : decode b_TS_scrub 25 = .ok (.ifCond .eq 11, 3) := by decide +kernel
theorem d_TS_scrub_36 : decode b_TS_scrub 36 = .ok (.aload_n 0, 1) := by decide +kernel
theorem d_TS_scrub_37 : decode b_TS_scrub 37 = .ok (.invokevirtual 99, 3) := by decide +kernel
theorem d_TS_scrub_4 : decode b_TS_scrub 4 = .ok (.iload_n 1, 1) := by decide +kernel
theorem d_TS_scrub_40 : decode b_TS_scrub 40 = .ok (.aload_n 0, 1) := by decide +kernel
theorem d_TS_scrub_41 : decode b_TS_scrub 41 = .ok (.iload_n 1, 1) := by decide +kernel
theorem d_TS_scrub_42 : decode b_TS_scrub 42 = .ok (.invokevirtual 199, 3) := by decide +kernel
theorem d_TS_scrub_45 : decode b_TS_scrub 45 = .ok (.istore_n 2, 1) := by decide +kernel
theorem d_TS_scrub_46 : decode b_TS_scrub 46 = .ok (.iload_n 2, 1) := by decide +kernel
theorem d_TS_scrub_47 : decode b_TS_scrub 47 = .ok (.iconst (-1), 1) := by decide +kernel
theorem d_TS_scrub_48 : decode b_TS_scrub 48 = .ok (.if_icmp .ne 5, 3) := by decide +kernel
theorem d_TS_scrub_5 : decode b_TS_scrub 5 = .ok (.bipush 6, 2) := by decide +kernel
theorem d_TS_scrub_51 : decode b_TS_scrub 51 = .ok (.iconst (-1), 1) := by decide +kernel
theorem d_TS_scrub_52 : decode b_TS_scrub 52 = .ok (.ireturn, 1) := by decide +kernel
theorem d_TS_scrub_7 : decode b_TS_scrub 7 = .ok (.if_icmp .lt 11, 3) := by decide +kernel
theorem d_TS_spoil_0 : decode b_TS_spoil 0 = .ok (.iload_n 1, 1) := by decide +kernel
theorem d_TS_spoil_1 : decode b_TS_spoil 1 = .ok (.iconst 0, 1) := by decide +kernel
theorem d_TS_spoil_11 : decode b_TS_spoil 11 = .ok (.dup, 1) := by decide +kernel
theorem d_TS_spoil_12 : decode b_TS_spoil 12 = .ok (.invokespecial 152, 3) := by decide +kernel
theorem d_TS_spoil_15 : decode b_TS_spoil 15 = .ok (.athrow, 1) := by decide +kernel
theorem d_TS_spoil_2 : decode b_TS_spoil 2 = .ok (.invokestatic 211, 3) := by decide +kernel
theorem d_TS_spoil_5 : decode b_TS_spoil 5 = .ok (.ifCond .ne 11, 3) := by decide +kernel
theorem d_TS_spoil_8 : decode b_TS_spoil 8 = .ok (.new 150, 3) := by decide +kernel
theorem d_TS_state_0 : decode b_TS_state 0 = .ok (.aload_n 0, 1) := by decide +kernel
theorem d_TS_state_1 : decode b_TS_state 1 = .ok (.invokevirtual 99, 3) := by decide +kernel
theorem d_TS_state_4 : decode b_TS_state 4 = .ok (.iload_n 1, 1) := by decide +kernel
theorem d_TS_state_44 : decode b_TS_state 44 = .ok (.aload_n 0, 1) := by decide +kernel
theorem d_TS_state_45 : decode b_TS_state 45 = .ok (.invokevirtual 231, 3) := by decide +kernel
theorem d_TS_state_48 : decode b_TS_state 48 = .ok (.ireturn, 1) := by decide +kernel
