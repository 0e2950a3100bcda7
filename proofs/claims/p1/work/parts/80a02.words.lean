theorem d_Lw_file_1 : decode b_Lw_file 1 = .ok (.iconst 0, 1) := by decide +kernel
theorem d_Lw_file_13 : decode b_Lw_file 13 = .ok (.astore 4, 2) := by decide +kernel
theorem d_Lw_file_15 : decode b_Lw_file 15 = .ok (.iconst 1, 1) := by decide +kernel
theorem d_Lw_file_16 : decode b_Lw_file 16 = .ok (.ireturn, 1) := by decide +kernel
theorem d_Lw_file_2 : decode b_Lw_file 2 = .ok (.aload_n 0, 1) := by decide +kernel
theorem d_Lw_file_3 : decode b_Lw_file 3 = .ok (.iload_n 1, 1) := by decide +kernel
theorem d_Lw_file_4 : decode b_Lw_file 4 = .ok (.iload_n 2, 1) := by decide +kernel
theorem d_Lw_file_5 : decode b_Lw_file 5 = .ok (.invokevirtual 67, 3) := by decide +kernel
theorem d_Lw_finish_0 : decode b_Lw_finish 0 = .ok (.aload_n 1, 1) := by decide +kernel
theorem d_Lw_finish_1 : decode b_Lw_finish 1 = .ok (.iconst 0, 1) := by decide +kernel
theorem d_Lw_finish_11 : decode b_Lw_finish 11 = .ok (.astore_n 2, 1) := by decide +kernel
theorem d_Lw_finish_12 : decode b_Lw_finish 12 = .ok (.iconst 1, 1) := by decide +kernel
theorem d_Lw_finish_13 : decode b_Lw_finish 13 = .ok (.ireturn, 1) := by decide +kernel
theorem d_Lw_finish_2 : decode b_Lw_finish 2 = .ok (.aload_n 0, 1) := by decide +kernel
theorem d_Lw_finish_3 : decode b_Lw_finish 3 = .ok (.invokevirtual 22, 3) := by decide +kernel
theorem d_Lw_output_0 : decode b_Lw_output 0 = .ok (.aload_n 2, 1) := by decide +kernel
theorem d_Lw_output_1 : decode b_Lw_output 1 = .ok (.iconst 0, 1) := by decide +kernel
theorem d_Lw_output_12 : decode b_Lw_output 12 = .ok (.astore_n 3, 1) := by decide +kernel
theorem d_Lw_output_13 : decode b_Lw_output 13 = .ok (.iconst 1, 1) := by decide +kernel
theorem d_Lw_output_14 : decode b_Lw_output 14 = .ok (.ireturn, 1) := by decide +kernel
theorem d_Lw_output_2 : decode b_Lw_output 2 = .ok (.aload_n 0, 1) := by decide +kernel
theorem d_Lw_output_3 : decode b_Lw_output 3 = .ok (.iload_n 1, 1) := by decide +kernel
theorem d_Lw_output_4 : decode b_Lw_output 4 = .ok (.invokevirtual 35, 3) := by decide +kernel
theorem d_Lw_read_0 : decode b_Lw_read 0 = .ok (.aload 4, 2) := by decide +kernel
theorem d_Lw_read_15 : decode b_Lw_read 15 = .ok (.astore 5, 2) := by decide +kernel
theorem d_Lw_read_17 : decode b_Lw_read 17 = .ok (.iconst 1, 1) := by decide +kernel
theorem d_Lw_read_18 : decode b_Lw_read 18 = .ok (.ireturn, 1) := by decide +kernel
theorem d_Lw_read_2 : decode b_Lw_read 2 = .ok (.iconst 0, 1) := by decide +kernel
theorem d_Lw_read_3 : decode b_Lw_read 3 = .ok (.aload_n 0, 1) := by decide +kernel
theorem d_Lw_read_4 : decode b_Lw_read 4 = .ok (.iload_n 1, 1) := by decide +kernel
theorem d_Lw_read_5 : decode b_Lw_read 5 = .ok (.iload_n 2, 1) := by decide +kernel
theorem d_Lw_read_6 : decode b_Lw_read 6 = .ok (.iload_n 3, 1) := by decide +kernel
theorem d_Lw_read_7 : decode b_Lw_read 7 = .ok (.invokevirtual 25, 3) := by decide +kernel
theorem d_Lw_rewrap_0 : decode b_Lw_rewrap 0 = .ok (.aload_n 2, 1) := by decide +kernel
theorem d_Lw_rewrap_1 : decode b_Lw_rewrap 1 = .ok (.iconst 0, 1) := by decide +kernel
theorem d_Lw_rewrap_19 : decode b_Lw_rewrap 19 = .ok (.astore_n 3, 1) := by decide +kernel
theorem d_Lw_rewrap_2 : decode b_Lw_rewrap 2 = .ok (.aload_n 0, 1) := by decide +kernel
theorem d_Lw_rewrap_20 : decode b_Lw_rewrap 20 = .ok (.iconst 1, 1) := by decide +kernel
theorem d_Lw_rewrap_21 : decode b_Lw_rewrap 21 = .ok (.ireturn, 1) := by decide +kernel
theorem d_Lw_rewrap_3 : decode b_Lw_rewrap 3 = .ok (.iload_n 1, 1) := by decide +kernel
theorem d_Lw_rewrap_4 : decode b_Lw_rewrap 4 = .ok (.invokevirtual 43, 3) := by decide +kernel
theorem d_Lw_scrub_0 : decode b_Lw_scrub 0 = .ok (.aload_n 2, 1) := by decide +kernel
theorem d_Lw_scrub_1 : decode b_Lw_scrub 1 = .ok (.iconst 0, 1) := by decide +kernel
theorem d_Lw_scrub_12 : decode b_Lw_scrub 12 = .ok (.astore_n 3, 1) := by decide +kernel
theorem d_Lw_scrub_13 : decode b_Lw_scrub 13 = .ok (.iconst 1, 1) := by decide +kernel
theorem d_Lw_scrub_14 : decode b_Lw_scrub 14 = .ok (.ireturn, 1) := by decide +kernel
theorem d_Lw_scrub_18 : decode b_Lw_scrub 18 = .ok (.iconst 0, 1) := by decide +kernel
theorem d_Lw_scrub_19 : decode b_Lw_scrub 19 = .ok (.ireturn, 1) := by decide +kernel
theorem d_Lw_scrub_2 : decode b_Lw_scrub 2 = .ok (.aload_n 0, 1) := by decide +kernel
theorem d_Lw_scrub_3 : decode b_Lw_scrub 3 = .ok (.iload_n 1, 1) := by decide +kernel
theorem d_Lw_scrub_4 : decode b_Lw_scrub 4 = .ok (.invokevirtual 54, 3) := by decide +kernel
theorem d_Lw_scrub_7 : decode b_Lw_scrub 7 = .ok (.i2l, 1) := by decide +kernel
theorem d_Lw_scrub_8 : decode b_Lw_scrub 8 = .ok (.lastore, 1) := by decide +kernel
theorem d_Lw_scrub_9 : decode b_Lw_scrub 9 = .ok (.goto 9, 3) := by decide +kernel
theorem d_Lw_spoil_0 : decode b_Lw_spoil 0 = .ok (.aload_n 0, 1) := by decide +kernel
theorem d_Lw_spoil_1 : decode b_Lw_spoil 1 = .ok (.iload_n 1, 1) := by decide +kernel
theorem d_Lw_spoil_10 : decode b_Lw_spoil 10 = .ok (.ireturn, 1) := by decide +kernel
theorem d_Lw_spoil_11 : decode b_Lw_spoil 11 = .ok (.iconst 0, 1) := by decide +kernel
theorem d_Lw_spoil_12 : decode b_Lw_spoil 12 = .ok (.ireturn, 1) := by decide +kernel
theorem d_Lw_spoil_2 : decode b_Lw_spoil 2 = .ok (.invokevirtual 61, 3) := by decide +kernel
