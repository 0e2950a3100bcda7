theorem d_TS_delete_6 : decode b_TS_delete 6 = .ok (.invokevirtual 142, 3) := by decide +kernel
theorem d_TS_delete_9 : decode b_TS_delete 9 = .ok (.ifCond .ne 11, 3) := by decide +kernel
theorem d_TS_dropEpoch_0 : decode b_TS_dropEpoch 0 = .ok (.aload_n 0, 1) := by decide +kernel
theorem d_TS_dropEpoch_1 : decode b_TS_dropEpoch 1 = .ok (.getfield 19, 3) := by decide +kernel
theorem d_TS_dropEpoch_22 : decode b_TS_dropEpoch 22 = .ok (.new 150, 3) := by decide +kernel
theorem d_TS_dropEpoch_25 : decode b_TS_dropEpoch 25 = .ok (.dup, 1) := by decide +kernel
theorem d_TS_dropEpoch_26 : decode b_TS_dropEpoch 26 = .ok (.invokespecial 152, 3) := by decide +kernel
theorem d_TS_dropEpoch_29 : decode b_TS_dropEpoch 29 = .ok (.athrow, 1) := by decide +kernel
theorem d_TS_dropEpoch_4 : decode b_TS_dropEpoch 4 = .ok (.iload_n 1, 1) := by decide +kernel
theorem d_TS_dropEpoch_5 : decode b_TS_dropEpoch 5 = .ok (.invokevirtual 186, 3) := by decide +kernel
theorem d_TS_dropEpoch_8 : decode b_TS_dropEpoch 8 = .ok (.ifCond .eq 14, 3) := by decide +kernel
theorem d_TS_epoch_0 : decode b_TS_epoch 0 = .ok (.aload_n 0, 1) := by decide +kernel
theorem d_TS_epoch_1 : decode b_TS_epoch 1 = .ok (.getfield 78, 3) := by decide +kernel
theorem d_TS_epoch_31 : decode b_TS_epoch 31 = .ok (.new 89, 3) := by decide +kernel
theorem d_TS_epoch_34 : decode b_TS_epoch 34 = .ok (.dup, 1) := by decide +kernel
theorem d_TS_epoch_35 : decode b_TS_epoch 35 = .ok (.invokespecial 91, 3) := by decide +kernel
theorem d_TS_epoch_38 : decode b_TS_epoch 38 = .ok (.athrow, 1) := by decide +kernel
theorem d_TS_epoch_4 : decode b_TS_epoch 4 = .ok (.bipush 32, 2) := by decide +kernel
theorem d_TS_epoch_6 : decode b_TS_epoch 6 = .ok (.if_icmp .ne 25, 3) := by decide +kernel
theorem d_TS_file_0 : decode b_TS_file 0 = .ok (.aload_n 0, 1) := by decide +kernel
theorem d_TS_file_1 : decode b_TS_file 1 = .ok (.invokevirtual 99, 3) := by decide +kernel
theorem d_TS_file_12 : decode b_TS_file 12 = .ok (.new 146, 3) := by decide +kernel
theorem d_TS_file_15 : decode b_TS_file 15 = .ok (.dup, 1) := by decide +kernel
theorem d_TS_file_16 : decode b_TS_file 16 = .ok (.invokespecial 148, 3) := by decide +kernel
theorem d_TS_file_19 : decode b_TS_file 19 = .ok (.athrow, 1) := by decide +kernel
theorem d_TS_file_4 : decode b_TS_file 4 = .ok (.aload_n 0, 1) := by decide +kernel
theorem d_TS_file_5 : decode b_TS_file 5 = .ok (.iload_n 1, 1) := by decide +kernel
theorem d_TS_file_6 : decode b_TS_file 6 = .ok (.invokevirtual 142, 3) := by decide +kernel
theorem d_TS_file_9 : decode b_TS_file 9 = .ok (.ifCond .ne 11, 3) := by decide +kernel
theorem d_TS_finish_0 : decode b_TS_finish 0 = .ok (.aload_n 0, 1) := by decide +kernel
theorem d_TS_finish_1 : decode b_TS_finish 1 = .ok (.getfield 65, 3) := by decide +kernel
theorem d_TS_finish_21 : decode b_TS_finish 21 = .ok (.new 89, 3) := by decide +kernel
theorem d_TS_finish_24 : decode b_TS_finish 24 = .ok (.dup, 1) := by decide +kernel
theorem d_TS_finish_25 : decode b_TS_finish 25 = .ok (.invokespecial 91, 3) := by decide +kernel
theorem d_TS_finish_28 : decode b_TS_finish 28 = .ok (.athrow, 1) := by decide +kernel
theorem d_TS_finish_4 : decode b_TS_finish 4 = .ok (.getfield 106, 3) := by decide +kernel
theorem d_TS_finish_7 : decode b_TS_finish 7 = .ok (.iconst (-1), 1) := by decide +kernel
theorem d_TS_finish_8 : decode b_TS_finish 8 = .ok (.if_icmp .eq 13, 3) := by decide +kernel
theorem d_TS_isByte_0 : decode b_TS_isByte 0 = .ok (.iload_n 0, 1) := by decide +kernel
theorem d_TS_isByte_1 : decode b_TS_isByte 1 = .ok (.ifCond .lt 23, 3) := by decide +kernel
theorem d_TS_isByte_10 : decode b_TS_isByte 10 = .ok (.iload_n 1, 1) := by decide +kernel
theorem d_TS_isByte_11 : decode b_TS_isByte 11 = .ok (.ifCond .lt 13, 3) := by decide +kernel
theorem d_TS_isByte_14 : decode b_TS_isByte 14 = .ok (.iload_n 1, 1) := by decide +kernel
theorem d_TS_isByte_15 : decode b_TS_isByte 15 = .ok (.bipush 64, 2) := by decide +kernel
theorem d_TS_isByte_17 : decode b_TS_isByte 17 = .ok (.if_icmp .ge 7, 3) := by decide +kernel
theorem d_TS_isByte_20 : decode b_TS_isByte 20 = .ok (.iconst 1, 1) := by decide +kernel
theorem d_TS_isByte_21 : decode b_TS_isByte 21 = .ok (.goto 4, 3) := by decide +kernel
theorem d_TS_isByte_24 : decode b_TS_isByte 24 = .ok (.iconst 0, 1) := by decide +kernel
theorem d_TS_isByte_25 : decode b_TS_isByte 25 = .ok (.ireturn, 1) := by decide +kernel
theorem d_TS_isByte_4 : decode b_TS_isByte 4 = .ok (.iload_n 0, 1) := by decide +kernel
theorem d_TS_isByte_5 : decode b_TS_isByte 5 = .ok (.bipush 44, 2) := by decide +kernel
theorem d_TS_isByte_7 : decode b_TS_isByte 7 = .ok (.if_icmp .ge 17, 3) := by decide +kernel
theorem d_TS_output_0 : decode b_TS_output 0 = .ok (.iload_n 1, 1) := by decide +kernel
theorem d_TS_output_1 : decode b_TS_output 1 = .ok (.ifCond .lt 11, 3) := by decide +kernel
theorem d_TS_output_12 : decode b_TS_output 12 = .ok (.new 169, 3) := by decide +kernel
theorem d_TS_output_15 : decode b_TS_output 15 = .ok (.dup, 1) := by decide +kernel
theorem d_TS_output_16 : decode b_TS_output 16 = .ok (.invokespecial 171, 3) := by decide +kernel
theorem d_TS_output_19 : decode b_TS_output 19 = .ok (.athrow, 1) := by decide +kernel
theorem d_TS_output_4 : decode b_TS_output 4 = .ok (.iload_n 1, 1) := by decide +kernel
theorem d_TS_output_5 : decode b_TS_output 5 = .ok (.aload_n 0, 1) := by decide +kernel
