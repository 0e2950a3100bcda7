theorem d_Mo_isOfFile_4 : decode b_Mo_isOfFile 4 = .ok (.if_icmp .ge 40, 3) := by decide +kernel
theorem d_Mo_isOfFile_41 : decode b_Mo_isOfFile 41 = .ok (.goto (-39), 3) := by decide +kernel
theorem d_Mo_isOfFile_44 : decode b_Mo_isOfFile 44 = .ok (.iconst 0, 1) := by decide +kernel
theorem d_Mo_isOfFile_45 : decode b_Mo_isOfFile 45 = .ok (.ireturn, 1) := by decide +kernel
theorem d_Mo_isOfFile_7 : decode b_Mo_isOfFile 7 = .ok (.aload_n 0, 1) := by decide +kernel
theorem d_Mo_isOfFile_8 : decode b_Mo_isOfFile 8 = .ok (.iload_n 2, 1) := by decide +kernel
theorem d_Mo_isOfFile_9 : decode b_Mo_isOfFile 9 = .ok (.invokevirtual 172, 3) := by decide +kernel
theorem d_Mo_look_0 : decode b_Mo_look 0 = .ok (.iload_n 1, 1) := by decide +kernel
theorem d_Mo_look_1 : decode b_Mo_look 1 = .ok (.ifCond .lt 36, 3) := by decide +kernel
theorem d_Mo_look_10 : decode b_Mo_look 10 = .ok (.iload_n 1, 1) := by decide +kernel
theorem d_Mo_look_11 : decode b_Mo_look 11 = .ok (.iconst 2, 1) := by decide +kernel
theorem d_Mo_look_12 : decode b_Mo_look 12 = .ok (.iload_n 1, 1) := by decide +kernel
theorem d_Mo_look_13 : decode b_Mo_look 13 = .ok (.imul, 1) := by decide +kernel
theorem d_Mo_look_14 : decode b_Mo_look 14 = .ok (.invokevirtual 168, 3) := by decide +kernel
theorem d_Mo_look_17 : decode b_Mo_look 17 = .ok (.ifCond .ne 16, 3) := by decide +kernel
theorem d_Mo_look_20 : decode b_Mo_look 20 = .ok (.aload_n 0, 1) := by decide +kernel
theorem d_Mo_look_21 : decode b_Mo_look 21 = .ok (.iload_n 1, 1) := by decide +kernel
theorem d_Mo_look_22 : decode b_Mo_look 22 = .ok (.iconst 2, 1) := by decide +kernel
theorem d_Mo_look_23 : decode b_Mo_look 23 = .ok (.iload_n 1, 1) := by decide +kernel
theorem d_Mo_look_24 : decode b_Mo_look 24 = .ok (.imul, 1) := by decide +kernel
theorem d_Mo_look_25 : decode b_Mo_look 25 = .ok (.iconst 1, 1) := by decide +kernel
theorem d_Mo_look_26 : decode b_Mo_look 26 = .ok (.iadd, 1) := by decide +kernel
theorem d_Mo_look_27 : decode b_Mo_look 27 = .ok (.invokevirtual 168, 3) := by decide +kernel
theorem d_Mo_look_30 : decode b_Mo_look 30 = .ok (.ifCond .eq 7, 3) := by decide +kernel
theorem d_Mo_look_37 : decode b_Mo_look 37 = .ok (.iconst 0, 1) := by decide +kernel
theorem d_Mo_look_38 : decode b_Mo_look 38 = .ok (.ireturn, 1) := by decide +kernel
theorem d_Mo_look_4 : decode b_Mo_look 4 = .ok (.iload_n 1, 1) := by decide +kernel
theorem d_Mo_look_5 : decode b_Mo_look 5 = .ok (.iconst 4, 1) := by decide +kernel
theorem d_Mo_look_6 : decode b_Mo_look 6 = .ok (.if_icmp .ge 31, 3) := by decide +kernel
theorem d_Mo_look_9 : decode b_Mo_look 9 = .ok (.aload_n 0, 1) := by decide +kernel
theorem d_Mo_taken_0 : decode b_Mo_taken 0 = .ok (.iconst 0, 1) := by decide +kernel
theorem d_Mo_taken_1 : decode b_Mo_taken 1 = .ok (.istore_n 1, 1) := by decide +kernel
theorem d_Mo_taken_10 : decode b_Mo_taken 10 = .ok (.iload_n 2, 1) := by decide +kernel
theorem d_Mo_taken_11 : decode b_Mo_taken 11 = .ok (.invokevirtual 172, 3) := by decide +kernel
theorem d_Mo_taken_14 : decode b_Mo_taken 14 = .ok (.ifCond .ne 6, 3) := by decide +kernel
theorem d_Mo_taken_17 : decode b_Mo_taken 17 = .ok (.goto 30, 3) := by decide +kernel
theorem d_Mo_taken_2 : decode b_Mo_taken 2 = .ok (.iconst 0, 1) := by decide +kernel
theorem d_Mo_taken_3 : decode b_Mo_taken 3 = .ok (.istore_n 2, 1) := by decide +kernel
theorem d_Mo_taken_4 : decode b_Mo_taken 4 = .ok (.iload_n 2, 1) := by decide +kernel
theorem d_Mo_taken_47 : decode b_Mo_taken 47 = .ok (.iinc 2 1, 3) := by decide +kernel
theorem d_Mo_taken_5 : decode b_Mo_taken 5 = .ok (.iconst 4, 1) := by decide +kernel
theorem d_Mo_taken_50 : decode b_Mo_taken 50 = .ok (.goto (-46), 3) := by decide +kernel
theorem d_Mo_taken_53 : decode b_Mo_taken 53 = .ok (.iload_n 1, 1) := by decide +kernel
theorem d_Mo_taken_54 : decode b_Mo_taken 54 = .ok (.ireturn, 1) := by decide +kernel
theorem d_Mo_taken_6 : decode b_Mo_taken 6 = .ok (.if_icmp .ge 47, 3) := by decide +kernel
theorem d_Mo_taken_9 : decode b_Mo_taken 9 = .ok (.aload_n 0, 1) := by decide +kernel
theorem d_Mo_thrown_0 : decode b_Mo_thrown 0 = .ok (.aload_n 0, 1) := by decide +kernel
theorem d_Mo_thrown_1 : decode b_Mo_thrown 1 = .ok (.getfield 87, 3) := by decide +kernel
theorem d_Mo_thrown_4 : decode b_Mo_thrown 4 = .ok (.ireturn, 1) := by decide +kernel
