theorem d_Mo_put_72 : decode b_Mo_put 72 = .ok (.iconst 1, 1) := by decide +kernel
theorem d_Mo_put_73 : decode b_Mo_put 73 = .ok (.ireturn, 1) := by decide +kernel
theorem d_Mo_read_0 : decode b_Mo_read 0 = .ok (.aload_n 0, 1) := by decide +kernel
theorem d_Mo_read_1 : decode b_Mo_read 1 = .ok (.aload_n 0, 1) := by decide +kernel
theorem d_Mo_read_10 : decode b_Mo_read 10 = .ok (.goto 35, 3) := by decide +kernel
theorem d_Mo_read_2 : decode b_Mo_read 2 = .ok (.iload_n 1, 1) := by decide +kernel
theorem d_Mo_read_3 : decode b_Mo_read 3 = .ok (.invokevirtual 172, 3) := by decide +kernel
theorem d_Mo_read_45 : decode b_Mo_read 45 = .ok (.putfield 87, 3) := by decide +kernel
theorem d_Mo_read_48 : decode b_Mo_read 48 = .ok (.aload_n 0, 1) := by decide +kernel
theorem d_Mo_read_49 : decode b_Mo_read 49 = .ok (.getfield 87, 3) := by decide +kernel
theorem d_Mo_read_52 : decode b_Mo_read 52 = .ok (.ifCond .le 5, 3) := by decide +kernel
theorem d_Mo_read_55 : decode b_Mo_read 55 = .ok (.iconst 0, 1) := by decide +kernel
theorem d_Mo_read_56 : decode b_Mo_read 56 = .ok (.ireturn, 1) := by decide +kernel
theorem d_Mo_read_6 : decode b_Mo_read 6 = .ok (.ifCond .ne 7, 3) := by decide +kernel
theorem d_Mo_read_9 : decode b_Mo_read 9 = .ok (.iconst 1, 1) := by decide +kernel
theorem d_Mo_rewrap_0 : decode b_Mo_rewrap 0 = .ok (.aload_n 0, 1) := by decide +kernel
theorem d_Mo_rewrap_1 : decode b_Mo_rewrap 1 = .ok (.aload_n 0, 1) := by decide +kernel
theorem d_Mo_rewrap_10 : decode b_Mo_rewrap 10 = .ok (.goto 15, 3) := by decide +kernel
theorem d_Mo_rewrap_2 : decode b_Mo_rewrap 2 = .ok (.iload_n 1, 1) := by decide +kernel
theorem d_Mo_rewrap_25 : decode b_Mo_rewrap 25 = .ok (.putfield 87, 3) := by decide +kernel
theorem d_Mo_rewrap_28 : decode b_Mo_rewrap 28 = .ok (.aload_n 0, 1) := by decide +kernel
theorem d_Mo_rewrap_29 : decode b_Mo_rewrap 29 = .ok (.getfield 87, 3) := by decide +kernel
theorem d_Mo_rewrap_3 : decode b_Mo_rewrap 3 = .ok (.invokevirtual 172, 3) := by decide +kernel
theorem d_Mo_rewrap_32 : decode b_Mo_rewrap 32 = .ok (.ifCond .gt 14, 3) := by decide +kernel
theorem d_Mo_rewrap_46 : decode b_Mo_rewrap 46 = .ok (.iconst 0, 1) := by decide +kernel
theorem d_Mo_rewrap_47 : decode b_Mo_rewrap 47 = .ok (.ireturn, 1) := by decide +kernel
theorem d_Mo_rewrap_6 : decode b_Mo_rewrap 6 = .ok (.ifCond .ne 7, 3) := by decide +kernel
theorem d_Mo_rewrap_9 : decode b_Mo_rewrap 9 = .ok (.iconst 1, 1) := by decide +kernel
theorem d_Mo_scrub_0 : decode b_Mo_scrub 0 = .ok (.aload_n 0, 1) := by decide +kernel
theorem d_Mo_scrub_1 : decode b_Mo_scrub 1 = .ok (.iload_n 1, 1) := by decide +kernel
theorem d_Mo_scrub_11 : decode b_Mo_scrub 11 = .ok (.iconst 1, 1) := by decide +kernel
theorem d_Mo_scrub_12 : decode b_Mo_scrub 12 = .ok (.goto 15, 3) := by decide +kernel
theorem d_Mo_scrub_15 : decode b_Mo_scrub 15 = .ok (.aload_n 0, 1) := by decide +kernel
theorem d_Mo_scrub_16 : decode b_Mo_scrub 16 = .ok (.getfield 180, 3) := by decide +kernel
theorem d_Mo_scrub_19 : decode b_Mo_scrub 19 = .ok (.ifCond .eq 7, 3) := by decide +kernel
theorem d_Mo_scrub_2 : decode b_Mo_scrub 2 = .ok (.ifCond .lt 9, 3) := by decide +kernel
theorem d_Mo_scrub_26 : decode b_Mo_scrub 26 = .ok (.iconst 0, 1) := by decide +kernel
theorem d_Mo_scrub_27 : decode b_Mo_scrub 27 = .ok (.putfield 87, 3) := by decide +kernel
theorem d_Mo_scrub_30 : decode b_Mo_scrub 30 = .ok (.aload_n 0, 1) := by decide +kernel
theorem d_Mo_scrub_31 : decode b_Mo_scrub 31 = .ok (.getfield 87, 3) := by decide +kernel
theorem d_Mo_scrub_34 : decode b_Mo_scrub 34 = .ok (.ifCond .le 5, 3) := by decide +kernel
theorem d_Mo_scrub_37 : decode b_Mo_scrub 37 = .ok (.iconst 0, 1) := by decide +kernel
theorem d_Mo_scrub_38 : decode b_Mo_scrub 38 = .ok (.ireturn, 1) := by decide +kernel
theorem d_Mo_scrub_39 : decode b_Mo_scrub 39 = .ok (.aload_n 0, 1) := by decide +kernel
theorem d_Mo_scrub_40 : decode b_Mo_scrub 40 = .ok (.iload_n 1, 1) := by decide +kernel
theorem d_Mo_scrub_41 : decode b_Mo_scrub 41 = .ok (.invokevirtual 280, 3) := by decide +kernel
theorem d_Mo_scrub_44 : decode b_Mo_scrub 44 = .ok (.ifCond .ne 5, 3) := by decide +kernel
theorem d_Mo_scrub_47 : decode b_Mo_scrub 47 = .ok (.iconst (-1), 1) := by decide +kernel
theorem d_Mo_scrub_48 : decode b_Mo_scrub 48 = .ok (.ireturn, 1) := by decide +kernel
theorem d_Mo_scrub_5 : decode b_Mo_scrub 5 = .ok (.iload_n 1, 1) := by decide +kernel
theorem d_Mo_scrub_6 : decode b_Mo_scrub 6 = .ok (.bipush 6, 2) := by decide +kernel
theorem d_Mo_scrub_8 : decode b_Mo_scrub 8 = .ok (.if_icmp .lt 7, 3) := by decide +kernel
theorem d_Mo_spoil_0 : decode b_Mo_spoil 0 = .ok (.aload_n 0, 1) := by decide +kernel
theorem d_Mo_spoil_1 : decode b_Mo_spoil 1 = .ok (.iload_n 1, 1) := by decide +kernel
theorem d_Mo_spoil_12 : decode b_Mo_spoil 12 = .ok (.iconst 1, 1) := by decide +kernel
theorem d_Mo_spoil_13 : decode b_Mo_spoil 13 = .ok (.putfield 87, 3) := by decide +kernel
theorem d_Mo_spoil_16 : decode b_Mo_spoil 16 = .ok (.aload_n 0, 1) := by decide +kernel
theorem d_Mo_spoil_17 : decode b_Mo_spoil 17 = .ok (.getfield 87, 3) := by decide +kernel
theorem d_Mo_spoil_2 : decode b_Mo_spoil 2 = .ok (.invokestatic 286, 3) := by decide +kernel
theorem d_Mo_spoil_20 : decode b_Mo_spoil 20 = .ok (.ifCond .ne 10, 3) := by decide +kernel
