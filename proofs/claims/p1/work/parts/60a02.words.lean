theorem d_TS_exists_14 : decode b_TS_exists 14 = .ok (.aaload, 1) := by decide +kernel
theorem d_TS_exists_15 : decode b_TS_exists 15 = .ok (.getfield 246, 3) := by decide +kernel
theorem d_TS_exists_18 : decode b_TS_exists 18 = .ok (.ifCond .eq 7, 3) := by decide +kernel
theorem d_TS_exists_25 : decode b_TS_exists 25 = .ok (.iconst 0, 1) := by decide +kernel
theorem d_TS_exists_26 : decode b_TS_exists 26 = .ok (.ireturn, 1) := by decide +kernel
theorem d_TS_exists_4 : decode b_TS_exists 4 = .ok (.iload_n 1, 1) := by decide +kernel
theorem d_TS_exists_5 : decode b_TS_exists 5 = .ok (.iconst 4, 1) := by decide +kernel
theorem d_TS_exists_6 : decode b_TS_exists 6 = .ok (.if_icmp .ge 19, 3) := by decide +kernel
theorem d_TS_exists_9 : decode b_TS_exists 9 = .ok (.aload_n 0, 1) := by decide +kernel
theorem d_TS_leastMissing_0 : decode b_TS_leastMissing 0 = .ok (.iconst 0, 1) := by decide +kernel
theorem d_TS_leastMissing_1 : decode b_TS_leastMissing 1 = .ok (.istore_n 1, 1) := by decide +kernel
theorem d_TS_leastMissing_11 : decode b_TS_leastMissing 11 = .ok (.iload_n 1, 1) := by decide +kernel
theorem d_TS_leastMissing_12 : decode b_TS_leastMissing 12 = .ok (.aaload, 1) := by decide +kernel
theorem d_TS_leastMissing_13 : decode b_TS_leastMissing 13 = .ok (.getfield 246, 3) := by decide +kernel
theorem d_TS_leastMissing_16 : decode b_TS_leastMissing 16 = .ok (.ifCond .ne 5, 3) := by decide +kernel
theorem d_TS_leastMissing_19 : decode b_TS_leastMissing 19 = .ok (.iload_n 1, 1) := by decide +kernel
theorem d_TS_leastMissing_2 : decode b_TS_leastMissing 2 = .ok (.iload_n 1, 1) := by decide +kernel
theorem d_TS_leastMissing_20 : decode b_TS_leastMissing 20 = .ok (.ireturn, 1) := by decide +kernel
theorem d_TS_leastMissing_3 : decode b_TS_leastMissing 3 = .ok (.iconst 4, 1) := by decide +kernel
theorem d_TS_leastMissing_4 : decode b_TS_leastMissing 4 = .ok (.if_icmp .ge 23, 3) := by decide +kernel
theorem d_TS_leastMissing_7 : decode b_TS_leastMissing 7 = .ok (.aload_n 0, 1) := by decide +kernel
theorem d_TS_leastMissing_8 : decode b_TS_leastMissing 8 = .ok (.getfield 41, 3) := by decide +kernel
theorem d_TS_lookAtHeaders_0 : decode b_TS_lookAtHeaders 0 = .ok (.aload_n 0, 1) := by decide +kernel
theorem d_TS_lookAtHeaders_1 : decode b_TS_lookAtHeaders 1 = .ok (.getfield 10, 3) := by decide +kernel
theorem d_TS_lookAtHeaders_10 : decode b_TS_lookAtHeaders 10 = .ok (.return_, 1) := by decide +kernel
theorem d_TS_lookAtHeaders_4 : decode b_TS_lookAtHeaders 4 = .ok (.getfield 96, 3) := by decide +kernel
theorem d_TS_lookAtHeaders_7 : decode b_TS_lookAtHeaders 7 = .ok (.ifCond .ne 4, 3) := by decide +kernel
theorem d_TS_ownerOf_0 : decode b_TS_ownerOf 0 = .ok (.iconst 0, 1) := by decide +kernel
theorem d_TS_ownerOf_1 : decode b_TS_ownerOf 1 = .ok (.istore_n 2, 1) := by decide +kernel
theorem d_TS_ownerOf_11 : decode b_TS_ownerOf 11 = .ok (.iload_n 2, 1) := by decide +kernel
theorem d_TS_ownerOf_12 : decode b_TS_ownerOf 12 = .ok (.aaload, 1) := by decide +kernel
theorem d_TS_ownerOf_13 : decode b_TS_ownerOf 13 = .ok (.iload_n 1, 1) := by decide +kernel
theorem d_TS_ownerOf_14 : decode b_TS_ownerOf 14 = .ok (.invokevirtual 257, 3) := by decide +kernel
theorem d_TS_ownerOf_17 : decode b_TS_ownerOf 17 = .ok (.ifCond .eq 5, 3) := by decide +kernel
theorem d_TS_ownerOf_2 : decode b_TS_ownerOf 2 = .ok (.iload_n 2, 1) := by decide +kernel
theorem d_TS_ownerOf_22 : decode b_TS_ownerOf 22 = .ok (.iinc 2 1, 3) := by decide +kernel
theorem d_TS_ownerOf_25 : decode b_TS_ownerOf 25 = .ok (.goto (-23), 3) := by decide +kernel
theorem d_TS_ownerOf_28 : decode b_TS_ownerOf 28 = .ok (.iconst (-1), 1) := by decide +kernel
theorem d_TS_ownerOf_29 : decode b_TS_ownerOf 29 = .ok (.ireturn, 1) := by decide +kernel
theorem d_TS_ownerOf_3 : decode b_TS_ownerOf 3 = .ok (.iconst 4, 1) := by decide +kernel
theorem d_TS_ownerOf_4 : decode b_TS_ownerOf 4 = .ok (.if_icmp .ge 24, 3) := by decide +kernel
theorem d_TS_ownerOf_7 : decode b_TS_ownerOf 7 = .ok (.aload_n 0, 1) := by decide +kernel
theorem d_TS_ownerOf_8 : decode b_TS_ownerOf 8 = .ok (.getfield 41, 3) := by decide +kernel
