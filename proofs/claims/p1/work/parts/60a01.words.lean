theorem d_Ep_known_0 : decode b_Ep_known 0 = .ok (.iload_n 1, 1) := by decide +kernel
theorem d_Ep_known_1 : decode b_Ep_known 1 = .ok (.iconst 1, 1) := by decide +kernel
theorem d_Ep_known_10 : decode b_Ep_known 10 = .ok (.if_icmp .gt 16, 3) := by decide +kernel
theorem d_Ep_known_2 : decode b_Ep_known 2 = .ok (.if_icmp .lt 24, 3) := by decide +kernel
theorem d_Ep_known_26 : decode b_Ep_known 26 = .ok (.iconst 0, 1) := by decide +kernel
theorem d_Ep_known_27 : decode b_Ep_known 27 = .ok (.ireturn, 1) := by decide +kernel
theorem d_Ep_known_5 : decode b_Ep_known 5 = .ok (.iload_n 1, 1) := by decide +kernel
theorem d_Ep_known_6 : decode b_Ep_known 6 = .ok (.aload_n 0, 1) := by decide +kernel
theorem d_Ep_known_7 : decode b_Ep_known 7 = .ok (.getfield 20, 3) := by decide +kernel
theorem d_La_hasGroup_0 : decode b_La_hasGroup 0 = .ok (.aload_n 0, 1) := by decide +kernel
theorem d_La_hasGroup_1 : decode b_La_hasGroup 1 = .ok (.getfield 22, 3) := by decide +kernel
theorem d_La_hasGroup_32 : decode b_La_hasGroup 32 = .ok (.iconst 0, 1) := by decide +kernel
theorem d_La_hasGroup_33 : decode b_La_hasGroup 33 = .ok (.ireturn, 1) := by decide +kernel
theorem d_La_hasGroup_4 : decode b_La_hasGroup 4 = .ok (.ifCond .eq 28, 3) := by decide +kernel
theorem d_TS_countFiles_0 : decode b_TS_countFiles 0 = .ok (.iconst 0, 1) := by decide +kernel
theorem d_TS_countFiles_1 : decode b_TS_countFiles 1 = .ok (.istore_n 1, 1) := by decide +kernel
theorem d_TS_countFiles_10 : decode b_TS_countFiles 10 = .ok (.aload_n 0, 1) := by decide +kernel
theorem d_TS_countFiles_11 : decode b_TS_countFiles 11 = .ok (.getfield 41, 3) := by decide +kernel
theorem d_TS_countFiles_14 : decode b_TS_countFiles 14 = .ok (.iload_n 2, 1) := by decide +kernel
theorem d_TS_countFiles_15 : decode b_TS_countFiles 15 = .ok (.aaload, 1) := by decide +kernel
theorem d_TS_countFiles_16 : decode b_TS_countFiles 16 = .ok (.getfield 246, 3) := by decide +kernel
theorem d_TS_countFiles_19 : decode b_TS_countFiles 19 = .ok (.ifCond .eq 7, 3) := by decide +kernel
theorem d_TS_countFiles_2 : decode b_TS_countFiles 2 = .ok (.iconst 0, 1) := by decide +kernel
theorem d_TS_countFiles_26 : decode b_TS_countFiles 26 = .ok (.iconst 0, 1) := by decide +kernel
theorem d_TS_countFiles_27 : decode b_TS_countFiles 27 = .ok (.iadd, 1) := by decide +kernel
theorem d_TS_countFiles_28 : decode b_TS_countFiles 28 = .ok (.istore_n 1, 1) := by decide +kernel
theorem d_TS_countFiles_29 : decode b_TS_countFiles 29 = .ok (.iinc 2 1, 3) := by decide +kernel
theorem d_TS_countFiles_3 : decode b_TS_countFiles 3 = .ok (.istore_n 2, 1) := by decide +kernel
theorem d_TS_countFiles_32 : decode b_TS_countFiles 32 = .ok (.goto (-28), 3) := by decide +kernel
theorem d_TS_countFiles_35 : decode b_TS_countFiles 35 = .ok (.iload_n 1, 1) := by decide +kernel
theorem d_TS_countFiles_36 : decode b_TS_countFiles 36 = .ok (.ireturn, 1) := by decide +kernel
theorem d_TS_countFiles_4 : decode b_TS_countFiles 4 = .ok (.iload_n 2, 1) := by decide +kernel
theorem d_TS_countFiles_5 : decode b_TS_countFiles 5 = .ok (.iconst 4, 1) := by decide +kernel
theorem d_TS_countFiles_6 : decode b_TS_countFiles 6 = .ok (.if_icmp .ge 29, 3) := by decide +kernel
theorem d_TS_countFiles_9 : decode b_TS_countFiles 9 = .ok (.iload_n 1, 1) := by decide +kernel
theorem d_TS_countFree_0 : decode b_TS_countFree 0 = .ok (.iconst 0, 1) := by decide +kernel
theorem d_TS_countFree_1 : decode b_TS_countFree 1 = .ok (.istore_n 1, 1) := by decide +kernel
theorem d_TS_countFree_10 : decode b_TS_countFree 10 = .ok (.iload_n 1, 1) := by decide +kernel
theorem d_TS_countFree_11 : decode b_TS_countFree 11 = .ok (.aload_n 0, 1) := by decide +kernel
theorem d_TS_countFree_12 : decode b_TS_countFree 12 = .ok (.iload_n 2, 1) := by decide +kernel
theorem d_TS_countFree_13 : decode b_TS_countFree 13 = .ok (.invokevirtual 199, 3) := by decide +kernel
theorem d_TS_countFree_16 : decode b_TS_countFree 16 = .ok (.iconst (-1), 1) := by decide +kernel
theorem d_TS_countFree_17 : decode b_TS_countFree 17 = .ok (.if_icmp .ne 7, 3) := by decide +kernel
theorem d_TS_countFree_2 : decode b_TS_countFree 2 = .ok (.iconst 0, 1) := by decide +kernel
theorem d_TS_countFree_20 : decode b_TS_countFree 20 = .ok (.iconst 1, 1) := by decide +kernel
theorem d_TS_countFree_21 : decode b_TS_countFree 21 = .ok (.goto 4, 3) := by decide +kernel
theorem d_TS_countFree_25 : decode b_TS_countFree 25 = .ok (.iadd, 1) := by decide +kernel
theorem d_TS_countFree_26 : decode b_TS_countFree 26 = .ok (.istore_n 1, 1) := by decide +kernel
theorem d_TS_countFree_27 : decode b_TS_countFree 27 = .ok (.iinc 2 1, 3) := by decide +kernel
theorem d_TS_countFree_3 : decode b_TS_countFree 3 = .ok (.istore_n 2, 1) := by decide +kernel
theorem d_TS_countFree_30 : decode b_TS_countFree 30 = .ok (.goto (-26), 3) := by decide +kernel
theorem d_TS_countFree_33 : decode b_TS_countFree 33 = .ok (.iload_n 1, 1) := by decide +kernel
theorem d_TS_countFree_34 : decode b_TS_countFree 34 = .ok (.ireturn, 1) := by decide +kernel
theorem d_TS_countFree_4 : decode b_TS_countFree 4 = .ok (.iload_n 2, 1) := by decide +kernel
theorem d_TS_countFree_5 : decode b_TS_countFree 5 = .ok (.bipush 6, 2) := by decide +kernel
theorem d_TS_countFree_7 : decode b_TS_countFree 7 = .ok (.if_icmp .ge 26, 3) := by decide +kernel
theorem d_TS_exists_0 : decode b_TS_exists 0 = .ok (.iload_n 1, 1) := by decide +kernel
theorem d_TS_exists_1 : decode b_TS_exists 1 = .ok (.ifCond .lt 24, 3) := by decide +kernel
theorem d_TS_exists_10 : decode b_TS_exists 10 = .ok (.getfield 41, 3) := by decide +kernel
theorem d_TS_exists_13 : decode b_TS_exists 13 = .ok (.iload_n 1, 1) := by decide +kernel
