theorem d_TS_init_65 : decode b_TS_init 65 = .ok (.istore_n 1, 1) := by decide +kernel
theorem d_TS_init_66 : decode b_TS_init 66 = .ok (.iload_n 1, 1) := by decide +kernel
theorem d_TS_init_67 : decode b_TS_init 67 = .ok (.iconst 4, 1) := by decide +kernel
theorem d_TS_init_68 : decode b_TS_init 68 = .ok (.if_icmp .ge 23, 3) := by decide +kernel
theorem d_TS_init_71 : decode b_TS_init 71 = .ok (.aload_n 0, 1) := by decide +kernel
theorem d_TS_init_72 : decode b_TS_init 72 = .ok (.getfield 41, 3) := by decide +kernel
theorem d_TS_init_75 : decode b_TS_init 75 = .ok (.iload_n 1, 1) := by decide +kernel
theorem d_TS_init_76 : decode b_TS_init 76 = .ok (.new 39, 3) := by decide +kernel
theorem d_TS_init_79 : decode b_TS_init 79 = .ok (.dup, 1) := by decide +kernel
theorem d_TS_init_8 : decode b_TS_init 8 = .ok (.dup, 1) := by decide +kernel
theorem d_TS_init_80 : decode b_TS_init 80 = .ok (.iload_n 1, 1) := by decide +kernel
theorem d_TS_init_81 : decode b_TS_init 81 = .ok (.invokespecial 45, 3) := by decide +kernel
theorem d_TS_init_84 : decode b_TS_init 84 = .ok (.aastore, 1) := by decide +kernel
theorem d_TS_init_85 : decode b_TS_init 85 = .ok (.iinc 1 1, 3) := by decide +kernel
theorem d_TS_init_88 : decode b_TS_init 88 = .ok (.goto (-22), 3) := by decide +kernel
theorem d_TS_init_9 : decode b_TS_init 9 = .ok (.invokespecial 9, 3) := by decide +kernel
theorem d_TS_init_91 : decode b_TS_init 91 = .ok (.aload_n 0, 1) := by decide +kernel
theorem d_TS_init_92 : decode b_TS_init 92 = .ok (.new 39, 3) := by decide +kernel
theorem d_TS_init_95 : decode b_TS_init 95 = .ok (.dup, 1) := by decide +kernel
theorem d_TS_init_96 : decode b_TS_init 96 = .ok (.iconst 0, 1) := by decide +kernel
theorem d_TS_init_97 : decode b_TS_init 97 = .ok (.invokespecial 45, 3) := by decide +kernel
