theorem d_Ca_noteChange_0 : decode b_Ca_noteChange 0 = .ok (.iload_n 1, 1) := by decide +kernel
theorem d_Ca_noteChange_1 : decode b_Ca_noteChange 1 = .ok (.bipush 8, 2) := by decide +kernel
theorem d_Ca_noteChange_11 : decode b_Ca_noteChange 11 = .ok (.return_, 1) := by decide +kernel
theorem d_Ca_noteChange_3 : decode b_Ca_noteChange 3 = .ok (.if_icmp .ge 8, 3) := by decide +kernel
theorem d_Ca_noteChange_6 : decode b_Ca_noteChange 6 = .ok (.aload_n 0, 1) := by decide +kernel
theorem d_Ca_noteChange_7 : decode b_Ca_noteChange 7 = .ok (.iconst 1, 1) := by decide +kernel
theorem d_Ca_noteChange_8 : decode b_Ca_noteChange 8 = .ok (.putfield 41, 3) := by decide +kernel
theorem d_TS_block_16 : decode b_TS_block 16 = .ok (.aload_n 0, 1) := by decide +kernel
theorem d_TS_block_17 : decode b_TS_block 17 = .ok (.getfield 10, 3) := by decide +kernel
theorem d_TS_block_20 : decode b_TS_block 20 = .ok (.getfield 222, 3) := by decide +kernel
theorem d_TS_block_23 : decode b_TS_block 23 = .ok (.iload_n 1, 1) := by decide +kernel
theorem d_TS_block_24 : decode b_TS_block 24 = .ok (.baload, 1) := by decide +kernel
theorem d_TS_block_25 : decode b_TS_block 25 = .ok (.ifCond .eq 7, 3) := by decide +kernel
theorem d_TS_block_32 : decode b_TS_block 32 = .ok (.aload_n 0, 1) := by decide +kernel
theorem d_TS_block_33 : decode b_TS_block 33 = .ok (.getfield 10, 3) := by decide +kernel
theorem d_TS_block_36 : decode b_TS_block 36 = .ok (.getfield 215, 3) := by decide +kernel
theorem d_TS_block_39 : decode b_TS_block 39 = .ok (.iload_n 1, 1) := by decide +kernel
theorem d_TS_block_40 : decode b_TS_block 40 = .ok (.aaload, 1) := by decide +kernel
theorem d_TS_block_41 : decode b_TS_block 41 = .ok (.iload_n 2, 1) := by decide +kernel
theorem d_TS_block_42 : decode b_TS_block 42 = .ok (.iaload, 1) := by decide +kernel
theorem d_TS_block_43 : decode b_TS_block 43 = .ok (.ireturn, 1) := by decide +kernel
theorem d_TS_damage_27 : decode b_TS_damage 27 = .ok (.aload_n 0, 1) := by decide +kernel
theorem d_TS_damage_28 : decode b_TS_damage 28 = .ok (.getfield 10, 3) := by decide +kernel
theorem d_TS_damage_31 : decode b_TS_damage 31 = .ok (.getfield 215, 3) := by decide +kernel
theorem d_TS_damage_34 : decode b_TS_damage 34 = .ok (.iload_n 1, 1) := by decide +kernel
theorem d_TS_damage_35 : decode b_TS_damage 35 = .ok (.aaload, 1) := by decide +kernel
theorem d_TS_damage_36 : decode b_TS_damage 36 = .ok (.iload_n 2, 1) := by decide +kernel
theorem d_TS_damage_37 : decode b_TS_damage 37 = .ok (.dup2, 1) := by decide +kernel
theorem d_TS_damage_38 : decode b_TS_damage 38 = .ok (.iaload, 1) := by decide +kernel
theorem d_TS_damage_39 : decode b_TS_damage 39 = .ok (.iload_n 3, 1) := by decide +kernel
theorem d_TS_damage_40 : decode b_TS_damage 40 = .ok (.ixor, 1) := by decide +kernel
theorem d_TS_damage_41 : decode b_TS_damage 41 = .ok (.iastore, 1) := by decide +kernel
theorem d_TS_damage_42 : decode b_TS_damage 42 = .ok (.aload_n 0, 1) := by decide +kernel
theorem d_TS_damage_43 : decode b_TS_damage 43 = .ok (.getfield 10, 3) := by decide +kernel
theorem d_TS_damage_46 : decode b_TS_damage 46 = .ok (.iload_n 1, 1) := by decide +kernel
theorem d_TS_damage_47 : decode b_TS_damage 47 = .ok (.invokevirtual 219, 3) := by decide +kernel
theorem d_TS_damage_50 : decode b_TS_damage 50 = .ok (.return_, 1) := by decide +kernel
theorem d_TS_mount_0 : decode b_TS_mount 0 = .ok (.aload_n 0, 1) := by decide +kernel
theorem d_TS_mount_1 : decode b_TS_mount 1 = .ok (.getfield 10, 3) := by decide +kernel
theorem d_TS_mount_12 : decode b_TS_mount 12 = .ok (.iconst (-1), 1) := by decide +kernel
theorem d_TS_mount_13 : decode b_TS_mount 13 = .ok (.putfield 228, 3) := by decide +kernel
theorem d_TS_mount_16 : decode b_TS_mount 16 = .ok (.aload_n 0, 1) := by decide +kernel
theorem d_TS_mount_17 : decode b_TS_mount 17 = .ok (.getfield 65, 3) := by decide +kernel
theorem d_TS_mount_20 : decode b_TS_mount 20 = .ok (.iconst (-1), 1) := by decide +kernel
theorem d_TS_mount_21 : decode b_TS_mount 21 = .ok (.putfield 106, 3) := by decide +kernel
theorem d_TS_mount_24 : decode b_TS_mount 24 = .ok (.aload_n 0, 1) := by decide +kernel
theorem d_TS_mount_25 : decode b_TS_mount 25 = .ok (.invokevirtual 99, 3) := by decide +kernel
theorem d_TS_mount_28 : decode b_TS_mount 28 = .ok (.aload_n 0, 1) := by decide +kernel
theorem d_TS_mount_29 : decode b_TS_mount 29 = .ok (.invokevirtual 231, 3) := by decide +kernel
theorem d_TS_mount_32 : decode b_TS_mount 32 = .ok (.ireturn, 1) := by decide +kernel
theorem d_TS_mount_4 : decode b_TS_mount 4 = .ok (.iconst 0, 1) := by decide +kernel
theorem d_TS_mount_5 : decode b_TS_mount 5 = .ok (.putfield 85, 3) := by decide +kernel
theorem d_TS_mount_8 : decode b_TS_mount 8 = .ok (.aload_n 0, 1) := by decide +kernel
theorem d_TS_mount_9 : decode b_TS_mount 9 = .ok (.getfield 10, 3) := by decide +kernel
theorem d_TS_put_0 : decode b_TS_put 0 = .ok (.iload_n 2, 1) := by decide +kernel
theorem d_TS_put_1 : decode b_TS_put 1 = .ok (.iconst 1, 1) := by decide +kernel
theorem d_TS_put_10 : decode b_TS_put 10 = .ok (.aload_n 0, 1) := by decide +kernel
theorem d_TS_put_11 : decode b_TS_put 11 = .ok (.getfield 78, 3) := by decide +kernel
theorem d_TS_put_14 : decode b_TS_put 14 = .ok (.iload_n 2, 1) := by decide +kernel
theorem d_TS_put_15 : decode b_TS_put 15 = .ok (.iadd, 1) := by decide +kernel
