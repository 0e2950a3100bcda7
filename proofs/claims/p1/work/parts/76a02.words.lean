theorem d_Mo_damage_1 : decode b_Mo_damage 1 = .ok (.iload_n 1, 1) := by decide +kernel
theorem d_Mo_damage_12 : decode b_Mo_damage 12 = .ok (.iload_n 2, 1) := by decide +kernel
theorem d_Mo_damage_13 : decode b_Mo_damage 13 = .ok (.bipush 64, 2) := by decide +kernel
theorem d_Mo_damage_15 : decode b_Mo_damage 15 = .ok (.if_icmp .ge 14, 3) := by decide +kernel
theorem d_Mo_damage_18 : decode b_Mo_damage 18 = .ok (.iload_n 3, 1) := by decide +kernel
theorem d_Mo_damage_19 : decode b_Mo_damage 19 = .ok (.ifCond .lt 10, 3) := by decide +kernel
theorem d_Mo_damage_2 : decode b_Mo_damage 2 = .ok (.invokestatic 286, 3) := by decide +kernel
theorem d_Mo_damage_22 : decode b_Mo_damage 22 = .ok (.iload_n 3, 1) := by decide +kernel
theorem d_Mo_damage_23 : decode b_Mo_damage 23 = .ok (.sipush 255, 3) := by decide +kernel
theorem d_Mo_damage_26 : decode b_Mo_damage 26 = .ok (.if_icmp .le 7, 3) := by decide +kernel
theorem d_Mo_damage_29 : decode b_Mo_damage 29 = .ok (.iconst 1, 1) := by decide +kernel
theorem d_Mo_damage_30 : decode b_Mo_damage 30 = .ok (.goto 4, 3) := by decide +kernel
theorem d_Mo_damage_33 : decode b_Mo_damage 33 = .ok (.iconst 0, 1) := by decide +kernel
theorem d_Mo_damage_34 : decode b_Mo_damage 34 = .ok (.putfield 87, 3) := by decide +kernel
theorem d_Mo_damage_37 : decode b_Mo_damage 37 = .ok (.aload_n 0, 1) := by decide +kernel
theorem d_Mo_damage_38 : decode b_Mo_damage 38 = .ok (.getfield 87, 3) := by decide +kernel
theorem d_Mo_damage_41 : decode b_Mo_damage 41 = .ok (.ifCond .ne 18, 3) := by decide +kernel
theorem d_Mo_damage_44 : decode b_Mo_damage 44 = .ok (.aload_n 0, 1) := by decide +kernel
theorem d_Mo_damage_45 : decode b_Mo_damage 45 = .ok (.getfield 7, 3) := by decide +kernel
theorem d_Mo_damage_48 : decode b_Mo_damage 48 = .ok (.bipush 64, 2) := by decide +kernel
theorem d_Mo_damage_5 : decode b_Mo_damage 5 = .ok (.ifCond .eq 24, 3) := by decide +kernel
theorem d_Mo_damage_50 : decode b_Mo_damage 50 = .ok (.iload_n 1, 1) := by decide +kernel
theorem d_Mo_damage_51 : decode b_Mo_damage 51 = .ok (.imul, 1) := by decide +kernel
theorem d_Mo_damage_52 : decode b_Mo_damage 52 = .ok (.iload_n 2, 1) := by decide +kernel
theorem d_Mo_damage_53 : decode b_Mo_damage 53 = .ok (.iadd, 1) := by decide +kernel
theorem d_Mo_damage_54 : decode b_Mo_damage 54 = .ok (.dup2, 1) := by decide +kernel
theorem d_Mo_damage_55 : decode b_Mo_damage 55 = .ok (.iaload, 1) := by decide +kernel
theorem d_Mo_damage_56 : decode b_Mo_damage 56 = .ok (.iload_n 3, 1) := by decide +kernel
theorem d_Mo_damage_57 : decode b_Mo_damage 57 = .ok (.ixor, 1) := by decide +kernel
theorem d_Mo_damage_58 : decode b_Mo_damage 58 = .ok (.iastore, 1) := by decide +kernel
theorem d_Mo_damage_59 : decode b_Mo_damage 59 = .ok (.return_, 1) := by decide +kernel
theorem d_Mo_damage_8 : decode b_Mo_damage 8 = .ok (.iload_n 2, 1) := by decide +kernel
theorem d_Mo_damage_9 : decode b_Mo_damage 9 = .ok (.ifCond .lt 20, 3) := by decide +kernel
theorem d_Mo_delete_0 : decode b_Mo_delete 0 = .ok (.aload_n 0, 1) := by decide +kernel
theorem d_Mo_delete_1 : decode b_Mo_delete 1 = .ok (.aload_n 0, 1) := by decide +kernel
theorem d_Mo_delete_10 : decode b_Mo_delete 10 = .ok (.goto 15, 3) := by decide +kernel
theorem d_Mo_delete_2 : decode b_Mo_delete 2 = .ok (.iload_n 1, 1) := by decide +kernel
theorem d_Mo_delete_25 : decode b_Mo_delete 25 = .ok (.putfield 87, 3) := by decide +kernel
theorem d_Mo_delete_28 : decode b_Mo_delete 28 = .ok (.aload_n 0, 1) := by decide +kernel
theorem d_Mo_delete_29 : decode b_Mo_delete 29 = .ok (.getfield 87, 3) := by decide +kernel
theorem d_Mo_delete_3 : decode b_Mo_delete 3 = .ok (.invokevirtual 172, 3) := by decide +kernel
theorem d_Mo_delete_32 : decode b_Mo_delete 32 = .ok (.ifCond .le 4, 3) := by decide +kernel
theorem d_Mo_delete_35 : decode b_Mo_delete 35 = .ok (.return_, 1) := by decide +kernel
theorem d_Mo_delete_6 : decode b_Mo_delete 6 = .ok (.ifCond .ne 7, 3) := by decide +kernel
theorem d_Mo_delete_9 : decode b_Mo_delete 9 = .ok (.iconst 1, 1) := by decide +kernel
theorem d_Mo_dropEpoch_0 : decode b_Mo_dropEpoch 0 = .ok (.aload_n 0, 1) := by decide +kernel
theorem d_Mo_dropEpoch_1 : decode b_Mo_dropEpoch 1 = .ok (.iload_n 1, 1) := by decide +kernel
theorem d_Mo_dropEpoch_100 : decode b_Mo_dropEpoch 100 = .ok (.aload_n 0, 1) := by decide +kernel
theorem d_Mo_dropEpoch_101 : decode b_Mo_dropEpoch 101 = .ok (.getfield 87, 3) := by decide +kernel
theorem d_Mo_dropEpoch_104 : decode b_Mo_dropEpoch 104 = .ok (.ifCond .ne 10, 3) := by decide +kernel
theorem d_Mo_dropEpoch_11 : decode b_Mo_dropEpoch 11 = .ok (.if_icmp .ge 29, 3) := by decide +kernel
theorem d_Mo_dropEpoch_114 : decode b_Mo_dropEpoch 114 = .ok (.return_, 1) := by decide +kernel
theorem d_Mo_dropEpoch_2 : decode b_Mo_dropEpoch 2 = .ok (.iconst 1, 1) := by decide +kernel
theorem d_Mo_dropEpoch_3 : decode b_Mo_dropEpoch 3 = .ok (.if_icmp .lt 37, 3) := by decide +kernel
theorem d_Mo_dropEpoch_40 : decode b_Mo_dropEpoch 40 = .ok (.iconst 1, 1) := by decide +kernel
theorem d_Mo_dropEpoch_41 : decode b_Mo_dropEpoch 41 = .ok (.goto 15, 3) := by decide +kernel
theorem d_Mo_dropEpoch_56 : decode b_Mo_dropEpoch 56 = .ok (.putfield 87, 3) := by decide +kernel
theorem d_Mo_dropEpoch_59 : decode b_Mo_dropEpoch 59 = .ok (.iconst 0, 1) := by decide +kernel
theorem d_Mo_dropEpoch_6 : decode b_Mo_dropEpoch 6 = .ok (.iload_n 1, 1) := by decide +kernel
theorem d_Mo_dropEpoch_60 : decode b_Mo_dropEpoch 60 = .ok (.istore_n 2, 1) := by decide +kernel
