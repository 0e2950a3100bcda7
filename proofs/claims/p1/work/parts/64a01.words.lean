theorem d_TS_append_0 : decode b_TS_append 0 = .ok (.aload_n 0, 1) := by decide +kernel
theorem d_TS_append_1 : decode b_TS_append 1 = .ok (.invokevirtual 99, 3) := by decide +kernel
theorem d_TS_append_11 : decode b_TS_append 11 = .ok (.aload_n 0, 1) := by decide +kernel
theorem d_TS_append_12 : decode b_TS_append 12 = .ok (.getfield 78, 3) := by decide +kernel
theorem d_TS_append_15 : decode b_TS_append 15 = .ok (.iadd, 1) := by decide +kernel
theorem d_TS_append_16 : decode b_TS_append 16 = .ok (.istore_n 1, 1) := by decide +kernel
theorem d_TS_append_17 : decode b_TS_append 17 = .ok (.aload_n 0, 1) := by decide +kernel
theorem d_TS_append_18 : decode b_TS_append 18 = .ok (.getfield 65, 3) := by decide +kernel
theorem d_TS_append_21 : decode b_TS_append 21 = .ok (.getfield 106, 3) := by decide +kernel
theorem d_TS_append_24 : decode b_TS_append 24 = .ok (.iconst (-1), 1) := by decide +kernel
theorem d_TS_append_25 : decode b_TS_append 25 = .ok (.if_icmp .eq 32, 3) := by decide +kernel
theorem d_TS_append_4 : decode b_TS_append 4 = .ok (.aload_n 0, 1) := by decide +kernel
theorem d_TS_append_5 : decode b_TS_append 5 = .ok (.getfield 65, 3) := by decide +kernel
theorem d_TS_append_57 : decode b_TS_append 57 = .ok (.new 89, 3) := by decide +kernel
theorem d_TS_append_60 : decode b_TS_append 60 = .ok (.dup, 1) := by decide +kernel
theorem d_TS_append_61 : decode b_TS_append 61 = .ok (.invokespecial 91, 3) := by decide +kernel
theorem d_TS_append_64 : decode b_TS_append 64 = .ok (.athrow, 1) := by decide +kernel
theorem d_TS_append_8 : decode b_TS_append 8 = .ok (.getfield 112, 3) := by decide +kernel
theorem d_TS_block_0 : decode b_TS_block 0 = .ok (.iload_n 1, 1) := by decide +kernel
theorem d_TS_block_1 : decode b_TS_block 1 = .ok (.iload_n 2, 1) := by decide +kernel
theorem d_TS_block_11 : decode b_TS_block 11 = .ok (.dup, 1) := by decide +kernel
theorem d_TS_block_12 : decode b_TS_block 12 = .ok (.invokespecial 152, 3) := by decide +kernel
theorem d_TS_block_15 : decode b_TS_block 15 = .ok (.athrow, 1) := by decide +kernel
theorem d_TS_block_2 : decode b_TS_block 2 = .ok (.invokestatic 211, 3) := by decide +kernel
theorem d_TS_block_5 : decode b_TS_block 5 = .ok (.ifCond .ne 11, 3) := by decide +kernel
theorem d_TS_block_8 : decode b_TS_block 8 = .ok (.new 150, 3) := by decide +kernel
theorem d_TS_create_0 : decode b_TS_create 0 = .ok (.aload_n 0, 1) := by decide +kernel
theorem d_TS_create_1 : decode b_TS_create 1 = .ok (.invokevirtual 99, 3) := by decide +kernel
theorem d_TS_create_10 : decode b_TS_create 10 = .ok (.getfield 19, 3) := by decide +kernel
theorem d_TS_create_13 : decode b_TS_create 13 = .ok (.getfield 82, 3) := by decide +kernel
theorem d_TS_create_16 : decode b_TS_create 16 = .ok (.ifCond .eq 29, 3) := by decide +kernel
theorem d_TS_create_4 : decode b_TS_create 4 = .ok (.aload_n 0, 1) := by decide +kernel
theorem d_TS_create_45 : decode b_TS_create 45 = .ok (.new 89, 3) := by decide +kernel
theorem d_TS_create_48 : decode b_TS_create 48 = .ok (.dup, 1) := by decide +kernel
theorem d_TS_create_49 : decode b_TS_create 49 = .ok (.invokespecial 91, 3) := by decide +kernel
theorem d_TS_create_5 : decode b_TS_create 5 = .ok (.invokevirtual 102, 3) := by decide +kernel
theorem d_TS_create_52 : decode b_TS_create 52 = .ok (.athrow, 1) := by decide +kernel
theorem d_TS_create_8 : decode b_TS_create 8 = .ok (.istore_n 2, 1) := by decide +kernel
theorem d_TS_create_9 : decode b_TS_create 9 = .ok (.aload_n 0, 1) := by decide +kernel
theorem d_TS_damage_0 : decode b_TS_damage 0 = .ok (.iload_n 1, 1) := by decide +kernel
theorem d_TS_damage_1 : decode b_TS_damage 1 = .ok (.iload_n 2, 1) := by decide +kernel
theorem d_TS_damage_12 : decode b_TS_damage 12 = .ok (.iload_n 3, 1) := by decide +kernel
theorem d_TS_damage_13 : decode b_TS_damage 13 = .ok (.sipush 255, 3) := by decide +kernel
theorem d_TS_damage_16 : decode b_TS_damage 16 = .ok (.if_icmp .le 11, 3) := by decide +kernel
theorem d_TS_damage_19 : decode b_TS_damage 19 = .ok (.new 150, 3) := by decide +kernel
theorem d_TS_damage_2 : decode b_TS_damage 2 = .ok (.invokestatic 211, 3) := by decide +kernel
theorem d_TS_damage_22 : decode b_TS_damage 22 = .ok (.dup, 1) := by decide +kernel
theorem d_TS_damage_23 : decode b_TS_damage 23 = .ok (.invokespecial 152, 3) := by decide +kernel
theorem d_TS_damage_26 : decode b_TS_damage 26 = .ok (.athrow, 1) := by decide +kernel
theorem d_TS_damage_5 : decode b_TS_damage 5 = .ok (.ifCond .eq 14, 3) := by decide +kernel
theorem d_TS_damage_8 : decode b_TS_damage 8 = .ok (.iload_n 3, 1) := by decide +kernel
theorem d_TS_damage_9 : decode b_TS_damage 9 = .ok (.ifCond .lt 10, 3) := by decide +kernel
theorem d_TS_delete_0 : decode b_TS_delete 0 = .ok (.aload_n 0, 1) := by decide +kernel
theorem d_TS_delete_1 : decode b_TS_delete 1 = .ok (.invokevirtual 99, 3) := by decide +kernel
theorem d_TS_delete_12 : decode b_TS_delete 12 = .ok (.new 146, 3) := by decide +kernel
theorem d_TS_delete_15 : decode b_TS_delete 15 = .ok (.dup, 1) := by decide +kernel
theorem d_TS_delete_16 : decode b_TS_delete 16 = .ok (.invokespecial 148, 3) := by decide +kernel
theorem d_TS_delete_19 : decode b_TS_delete 19 = .ok (.athrow, 1) := by decide +kernel
theorem d_TS_delete_4 : decode b_TS_delete 4 = .ok (.aload_n 0, 1) := by decide +kernel
theorem d_TS_delete_5 : decode b_TS_delete 5 = .ok (.iload_n 1, 1) := by decide +kernel
