theorem d_Lw_append_0 : decode b_Lw_append 0 = .ok (.aload_n 1, 1) := by decide +kernel
theorem d_Lw_append_1 : decode b_Lw_append 1 = .ok (.iconst 0, 1) := by decide +kernel
theorem d_Lw_append_11 : decode b_Lw_append 11 = .ok (.astore_n 2, 1) := by decide +kernel
theorem d_Lw_append_12 : decode b_Lw_append 12 = .ok (.iconst 1, 1) := by decide +kernel
theorem d_Lw_append_13 : decode b_Lw_append 13 = .ok (.ireturn, 1) := by decide +kernel
theorem d_Lw_append_2 : decode b_Lw_append 2 = .ok (.aload_n 0, 1) := by decide +kernel
theorem d_Lw_append_3 : decode b_Lw_append 3 = .ok (.invokevirtual 19, 3) := by decide +kernel
theorem d_Lw_block_0 : decode b_Lw_block 0 = .ok (.aload_n 3, 1) := by decide +kernel
theorem d_Lw_block_1 : decode b_Lw_block 1 = .ok (.iconst 0, 1) := by decide +kernel
theorem d_Lw_block_10 : decode b_Lw_block 10 = .ok (.goto 7, 3) := by decide +kernel
theorem d_Lw_block_13 : decode b_Lw_block 13 = .ok (.astore 4, 2) := by decide +kernel
theorem d_Lw_block_15 : decode b_Lw_block 15 = .ok (.iconst 1, 1) := by decide +kernel
theorem d_Lw_block_16 : decode b_Lw_block 16 = .ok (.ireturn, 1) := by decide +kernel
theorem d_Lw_block_17 : decode b_Lw_block 17 = .ok (.iconst 0, 1) := by decide +kernel
theorem d_Lw_block_18 : decode b_Lw_block 18 = .ok (.ireturn, 1) := by decide +kernel
theorem d_Lw_block_2 : decode b_Lw_block 2 = .ok (.aload_n 0, 1) := by decide +kernel
theorem d_Lw_block_3 : decode b_Lw_block 3 = .ok (.iload_n 1, 1) := by decide +kernel
theorem d_Lw_block_4 : decode b_Lw_block 4 = .ok (.iload_n 2, 1) := by decide +kernel
theorem d_Lw_block_5 : decode b_Lw_block 5 = .ok (.invokevirtual 71, 3) := by decide +kernel
theorem d_Lw_block_8 : decode b_Lw_block 8 = .ok (.i2l, 1) := by decide +kernel
theorem d_Lw_block_9 : decode b_Lw_block 9 = .ok (.lastore, 1) := by decide +kernel
theorem d_Lw_create_0 : decode b_Lw_create 0 = .ok (.aload_n 2, 1) := by decide +kernel
theorem d_Lw_create_1 : decode b_Lw_create 1 = .ok (.iconst 0, 1) := by decide +kernel
theorem d_Lw_create_12 : decode b_Lw_create 12 = .ok (.astore_n 3, 1) := by decide +kernel
theorem d_Lw_create_13 : decode b_Lw_create 13 = .ok (.iconst 1, 1) := by decide +kernel
theorem d_Lw_create_14 : decode b_Lw_create 14 = .ok (.ireturn, 1) := by decide +kernel
theorem d_Lw_create_2 : decode b_Lw_create 2 = .ok (.aload_n 0, 1) := by decide +kernel
theorem d_Lw_create_3 : decode b_Lw_create 3 = .ok (.iload_n 1, 1) := by decide +kernel
theorem d_Lw_create_4 : decode b_Lw_create 4 = .ok (.invokevirtual 15, 3) := by decide +kernel
theorem d_Lw_damage_0 : decode b_Lw_damage 0 = .ok (.aload_n 0, 1) := by decide +kernel
theorem d_Lw_damage_1 : decode b_Lw_damage 1 = .ok (.iload_n 1, 1) := by decide +kernel
theorem d_Lw_damage_10 : decode b_Lw_damage 10 = .ok (.astore 4, 2) := by decide +kernel
theorem d_Lw_damage_12 : decode b_Lw_damage 12 = .ok (.iconst 1, 1) := by decide +kernel
theorem d_Lw_damage_13 : decode b_Lw_damage 13 = .ok (.ireturn, 1) := by decide +kernel
theorem d_Lw_damage_14 : decode b_Lw_damage 14 = .ok (.iconst 0, 1) := by decide +kernel
theorem d_Lw_damage_15 : decode b_Lw_damage 15 = .ok (.ireturn, 1) := by decide +kernel
theorem d_Lw_damage_2 : decode b_Lw_damage 2 = .ok (.iload_n 2, 1) := by decide +kernel
theorem d_Lw_damage_3 : decode b_Lw_damage 3 = .ok (.iload_n 3, 1) := by decide +kernel
theorem d_Lw_damage_4 : decode b_Lw_damage 4 = .ok (.invokevirtual 57, 3) := by decide +kernel
theorem d_Lw_damage_7 : decode b_Lw_damage 7 = .ok (.goto 7, 3) := by decide +kernel
theorem d_Lw_delete_0 : decode b_Lw_delete 0 = .ok (.aload_n 0, 1) := by decide +kernel
theorem d_Lw_delete_1 : decode b_Lw_delete 1 = .ok (.iload_n 1, 1) := by decide +kernel
theorem d_Lw_delete_10 : decode b_Lw_delete 10 = .ok (.ireturn, 1) := by decide +kernel
theorem d_Lw_delete_2 : decode b_Lw_delete 2 = .ok (.invokevirtual 51, 3) := by decide +kernel
theorem d_Lw_delete_8 : decode b_Lw_delete 8 = .ok (.astore_n 2, 1) := by decide +kernel
theorem d_Lw_delete_9 : decode b_Lw_delete 9 = .ok (.iconst 1, 1) := by decide +kernel
theorem d_Lw_dropEpoch_0 : decode b_Lw_dropEpoch 0 = .ok (.aload_n 0, 1) := by decide +kernel
theorem d_Lw_dropEpoch_1 : decode b_Lw_dropEpoch 1 = .ok (.iload_n 1, 1) := by decide +kernel
theorem d_Lw_dropEpoch_10 : decode b_Lw_dropEpoch 10 = .ok (.ireturn, 1) := by decide +kernel
theorem d_Lw_dropEpoch_2 : decode b_Lw_dropEpoch 2 = .ok (.invokevirtual 47, 3) := by decide +kernel
theorem d_Lw_dropEpoch_8 : decode b_Lw_dropEpoch 8 = .ok (.astore_n 2, 1) := by decide +kernel
theorem d_Lw_dropEpoch_9 : decode b_Lw_dropEpoch 9 = .ok (.iconst 1, 1) := by decide +kernel
theorem d_Lw_epoch_0 : decode b_Lw_epoch 0 = .ok (.aload_n 1, 1) := by decide +kernel
theorem d_Lw_epoch_1 : decode b_Lw_epoch 1 = .ok (.iconst 0, 1) := by decide +kernel
theorem d_Lw_epoch_11 : decode b_Lw_epoch 11 = .ok (.astore_n 2, 1) := by decide +kernel
theorem d_Lw_epoch_12 : decode b_Lw_epoch 12 = .ok (.iconst 1, 1) := by decide +kernel
theorem d_Lw_epoch_13 : decode b_Lw_epoch 13 = .ok (.ireturn, 1) := by decide +kernel
theorem d_Lw_epoch_2 : decode b_Lw_epoch 2 = .ok (.aload_n 0, 1) := by decide +kernel
theorem d_Lw_epoch_3 : decode b_Lw_epoch 3 = .ok (.invokevirtual 7, 3) := by decide +kernel
theorem d_Lw_file_0 : decode b_Lw_file 0 = .ok (.aload_n 3, 1) := by decide +kernel
