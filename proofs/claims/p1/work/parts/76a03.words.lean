theorem d_Mo_dropEpoch_61 : decode b_Mo_dropEpoch 61 = .ok (.iload_n 2, 1) := by decide +kernel
theorem d_Mo_dropEpoch_62 : decode b_Mo_dropEpoch 62 = .ok (.iconst 4, 1) := by decide +kernel
theorem d_Mo_dropEpoch_63 : decode b_Mo_dropEpoch 63 = .ok (.if_icmp .ge 37, 3) := by decide +kernel
theorem d_Mo_dropEpoch_66 : decode b_Mo_dropEpoch 66 = .ok (.aload_n 0, 1) := by decide +kernel
theorem d_Mo_dropEpoch_67 : decode b_Mo_dropEpoch 67 = .ok (.getfield 87, 3) := by decide +kernel
theorem d_Mo_dropEpoch_7 : decode b_Mo_dropEpoch 7 = .ok (.aload_n 0, 1) := by decide +kernel
theorem d_Mo_dropEpoch_70 : decode b_Mo_dropEpoch 70 = .ok (.ifCond .ne 30, 3) := by decide +kernel
theorem d_Mo_dropEpoch_8 : decode b_Mo_dropEpoch 8 = .ok (.getfield 138, 3) := by decide +kernel
theorem d_Mo_epoch_0 : decode b_Mo_epoch 0 = .ok (.aload_n 0, 1) := by decide +kernel
theorem d_Mo_epoch_1 : decode b_Mo_epoch 1 = .ok (.aload_n 0, 1) := by decide +kernel
theorem d_Mo_epoch_2 : decode b_Mo_epoch 2 = .ok (.getfield 224, 3) := by decide +kernel
theorem d_Mo_epoch_26 : decode b_Mo_epoch 26 = .ok (.iconst 1, 1) := by decide +kernel
theorem d_Mo_epoch_27 : decode b_Mo_epoch 27 = .ok (.goto 4, 3) := by decide +kernel
theorem d_Mo_epoch_31 : decode b_Mo_epoch 31 = .ok (.putfield 87, 3) := by decide +kernel
theorem d_Mo_epoch_34 : decode b_Mo_epoch 34 = .ok (.aload_n 0, 1) := by decide +kernel
theorem d_Mo_epoch_35 : decode b_Mo_epoch 35 = .ok (.getfield 87, 3) := by decide +kernel
theorem d_Mo_epoch_38 : decode b_Mo_epoch 38 = .ok (.ifCond .le 5, 3) := by decide +kernel
theorem d_Mo_epoch_41 : decode b_Mo_epoch 41 = .ok (.iconst 0, 1) := by decide +kernel
theorem d_Mo_epoch_42 : decode b_Mo_epoch 42 = .ok (.ireturn, 1) := by decide +kernel
theorem d_Mo_epoch_5 : decode b_Mo_epoch 5 = .ok (.bipush 32, 2) := by decide +kernel
theorem d_Mo_epoch_7 : decode b_Mo_epoch 7 = .ok (.if_icmp .ne 19, 3) := by decide +kernel
theorem d_Mo_file_0 : decode b_Mo_file 0 = .ok (.aload_n 0, 1) := by decide +kernel
theorem d_Mo_file_1 : decode b_Mo_file 1 = .ok (.aload_n 0, 1) := by decide +kernel
theorem d_Mo_file_10 : decode b_Mo_file 10 = .ok (.goto 17, 3) := by decide +kernel
theorem d_Mo_file_2 : decode b_Mo_file 2 = .ok (.iload_n 1, 1) := by decide +kernel
theorem d_Mo_file_27 : decode b_Mo_file 27 = .ok (.putfield 87, 3) := by decide +kernel
theorem d_Mo_file_3 : decode b_Mo_file 3 = .ok (.invokevirtual 172, 3) := by decide +kernel
theorem d_Mo_file_30 : decode b_Mo_file 30 = .ok (.aload_n 0, 1) := by decide +kernel
theorem d_Mo_file_31 : decode b_Mo_file 31 = .ok (.getfield 87, 3) := by decide +kernel
theorem d_Mo_file_34 : decode b_Mo_file 34 = .ok (.ifCond .le 5, 3) := by decide +kernel
theorem d_Mo_file_37 : decode b_Mo_file 37 = .ok (.iconst 0, 1) := by decide +kernel
theorem d_Mo_file_38 : decode b_Mo_file 38 = .ok (.ireturn, 1) := by decide +kernel
theorem d_Mo_file_6 : decode b_Mo_file 6 = .ok (.ifCond .ne 7, 3) := by decide +kernel
theorem d_Mo_file_9 : decode b_Mo_file 9 = .ok (.iconst 1, 1) := by decide +kernel
theorem d_Mo_finish_0 : decode b_Mo_finish 0 = .ok (.aload_n 0, 1) := by decide +kernel
theorem d_Mo_finish_1 : decode b_Mo_finish 1 = .ok (.aload_n 0, 1) := by decide +kernel
theorem d_Mo_finish_15 : decode b_Mo_finish 15 = .ok (.iconst 1, 1) := by decide +kernel
theorem d_Mo_finish_16 : decode b_Mo_finish 16 = .ok (.goto 4, 3) := by decide +kernel
theorem d_Mo_finish_2 : decode b_Mo_finish 2 = .ok (.getfield 227, 3) := by decide +kernel
theorem d_Mo_finish_20 : decode b_Mo_finish 20 = .ok (.putfield 87, 3) := by decide +kernel
theorem d_Mo_finish_23 : decode b_Mo_finish 23 = .ok (.aload_n 0, 1) := by decide +kernel
theorem d_Mo_finish_24 : decode b_Mo_finish 24 = .ok (.getfield 87, 3) := by decide +kernel
theorem d_Mo_finish_27 : decode b_Mo_finish 27 = .ok (.ifCond .le 5, 3) := by decide +kernel
theorem d_Mo_finish_30 : decode b_Mo_finish 30 = .ok (.iconst 0, 1) := by decide +kernel
theorem d_Mo_finish_31 : decode b_Mo_finish 31 = .ok (.ireturn, 1) := by decide +kernel
theorem d_Mo_finish_5 : decode b_Mo_finish 5 = .ok (.ifCond .eq 10, 3) := by decide +kernel
theorem d_Mo_mount_0 : decode b_Mo_mount 0 = .ok (.aload_n 0, 1) := by decide +kernel
theorem d_Mo_mount_1 : decode b_Mo_mount 1 = .ok (.iconst 0, 1) := by decide +kernel
theorem d_Mo_mount_10 : decode b_Mo_mount 10 = .ok (.aload_n 0, 1) := by decide +kernel
theorem d_Mo_mount_11 : decode b_Mo_mount 11 = .ok (.iconst (-1), 1) := by decide +kernel
theorem d_Mo_mount_12 : decode b_Mo_mount 12 = .ok (.putfield 29, 3) := by decide +kernel
theorem d_Mo_mount_15 : decode b_Mo_mount 15 = .ok (.aload_n 0, 1) := by decide +kernel
theorem d_Mo_mount_16 : decode b_Mo_mount 16 = .ok (.iconst 0, 1) := by decide +kernel
theorem d_Mo_mount_17 : decode b_Mo_mount 17 = .ok (.putfield 227, 3) := by decide +kernel
theorem d_Mo_mount_2 : decode b_Mo_mount 2 = .ok (.putfield 87, 3) := by decide +kernel
theorem d_Mo_mount_20 : decode b_Mo_mount 20 = .ok (.aload_n 0, 1) := by decide +kernel
theorem d_Mo_mount_21 : decode b_Mo_mount 21 = .ok (.invokevirtual 230, 3) := by decide +kernel
theorem d_Mo_mount_24 : decode b_Mo_mount 24 = .ok (.ireturn, 1) := by decide +kernel
theorem d_Mo_mount_5 : decode b_Mo_mount 5 = .ok (.aload_n 0, 1) := by decide +kernel
theorem d_Mo_mount_6 : decode b_Mo_mount 6 = .ok (.iconst 0, 1) := by decide +kernel
