theorem d_Mo_append_0 : decode b_Mo_append 0 = .ok (.aload_n 0, 1) := by decide +kernel
theorem d_Mo_append_1 : decode b_Mo_append 1 = .ok (.aload_n 0, 1) := by decide +kernel
theorem d_Mo_append_2 : decode b_Mo_append 2 = .ok (.getfield 227, 3) := by decide +kernel
theorem d_Mo_append_30 : decode b_Mo_append 30 = .ok (.iconst 1, 1) := by decide +kernel
theorem d_Mo_append_31 : decode b_Mo_append 31 = .ok (.goto 4, 3) := by decide +kernel
theorem d_Mo_append_35 : decode b_Mo_append 35 = .ok (.putfield 87, 3) := by decide +kernel
theorem d_Mo_append_38 : decode b_Mo_append 38 = .ok (.aload_n 0, 1) := by decide +kernel
theorem d_Mo_append_39 : decode b_Mo_append 39 = .ok (.getfield 87, 3) := by decide +kernel
theorem d_Mo_append_42 : decode b_Mo_append 42 = .ok (.ifCond .ne 32, 3) := by decide +kernel
theorem d_Mo_append_5 : decode b_Mo_append 5 = .ok (.ifCond .eq 25, 3) := by decide +kernel
theorem d_Mo_append_74 : decode b_Mo_append 74 = .ok (.aload_n 0, 1) := by decide +kernel
theorem d_Mo_append_75 : decode b_Mo_append 75 = .ok (.getfield 87, 3) := by decide +kernel
theorem d_Mo_append_78 : decode b_Mo_append 78 = .ok (.ifCond .le 5, 3) := by decide +kernel
theorem d_Mo_append_81 : decode b_Mo_append 81 = .ok (.iconst 0, 1) := by decide +kernel
theorem d_Mo_append_82 : decode b_Mo_append 82 = .ok (.ireturn, 1) := by decide +kernel
theorem d_Mo_block_0 : decode b_Mo_block 0 = .ok (.aload_n 0, 1) := by decide +kernel
theorem d_Mo_block_1 : decode b_Mo_block 1 = .ok (.iload_n 1, 1) := by decide +kernel
theorem d_Mo_block_12 : decode b_Mo_block 12 = .ok (.iload_n 2, 1) := by decide +kernel
theorem d_Mo_block_13 : decode b_Mo_block 13 = .ok (.bipush 64, 2) := by decide +kernel
theorem d_Mo_block_15 : decode b_Mo_block 15 = .ok (.if_icmp .lt 7, 3) := by decide +kernel
theorem d_Mo_block_18 : decode b_Mo_block 18 = .ok (.iconst 1, 1) := by decide +kernel
theorem d_Mo_block_19 : decode b_Mo_block 19 = .ok (.goto 4, 3) := by decide +kernel
theorem d_Mo_block_2 : decode b_Mo_block 2 = .ok (.invokestatic 286, 3) := by decide +kernel
theorem d_Mo_block_22 : decode b_Mo_block 22 = .ok (.iconst 0, 1) := by decide +kernel
theorem d_Mo_block_23 : decode b_Mo_block 23 = .ok (.putfield 87, 3) := by decide +kernel
theorem d_Mo_block_26 : decode b_Mo_block 26 = .ok (.aload_n 0, 1) := by decide +kernel
theorem d_Mo_block_27 : decode b_Mo_block 27 = .ok (.getfield 87, 3) := by decide +kernel
theorem d_Mo_block_30 : decode b_Mo_block 30 = .ok (.ifCond .le 5, 3) := by decide +kernel
theorem d_Mo_block_33 : decode b_Mo_block 33 = .ok (.iconst 0, 1) := by decide +kernel
theorem d_Mo_block_34 : decode b_Mo_block 34 = .ok (.ireturn, 1) := by decide +kernel
theorem d_Mo_block_35 : decode b_Mo_block 35 = .ok (.aload_n 0, 1) := by decide +kernel
theorem d_Mo_block_36 : decode b_Mo_block 36 = .ok (.getfield 13, 3) := by decide +kernel
theorem d_Mo_block_39 : decode b_Mo_block 39 = .ok (.iload_n 1, 1) := by decide +kernel
theorem d_Mo_block_40 : decode b_Mo_block 40 = .ok (.baload, 1) := by decide +kernel
theorem d_Mo_block_41 : decode b_Mo_block 41 = .ok (.ifCond .eq 7, 3) := by decide +kernel
theorem d_Mo_block_48 : decode b_Mo_block 48 = .ok (.aload_n 0, 1) := by decide +kernel
theorem d_Mo_block_49 : decode b_Mo_block 49 = .ok (.getfield 7, 3) := by decide +kernel
theorem d_Mo_block_5 : decode b_Mo_block 5 = .ok (.ifCond .eq 13, 3) := by decide +kernel
theorem d_Mo_block_52 : decode b_Mo_block 52 = .ok (.bipush 64, 2) := by decide +kernel
theorem d_Mo_block_54 : decode b_Mo_block 54 = .ok (.iload_n 1, 1) := by decide +kernel
theorem d_Mo_block_55 : decode b_Mo_block 55 = .ok (.imul, 1) := by decide +kernel
theorem d_Mo_block_56 : decode b_Mo_block 56 = .ok (.iload_n 2, 1) := by decide +kernel
theorem d_Mo_block_57 : decode b_Mo_block 57 = .ok (.iadd, 1) := by decide +kernel
theorem d_Mo_block_58 : decode b_Mo_block 58 = .ok (.iaload, 1) := by decide +kernel
theorem d_Mo_block_59 : decode b_Mo_block 59 = .ok (.ireturn, 1) := by decide +kernel
theorem d_Mo_block_8 : decode b_Mo_block 8 = .ok (.iload_n 2, 1) := by decide +kernel
theorem d_Mo_block_9 : decode b_Mo_block 9 = .ok (.ifCond .lt 9, 3) := by decide +kernel
theorem d_Mo_create_0 : decode b_Mo_create 0 = .ok (.aload_n 0, 1) := by decide +kernel
theorem d_Mo_create_1 : decode b_Mo_create 1 = .ok (.aload_n 0, 1) := by decide +kernel
theorem d_Mo_create_2 : decode b_Mo_create 2 = .ok (.getfield 138, 3) := by decide +kernel
theorem d_Mo_create_30 : decode b_Mo_create 30 = .ok (.iconst 1, 1) := by decide +kernel
theorem d_Mo_create_31 : decode b_Mo_create 31 = .ok (.goto 4, 3) := by decide +kernel
theorem d_Mo_create_35 : decode b_Mo_create 35 = .ok (.putfield 87, 3) := by decide +kernel
theorem d_Mo_create_38 : decode b_Mo_create 38 = .ok (.aload_n 0, 1) := by decide +kernel
theorem d_Mo_create_39 : decode b_Mo_create 39 = .ok (.getfield 87, 3) := by decide +kernel
theorem d_Mo_create_42 : decode b_Mo_create 42 = .ok (.ifCond .le 5, 3) := by decide +kernel
theorem d_Mo_create_45 : decode b_Mo_create 45 = .ok (.iconst 0, 1) := by decide +kernel
theorem d_Mo_create_46 : decode b_Mo_create 46 = .ok (.ireturn, 1) := by decide +kernel
theorem d_Mo_create_5 : decode b_Mo_create 5 = .ok (.ifCond .eq 25, 3) := by decide +kernel
theorem d_Mo_damage_0 : decode b_Mo_damage 0 = .ok (.aload_n 0, 1) := by decide +kernel
