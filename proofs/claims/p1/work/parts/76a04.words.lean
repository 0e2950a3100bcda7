theorem d_Mo_mount_7 : decode b_Mo_mount 7 = .ok (.putfield 180, 3) := by decide +kernel
theorem d_Mo_output_0 : decode b_Mo_output 0 = .ok (.aload_n 0, 1) := by decide +kernel
theorem d_Mo_output_1 : decode b_Mo_output 1 = .ok (.iload_n 1, 1) := by decide +kernel
theorem d_Mo_output_10 : decode b_Mo_output 10 = .ok (.if_icmp .lt 7, 3) := by decide +kernel
theorem d_Mo_output_13 : decode b_Mo_output 13 = .ok (.iconst 1, 1) := by decide +kernel
theorem d_Mo_output_14 : decode b_Mo_output 14 = .ok (.goto 4, 3) := by decide +kernel
theorem d_Mo_output_18 : decode b_Mo_output 18 = .ok (.putfield 87, 3) := by decide +kernel
theorem d_Mo_output_2 : decode b_Mo_output 2 = .ok (.ifCond .lt 11, 3) := by decide +kernel
theorem d_Mo_output_21 : decode b_Mo_output 21 = .ok (.aload_n 0, 1) := by decide +kernel
theorem d_Mo_output_22 : decode b_Mo_output 22 = .ok (.getfield 87, 3) := by decide +kernel
theorem d_Mo_output_25 : decode b_Mo_output 25 = .ok (.ifCond .le 7, 3) := by decide +kernel
theorem d_Mo_output_28 : decode b_Mo_output 28 = .ok (.iconst 0, 1) := by decide +kernel
theorem d_Mo_output_29 : decode b_Mo_output 29 = .ok (.goto 9, 3) := by decide +kernel
theorem d_Mo_output_38 : decode b_Mo_output 38 = .ok (.ireturn, 1) := by decide +kernel
theorem d_Mo_output_5 : decode b_Mo_output 5 = .ok (.iload_n 1, 1) := by decide +kernel
theorem d_Mo_output_6 : decode b_Mo_output 6 = .ok (.aload_n 0, 1) := by decide +kernel
theorem d_Mo_output_7 : decode b_Mo_output 7 = .ok (.getfield 277, 3) := by decide +kernel
theorem d_Mo_put_0 : decode b_Mo_put 0 = .ok (.aload_n 0, 1) := by decide +kernel
theorem d_Mo_put_1 : decode b_Mo_put 1 = .ok (.iconst 0, 1) := by decide +kernel
theorem d_Mo_put_10 : decode b_Mo_put 10 = .ok (.iload_n 2, 1) := by decide +kernel
theorem d_Mo_put_11 : decode b_Mo_put 11 = .ok (.iconst 4, 1) := by decide +kernel
theorem d_Mo_put_12 : decode b_Mo_put 12 = .ok (.if_icmp .gt 15, 3) := by decide +kernel
theorem d_Mo_put_15 : decode b_Mo_put 15 = .ok (.aload_n 0, 1) := by decide +kernel
theorem d_Mo_put_16 : decode b_Mo_put 16 = .ok (.getfield 224, 3) := by decide +kernel
theorem d_Mo_put_19 : decode b_Mo_put 19 = .ok (.iload_n 2, 1) := by decide +kernel
theorem d_Mo_put_2 : decode b_Mo_put 2 = .ok (.putfield 87, 3) := by decide +kernel
theorem d_Mo_put_20 : decode b_Mo_put 20 = .ok (.iadd, 1) := by decide +kernel
theorem d_Mo_put_21 : decode b_Mo_put 21 = .ok (.sipush 192, 3) := by decide +kernel
theorem d_Mo_put_24 : decode b_Mo_put 24 = .ok (.if_icmp .le 5, 3) := by decide +kernel
theorem d_Mo_put_27 : decode b_Mo_put 27 = .ok (.iconst 0, 1) := by decide +kernel
theorem d_Mo_put_28 : decode b_Mo_put 28 = .ok (.ireturn, 1) := by decide +kernel
theorem d_Mo_put_29 : decode b_Mo_put 29 = .ok (.iload_n 2, 1) := by decide +kernel
theorem d_Mo_put_30 : decode b_Mo_put 30 = .ok (.iconst 1, 1) := by decide +kernel
theorem d_Mo_put_31 : decode b_Mo_put 31 = .ok (.isub, 1) := by decide +kernel
theorem d_Mo_put_32 : decode b_Mo_put 32 = .ok (.istore_n 3, 1) := by decide +kernel
theorem d_Mo_put_33 : decode b_Mo_put 33 = .ok (.iload_n 3, 1) := by decide +kernel
theorem d_Mo_put_34 : decode b_Mo_put 34 = .ok (.ifCond .lt 38, 3) := by decide +kernel
theorem d_Mo_put_37 : decode b_Mo_put 37 = .ok (.aload_n 0, 1) := by decide +kernel
theorem d_Mo_put_38 : decode b_Mo_put 38 = .ok (.getfield 17, 3) := by decide +kernel
theorem d_Mo_put_41 : decode b_Mo_put 41 = .ok (.aload_n 0, 1) := by decide +kernel
theorem d_Mo_put_42 : decode b_Mo_put 42 = .ok (.getfield 224, 3) := by decide +kernel
theorem d_Mo_put_45 : decode b_Mo_put 45 = .ok (.iload_n 1, 1) := by decide +kernel
theorem d_Mo_put_46 : decode b_Mo_put 46 = .ok (.bipush 8, 2) := by decide +kernel
theorem d_Mo_put_48 : decode b_Mo_put 48 = .ok (.iload_n 3, 1) := by decide +kernel
theorem d_Mo_put_49 : decode b_Mo_put 49 = .ok (.imul, 1) := by decide +kernel
theorem d_Mo_put_5 : decode b_Mo_put 5 = .ok (.iload_n 2, 1) := by decide +kernel
theorem d_Mo_put_50 : decode b_Mo_put 50 = .ok (.iushr, 1) := by decide +kernel
theorem d_Mo_put_51 : decode b_Mo_put 51 = .ok (.sipush 255, 3) := by decide +kernel
theorem d_Mo_put_54 : decode b_Mo_put 54 = .ok (.iand, 1) := by decide +kernel
theorem d_Mo_put_55 : decode b_Mo_put 55 = .ok (.iastore, 1) := by decide +kernel
theorem d_Mo_put_56 : decode b_Mo_put 56 = .ok (.aload_n 0, 1) := by decide +kernel
theorem d_Mo_put_57 : decode b_Mo_put 57 = .ok (.dup, 1) := by decide +kernel
theorem d_Mo_put_58 : decode b_Mo_put 58 = .ok (.getfield 224, 3) := by decide +kernel
theorem d_Mo_put_6 : decode b_Mo_put 6 = .ok (.iconst 1, 1) := by decide +kernel
theorem d_Mo_put_61 : decode b_Mo_put 61 = .ok (.iconst 1, 1) := by decide +kernel
theorem d_Mo_put_62 : decode b_Mo_put 62 = .ok (.iadd, 1) := by decide +kernel
theorem d_Mo_put_63 : decode b_Mo_put 63 = .ok (.putfield 224, 3) := by decide +kernel
theorem d_Mo_put_66 : decode b_Mo_put 66 = .ok (.iinc 3 (-1), 3) := by decide +kernel
theorem d_Mo_put_69 : decode b_Mo_put 69 = .ok (.goto (-36), 3) := by decide +kernel
theorem d_Mo_put_7 : decode b_Mo_put 7 = .ok (.if_icmp .lt 20, 3) := by decide +kernel
