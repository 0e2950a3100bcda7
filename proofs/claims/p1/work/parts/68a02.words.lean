theorem d_TS_put_16 : decode b_TS_put 16 = .ok (.sipush 192, 3) := by decide +kernel
theorem d_TS_put_19 : decode b_TS_put 19 = .ok (.if_icmp .le 5, 3) := by decide +kernel
theorem d_TS_put_2 : decode b_TS_put 2 = .ok (.if_icmp .lt 20, 3) := by decide +kernel
theorem d_TS_put_22 : decode b_TS_put 22 = .ok (.iconst 0, 1) := by decide +kernel
theorem d_TS_put_23 : decode b_TS_put 23 = .ok (.ireturn, 1) := by decide +kernel
theorem d_TS_put_24 : decode b_TS_put 24 = .ok (.iload_n 2, 1) := by decide +kernel
theorem d_TS_put_25 : decode b_TS_put 25 = .ok (.iconst 1, 1) := by decide +kernel
theorem d_TS_put_26 : decode b_TS_put 26 = .ok (.isub, 1) := by decide +kernel
theorem d_TS_put_27 : decode b_TS_put 27 = .ok (.istore_n 3, 1) := by decide +kernel
theorem d_TS_put_28 : decode b_TS_put 28 = .ok (.iload_n 3, 1) := by decide +kernel
theorem d_TS_put_29 : decode b_TS_put 29 = .ok (.ifCond .lt 38, 3) := by decide +kernel
theorem d_TS_put_32 : decode b_TS_put 32 = .ok (.aload_n 0, 1) := by decide +kernel
theorem d_TS_put_33 : decode b_TS_put 33 = .ok (.getfield 69, 3) := by decide +kernel
theorem d_TS_put_36 : decode b_TS_put 36 = .ok (.aload_n 0, 1) := by decide +kernel
theorem d_TS_put_37 : decode b_TS_put 37 = .ok (.getfield 78, 3) := by decide +kernel
theorem d_TS_put_40 : decode b_TS_put 40 = .ok (.iload_n 1, 1) := by decide +kernel
theorem d_TS_put_41 : decode b_TS_put 41 = .ok (.bipush 8, 2) := by decide +kernel
theorem d_TS_put_43 : decode b_TS_put 43 = .ok (.iload_n 3, 1) := by decide +kernel
theorem d_TS_put_44 : decode b_TS_put 44 = .ok (.imul, 1) := by decide +kernel
theorem d_TS_put_45 : decode b_TS_put 45 = .ok (.iushr, 1) := by decide +kernel
theorem d_TS_put_46 : decode b_TS_put 46 = .ok (.sipush 255, 3) := by decide +kernel
theorem d_TS_put_49 : decode b_TS_put 49 = .ok (.iand, 1) := by decide +kernel
theorem d_TS_put_5 : decode b_TS_put 5 = .ok (.iload_n 2, 1) := by decide +kernel
theorem d_TS_put_50 : decode b_TS_put 50 = .ok (.iastore, 1) := by decide +kernel
theorem d_TS_put_51 : decode b_TS_put 51 = .ok (.aload_n 0, 1) := by decide +kernel
theorem d_TS_put_52 : decode b_TS_put 52 = .ok (.dup, 1) := by decide +kernel
theorem d_TS_put_53 : decode b_TS_put 53 = .ok (.getfield 78, 3) := by decide +kernel
theorem d_TS_put_56 : decode b_TS_put 56 = .ok (.iconst 1, 1) := by decide +kernel
theorem d_TS_put_57 : decode b_TS_put 57 = .ok (.iadd, 1) := by decide +kernel
theorem d_TS_put_58 : decode b_TS_put 58 = .ok (.putfield 78, 3) := by decide +kernel
theorem d_TS_put_6 : decode b_TS_put 6 = .ok (.iconst 4, 1) := by decide +kernel
theorem d_TS_put_61 : decode b_TS_put 61 = .ok (.iinc 3 (-1), 3) := by decide +kernel
theorem d_TS_put_64 : decode b_TS_put 64 = .ok (.goto (-36), 3) := by decide +kernel
theorem d_TS_put_67 : decode b_TS_put 67 = .ok (.iconst 1, 1) := by decide +kernel
theorem d_TS_put_68 : decode b_TS_put 68 = .ok (.ireturn, 1) := by decide +kernel
theorem d_TS_put_7 : decode b_TS_put 7 = .ok (.if_icmp .gt 15, 3) := by decide +kernel
theorem d_TS_spoil_16 : decode b_TS_spoil 16 = .ok (.aload_n 0, 1) := by decide +kernel
theorem d_TS_spoil_17 : decode b_TS_spoil 17 = .ok (.getfield 10, 3) := by decide +kernel
theorem d_TS_spoil_20 : decode b_TS_spoil 20 = .ok (.getfield 222, 3) := by decide +kernel
theorem d_TS_spoil_23 : decode b_TS_spoil 23 = .ok (.iload_n 1, 1) := by decide +kernel
theorem d_TS_spoil_24 : decode b_TS_spoil 24 = .ok (.iconst 1, 1) := by decide +kernel
theorem d_TS_spoil_25 : decode b_TS_spoil 25 = .ok (.bastore, 1) := by decide +kernel
theorem d_TS_spoil_26 : decode b_TS_spoil 26 = .ok (.aload_n 0, 1) := by decide +kernel
theorem d_TS_spoil_27 : decode b_TS_spoil 27 = .ok (.getfield 10, 3) := by decide +kernel
theorem d_TS_spoil_30 : decode b_TS_spoil 30 = .ok (.iload_n 1, 1) := by decide +kernel
theorem d_TS_spoil_31 : decode b_TS_spoil 31 = .ok (.invokevirtual 219, 3) := by decide +kernel
theorem d_TS_spoil_34 : decode b_TS_spoil 34 = .ok (.return_, 1) := by decide +kernel
theorem d_TS_stopAfter_14 : decode b_TS_stopAfter 14 = .ok (.aload_n 0, 1) := by decide +kernel
theorem d_TS_stopAfter_15 : decode b_TS_stopAfter 15 = .ok (.getfield 10, 3) := by decide +kernel
theorem d_TS_stopAfter_18 : decode b_TS_stopAfter 18 = .ok (.iload_n 1, 1) := by decide +kernel
theorem d_TS_stopAfter_19 : decode b_TS_stopAfter 19 = .ok (.iconst (-1), 1) := by decide +kernel
theorem d_TS_stopAfter_20 : decode b_TS_stopAfter 20 = .ok (.invokestatic 225, 3) := by decide +kernel
theorem d_TS_stopAfter_23 : decode b_TS_stopAfter 23 = .ok (.putfield 228, 3) := by decide +kernel
theorem d_TS_stopAfter_26 : decode b_TS_stopAfter 26 = .ok (.return_, 1) := by decide +kernel
