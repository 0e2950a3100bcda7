theorem d_Mo_spoil_23 : decode b_Mo_spoil 23 = .ok (.aload_n 0, 1) := by decide +kernel
theorem d_Mo_spoil_24 : decode b_Mo_spoil 24 = .ok (.getfield 13, 3) := by decide +kernel
theorem d_Mo_spoil_27 : decode b_Mo_spoil 27 = .ok (.iload_n 1, 1) := by decide +kernel
theorem d_Mo_spoil_28 : decode b_Mo_spoil 28 = .ok (.iconst 1, 1) := by decide +kernel
theorem d_Mo_spoil_29 : decode b_Mo_spoil 29 = .ok (.bastore, 1) := by decide +kernel
theorem d_Mo_spoil_30 : decode b_Mo_spoil 30 = .ok (.return_, 1) := by decide +kernel
theorem d_Mo_spoil_5 : decode b_Mo_spoil 5 = .ok (.ifCond .eq 7, 3) := by decide +kernel
theorem d_Mo_spoil_8 : decode b_Mo_spoil 8 = .ok (.iconst 0, 1) := by decide +kernel
theorem d_Mo_spoil_9 : decode b_Mo_spoil 9 = .ok (.goto 4, 3) := by decide +kernel
theorem d_Mo_state_0 : decode b_Mo_state 0 = .ok (.aload_n 0, 1) := by decide +kernel
theorem d_Mo_state_1 : decode b_Mo_state 1 = .ok (.iload_n 1, 1) := by decide +kernel
theorem d_Mo_state_10 : decode b_Mo_state 10 = .ok (.iconst 1, 1) := by decide +kernel
theorem d_Mo_state_100 : decode b_Mo_state 100 = .ok (.if_icmp .ge 20, 3) := by decide +kernel
theorem d_Mo_state_103 : decode b_Mo_state 103 = .ok (.iload_n 3, 1) := by decide +kernel
theorem d_Mo_state_104 : decode b_Mo_state 104 = .ok (.iconst 1, 1) := by decide +kernel
theorem d_Mo_state_105 : decode b_Mo_state 105 = .ok (.iload_n 2, 1) := by decide +kernel
theorem d_Mo_state_106 : decode b_Mo_state 106 = .ok (.iload 4, 2) := by decide +kernel
theorem d_Mo_state_108 : decode b_Mo_state 108 = .ok (.ishr, 1) := by decide +kernel
theorem d_Mo_state_109 : decode b_Mo_state 109 = .ok (.iconst 1, 1) := by decide +kernel
theorem d_Mo_state_11 : decode b_Mo_state 11 = .ok (.goto 4, 3) := by decide +kernel
theorem d_Mo_state_110 : decode b_Mo_state 110 = .ok (.iand, 1) := by decide +kernel
theorem d_Mo_state_111 : decode b_Mo_state 111 = .ok (.isub, 1) := by decide +kernel
theorem d_Mo_state_112 : decode b_Mo_state 112 = .ok (.iadd, 1) := by decide +kernel
theorem d_Mo_state_113 : decode b_Mo_state 113 = .ok (.istore_n 3, 1) := by decide +kernel
theorem d_Mo_state_114 : decode b_Mo_state 114 = .ok (.iinc 4 1, 3) := by decide +kernel
theorem d_Mo_state_117 : decode b_Mo_state 117 = .ok (.goto (-21), 3) := by decide +kernel
theorem d_Mo_state_120 : decode b_Mo_state 120 = .ok (.iload_n 3, 1) := by decide +kernel
theorem d_Mo_state_121 : decode b_Mo_state 121 = .ok (.ireturn, 1) := by decide +kernel
theorem d_Mo_state_14 : decode b_Mo_state 14 = .ok (.iconst 0, 1) := by decide +kernel
theorem d_Mo_state_15 : decode b_Mo_state 15 = .ok (.putfield 87, 3) := by decide +kernel
theorem d_Mo_state_18 : decode b_Mo_state 18 = .ok (.aload_n 0, 1) := by decide +kernel
theorem d_Mo_state_19 : decode b_Mo_state 19 = .ok (.getfield 87, 3) := by decide +kernel
theorem d_Mo_state_2 : decode b_Mo_state 2 = .ok (.ifCond .lt 8, 3) := by decide +kernel
theorem d_Mo_state_22 : decode b_Mo_state 22 = .ok (.ifCond .le 5, 3) := by decide +kernel
theorem d_Mo_state_25 : decode b_Mo_state 25 = .ok (.iconst 0, 1) := by decide +kernel
theorem d_Mo_state_26 : decode b_Mo_state 26 = .ok (.ireturn, 1) := by decide +kernel
theorem d_Mo_state_27 : decode b_Mo_state 27 = .ok (.iload_n 1, 1) := by decide +kernel
theorem d_Mo_state_28 : decode b_Mo_state 28 = .ok (.ifCond .ne 8, 3) := by decide +kernel
theorem d_Mo_state_31 : decode b_Mo_state 31 = .ok (.aload_n 0, 1) := by decide +kernel
theorem d_Mo_state_32 : decode b_Mo_state 32 = .ok (.invokevirtual 230, 3) := by decide +kernel
theorem d_Mo_state_35 : decode b_Mo_state 35 = .ok (.ireturn, 1) := by decide +kernel
theorem d_Mo_state_36 : decode b_Mo_state 36 = .ok (.iload_n 1, 1) := by decide +kernel
theorem d_Mo_state_37 : decode b_Mo_state 37 = .ok (.iconst 2, 1) := by decide +kernel
theorem d_Mo_state_38 : decode b_Mo_state 38 = .ok (.if_icmp .ne 8, 3) := by decide +kernel
theorem d_Mo_state_41 : decode b_Mo_state 41 = .ok (.aload_n 0, 1) := by decide +kernel
theorem d_Mo_state_42 : decode b_Mo_state 42 = .ok (.getfield 138, 3) := by decide +kernel
theorem d_Mo_state_45 : decode b_Mo_state 45 = .ok (.ireturn, 1) := by decide +kernel
theorem d_Mo_state_46 : decode b_Mo_state 46 = .ok (.iload_n 1, 1) := by decide +kernel
theorem d_Mo_state_47 : decode b_Mo_state 47 = .ok (.iconst 3, 1) := by decide +kernel
theorem d_Mo_state_48 : decode b_Mo_state 48 = .ok (.if_icmp .ne 8, 3) := by decide +kernel
theorem d_Mo_state_5 : decode b_Mo_state 5 = .ok (.iload_n 1, 1) := by decide +kernel
theorem d_Mo_state_51 : decode b_Mo_state 51 = .ok (.aload_n 0, 1) := by decide +kernel
theorem d_Mo_state_52 : decode b_Mo_state 52 = .ok (.getfield 184, 3) := by decide +kernel
theorem d_Mo_state_55 : decode b_Mo_state 55 = .ok (.ireturn, 1) := by decide +kernel
theorem d_Mo_state_56 : decode b_Mo_state 56 = .ok (.iload_n 1, 1) := by decide +kernel
theorem d_Mo_state_57 : decode b_Mo_state 57 = .ok (.iconst 3, 1) := by decide +kernel
theorem d_Mo_state_58 : decode b_Mo_state 58 = .ok (.if_icmp .le 28, 3) := by decide +kernel
theorem d_Mo_state_6 : decode b_Mo_state 6 = .ok (.iconst 5, 1) := by decide +kernel
theorem d_Mo_state_61 : decode b_Mo_state 61 = .ok (.iload_n 1, 1) := by decide +kernel
theorem d_Mo_state_62 : decode b_Mo_state 62 = .ok (.iconst 4, 1) := by decide +kernel
