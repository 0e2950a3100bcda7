theorem d_Ca_init_0 : decode b_Ca_init 0 = .ok (.aload_n 0, 1) := by decide +kernel
theorem d_Ca_init_1 : decode b_Ca_init 1 = .ok (.invokespecial 3, 3) := by decide +kernel
theorem d_Ca_init_13 : decode b_Ca_init 13 = .ok (.putfield 11, 3) := by decide +kernel
theorem d_Ca_init_16 : decode b_Ca_init 16 = .ok (.aload_n 0, 1) := by decide +kernel
theorem d_Ca_init_17 : decode b_Ca_init 17 = .ok (.bipush 44, 2) := by decide +kernel
theorem d_Ca_init_19 : decode b_Ca_init 19 = .ok (.newarray .boolean, 2) := by decide +kernel
theorem d_Ca_init_21 : decode b_Ca_init 21 = .ok (.putfield 16, 3) := by decide +kernel
theorem d_Ca_init_24 : decode b_Ca_init 24 = .ok (.aload_n 0, 1) := by decide +kernel
theorem d_Ca_init_25 : decode b_Ca_init 25 = .ok (.iconst (-1), 1) := by decide +kernel
theorem d_Ca_init_26 : decode b_Ca_init 26 = .ok (.putfield 20, 3) := by decide +kernel
theorem d_Ca_init_29 : decode b_Ca_init 29 = .ok (.return_, 1) := by decide +kernel
theorem d_Ca_init_4 : decode b_Ca_init 4 = .ok (.aload_n 0, 1) := by decide +kernel
theorem d_Ca_init_5 : decode b_Ca_init 5 = .ok (.bipush 44, 2) := by decide +kernel
theorem d_Ca_init_7 : decode b_Ca_init 7 = .ok (.bipush 64, 2) := by decide +kernel
theorem d_Ca_init_9 : decode b_Ca_init 9 = .ok (.multianewarray 9 2, 4) := by decide +kernel
theorem d_Ep_init_0 : decode b_Ep_init 0 = .ok (.aload_n 0, 1) := by decide +kernel
theorem d_Ep_init_1 : decode b_Ep_init 1 = .ok (.invokespecial 3, 3) := by decide +kernel
theorem d_Ep_init_13 : decode b_Ep_init 13 = .ok (.putfield 11, 3) := by decide +kernel
theorem d_Ep_init_16 : decode b_Ep_init 16 = .ok (.aload_n 0, 1) := by decide +kernel
theorem d_Ep_init_17 : decode b_Ep_init 17 = .ok (.bipush 10, 2) := by decide +kernel
theorem d_Ep_init_19 : decode b_Ep_init 19 = .ok (.newarray .boolean, 2) := by decide +kernel
theorem d_Ep_init_21 : decode b_Ep_init 21 = .ok (.putfield 16, 3) := by decide +kernel
theorem d_Ep_init_24 : decode b_Ep_init 24 = .ok (.return_, 1) := by decide +kernel
theorem d_Ep_init_4 : decode b_Ep_init 4 = .ok (.aload_n 0, 1) := by decide +kernel
theorem d_Ep_init_5 : decode b_Ep_init 5 = .ok (.bipush 10, 2) := by decide +kernel
theorem d_Ep_init_7 : decode b_Ep_init 7 = .ok (.bipush 32, 2) := by decide +kernel
theorem d_Ep_init_9 : decode b_Ep_init 9 = .ok (.multianewarray 9 2, 4) := by decide +kernel
theorem d_Se_init_0 : decode b_Se_init 0 = .ok (.aload_n 0, 1) := by decide +kernel
theorem d_Se_init_1 : decode b_Se_init 1 = .ok (.invokespecial 3, 3) := by decide +kernel
theorem d_Se_init_12 : decode b_Se_init 12 = .ok (.putfield 12, 3) := by decide +kernel
theorem d_Se_init_15 : decode b_Se_init 15 = .ok (.aload_n 0, 1) := by decide +kernel
theorem d_Se_init_16 : decode b_Se_init 16 = .ok (.new 18, 3) := by decide +kernel
theorem d_Se_init_19 : decode b_Se_init 19 = .ok (.dup, 1) := by decide +kernel
theorem d_Se_init_20 : decode b_Se_init 20 = .ok (.invokespecial 20, 3) := by decide +kernel
theorem d_Se_init_23 : decode b_Se_init 23 = .ok (.putfield 21, 3) := by decide +kernel
theorem d_Se_init_26 : decode b_Se_init 26 = .ok (.aload_n 0, 1) := by decide +kernel
theorem d_Se_init_27 : decode b_Se_init 27 = .ok (.bipush 12, 2) := by decide +kernel
theorem d_Se_init_29 : decode b_Se_init 29 = .ok (.newarray .int, 2) := by decide +kernel
theorem d_Se_init_31 : decode b_Se_init 31 = .ok (.putfield 25, 3) := by decide +kernel
theorem d_Se_init_34 : decode b_Se_init 34 = .ok (.aload_n 0, 1) := by decide +kernel
theorem d_Se_init_35 : decode b_Se_init 35 = .ok (.iconst 4, 1) := by decide +kernel
theorem d_Se_init_36 : decode b_Se_init 36 = .ok (.newarray .int, 2) := by decide +kernel
theorem d_Se_init_38 : decode b_Se_init 38 = .ok (.putfield 29, 3) := by decide +kernel
theorem d_Se_init_4 : decode b_Se_init 4 = .ok (.aload_n 0, 1) := by decide +kernel
theorem d_Se_init_41 : decode b_Se_init 41 = .ok (.aload_n 0, 1) := by decide +kernel
theorem d_Se_init_42 : decode b_Se_init 42 = .ok (.bipush 16, 2) := by decide +kernel
theorem d_Se_init_44 : decode b_Se_init 44 = .ok (.newarray .int, 2) := by decide +kernel
theorem d_Se_init_46 : decode b_Se_init 46 = .ok (.putfield 32, 3) := by decide +kernel
theorem d_Se_init_49 : decode b_Se_init 49 = .ok (.return_, 1) := by decide +kernel
theorem d_Se_init_5 : decode b_Se_init 5 = .ok (.new 9, 3) := by decide +kernel
theorem d_Se_init_8 : decode b_Se_init 8 = .ok (.dup, 1) := by decide +kernel
theorem d_Se_init_9 : decode b_Se_init 9 = .ok (.invokespecial 11, 3) := by decide +kernel
theorem d_St_init_0 : decode b_St_init 0 = .ok (.aload_n 0, 1) := by decide +kernel
theorem d_St_init_1 : decode b_St_init 1 = .ok (.invokespecial 3, 3) := by decide +kernel
theorem d_St_init_13 : decode b_St_init 13 = .ok (.putfield 11, 3) := by decide +kernel
theorem d_St_init_16 : decode b_St_init 16 = .ok (.aload_n 0, 1) := by decide +kernel
theorem d_St_init_17 : decode b_St_init 17 = .ok (.iconst 4, 1) := by decide +kernel
theorem d_St_init_18 : decode b_St_init 18 = .ok (.newarray .boolean, 2) := by decide +kernel
theorem d_St_init_20 : decode b_St_init 20 = .ok (.putfield 16, 3) := by decide +kernel
theorem d_St_init_23 : decode b_St_init 23 = .ok (.aload_n 0, 1) := by decide +kernel
