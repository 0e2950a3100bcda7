theorem d_St_init_24 : decode b_St_init 24 = .ok (.bipush 8, 2) := by decide +kernel
theorem d_St_init_26 : decode b_St_init 26 = .ok (.putfield 20, 3) := by decide +kernel
theorem d_St_init_29 : decode b_St_init 29 = .ok (.aload_n 0, 1) := by decide +kernel
theorem d_St_init_30 : decode b_St_init 30 = .ok (.aload_n 1, 1) := by decide +kernel
theorem d_St_init_31 : decode b_St_init 31 = .ok (.putfield 24, 3) := by decide +kernel
theorem d_St_init_34 : decode b_St_init 34 = .ok (.aload_n 0, 1) := by decide +kernel
theorem d_St_init_35 : decode b_St_init 35 = .ok (.aload_n 2, 1) := by decide +kernel
theorem d_St_init_36 : decode b_St_init 36 = .ok (.putfield 28, 3) := by decide +kernel
theorem d_St_init_39 : decode b_St_init 39 = .ok (.return_, 1) := by decide +kernel
theorem d_St_init_4 : decode b_St_init 4 = .ok (.aload_n 0, 1) := by decide +kernel
theorem d_St_init_5 : decode b_St_init 5 = .ok (.bipush 6, 2) := by decide +kernel
theorem d_St_init_7 : decode b_St_init 7 = .ok (.bipush 64, 2) := by decide +kernel
theorem d_St_init_9 : decode b_St_init 9 = .ok (.multianewarray 9 2, 4) := by decide +kernel
