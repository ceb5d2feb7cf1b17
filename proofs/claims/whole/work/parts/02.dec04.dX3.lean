theorem dX3_init_0 : decode cX3_init 0 = .ok (.aload_n 0, 1) := by decide +kernel
theorem dX3_init_1 : decode cX3_init 1 = .ok (.invokespecial 3, 3) := by decide +kernel
theorem dX3_init_4 : decode cX3_init 4 = .ok (.aload_n 0, 1) := by decide +kernel
theorem dX3_init_5 : decode cX3_init 5 = .ok (.new 9, 3) := by decide +kernel
theorem dX3_init_8 : decode cX3_init 8 = .ok (.dup, 1) := by decide +kernel
theorem dX3_init_9 : decode cX3_init 9 = .ok (.invokespecial 11, 3) := by decide +kernel
theorem dX3_init_12 : decode cX3_init 12 = .ok (.putfield 12, 3) := by decide +kernel
theorem dX3_init_15 : decode cX3_init 15 = .ok (.aload_n 0, 1) := by decide +kernel
theorem dX3_init_16 : decode cX3_init 16 = .ok (.new 18, 3) := by decide +kernel
theorem dX3_init_19 : decode cX3_init 19 = .ok (.dup, 1) := by decide +kernel
theorem dX3_init_20 : decode cX3_init 20 = .ok (.invokespecial 20, 3) := by decide +kernel
theorem dX3_init_23 : decode cX3_init 23 = .ok (.putfield 21, 3) := by decide +kernel
theorem dX3_init_26 : decode cX3_init 26 = .ok (.aload_n 0, 1) := by decide +kernel
theorem dX3_init_27 : decode cX3_init 27 = .ok (.new 25, 3) := by decide +kernel
theorem dX3_init_30 : decode cX3_init 30 = .ok (.dup, 1) := by decide +kernel
theorem dX3_init_31 : decode cX3_init 31 = .ok (.invokespecial 27, 3) := by decide +kernel
theorem dX3_init_34 : decode cX3_init 34 = .ok (.putfield 28, 3) := by decide +kernel
theorem dX3_init_37 : decode cX3_init 37 = .ok (.aload_n 0, 1) := by decide +kernel
theorem dX3_init_38 : decode cX3_init 38 = .ok (.iconst (-1), 1) := by decide +kernel
theorem dX3_init_39 : decode cX3_init 39 = .ok (.putfield 32, 3) := by decide +kernel
theorem dX3_init_42 : decode cX3_init 42 = .ok (.return_, 1) := by decide +kernel
theorem dX3_clear_0 : decode cX3_clear 0 = .ok (.aload_n 0, 1) := by decide +kernel
theorem dX3_clear_1 : decode cX3_clear 1 = .ok (.getfield 21, 3) := by decide +kernel
theorem dX3_clear_4 : decode cX3_clear 4 = .ok (.iconst 0, 1) := by decide +kernel
theorem dX3_clear_5 : decode cX3_clear 5 = .ok (.putfield 36, 3) := by decide +kernel
theorem dX3_clear_8 : decode cX3_clear 8 = .ok (.aload_n 0, 1) := by decide +kernel
theorem dX3_clear_9 : decode cX3_clear 9 = .ok (.getfield 28, 3) := by decide +kernel
theorem dX3_clear_12 : decode cX3_clear 12 = .ok (.iconst 0, 1) := by decide +kernel
theorem dX3_clear_13 : decode cX3_clear 13 = .ok (.putfield 39, 3) := by decide +kernel
theorem dX3_clear_16 : decode cX3_clear 16 = .ok (.return_, 1) := by decide +kernel
theorem dX3_become_0 : decode cX3_become 0 = .ok (.aload_n 0, 1) := by decide +kernel
theorem dX3_become_1 : decode cX3_become 1 = .ok (.getfield 12, 3) := by decide +kernel
theorem dX3_become_4 : decode cX3_become 4 = .ok (.aload_n 1, 1) := by decide +kernel
theorem dX3_become_5 : decode cX3_become 5 = .ok (.getfield 12, 3) := by decide +kernel
theorem dX3_become_8 : decode cX3_become 8 = .ok (.getfield 40, 3) := by decide +kernel
theorem dX3_become_11 : decode cX3_become 11 = .ok (.aload_n 1, 1) := by decide +kernel
theorem dX3_become_12 : decode cX3_become 12 = .ok (.getfield 12, 3) := by decide +kernel
theorem dX3_become_15 : decode cX3_become 15 = .ok (.getfield 43, 3) := by decide +kernel
theorem dX3_become_18 : decode cX3_become 18 = .ok (.aload_n 1, 1) := by decide +kernel
theorem dX3_become_19 : decode cX3_become 19 = .ok (.getfield 12, 3) := by decide +kernel
theorem dX3_become_22 : decode cX3_become 22 = .ok (.getfield 46, 3) := by decide +kernel
theorem dX3_become_25 : decode cX3_become 25 = .ok (.invokevirtual 49, 3) := by decide +kernel
theorem dX3_become_28 : decode cX3_become 28 = .ok (.aload_n 0, 1) := by decide +kernel
theorem dX3_become_29 : decode cX3_become 29 = .ok (.getfield 21, 3) := by decide +kernel
theorem dX3_become_32 : decode cX3_become 32 = .ok (.aload_n 1, 1) := by decide +kernel
theorem dX3_become_33 : decode cX3_become 33 = .ok (.getfield 21, 3) := by decide +kernel
theorem dX3_become_36 : decode cX3_become 36 = .ok (.invokevirtual 53, 3) := by decide +kernel
theorem dX3_become_39 : decode cX3_become 39 = .ok (.aload_n 0, 1) := by decide +kernel
theorem dX3_become_40 : decode cX3_become 40 = .ok (.getfield 28, 3) := by decide +kernel
theorem dX3_become_43 : decode cX3_become 43 = .ok (.aload_n 1, 1) := by decide +kernel
theorem dX3_become_44 : decode cX3_become 44 = .ok (.getfield 28, 3) := by decide +kernel
theorem dX3_become_47 : decode cX3_become 47 = .ok (.invokevirtual 57, 3) := by decide +kernel
theorem dX3_become_50 : decode cX3_become 50 = .ok (.aload_n 0, 1) := by decide +kernel
theorem dX3_become_51 : decode cX3_become 51 = .ok (.aload_n 1, 1) := by decide +kernel
theorem dX3_become_52 : decode cX3_become 52 = .ok (.getfield 32, 3) := by decide +kernel
theorem dX3_become_55 : decode cX3_become 55 = .ok (.putfield 32, 3) := by decide +kernel
theorem dX3_become_58 : decode cX3_become 58 = .ok (.return_, 1) := by decide +kernel
