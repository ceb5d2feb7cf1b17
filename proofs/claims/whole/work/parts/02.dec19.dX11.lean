theorem dX11_goBack_11 : decode cX11_goBack 11 = .ok (.ireturn, 1) := by decide +kernel
theorem dX11_goBack_12 : decode cX11_goBack 12 = .ok (.aload_n 0, 1) := by decide +kernel
theorem dX11_goBack_13 : decode cX11_goBack 13 = .ok (.getfield 19, 3) := by decide +kernel
theorem dX11_goBack_16 : decode cX11_goBack 16 = .ok (.iload_n 1, 1) := by decide +kernel
theorem dX11_goBack_17 : decode cX11_goBack 17 = .ok (.baload, 1) := by decide +kernel
theorem dX11_goBack_18 : decode cX11_goBack 18 = .ok (.ifCond .ne 6, 3) := by decide +kernel
theorem dX11_goBack_21 : decode cX11_goBack 21 = .ok (.ldc 128, 2) := by decide +kernel
theorem dX11_goBack_23 : decode cX11_goBack 23 = .ok (.ireturn, 1) := by decide +kernel
theorem dX11_goBack_24 : decode cX11_goBack 24 = .ok (.iconst 0, 1) := by decide +kernel
theorem dX11_goBack_25 : decode cX11_goBack 25 = .ok (.istore_n 2, 1) := by decide +kernel
theorem dX11_goBack_26 : decode cX11_goBack 26 = .ok (.iload_n 2, 1) := by decide +kernel
theorem dX11_goBack_27 : decode cX11_goBack 27 = .ok (.bipush 102, 2) := by decide +kernel
theorem dX11_goBack_29 : decode cX11_goBack 29 = .ok (.if_icmp .ge 26, 3) := by decide +kernel
theorem dX11_goBack_32 : decode cX11_goBack 32 = .ok (.aload_n 0, 1) := by decide +kernel
theorem dX11_goBack_33 : decode cX11_goBack 33 = .ok (.getfield 7, 3) := by decide +kernel
theorem dX11_goBack_36 : decode cX11_goBack 36 = .ok (.iload_n 2, 1) := by decide +kernel
theorem dX11_goBack_37 : decode cX11_goBack 37 = .ok (.aload_n 0, 1) := by decide +kernel
theorem dX11_goBack_38 : decode cX11_goBack 38 = .ok (.getfield 16, 3) := by decide +kernel
theorem dX11_goBack_41 : decode cX11_goBack 41 = .ok (.bipush 102, 2) := by decide +kernel
theorem dX11_goBack_43 : decode cX11_goBack 43 = .ok (.iload_n 1, 1) := by decide +kernel
theorem dX11_goBack_44 : decode cX11_goBack 44 = .ok (.imul, 1) := by decide +kernel
theorem dX11_goBack_45 : decode cX11_goBack 45 = .ok (.iload_n 2, 1) := by decide +kernel
theorem dX11_goBack_46 : decode cX11_goBack 46 = .ok (.iadd, 1) := by decide +kernel
theorem dX11_goBack_47 : decode cX11_goBack 47 = .ok (.iaload, 1) := by decide +kernel
theorem dX11_goBack_48 : decode cX11_goBack 48 = .ok (.iastore, 1) := by decide +kernel
theorem dX11_goBack_49 : decode cX11_goBack 49 = .ok (.iinc 2 1, 3) := by decide +kernel
theorem dX11_goBack_52 : decode cX11_goBack 52 = .ok (.goto (-26), 3) := by decide +kernel
theorem dX11_goBack_55 : decode cX11_goBack 55 = .ok (.aload_n 0, 1) := by decide +kernel
theorem dX11_goBack_56 : decode cX11_goBack 56 = .ok (.iconst 0, 1) := by decide +kernel
theorem dX11_goBack_57 : decode cX11_goBack 57 = .ok (.putfield 80, 3) := by decide +kernel
theorem dX11_goBack_60 : decode cX11_goBack 60 = .ok (.aload_n 0, 1) := by decide +kernel
theorem dX11_goBack_61 : decode cX11_goBack 61 = .ok (.getfield 7, 3) := by decide +kernel
theorem dX11_goBack_64 : decode cX11_goBack 64 = .ok (.iconst 5, 1) := by decide +kernel
theorem dX11_goBack_65 : decode cX11_goBack 65 = .ok (.iaload, 1) := by decide +kernel
theorem dX11_goBack_66 : decode cX11_goBack 66 = .ok (.ireturn, 1) := by decide +kernel
