theorem dX2_init_0 : decode cX2_init 0 = .ok (.aload_n 0, 1) := by decide +kernel
theorem dX2_init_1 : decode cX2_init 1 = .ok (.invokespecial 1, 3) := by decide +kernel
theorem dX2_init_4 : decode cX2_init 4 = .ok (.return_, 1) := by decide +kernel
theorem dX2_begin_0 : decode cX2_begin 0 = .ok (.aload_n 0, 1) := by decide +kernel
theorem dX2_begin_1 : decode cX2_begin 1 = .ok (.iload_n 1, 1) := by decide +kernel
theorem dX2_begin_2 : decode cX2_begin 2 = .ok (.i2l, 1) := by decide +kernel
theorem dX2_begin_3 : decode cX2_begin 3 = .ok (.putfield 7, 3) := by decide +kernel
theorem dX2_begin_6 : decode cX2_begin 6 = .ok (.return_, 1) := by decide +kernel
theorem dX2_draw_0 : decode cX2_draw 0 = .ok (.aload_n 0, 1) := by decide +kernel
theorem dX2_draw_1 : decode cX2_draw 1 = .ok (.aload_n 0, 1) := by decide +kernel
theorem dX2_draw_2 : decode cX2_draw 2 = .ok (.getfield 7, 3) := by decide +kernel
theorem dX2_draw_5 : decode cX2_draw 5 = .ok (.ldc2_w 13, 3) := by decide +kernel
theorem dX2_draw_8 : decode cX2_draw 8 = .ok (.lmul, 1) := by decide +kernel
theorem dX2_draw_9 : decode cX2_draw 9 = .ok (.ldc2_w 15, 3) := by decide +kernel
theorem dX2_draw_12 : decode cX2_draw 12 = .ok (.lrem, 1) := by decide +kernel
theorem dX2_draw_13 : decode cX2_draw 13 = .ok (.putfield 7, 3) := by decide +kernel
theorem dX2_draw_16 : decode cX2_draw 16 = .ok (.iload_n 1, 1) := by decide +kernel
theorem dX2_draw_17 : decode cX2_draw 17 = .ok (.iconst 1, 1) := by decide +kernel
theorem dX2_draw_18 : decode cX2_draw 18 = .ok (.if_icmp .ge 7, 3) := by decide +kernel
theorem dX2_draw_21 : decode cX2_draw 21 = .ok (.iconst 0, 1) := by decide +kernel
theorem dX2_draw_22 : decode cX2_draw 22 = .ok (.goto 11, 3) := by decide +kernel
theorem dX2_draw_25 : decode cX2_draw 25 = .ok (.aload_n 0, 1) := by decide +kernel
theorem dX2_draw_26 : decode cX2_draw 26 = .ok (.getfield 7, 3) := by decide +kernel
theorem dX2_draw_29 : decode cX2_draw 29 = .ok (.iload_n 1, 1) := by decide +kernel
theorem dX2_draw_30 : decode cX2_draw 30 = .ok (.i2l, 1) := by decide +kernel
theorem dX2_draw_31 : decode cX2_draw 31 = .ok (.lrem, 1) := by decide +kernel
theorem dX2_draw_32 : decode cX2_draw 32 = .ok (.l2i, 1) := by decide +kernel
theorem dX2_draw_33 : decode cX2_draw 33 = .ok (.ireturn, 1) := by decide +kernel
