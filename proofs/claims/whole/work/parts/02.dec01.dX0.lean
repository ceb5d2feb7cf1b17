theorem dX0_init_0 : decode cX0_init 0 = .ok (.aload_n 0, 1) := by decide +kernel
theorem dX0_init_1 : decode cX0_init 1 = .ok (.invokespecial 1, 3) := by decide +kernel
theorem dX0_init_4 : decode cX0_init 4 = .ok (.aload_n 0, 1) := by decide +kernel
theorem dX0_init_5 : decode cX0_init 5 = .ok (.iconst 2, 1) := by decide +kernel
theorem dX0_init_6 : decode cX0_init 6 = .ok (.iconst 5, 1) := by decide +kernel
theorem dX0_init_7 : decode cX0_init 7 = .ok (.iconst 2, 1) := by decide +kernel
theorem dX0_init_8 : decode cX0_init 8 = .ok (.invokevirtual 7, 3) := by decide +kernel
theorem dX0_init_11 : decode cX0_init 11 = .ok (.return_, 1) := by decide +kernel
theorem dX0_set_0 : decode cX0_set 0 = .ok (.aload_n 0, 1) := by decide +kernel
theorem dX0_set_1 : decode cX0_set 1 = .ok (.iload_n 1, 1) := by decide +kernel
theorem dX0_set_2 : decode cX0_set 2 = .ok (.putfield 13, 3) := by decide +kernel
theorem dX0_set_5 : decode cX0_set 5 = .ok (.aload_n 0, 1) := by decide +kernel
theorem dX0_set_6 : decode cX0_set 6 = .ok (.iload_n 2, 1) := by decide +kernel
theorem dX0_set_7 : decode cX0_set 7 = .ok (.putfield 17, 3) := by decide +kernel
theorem dX0_set_10 : decode cX0_set 10 = .ok (.aload_n 0, 1) := by decide +kernel
theorem dX0_set_11 : decode cX0_set 11 = .ok (.iload_n 3, 1) := by decide +kernel
theorem dX0_set_12 : decode cX0_set 12 = .ok (.putfield 20, 3) := by decide +kernel
theorem dX0_set_15 : decode cX0_set 15 = .ok (.return_, 1) := by decide +kernel
theorem dX0_states_0 : decode cX0_states 0 = .ok (.iconst 1, 1) := by decide +kernel
theorem dX0_states_1 : decode cX0_states 1 = .ok (.aload_n 0, 1) := by decide +kernel
theorem dX0_states_2 : decode cX0_states 2 = .ok (.getfield 13, 3) := by decide +kernel
theorem dX0_states_5 : decode cX0_states 5 = .ok (.ishl, 1) := by decide +kernel
theorem dX0_states_6 : decode cX0_states 6 = .ok (.ireturn, 1) := by decide +kernel
theorem dX0_familyFrom_0 : decode cX0_familyFrom 0 = .ok (.aload_n 0, 1) := by decide +kernel
theorem dX0_familyFrom_1 : decode cX0_familyFrom 1 = .ok (.iload_n 1, 1) := by decide +kernel
theorem dX0_familyFrom_2 : decode cX0_familyFrom 2 = .ok (.iload_n 2, 1) := by decide +kernel
theorem dX0_familyFrom_3 : decode cX0_familyFrom 3 = .ok (.invokevirtual 23, 3) := by decide +kernel
theorem dX0_familyFrom_6 : decode cX0_familyFrom 6 = .ok (.istore_n 3, 1) := by decide +kernel
theorem dX0_familyFrom_7 : decode cX0_familyFrom 7 = .ok (.iconst 2, 1) := by decide +kernel
theorem dX0_familyFrom_8 : decode cX0_familyFrom 8 = .ok (.iload_n 3, 1) := by decide +kernel
theorem dX0_familyFrom_9 : decode cX0_familyFrom 9 = .ok (.aload_n 0, 1) := by decide +kernel
theorem dX0_familyFrom_10 : decode cX0_familyFrom 10 = .ok (.getfield 17, 3) := by decide +kernel
theorem dX0_familyFrom_13 : decode cX0_familyFrom 13 = .ok (.iand, 1) := by decide +kernel
theorem dX0_familyFrom_14 : decode cX0_familyFrom 14 = .ok (.invokestatic 27, 3) := by decide +kernel
theorem dX0_familyFrom_17 : decode cX0_familyFrom 17 = .ok (.iconst 2, 1) := by decide +kernel
theorem dX0_familyFrom_18 : decode cX0_familyFrom 18 = .ok (.irem, 1) := by decide +kernel
theorem dX0_familyFrom_19 : decode cX0_familyFrom 19 = .ok (.imul, 1) := by decide +kernel
theorem dX0_familyFrom_20 : decode cX0_familyFrom 20 = .ok (.iload_n 3, 1) := by decide +kernel
theorem dX0_familyFrom_21 : decode cX0_familyFrom 21 = .ok (.aload_n 0, 1) := by decide +kernel
theorem dX0_familyFrom_22 : decode cX0_familyFrom 22 = .ok (.getfield 20, 3) := by decide +kernel
theorem dX0_familyFrom_25 : decode cX0_familyFrom 25 = .ok (.iand, 1) := by decide +kernel
theorem dX0_familyFrom_26 : decode cX0_familyFrom 26 = .ok (.invokestatic 27, 3) := by decide +kernel
theorem dX0_familyFrom_29 : decode cX0_familyFrom 29 = .ok (.iconst 2, 1) := by decide +kernel
theorem dX0_familyFrom_30 : decode cX0_familyFrom 30 = .ok (.irem, 1) := by decide +kernel
theorem dX0_familyFrom_31 : decode cX0_familyFrom 31 = .ok (.iadd, 1) := by decide +kernel
theorem dX0_familyFrom_32 : decode cX0_familyFrom 32 = .ok (.ireturn, 1) := by decide +kernel
theorem dX0_stateAfter_0 : decode cX0_stateAfter 0 = .ok (.aload_n 0, 1) := by decide +kernel
theorem dX0_stateAfter_1 : decode cX0_stateAfter 1 = .ok (.iload_n 1, 1) := by decide +kernel
theorem dX0_stateAfter_2 : decode cX0_stateAfter 2 = .ok (.iload_n 2, 1) := by decide +kernel
theorem dX0_stateAfter_3 : decode cX0_stateAfter 3 = .ok (.invokevirtual 23, 3) := by decide +kernel
theorem dX0_stateAfter_6 : decode cX0_stateAfter 6 = .ok (.iconst 2, 1) := by decide +kernel
theorem dX0_stateAfter_7 : decode cX0_stateAfter 7 = .ok (.idiv, 1) := by decide +kernel
theorem dX0_stateAfter_8 : decode cX0_stateAfter 8 = .ok (.ireturn, 1) := by decide +kernel
theorem dX0_registerOf_0 : decode cX0_registerOf 0 = .ok (.iload_n 2, 1) := by decide +kernel
theorem dX0_registerOf_1 : decode cX0_registerOf 1 = .ok (.aload_n 0, 1) := by decide +kernel
theorem dX0_registerOf_2 : decode cX0_registerOf 2 = .ok (.getfield 13, 3) := by decide +kernel
theorem dX0_registerOf_5 : decode cX0_registerOf 5 = .ok (.ishl, 1) := by decide +kernel
theorem dX0_registerOf_6 : decode cX0_registerOf 6 = .ok (.iload_n 1, 1) := by decide +kernel
theorem dX0_registerOf_7 : decode cX0_registerOf 7 = .ok (.iadd, 1) := by decide +kernel
theorem dX0_registerOf_8 : decode cX0_registerOf 8 = .ok (.ireturn, 1) := by decide +kernel
