theorem dX10_init_0 : decode cX10_init 0 = .ok (.aload_n 0, 1) := by decide +kernel
theorem dX10_init_1 : decode cX10_init 1 = .ok (.invokespecial 1, 3) := by decide +kernel
theorem dX10_init_4 : decode cX10_init 4 = .ok (.aload_n 0, 1) := by decide +kernel
theorem dX10_init_5 : decode cX10_init 5 = .ok (.new 7, 3) := by decide +kernel
theorem dX10_init_8 : decode cX10_init 8 = .ok (.dup, 1) := by decide +kernel
theorem dX10_init_9 : decode cX10_init 9 = .ok (.invokespecial 9, 3) := by decide +kernel
theorem dX10_init_12 : decode cX10_init 12 = .ok (.putfield 10, 3) := by decide +kernel
theorem dX10_init_15 : decode cX10_init 15 = .ok (.aload_n 0, 1) := by decide +kernel
theorem dX10_init_16 : decode cX10_init 16 = .ok (.new 16, 3) := by decide +kernel
theorem dX10_init_19 : decode cX10_init 19 = .ok (.dup, 1) := by decide +kernel
theorem dX10_init_20 : decode cX10_init 20 = .ok (.invokespecial 18, 3) := by decide +kernel
theorem dX10_init_23 : decode cX10_init 23 = .ok (.putfield 19, 3) := by decide +kernel
theorem dX10_init_26 : decode cX10_init 26 = .ok (.aload_n 0, 1) := by decide +kernel
theorem dX10_init_27 : decode cX10_init 27 = .ok (.iconst 2, 1) := by decide +kernel
theorem dX10_init_28 : decode cX10_init 28 = .ok (.anewarray 7, 3) := by decide +kernel
theorem dX10_init_31 : decode cX10_init 31 = .ok (.putfield 23, 3) := by decide +kernel
theorem dX10_init_34 : decode cX10_init 34 = .ok (.iconst 0, 1) := by decide +kernel
theorem dX10_init_35 : decode cX10_init 35 = .ok (.istore_n 1, 1) := by decide +kernel
theorem dX10_init_36 : decode cX10_init 36 = .ok (.iload_n 1, 1) := by decide +kernel
theorem dX10_init_37 : decode cX10_init 37 = .ok (.iconst 2, 1) := by decide +kernel
theorem dX10_init_38 : decode cX10_init 38 = .ok (.if_icmp .ge 22, 3) := by decide +kernel
theorem dX10_init_41 : decode cX10_init 41 = .ok (.aload_n 0, 1) := by decide +kernel
theorem dX10_init_42 : decode cX10_init 42 = .ok (.getfield 23, 3) := by decide +kernel
theorem dX10_init_45 : decode cX10_init 45 = .ok (.iload_n 1, 1) := by decide +kernel
theorem dX10_init_46 : decode cX10_init 46 = .ok (.new 7, 3) := by decide +kernel
theorem dX10_init_49 : decode cX10_init 49 = .ok (.dup, 1) := by decide +kernel
theorem dX10_init_50 : decode cX10_init 50 = .ok (.invokespecial 9, 3) := by decide +kernel
theorem dX10_init_53 : decode cX10_init 53 = .ok (.aastore, 1) := by decide +kernel
theorem dX10_init_54 : decode cX10_init 54 = .ok (.iinc 1 1, 3) := by decide +kernel
theorem dX10_init_57 : decode cX10_init 57 = .ok (.goto (-21), 3) := by decide +kernel
theorem dX10_init_60 : decode cX10_init 60 = .ok (.aload_n 0, 1) := by decide +kernel
theorem dX10_init_61 : decode cX10_init 61 = .ok (.iconst 2, 1) := by decide +kernel
theorem dX10_init_62 : decode cX10_init 62 = .ok (.newarray .boolean, 2) := by decide +kernel
theorem dX10_init_64 : decode cX10_init 64 = .ok (.putfield 27, 3) := by decide +kernel
theorem dX10_init_67 : decode cX10_init 67 = .ok (.aload_n 0, 1) := by decide +kernel
theorem dX10_init_68 : decode cX10_init 68 = .ok (.new 31, 3) := by decide +kernel
theorem dX10_init_71 : decode cX10_init 71 = .ok (.dup, 1) := by decide +kernel
theorem dX10_init_72 : decode cX10_init 72 = .ok (.invokespecial 33, 3) := by decide +kernel
theorem dX10_init_75 : decode cX10_init 75 = .ok (.putfield 34, 3) := by decide +kernel
theorem dX10_init_78 : decode cX10_init 78 = .ok (.aload_n 0, 1) := by decide +kernel
theorem dX10_init_79 : decode cX10_init 79 = .ok (.new 38, 3) := by decide +kernel
theorem dX10_init_82 : decode cX10_init 82 = .ok (.dup, 1) := by decide +kernel
theorem dX10_init_83 : decode cX10_init 83 = .ok (.invokespecial 40, 3) := by decide +kernel
theorem dX10_init_86 : decode cX10_init 86 = .ok (.putfield 41, 3) := by decide +kernel
theorem dX10_init_89 : decode cX10_init 89 = .ok (.aload_n 0, 1) := by decide +kernel
theorem dX10_init_90 : decode cX10_init 90 = .ok (.new 45, 3) := by decide +kernel
theorem dX10_init_93 : decode cX10_init 93 = .ok (.dup, 1) := by decide +kernel
theorem dX10_init_94 : decode cX10_init 94 = .ok (.invokespecial 47, 3) := by decide +kernel
theorem dX10_init_97 : decode cX10_init 97 = .ok (.putfield 48, 3) := by decide +kernel
theorem dX10_init_100 : decode cX10_init 100 = .ok (.aload_n 0, 1) := by decide +kernel
theorem dX10_init_101 : decode cX10_init 101 = .ok (.new 52, 3) := by decide +kernel
theorem dX10_init_104 : decode cX10_init 104 = .ok (.dup, 1) := by decide +kernel
theorem dX10_init_105 : decode cX10_init 105 = .ok (.invokespecial 54, 3) := by decide +kernel
theorem dX10_init_108 : decode cX10_init 108 = .ok (.putfield 55, 3) := by decide +kernel
theorem dX10_init_111 : decode cX10_init 111 = .ok (.return_, 1) := by decide +kernel
theorem dX10_code_0 : decode cX10_code 0 = .ok (.iload_n 1, 1) := by decide +kernel
theorem dX10_code_1 : decode cX10_code 1 = .ok (.iconst 1, 1) := by decide +kernel
theorem dX10_code_2 : decode cX10_code 2 = .ok (.if_icmp .lt 8, 3) := by decide +kernel
theorem dX10_code_5 : decode cX10_code 5 = .ok (.iload_n 1, 1) := by decide +kernel
theorem dX10_code_6 : decode cX10_code 6 = .ok (.iconst 3, 1) := by decide +kernel
theorem dX10_code_7 : decode cX10_code 7 = .ok (.if_icmp .le 6, 3) := by decide +kernel
theorem dX10_code_10 : decode cX10_code 10 = .ok (.ldc 59, 2) := by decide +kernel
theorem dX10_code_12 : decode cX10_code 12 = .ok (.ireturn, 1) := by decide +kernel
theorem dX10_code_13 : decode cX10_code 13 = .ok (.iconst 1, 1) := by decide +kernel
theorem dX10_code_14 : decode cX10_code 14 = .ok (.iload_n 1, 1) := by decide +kernel
theorem dX10_code_15 : decode cX10_code 15 = .ok (.iconst 1, 1) := by decide +kernel
theorem dX10_code_16 : decode cX10_code 16 = .ok (.iadd, 1) := by decide +kernel
theorem dX10_code_17 : decode cX10_code 17 = .ok (.ishl, 1) := by decide +kernel
theorem dX10_code_18 : decode cX10_code 18 = .ok (.iconst 1, 1) := by decide +kernel
theorem dX10_code_19 : decode cX10_code 19 = .ok (.isub, 1) := by decide +kernel
theorem dX10_code_20 : decode cX10_code 20 = .ok (.istore 4, 2) := by decide +kernel
theorem dX10_code_22 : decode cX10_code 22 = .ok (.iload_n 2, 1) := by decide +kernel
theorem dX10_code_23 : decode cX10_code 23 = .ok (.iconst 1, 1) := by decide +kernel
theorem dX10_code_24 : decode cX10_code 24 = .ok (.iload 4, 2) := by decide +kernel
theorem dX10_code_26 : decode cX10_code 26 = .ok (.invokestatic 60, 3) := by decide +kernel
theorem dX10_code_29 : decode cX10_code 29 = .ok (.ifCond .ne 13, 3) := by decide +kernel
theorem dX10_code_32 : decode cX10_code 32 = .ok (.iload_n 3, 1) := by decide +kernel
theorem dX10_code_33 : decode cX10_code 33 = .ok (.iconst 1, 1) := by decide +kernel
theorem dX10_code_34 : decode cX10_code 34 = .ok (.iload 4, 2) := by decide +kernel
theorem dX10_code_36 : decode cX10_code 36 = .ok (.invokestatic 60, 3) := by decide +kernel
theorem dX10_code_39 : decode cX10_code 39 = .ok (.ifCond .eq 6, 3) := by decide +kernel
theorem dX10_code_42 : decode cX10_code 42 = .ok (.ldc 59, 2) := by decide +kernel
theorem dX10_code_44 : decode cX10_code 44 = .ok (.ireturn, 1) := by decide +kernel
theorem dX10_code_45 : decode cX10_code 45 = .ok (.aload_n 0, 1) := by decide +kernel
theorem dX10_code_46 : decode cX10_code 46 = .ok (.getfield 19, 3) := by decide +kernel
theorem dX10_code_49 : decode cX10_code 49 = .ok (.aload_n 0, 1) := by decide +kernel
theorem dX10_code_50 : decode cX10_code 50 = .ok (.getfield 10, 3) := by decide +kernel
theorem dX10_code_53 : decode cX10_code 53 = .ok (.invokevirtual 64, 3) := by decide +kernel
theorem dX10_code_56 : decode cX10_code 56 = .ok (.aload_n 0, 1) := by decide +kernel
theorem dX10_code_57 : decode cX10_code 57 = .ok (.getfield 10, 3) := by decide +kernel
theorem dX10_code_60 : decode cX10_code 60 = .ok (.getfield 68, 3) := by decide +kernel
theorem dX10_code_63 : decode cX10_code 63 = .ok (.iload_n 1, 1) := by decide +kernel
theorem dX10_code_64 : decode cX10_code 64 = .ok (.iload_n 2, 1) := by decide +kernel
theorem dX10_code_65 : decode cX10_code 65 = .ok (.iload_n 3, 1) := by decide +kernel
theorem dX10_code_66 : decode cX10_code 66 = .ok (.invokevirtual 72, 3) := by decide +kernel
theorem dX10_code_69 : decode cX10_code 69 = .ok (.aload_n 0, 1) := by decide +kernel
theorem dX10_code_70 : decode cX10_code 70 = .ok (.getfield 10, 3) := by decide +kernel
theorem dX10_code_73 : decode cX10_code 73 = .ok (.invokevirtual 78, 3) := by decide +kernel
theorem dX10_code_76 : decode cX10_code 76 = .ok (.aload_n 0, 1) := by decide +kernel
theorem dX10_code_77 : decode cX10_code 77 = .ok (.getfield 10, 3) := by decide +kernel
theorem dX10_code_80 : decode cX10_code 80 = .ok (.iconst (-1), 1) := by decide +kernel
theorem dX10_code_81 : decode cX10_code 81 = .ok (.putfield 81, 3) := by decide +kernel
theorem dX10_code_84 : decode cX10_code 84 = .ok (.aload_n 0, 1) := by decide +kernel
theorem dX10_code_85 : decode cX10_code 85 = .ok (.getfield 10, 3) := by decide +kernel
theorem dX10_code_88 : decode cX10_code 88 = .ok (.getfield 68, 3) := by decide +kernel
theorem dX10_code_91 : decode cX10_code 91 = .ok (.invokevirtual 85, 3) := by decide +kernel
theorem dX10_code_94 : decode cX10_code 94 = .ok (.ireturn, 1) := by decide +kernel
theorem dX10_send_0 : decode cX10_send 0 = .ok (.iload_n 1, 1) := by decide +kernel
theorem dX10_send_1 : decode cX10_send 1 = .ok (.iconst 0, 1) := by decide +kernel
theorem dX10_send_2 : decode cX10_send 2 = .ok (.iconst 1, 1) := by decide +kernel
theorem dX10_send_3 : decode cX10_send 3 = .ok (.invokestatic 60, 3) := by decide +kernel
theorem dX10_send_6 : decode cX10_send 6 = .ok (.ifCond .ne 12, 3) := by decide +kernel
theorem dX10_send_9 : decode cX10_send 9 = .ok (.iload_n 2, 1) := by decide +kernel
theorem dX10_send_10 : decode cX10_send 10 = .ok (.iconst 0, 1) := by decide +kernel
theorem dX10_send_11 : decode cX10_send 11 = .ok (.iconst 3, 1) := by decide +kernel
theorem dX10_send_12 : decode cX10_send 12 = .ok (.invokestatic 60, 3) := by decide +kernel
theorem dX10_send_15 : decode cX10_send 15 = .ok (.ifCond .eq 6, 3) := by decide +kernel
theorem dX10_send_18 : decode cX10_send 18 = .ok (.ldc 59, 2) := by decide +kernel
theorem dX10_send_20 : decode cX10_send 20 = .ok (.ireturn, 1) := by decide +kernel
theorem dX10_send_21 : decode cX10_send 21 = .ok (.aload_n 0, 1) := by decide +kernel
theorem dX10_send_22 : decode cX10_send 22 = .ok (.getfield 10, 3) := by decide +kernel
theorem dX10_send_25 : decode cX10_send 25 = .ok (.getfield 89, 3) := by decide +kernel
theorem dX10_send_28 : decode cX10_send 28 = .ok (.invokevirtual 93, 3) := by decide +kernel
theorem dX10_send_31 : decode cX10_send 31 = .ok (.ifCond .eq 6, 3) := by decide +kernel
theorem dX10_send_34 : decode cX10_send 34 = .ok (.ldc 99, 2) := by decide +kernel
theorem dX10_send_36 : decode cX10_send 36 = .ok (.ireturn, 1) := by decide +kernel
theorem dX10_send_37 : decode cX10_send 37 = .ok (.aload_n 0, 1) := by decide +kernel
theorem dX10_send_38 : decode cX10_send 38 = .ok (.getfield 19, 3) := by decide +kernel
theorem dX10_send_41 : decode cX10_send 41 = .ok (.aload_n 0, 1) := by decide +kernel
theorem dX10_send_42 : decode cX10_send 42 = .ok (.getfield 10, 3) := by decide +kernel
theorem dX10_send_45 : decode cX10_send 45 = .ok (.invokevirtual 64, 3) := by decide +kernel
theorem dX10_send_48 : decode cX10_send 48 = .ok (.aload_n 0, 1) := by decide +kernel
theorem dX10_send_49 : decode cX10_send 49 = .ok (.getfield 10, 3) := by decide +kernel
theorem dX10_send_52 : decode cX10_send 52 = .ok (.getfield 89, 3) := by decide +kernel
theorem dX10_send_55 : decode cX10_send 55 = .ok (.aload_n 0, 1) := by decide +kernel
theorem dX10_send_56 : decode cX10_send 56 = .ok (.getfield 10, 3) := by decide +kernel
theorem dX10_send_59 : decode cX10_send 59 = .ok (.getfield 68, 3) := by decide +kernel
theorem dX10_send_62 : decode cX10_send 62 = .ok (.iload_n 1, 1) := by decide +kernel
theorem dX10_send_63 : decode cX10_send 63 = .ok (.iload_n 2, 1) := by decide +kernel
theorem dX10_send_64 : decode cX10_send 64 = .ok (.invokevirtual 100, 3) := by decide +kernel
theorem dX10_send_67 : decode cX10_send 67 = .ok (.ireturn, 1) := by decide +kernel
theorem dX10_hear_0 : decode cX10_hear 0 = .ok (.iload_n 1, 1) := by decide +kernel
theorem dX10_hear_1 : decode cX10_hear 1 = .ok (.bipush (-99), 2) := by decide +kernel
theorem dX10_hear_3 : decode cX10_hear 3 = .ok (.bipush 99, 2) := by decide +kernel
theorem dX10_hear_5 : decode cX10_hear 5 = .ok (.invokestatic 60, 3) := by decide +kernel
theorem dX10_hear_8 : decode cX10_hear 8 = .ok (.ifCond .ne 14, 3) := by decide +kernel
theorem dX10_hear_11 : decode cX10_hear 11 = .ok (.iload_n 2, 1) := by decide +kernel
theorem dX10_hear_12 : decode cX10_hear 12 = .ok (.bipush (-99), 2) := by decide +kernel
theorem dX10_hear_14 : decode cX10_hear 14 = .ok (.bipush 99, 2) := by decide +kernel
theorem dX10_hear_16 : decode cX10_hear 16 = .ok (.invokestatic 60, 3) := by decide +kernel
theorem dX10_hear_19 : decode cX10_hear 19 = .ok (.ifCond .eq 6, 3) := by decide +kernel
theorem dX10_hear_22 : decode cX10_hear 22 = .ok (.ldc 59, 2) := by decide +kernel
theorem dX10_hear_24 : decode cX10_hear 24 = .ok (.ireturn, 1) := by decide +kernel
theorem dX10_hear_25 : decode cX10_hear 25 = .ok (.aload_n 0, 1) := by decide +kernel
theorem dX10_hear_26 : decode cX10_hear 26 = .ok (.getfield 10, 3) := by decide +kernel
theorem dX10_hear_29 : decode cX10_hear 29 = .ok (.getfield 104, 3) := by decide +kernel
theorem dX10_hear_32 : decode cX10_hear 32 = .ok (.invokevirtual 108, 3) := by decide +kernel
theorem dX10_hear_35 : decode cX10_hear 35 = .ok (.ifCond .eq 6, 3) := by decide +kernel
theorem dX10_hear_38 : decode cX10_hear 38 = .ok (.ldc 99, 2) := by decide +kernel
theorem dX10_hear_40 : decode cX10_hear 40 = .ok (.ireturn, 1) := by decide +kernel
theorem dX10_hear_41 : decode cX10_hear 41 = .ok (.aload_n 0, 1) := by decide +kernel
theorem dX10_hear_42 : decode cX10_hear 42 = .ok (.getfield 19, 3) := by decide +kernel
theorem dX10_hear_45 : decode cX10_hear 45 = .ok (.aload_n 0, 1) := by decide +kernel
theorem dX10_hear_46 : decode cX10_hear 46 = .ok (.getfield 10, 3) := by decide +kernel
theorem dX10_hear_49 : decode cX10_hear 49 = .ok (.invokevirtual 64, 3) := by decide +kernel
theorem dX10_hear_52 : decode cX10_hear 52 = .ok (.aload_n 0, 1) := by decide +kernel
theorem dX10_hear_53 : decode cX10_hear 53 = .ok (.getfield 10, 3) := by decide +kernel
theorem dX10_hear_56 : decode cX10_hear 56 = .ok (.getfield 104, 3) := by decide +kernel
theorem dX10_hear_59 : decode cX10_hear 59 = .ok (.iload_n 1, 1) := by decide +kernel
theorem dX10_hear_60 : decode cX10_hear 60 = .ok (.iload_n 2, 1) := by decide +kernel
theorem dX10_hear_61 : decode cX10_hear 61 = .ok (.invokevirtual 111, 3) := by decide +kernel
theorem dX10_hear_64 : decode cX10_hear 64 = .ok (.aload_n 0, 1) := by decide +kernel
theorem dX10_hear_65 : decode cX10_hear 65 = .ok (.getfield 10, 3) := by decide +kernel
theorem dX10_hear_68 : decode cX10_hear 68 = .ok (.getfield 104, 3) := by decide +kernel
theorem dX10_hear_71 : decode cX10_hear 71 = .ok (.getfield 114, 3) := by decide +kernel
theorem dX10_hear_74 : decode cX10_hear 74 = .ok (.ireturn, 1) := by decide +kernel
theorem dX10_drift_0 : decode cX10_drift 0 = .ok (.iload_n 1, 1) := by decide +kernel
theorem dX10_drift_1 : decode cX10_drift 1 = .ok (.iconst 1, 1) := by decide +kernel
theorem dX10_drift_2 : decode cX10_drift 2 = .ok (.bipush 24, 2) := by decide +kernel
theorem dX10_drift_4 : decode cX10_drift 4 = .ok (.invokestatic 60, 3) := by decide +kernel
theorem dX10_drift_7 : decode cX10_drift 7 = .ok (.ifCond .ne 13, 3) := by decide +kernel
theorem dX10_drift_10 : decode cX10_drift 10 = .ok (.iload_n 2, 1) := by decide +kernel
theorem dX10_drift_11 : decode cX10_drift 11 = .ok (.iconst 1, 1) := by decide +kernel
theorem dX10_drift_12 : decode cX10_drift 12 = .ok (.ldc 117, 2) := by decide +kernel
theorem dX10_drift_14 : decode cX10_drift 14 = .ok (.invokestatic 60, 3) := by decide +kernel
theorem dX10_drift_17 : decode cX10_drift 17 = .ok (.ifCond .eq 6, 3) := by decide +kernel
theorem dX10_drift_20 : decode cX10_drift 20 = .ok (.ldc 59, 2) := by decide +kernel
theorem dX10_drift_22 : decode cX10_drift 22 = .ok (.ireturn, 1) := by decide +kernel
theorem dX10_drift_23 : decode cX10_drift 23 = .ok (.aload_n 0, 1) := by decide +kernel
theorem dX10_drift_24 : decode cX10_drift 24 = .ok (.getfield 19, 3) := by decide +kernel
theorem dX10_drift_27 : decode cX10_drift 27 = .ok (.aload_n 0, 1) := by decide +kernel
theorem dX10_drift_28 : decode cX10_drift 28 = .ok (.getfield 10, 3) := by decide +kernel
theorem dX10_drift_31 : decode cX10_drift 31 = .ok (.invokevirtual 64, 3) := by decide +kernel
theorem dX10_drift_34 : decode cX10_drift 34 = .ok (.aload_n 0, 1) := by decide +kernel
theorem dX10_drift_35 : decode cX10_drift 35 = .ok (.getfield 34, 3) := by decide +kernel
theorem dX10_drift_38 : decode cX10_drift 38 = .ok (.iload_n 2, 1) := by decide +kernel
theorem dX10_drift_39 : decode cX10_drift 39 = .ok (.invokevirtual 118, 3) := by decide +kernel
theorem dX10_drift_42 : decode cX10_drift 42 = .ok (.iconst 0, 1) := by decide +kernel
theorem dX10_drift_43 : decode cX10_drift 43 = .ok (.istore_n 3, 1) := by decide +kernel
theorem dX10_drift_44 : decode cX10_drift 44 = .ok (.iload_n 3, 1) := by decide +kernel
theorem dX10_drift_45 : decode cX10_drift 45 = .ok (.iload_n 1, 1) := by decide +kernel
theorem dX10_drift_46 : decode cX10_drift 46 = .ok (.if_icmp .ge 132, 3) := by decide +kernel
theorem dX10_drift_49 : decode cX10_drift 49 = .ok (.aload_n 0, 1) := by decide +kernel
theorem dX10_drift_50 : decode cX10_drift 50 = .ok (.getfield 10, 3) := by decide +kernel
theorem dX10_drift_53 : decode cX10_drift 53 = .ok (.getfield 89, 3) := by decide +kernel
theorem dX10_drift_56 : decode cX10_drift 56 = .ok (.invokevirtual 93, 3) := by decide +kernel
theorem dX10_drift_59 : decode cX10_drift 59 = .ok (.ifCond .ne 119, 3) := by decide +kernel
theorem dX10_drift_62 : decode cX10_drift 62 = .ok (.aload_n 0, 1) := by decide +kernel
theorem dX10_drift_63 : decode cX10_drift 63 = .ok (.getfield 10, 3) := by decide +kernel
theorem dX10_drift_66 : decode cX10_drift 66 = .ok (.getfield 104, 3) := by decide +kernel
theorem dX10_drift_69 : decode cX10_drift 69 = .ok (.invokevirtual 108, 3) := by decide +kernel
theorem dX10_drift_72 : decode cX10_drift 72 = .ok (.ifCond .ne 106, 3) := by decide +kernel
theorem dX10_drift_75 : decode cX10_drift 75 = .ok (.aload_n 0, 1) := by decide +kernel
theorem dX10_drift_76 : decode cX10_drift 76 = .ok (.getfield 34, 3) := by decide +kernel
theorem dX10_drift_79 : decode cX10_drift 79 = .ok (.iconst 2, 1) := by decide +kernel
theorem dX10_drift_80 : decode cX10_drift 80 = .ok (.invokevirtual 122, 3) := by decide +kernel
theorem dX10_drift_83 : decode cX10_drift 83 = .ok (.istore 4, 2) := by decide +kernel
theorem dX10_drift_85 : decode cX10_drift 85 = .ok (.aload_n 0, 1) := by decide +kernel
theorem dX10_drift_86 : decode cX10_drift 86 = .ok (.getfield 34, 3) := by decide +kernel
theorem dX10_drift_89 : decode cX10_drift 89 = .ok (.iconst 4, 1) := by decide +kernel
theorem dX10_drift_90 : decode cX10_drift 90 = .ok (.invokevirtual 122, 3) := by decide +kernel
theorem dX10_drift_93 : decode cX10_drift 93 = .ok (.istore 5, 2) := by decide +kernel
theorem dX10_drift_95 : decode cX10_drift 95 = .ok (.aload_n 0, 1) := by decide +kernel
theorem dX10_drift_96 : decode cX10_drift 96 = .ok (.getfield 10, 3) := by decide +kernel
theorem dX10_drift_99 : decode cX10_drift 99 = .ok (.getfield 89, 3) := by decide +kernel
theorem dX10_drift_102 : decode cX10_drift 102 = .ok (.aload_n 0, 1) := by decide +kernel
theorem dX10_drift_103 : decode cX10_drift 103 = .ok (.getfield 10, 3) := by decide +kernel
theorem dX10_drift_106 : decode cX10_drift 106 = .ok (.getfield 68, 3) := by decide +kernel
theorem dX10_drift_109 : decode cX10_drift 109 = .ok (.iload 4, 2) := by decide +kernel
theorem dX10_drift_111 : decode cX10_drift 111 = .ok (.iload 5, 2) := by decide +kernel
theorem dX10_drift_113 : decode cX10_drift 113 = .ok (.invokevirtual 100, 3) := by decide +kernel
theorem dX10_drift_116 : decode cX10_drift 116 = .ok (.istore 6, 2) := by decide +kernel
theorem dX10_drift_118 : decode cX10_drift 118 = .ok (.iload 6, 2) := by decide +kernel
theorem dX10_drift_120 : decode cX10_drift 120 = .ok (.invokestatic 126, 3) := by decide +kernel
theorem dX10_drift_123 : decode cX10_drift 123 = .ok (.aload_n 0, 1) := by decide +kernel
theorem dX10_drift_124 : decode cX10_drift 124 = .ok (.getfield 34, 3) := by decide +kernel
theorem dX10_drift_127 : decode cX10_drift 127 = .ok (.bipush 25, 2) := by decide +kernel
theorem dX10_drift_129 : decode cX10_drift 129 = .ok (.invokevirtual 122, 3) := by decide +kernel
theorem dX10_drift_132 : decode cX10_drift 132 = .ok (.iadd, 1) := by decide +kernel
theorem dX10_drift_133 : decode cX10_drift 133 = .ok (.bipush 12, 2) := by decide +kernel
theorem dX10_drift_135 : decode cX10_drift 135 = .ok (.isub, 1) := by decide +kernel
theorem dX10_drift_136 : decode cX10_drift 136 = .ok (.istore 7, 2) := by decide +kernel
theorem dX10_drift_138 : decode cX10_drift 138 = .ok (.iload 6, 2) := by decide +kernel
theorem dX10_drift_140 : decode cX10_drift 140 = .ok (.invokestatic 131, 3) := by decide +kernel
theorem dX10_drift_143 : decode cX10_drift 143 = .ok (.aload_n 0, 1) := by decide +kernel
theorem dX10_drift_144 : decode cX10_drift 144 = .ok (.getfield 34, 3) := by decide +kernel
theorem dX10_drift_147 : decode cX10_drift 147 = .ok (.bipush 25, 2) := by decide +kernel
theorem dX10_drift_149 : decode cX10_drift 149 = .ok (.invokevirtual 122, 3) := by decide +kernel
theorem dX10_drift_152 : decode cX10_drift 152 = .ok (.iadd, 1) := by decide +kernel
theorem dX10_drift_153 : decode cX10_drift 153 = .ok (.bipush 12, 2) := by decide +kernel
theorem dX10_drift_155 : decode cX10_drift 155 = .ok (.isub, 1) := by decide +kernel
theorem dX10_drift_156 : decode cX10_drift 156 = .ok (.istore 8, 2) := by decide +kernel
theorem dX10_drift_158 : decode cX10_drift 158 = .ok (.aload_n 0, 1) := by decide +kernel
theorem dX10_drift_159 : decode cX10_drift 159 = .ok (.getfield 10, 3) := by decide +kernel
theorem dX10_drift_162 : decode cX10_drift 162 = .ok (.getfield 104, 3) := by decide +kernel
theorem dX10_drift_165 : decode cX10_drift 165 = .ok (.iload 7, 2) := by decide +kernel
theorem dX10_drift_167 : decode cX10_drift 167 = .ok (.iload 8, 2) := by decide +kernel
theorem dX10_drift_169 : decode cX10_drift 169 = .ok (.invokevirtual 111, 3) := by decide +kernel
theorem dX10_drift_172 : decode cX10_drift 172 = .ok (.iinc 3 1, 3) := by decide +kernel
theorem dX10_drift_175 : decode cX10_drift 175 = .ok (.goto (-131), 3) := by decide +kernel
theorem dX10_drift_178 : decode cX10_drift 178 = .ok (.iload_n 3, 1) := by decide +kernel
theorem dX10_drift_179 : decode cX10_drift 179 = .ok (.ireturn, 1) := by decide +kernel
theorem dX10_wipe_0 : decode cX10_wipe 0 = .ok (.aload_n 0, 1) := by decide +kernel
theorem dX10_wipe_1 : decode cX10_wipe 1 = .ok (.getfield 19, 3) := by decide +kernel
theorem dX10_wipe_4 : decode cX10_wipe 4 = .ok (.aload_n 0, 1) := by decide +kernel
theorem dX10_wipe_5 : decode cX10_wipe 5 = .ok (.getfield 10, 3) := by decide +kernel
theorem dX10_wipe_8 : decode cX10_wipe 8 = .ok (.invokevirtual 64, 3) := by decide +kernel
theorem dX10_wipe_11 : decode cX10_wipe 11 = .ok (.aload_n 0, 1) := by decide +kernel
theorem dX10_wipe_12 : decode cX10_wipe 12 = .ok (.getfield 10, 3) := by decide +kernel
theorem dX10_wipe_15 : decode cX10_wipe 15 = .ok (.getfield 89, 3) := by decide +kernel
theorem dX10_wipe_18 : decode cX10_wipe 18 = .ok (.getfield 134, 3) := by decide +kernel
theorem dX10_wipe_21 : decode cX10_wipe 21 = .ok (.aload_n 0, 1) := by decide +kernel
theorem dX10_wipe_22 : decode cX10_wipe 22 = .ok (.getfield 10, 3) := by decide +kernel
theorem dX10_wipe_25 : decode cX10_wipe 25 = .ok (.getfield 104, 3) := by decide +kernel
theorem dX10_wipe_28 : decode cX10_wipe 28 = .ok (.getfield 114, 3) := by decide +kernel
theorem dX10_wipe_31 : decode cX10_wipe 31 = .ok (.iadd, 1) := by decide +kernel
theorem dX10_wipe_32 : decode cX10_wipe 32 = .ok (.istore_n 1, 1) := by decide +kernel
theorem dX10_wipe_33 : decode cX10_wipe 33 = .ok (.aload_n 0, 1) := by decide +kernel
theorem dX10_wipe_34 : decode cX10_wipe 34 = .ok (.getfield 10, 3) := by decide +kernel
theorem dX10_wipe_37 : decode cX10_wipe 37 = .ok (.invokevirtual 78, 3) := by decide +kernel
theorem dX10_wipe_40 : decode cX10_wipe 40 = .ok (.iload_n 1, 1) := by decide +kernel
theorem dX10_wipe_41 : decode cX10_wipe 41 = .ok (.ireturn, 1) := by decide +kernel
theorem dX10_end_0 : decode cX10_end 0 = .ok (.iload_n 1, 1) := by decide +kernel
theorem dX10_end_1 : decode cX10_end 1 = .ok (.iconst (-1), 1) := by decide +kernel
theorem dX10_end_2 : decode cX10_end 2 = .ok (.if_icmp .eq 14, 3) := by decide +kernel
theorem dX10_end_5 : decode cX10_end 5 = .ok (.aload_n 0, 1) := by decide +kernel
theorem dX10_end_6 : decode cX10_end 6 = .ok (.iload_n 1, 1) := by decide +kernel
theorem dX10_end_7 : decode cX10_end 7 = .ok (.invokevirtual 135, 3) := by decide +kernel
theorem dX10_end_10 : decode cX10_end 10 = .ok (.ifCond .ne 6, 3) := by decide +kernel
theorem dX10_end_13 : decode cX10_end 13 = .ok (.ldc 139, 2) := by decide +kernel
theorem dX10_end_15 : decode cX10_end 15 = .ok (.ireturn, 1) := by decide +kernel
theorem dX10_end_16 : decode cX10_end 16 = .ok (.aload_n 0, 1) := by decide +kernel
theorem dX10_end_17 : decode cX10_end 17 = .ok (.getfield 19, 3) := by decide +kernel
theorem dX10_end_20 : decode cX10_end 20 = .ok (.aload_n 0, 1) := by decide +kernel
theorem dX10_end_21 : decode cX10_end 21 = .ok (.getfield 10, 3) := by decide +kernel
theorem dX10_end_24 : decode cX10_end 24 = .ok (.invokevirtual 64, 3) := by decide +kernel
theorem dX10_end_27 : decode cX10_end 27 = .ok (.aload_n 0, 1) := by decide +kernel
theorem dX10_end_28 : decode cX10_end 28 = .ok (.getfield 10, 3) := by decide +kernel
theorem dX10_end_31 : decode cX10_end 31 = .ok (.getfield 81, 3) := by decide +kernel
theorem dX10_end_34 : decode cX10_end 34 = .ok (.istore_n 2, 1) := by decide +kernel
theorem dX10_end_35 : decode cX10_end 35 = .ok (.aload_n 0, 1) := by decide +kernel
theorem dX10_end_36 : decode cX10_end 36 = .ok (.getfield 10, 3) := by decide +kernel
theorem dX10_end_39 : decode cX10_end 39 = .ok (.iload_n 1, 1) := by decide +kernel
theorem dX10_end_40 : decode cX10_end 40 = .ok (.putfield 81, 3) := by decide +kernel
theorem dX10_end_43 : decode cX10_end 43 = .ok (.iload_n 2, 1) := by decide +kernel
theorem dX10_end_44 : decode cX10_end 44 = .ok (.ireturn, 1) := by decide +kernel
theorem dX10_undo_0 : decode cX10_undo 0 = .ok (.aload_n 0, 1) := by decide +kernel
theorem dX10_undo_1 : decode cX10_undo 1 = .ok (.getfield 19, 3) := by decide +kernel
theorem dX10_undo_4 : decode cX10_undo 4 = .ok (.getfield 140, 3) := by decide +kernel
theorem dX10_undo_7 : decode cX10_undo 7 = .ok (.ifCond .ne 6, 3) := by decide +kernel
theorem dX10_undo_10 : decode cX10_undo 10 = .ok (.ldc 141, 2) := by decide +kernel
theorem dX10_undo_12 : decode cX10_undo 12 = .ok (.ireturn, 1) := by decide +kernel
theorem dX10_undo_13 : decode cX10_undo 13 = .ok (.aload_n 0, 1) := by decide +kernel
theorem dX10_undo_14 : decode cX10_undo 14 = .ok (.getfield 19, 3) := by decide +kernel
theorem dX10_undo_17 : decode cX10_undo 17 = .ok (.aload_n 0, 1) := by decide +kernel
theorem dX10_undo_18 : decode cX10_undo 18 = .ok (.getfield 10, 3) := by decide +kernel
theorem dX10_undo_21 : decode cX10_undo 21 = .ok (.invokevirtual 142, 3) := by decide +kernel
theorem dX10_undo_24 : decode cX10_undo 24 = .ok (.aload_n 0, 1) := by decide +kernel
theorem dX10_undo_25 : decode cX10_undo 25 = .ok (.getfield 19, 3) := by decide +kernel
theorem dX10_undo_28 : decode cX10_undo 28 = .ok (.getfield 140, 3) := by decide +kernel
theorem dX10_undo_31 : decode cX10_undo 31 = .ok (.ireturn, 1) := by decide +kernel
theorem dX10_told_0 : decode cX10_told 0 = .ok (.iload_n 1, 1) := by decide +kernel
theorem dX10_told_1 : decode cX10_told 1 = .ok (.tableswitch 227 0 13 #[71, 82, 93, 104, 115, 126, 137, 148, 156, 161, 171, 186, 209, 219], 71) := by decide +kernel
theorem dX10_told_72 : decode cX10_told 72 = .ok (.aload_n 0, 1) := by decide +kernel
theorem dX10_told_73 : decode cX10_told 73 = .ok (.getfield 10, 3) := by decide +kernel
theorem dX10_told_76 : decode cX10_told 76 = .ok (.getfield 68, 3) := by decide +kernel
theorem dX10_told_79 : decode cX10_told 79 = .ok (.getfield 145, 3) := by decide +kernel
theorem dX10_told_82 : decode cX10_told 82 = .ok (.ireturn, 1) := by decide +kernel
theorem dX10_told_83 : decode cX10_told 83 = .ok (.aload_n 0, 1) := by decide +kernel
theorem dX10_told_84 : decode cX10_told 84 = .ok (.getfield 10, 3) := by decide +kernel
theorem dX10_told_87 : decode cX10_told 87 = .ok (.getfield 68, 3) := by decide +kernel
theorem dX10_told_90 : decode cX10_told 90 = .ok (.getfield 148, 3) := by decide +kernel
theorem dX10_told_93 : decode cX10_told 93 = .ok (.ireturn, 1) := by decide +kernel
theorem dX10_told_94 : decode cX10_told 94 = .ok (.aload_n 0, 1) := by decide +kernel
theorem dX10_told_95 : decode cX10_told 95 = .ok (.getfield 10, 3) := by decide +kernel
theorem dX10_told_98 : decode cX10_told 98 = .ok (.getfield 68, 3) := by decide +kernel
theorem dX10_told_101 : decode cX10_told 101 = .ok (.getfield 151, 3) := by decide +kernel
theorem dX10_told_104 : decode cX10_told 104 = .ok (.ireturn, 1) := by decide +kernel
theorem dX10_told_105 : decode cX10_told 105 = .ok (.aload_n 0, 1) := by decide +kernel
theorem dX10_told_106 : decode cX10_told 106 = .ok (.getfield 10, 3) := by decide +kernel
theorem dX10_told_109 : decode cX10_told 109 = .ok (.getfield 68, 3) := by decide +kernel
theorem dX10_told_112 : decode cX10_told 112 = .ok (.invokevirtual 85, 3) := by decide +kernel
theorem dX10_told_115 : decode cX10_told 115 = .ok (.ireturn, 1) := by decide +kernel
theorem dX10_told_116 : decode cX10_told 116 = .ok (.aload_n 0, 1) := by decide +kernel
theorem dX10_told_117 : decode cX10_told 117 = .ok (.getfield 10, 3) := by decide +kernel
theorem dX10_told_120 : decode cX10_told 120 = .ok (.getfield 89, 3) := by decide +kernel
theorem dX10_told_123 : decode cX10_told 123 = .ok (.getfield 134, 3) := by decide +kernel
theorem dX10_told_126 : decode cX10_told 126 = .ok (.ireturn, 1) := by decide +kernel
theorem dX10_told_127 : decode cX10_told 127 = .ok (.aload_n 0, 1) := by decide +kernel
theorem dX10_told_128 : decode cX10_told 128 = .ok (.getfield 10, 3) := by decide +kernel
theorem dX10_told_131 : decode cX10_told 131 = .ok (.getfield 104, 3) := by decide +kernel
theorem dX10_told_134 : decode cX10_told 134 = .ok (.getfield 114, 3) := by decide +kernel
theorem dX10_told_137 : decode cX10_told 137 = .ok (.ireturn, 1) := by decide +kernel
theorem dX10_told_138 : decode cX10_told 138 = .ok (.aload_n 0, 1) := by decide +kernel
theorem dX10_told_139 : decode cX10_told 139 = .ok (.getfield 10, 3) := by decide +kernel
theorem dX10_told_142 : decode cX10_told 142 = .ok (.getfield 89, 3) := by decide +kernel
theorem dX10_told_145 : decode cX10_told 145 = .ok (.invokevirtual 154, 3) := by decide +kernel
theorem dX10_told_148 : decode cX10_told 148 = .ok (.ireturn, 1) := by decide +kernel
theorem dX10_told_149 : decode cX10_told 149 = .ok (.aload_n 0, 1) := by decide +kernel
theorem dX10_told_150 : decode cX10_told 150 = .ok (.getfield 10, 3) := by decide +kernel
theorem dX10_told_153 : decode cX10_told 153 = .ok (.getfield 81, 3) := by decide +kernel
theorem dX10_told_156 : decode cX10_told 156 = .ok (.ireturn, 1) := by decide +kernel
theorem dX10_told_157 : decode cX10_told 157 = .ok (.aload_n 0, 1) := by decide +kernel
theorem dX10_told_158 : decode cX10_told 158 = .ok (.invokevirtual 157, 3) := by decide +kernel
theorem dX10_told_161 : decode cX10_told 161 = .ok (.ireturn, 1) := by decide +kernel
theorem dX10_told_162 : decode cX10_told 162 = .ok (.aload_n 0, 1) := by decide +kernel
theorem dX10_told_163 : decode cX10_told 163 = .ok (.invokevirtual 157, 3) := by decide +kernel
theorem dX10_told_166 : decode cX10_told 166 = .ok (.pop, 1) := by decide +kernel
theorem dX10_told_167 : decode cX10_told 167 = .ok (.aload_n 0, 1) := by decide +kernel
theorem dX10_told_168 : decode cX10_told 168 = .ok (.invokevirtual 160, 3) := by decide +kernel
theorem dX10_told_171 : decode cX10_told 171 = .ok (.ireturn, 1) := by decide +kernel
theorem dX10_told_172 : decode cX10_told 172 = .ok (.aload_n 0, 1) := by decide +kernel
theorem dX10_told_173 : decode cX10_told 173 = .ok (.getfield 48, 3) := by decide +kernel
theorem dX10_told_176 : decode cX10_told 176 = .ok (.aload_n 0, 1) := by decide +kernel
theorem dX10_told_177 : decode cX10_told 177 = .ok (.getfield 10, 3) := by decide +kernel
theorem dX10_told_180 : decode cX10_told 180 = .ok (.getfield 68, 3) := by decide +kernel
theorem dX10_told_183 : decode cX10_told 183 = .ok (.invokevirtual 163, 3) := by decide +kernel
theorem dX10_told_186 : decode cX10_told 186 = .ok (.ireturn, 1) := by decide +kernel
theorem dX10_told_187 : decode cX10_told 187 = .ok (.aload_n 0, 1) := by decide +kernel
theorem dX10_told_188 : decode cX10_told 188 = .ok (.getfield 55, 3) := by decide +kernel
theorem dX10_told_191 : decode cX10_told 191 = .ok (.aload_n 0, 1) := by decide +kernel
theorem dX10_told_192 : decode cX10_told 192 = .ok (.getfield 10, 3) := by decide +kernel
theorem dX10_told_195 : decode cX10_told 195 = .ok (.getfield 68, 3) := by decide +kernel
theorem dX10_told_198 : decode cX10_told 198 = .ok (.invokevirtual 167, 3) := by decide +kernel
theorem dX10_told_201 : decode cX10_told 201 = .ok (.ifCond .eq 7, 3) := by decide +kernel
theorem dX10_told_204 : decode cX10_told 204 = .ok (.iconst 1, 1) := by decide +kernel
theorem dX10_told_205 : decode cX10_told 205 = .ok (.goto 4, 3) := by decide +kernel
theorem dX10_told_208 : decode cX10_told 208 = .ok (.iconst 0, 1) := by decide +kernel
theorem dX10_told_209 : decode cX10_told 209 = .ok (.ireturn, 1) := by decide +kernel
theorem dX10_told_210 : decode cX10_told 210 = .ok (.aload_n 0, 1) := by decide +kernel
theorem dX10_told_211 : decode cX10_told 211 = .ok (.invokevirtual 157, 3) := by decide +kernel
theorem dX10_told_214 : decode cX10_told 214 = .ok (.pop, 1) := by decide +kernel
theorem dX10_told_215 : decode cX10_told 215 = .ok (.aload_n 0, 1) := by decide +kernel
theorem dX10_told_216 : decode cX10_told 216 = .ok (.invokevirtual 171, 3) := by decide +kernel
theorem dX10_told_219 : decode cX10_told 219 = .ok (.ireturn, 1) := by decide +kernel
theorem dX10_told_220 : decode cX10_told 220 = .ok (.aload_n 0, 1) := by decide +kernel
theorem dX10_told_221 : decode cX10_told 221 = .ok (.getfield 19, 3) := by decide +kernel
theorem dX10_told_224 : decode cX10_told 224 = .ok (.getfield 140, 3) := by decide +kernel
theorem dX10_told_227 : decode cX10_told 227 = .ok (.ireturn, 1) := by decide +kernel
theorem dX10_told_228 : decode cX10_told 228 = .ok (.ldc 59, 2) := by decide +kernel
