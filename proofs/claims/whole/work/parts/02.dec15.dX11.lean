theorem dX11_code_22 : decode cX11_code 22 = .ok (.iload_n 3, 1) := by decide +kernel
theorem dX11_code_23 : decode cX11_code 23 = .ok (.iconst 1, 1) := by decide +kernel
theorem dX11_code_24 : decode cX11_code 24 = .ok (.iconst 2, 1) := by decide +kernel
theorem dX11_code_25 : decode cX11_code 25 = .ok (.iload_n 1, 1) := by decide +kernel
theorem dX11_code_26 : decode cX11_code 26 = .ok (.ishl, 1) := by decide +kernel
theorem dX11_code_27 : decode cX11_code 27 = .ok (.iconst 1, 1) := by decide +kernel
theorem dX11_code_28 : decode cX11_code 28 = .ok (.isub, 1) := by decide +kernel
theorem dX11_code_29 : decode cX11_code 29 = .ok (.invokestatic 69, 3) := by decide +kernel
theorem dX11_code_32 : decode cX11_code 32 = .ok (.ifCond .ne 6, 3) := by decide +kernel
theorem dX11_code_35 : decode cX11_code 35 = .ok (.ldc 84, 2) := by decide +kernel
theorem dX11_code_37 : decode cX11_code 37 = .ok (.ireturn, 1) := by decide +kernel
theorem dX11_code_38 : decode cX11_code 38 = .ok (.aload_n 0, 1) := by decide +kernel
theorem dX11_code_39 : decode cX11_code 39 = .ok (.invokevirtual 85, 3) := by decide +kernel
theorem dX11_code_42 : decode cX11_code 42 = .ok (.aload_n 0, 1) := by decide +kernel
theorem dX11_code_43 : decode cX11_code 43 = .ok (.getfield 7, 3) := by decide +kernel
theorem dX11_code_46 : decode cX11_code 46 = .ok (.iconst 0, 1) := by decide +kernel
theorem dX11_code_47 : decode cX11_code 47 = .ok (.iload_n 1, 1) := by decide +kernel
theorem dX11_code_48 : decode cX11_code 48 = .ok (.iastore, 1) := by decide +kernel
theorem dX11_code_49 : decode cX11_code 49 = .ok (.aload_n 0, 1) := by decide +kernel
theorem dX11_code_50 : decode cX11_code 50 = .ok (.getfield 7, 3) := by decide +kernel
theorem dX11_code_53 : decode cX11_code 53 = .ok (.iconst 1, 1) := by decide +kernel
theorem dX11_code_54 : decode cX11_code 54 = .ok (.iload_n 2, 1) := by decide +kernel
theorem dX11_code_55 : decode cX11_code 55 = .ok (.iastore, 1) := by decide +kernel
theorem dX11_code_56 : decode cX11_code 56 = .ok (.aload_n 0, 1) := by decide +kernel
theorem dX11_code_57 : decode cX11_code 57 = .ok (.getfield 7, 3) := by decide +kernel
theorem dX11_code_60 : decode cX11_code 60 = .ok (.iconst 2, 1) := by decide +kernel
theorem dX11_code_61 : decode cX11_code 61 = .ok (.iload_n 3, 1) := by decide +kernel
theorem dX11_code_62 : decode cX11_code 62 = .ok (.iastore, 1) := by decide +kernel
theorem dX11_code_63 : decode cX11_code 63 = .ok (.aload_n 0, 1) := by decide +kernel
theorem dX11_code_64 : decode cX11_code 64 = .ok (.getfield 7, 3) := by decide +kernel
theorem dX11_code_67 : decode cX11_code 67 = .ok (.iconst 3, 1) := by decide +kernel
theorem dX11_code_68 : decode cX11_code 68 = .ok (.iconst (-1), 1) := by decide +kernel
theorem dX11_code_69 : decode cX11_code 69 = .ok (.iastore, 1) := by decide +kernel
theorem dX11_code_70 : decode cX11_code 70 = .ok (.aload_n 0, 1) := by decide +kernel
theorem dX11_code_71 : decode cX11_code 71 = .ok (.getfield 7, 3) := by decide +kernel
theorem dX11_code_74 : decode cX11_code 74 = .ok (.iconst 4, 1) := by decide +kernel
theorem dX11_code_75 : decode cX11_code 75 = .ok (.iconst 0, 1) := by decide +kernel
theorem dX11_code_76 : decode cX11_code 76 = .ok (.iastore, 1) := by decide +kernel
theorem dX11_code_77 : decode cX11_code 77 = .ok (.aload_n 0, 1) := by decide +kernel
theorem dX11_code_78 : decode cX11_code 78 = .ok (.getfield 7, 3) := by decide +kernel
theorem dX11_code_81 : decode cX11_code 81 = .ok (.iconst 5, 1) := by decide +kernel
theorem dX11_code_82 : decode cX11_code 82 = .ok (.iconst 0, 1) := by decide +kernel
theorem dX11_code_83 : decode cX11_code 83 = .ok (.iastore, 1) := by decide +kernel
theorem dX11_code_84 : decode cX11_code 84 = .ok (.aload_n 0, 1) := by decide +kernel
theorem dX11_code_85 : decode cX11_code 85 = .ok (.invokevirtual 73, 3) := by decide +kernel
theorem dX11_code_88 : decode cX11_code 88 = .ok (.ireturn, 1) := by decide +kernel
theorem dX11_stateBehind_0 : decode cX11_stateBehind 0 = .ok (.iconst 0, 1) := by decide +kernel
theorem dX11_stateBehind_1 : decode cX11_stateBehind 1 = .ok (.istore_n 2, 1) := by decide +kernel
theorem dX11_stateBehind_2 : decode cX11_stateBehind 2 = .ok (.iconst 0, 1) := by decide +kernel
theorem dX11_stateBehind_3 : decode cX11_stateBehind 3 = .ok (.istore_n 3, 1) := by decide +kernel
theorem dX11_stateBehind_4 : decode cX11_stateBehind 4 = .ok (.iload_n 3, 1) := by decide +kernel
theorem dX11_stateBehind_5 : decode cX11_stateBehind 5 = .ok (.iload_n 1, 1) := by decide +kernel
theorem dX11_stateBehind_6 : decode cX11_stateBehind 6 = .ok (.if_icmp .ge 26, 3) := by decide +kernel
theorem dX11_stateBehind_9 : decode cX11_stateBehind 9 = .ok (.aload_n 0, 1) := by decide +kernel
theorem dX11_stateBehind_10 : decode cX11_stateBehind 10 = .ok (.iload_n 2, 1) := by decide +kernel
theorem dX11_stateBehind_11 : decode cX11_stateBehind 11 = .ok (.aload_n 0, 1) := by decide +kernel
theorem dX11_stateBehind_12 : decode cX11_stateBehind 12 = .ok (.getfield 7, 3) := by decide +kernel
theorem dX11_stateBehind_15 : decode cX11_stateBehind 15 = .ok (.bipush 6, 2) := by decide +kernel
theorem dX11_stateBehind_17 : decode cX11_stateBehind 17 = .ok (.iconst 2, 1) := by decide +kernel
theorem dX11_stateBehind_18 : decode cX11_stateBehind 18 = .ok (.iload_n 3, 1) := by decide +kernel
theorem dX11_stateBehind_19 : decode cX11_stateBehind 19 = .ok (.imul, 1) := by decide +kernel
theorem dX11_stateBehind_20 : decode cX11_stateBehind 20 = .ok (.iadd, 1) := by decide +kernel
theorem dX11_stateBehind_21 : decode cX11_stateBehind 21 = .ok (.iaload, 1) := by decide +kernel
theorem dX11_stateBehind_22 : decode cX11_stateBehind 22 = .ok (.invokevirtual 88, 3) := by decide +kernel
theorem dX11_stateBehind_25 : decode cX11_stateBehind 25 = .ok (.istore_n 2, 1) := by decide +kernel
theorem dX11_stateBehind_26 : decode cX11_stateBehind 26 = .ok (.iinc 3 1, 3) := by decide +kernel
theorem dX11_stateBehind_29 : decode cX11_stateBehind 29 = .ok (.goto (-25), 3) := by decide +kernel
theorem dX11_stateBehind_32 : decode cX11_stateBehind 32 = .ok (.iload_n 2, 1) := by decide +kernel
theorem dX11_stateBehind_33 : decode cX11_stateBehind 33 = .ok (.ireturn, 1) := by decide +kernel
theorem dX11_pointSent_0 : decode cX11_pointSent 0 = .ok (.aload_n 0, 1) := by decide +kernel
theorem dX11_pointSent_1 : decode cX11_pointSent 1 = .ok (.aload_n 0, 1) := by decide +kernel
theorem dX11_pointSent_2 : decode cX11_pointSent 2 = .ok (.iload_n 1, 1) := by decide +kernel
theorem dX11_pointSent_3 : decode cX11_pointSent 3 = .ok (.invokevirtual 91, 3) := by decide +kernel
theorem dX11_pointSent_6 : decode cX11_pointSent 6 = .ok (.aload_n 0, 1) := by decide +kernel
theorem dX11_pointSent_7 : decode cX11_pointSent 7 = .ok (.getfield 7, 3) := by decide +kernel
theorem dX11_pointSent_10 : decode cX11_pointSent 10 = .ok (.bipush 6, 2) := by decide +kernel
theorem dX11_pointSent_12 : decode cX11_pointSent 12 = .ok (.iconst 2, 1) := by decide +kernel
theorem dX11_pointSent_13 : decode cX11_pointSent 13 = .ok (.iload_n 1, 1) := by decide +kernel
theorem dX11_pointSent_14 : decode cX11_pointSent 14 = .ok (.imul, 1) := by decide +kernel
theorem dX11_pointSent_15 : decode cX11_pointSent 15 = .ok (.iadd, 1) := by decide +kernel
theorem dX11_pointSent_16 : decode cX11_pointSent 16 = .ok (.iaload, 1) := by decide +kernel
theorem dX11_pointSent_17 : decode cX11_pointSent 17 = .ok (.invokevirtual 94, 3) := by decide +kernel
theorem dX11_pointSent_20 : decode cX11_pointSent 20 = .ok (.aload_n 0, 1) := by decide +kernel
theorem dX11_pointSent_21 : decode cX11_pointSent 21 = .ok (.getfield 7, 3) := by decide +kernel
theorem dX11_pointSent_24 : decode cX11_pointSent 24 = .ok (.bipush 6, 2) := by decide +kernel
theorem dX11_pointSent_26 : decode cX11_pointSent 26 = .ok (.iconst 2, 1) := by decide +kernel
theorem dX11_pointSent_27 : decode cX11_pointSent 27 = .ok (.iload_n 1, 1) := by decide +kernel
theorem dX11_pointSent_28 : decode cX11_pointSent 28 = .ok (.imul, 1) := by decide +kernel
theorem dX11_pointSent_29 : decode cX11_pointSent 29 = .ok (.iadd, 1) := by decide +kernel
theorem dX11_pointSent_30 : decode cX11_pointSent 30 = .ok (.iconst 1, 1) := by decide +kernel
theorem dX11_pointSent_31 : decode cX11_pointSent 31 = .ok (.iadd, 1) := by decide +kernel
theorem dX11_pointSent_32 : decode cX11_pointSent 32 = .ok (.iaload, 1) := by decide +kernel
theorem dX11_pointSent_33 : decode cX11_pointSent 33 = .ok (.invokestatic 62, 3) := by decide +kernel
theorem dX11_pointSent_36 : decode cX11_pointSent 36 = .ok (.ireturn, 1) := by decide +kernel
theorem dX11_sends_0 : decode cX11_sends 0 = .ok (.bipush 6, 2) := by decide +kernel
theorem dX11_sends_2 : decode cX11_sends 2 = .ok (.iconst 2, 1) := by decide +kernel
theorem dX11_sends_3 : decode cX11_sends 3 = .ok (.aload_n 0, 1) := by decide +kernel
theorem dX11_sends_4 : decode cX11_sends 4 = .ok (.getfield 7, 3) := by decide +kernel
theorem dX11_sends_7 : decode cX11_sends 7 = .ok (.iconst 4, 1) := by decide +kernel
theorem dX11_sends_8 : decode cX11_sends 8 = .ok (.iaload, 1) := by decide +kernel
theorem dX11_sends_9 : decode cX11_sends 9 = .ok (.imul, 1) := by decide +kernel
theorem dX11_sends_10 : decode cX11_sends 10 = .ok (.iadd, 1) := by decide +kernel
theorem dX11_sends_11 : decode cX11_sends 11 = .ok (.istore_n 3, 1) := by decide +kernel
theorem dX11_sends_12 : decode cX11_sends 12 = .ok (.aload_n 0, 1) := by decide +kernel
theorem dX11_sends_13 : decode cX11_sends 13 = .ok (.getfield 7, 3) := by decide +kernel
theorem dX11_sends_16 : decode cX11_sends 16 = .ok (.iload_n 3, 1) := by decide +kernel
theorem dX11_sends_17 : decode cX11_sends 17 = .ok (.iload_n 1, 1) := by decide +kernel
theorem dX11_sends_18 : decode cX11_sends 18 = .ok (.iastore, 1) := by decide +kernel
theorem dX11_sends_19 : decode cX11_sends 19 = .ok (.aload_n 0, 1) := by decide +kernel
theorem dX11_sends_20 : decode cX11_sends 20 = .ok (.getfield 7, 3) := by decide +kernel
theorem dX11_sends_23 : decode cX11_sends 23 = .ok (.iload_n 3, 1) := by decide +kernel
theorem dX11_sends_24 : decode cX11_sends 24 = .ok (.iconst 1, 1) := by decide +kernel
theorem dX11_sends_25 : decode cX11_sends 25 = .ok (.iadd, 1) := by decide +kernel
theorem dX11_sends_26 : decode cX11_sends 26 = .ok (.iload_n 2, 1) := by decide +kernel
theorem dX11_sends_27 : decode cX11_sends 27 = .ok (.iastore, 1) := by decide +kernel
theorem dX11_sends_28 : decode cX11_sends 28 = .ok (.aload_n 0, 1) := by decide +kernel
theorem dX11_sends_29 : decode cX11_sends 29 = .ok (.getfield 7, 3) := by decide +kernel
theorem dX11_sends_32 : decode cX11_sends 32 = .ok (.iconst 4, 1) := by decide +kernel
theorem dX11_sends_33 : decode cX11_sends 33 = .ok (.dup2, 1) := by decide +kernel
theorem dX11_sends_34 : decode cX11_sends 34 = .ok (.iaload, 1) := by decide +kernel
theorem dX11_sends_35 : decode cX11_sends 35 = .ok (.iconst 1, 1) := by decide +kernel
theorem dX11_sends_36 : decode cX11_sends 36 = .ok (.iadd, 1) := by decide +kernel
theorem dX11_sends_37 : decode cX11_sends 37 = .ok (.iastore, 1) := by decide +kernel
theorem dX11_sends_38 : decode cX11_sends 38 = .ok (.return_, 1) := by decide +kernel
theorem dX11_hears_0 : decode cX11_hears 0 = .ok (.bipush 54, 2) := by decide +kernel
theorem dX11_hears_2 : decode cX11_hears 2 = .ok (.iconst 2, 1) := by decide +kernel
theorem dX11_hears_3 : decode cX11_hears 3 = .ok (.aload_n 0, 1) := by decide +kernel
theorem dX11_hears_4 : decode cX11_hears 4 = .ok (.getfield 7, 3) := by decide +kernel
theorem dX11_hears_7 : decode cX11_hears 7 = .ok (.iconst 5, 1) := by decide +kernel
theorem dX11_hears_8 : decode cX11_hears 8 = .ok (.iaload, 1) := by decide +kernel
theorem dX11_hears_9 : decode cX11_hears 9 = .ok (.imul, 1) := by decide +kernel
theorem dX11_hears_10 : decode cX11_hears 10 = .ok (.iadd, 1) := by decide +kernel
theorem dX11_hears_11 : decode cX11_hears 11 = .ok (.istore_n 3, 1) := by decide +kernel
theorem dX11_hears_12 : decode cX11_hears 12 = .ok (.aload_n 0, 1) := by decide +kernel
theorem dX11_hears_13 : decode cX11_hears 13 = .ok (.getfield 7, 3) := by decide +kernel
theorem dX11_hears_16 : decode cX11_hears 16 = .ok (.iload_n 3, 1) := by decide +kernel
theorem dX11_hears_17 : decode cX11_hears 17 = .ok (.iload_n 1, 1) := by decide +kernel
theorem dX11_hears_18 : decode cX11_hears 18 = .ok (.iastore, 1) := by decide +kernel
theorem dX11_hears_19 : decode cX11_hears 19 = .ok (.aload_n 0, 1) := by decide +kernel
theorem dX11_hears_20 : decode cX11_hears 20 = .ok (.getfield 7, 3) := by decide +kernel
theorem dX11_hears_23 : decode cX11_hears 23 = .ok (.iload_n 3, 1) := by decide +kernel
theorem dX11_hears_24 : decode cX11_hears 24 = .ok (.iconst 1, 1) := by decide +kernel
theorem dX11_hears_25 : decode cX11_hears 25 = .ok (.iadd, 1) := by decide +kernel
theorem dX11_hears_26 : decode cX11_hears 26 = .ok (.iload_n 2, 1) := by decide +kernel
theorem dX11_hears_27 : decode cX11_hears 27 = .ok (.iastore, 1) := by decide +kernel
theorem dX11_hears_28 : decode cX11_hears 28 = .ok (.aload_n 0, 1) := by decide +kernel
theorem dX11_hears_29 : decode cX11_hears 29 = .ok (.getfield 7, 3) := by decide +kernel
theorem dX11_hears_32 : decode cX11_hears 32 = .ok (.iconst 5, 1) := by decide +kernel
theorem dX11_hears_33 : decode cX11_hears 33 = .ok (.dup2, 1) := by decide +kernel
theorem dX11_hears_34 : decode cX11_hears 34 = .ok (.iaload, 1) := by decide +kernel
theorem dX11_hears_35 : decode cX11_hears 35 = .ok (.iconst 1, 1) := by decide +kernel
theorem dX11_hears_36 : decode cX11_hears 36 = .ok (.iadd, 1) := by decide +kernel
theorem dX11_hears_37 : decode cX11_hears 37 = .ok (.iastore, 1) := by decide +kernel
theorem dX11_hears_38 : decode cX11_hears 38 = .ok (.return_, 1) := by decide +kernel
theorem dX11_send_0 : decode cX11_send 0 = .ok (.iload_n 1, 1) := by decide +kernel
theorem dX11_send_1 : decode cX11_send 1 = .ok (.iconst 0, 1) := by decide +kernel
theorem dX11_send_2 : decode cX11_send 2 = .ok (.iconst 1, 1) := by decide +kernel
theorem dX11_send_3 : decode cX11_send 3 = .ok (.invokestatic 69, 3) := by decide +kernel
theorem dX11_send_6 : decode cX11_send 6 = .ok (.ifCond .eq 12, 3) := by decide +kernel
theorem dX11_send_9 : decode cX11_send 9 = .ok (.iload_n 2, 1) := by decide +kernel
theorem dX11_send_10 : decode cX11_send 10 = .ok (.iconst 0, 1) := by decide +kernel
theorem dX11_send_11 : decode cX11_send 11 = .ok (.iconst 3, 1) := by decide +kernel
theorem dX11_send_12 : decode cX11_send 12 = .ok (.invokestatic 69, 3) := by decide +kernel
theorem dX11_send_15 : decode cX11_send 15 = .ok (.ifCond .ne 6, 3) := by decide +kernel
theorem dX11_send_18 : decode cX11_send 18 = .ok (.ldc 84, 2) := by decide +kernel
theorem dX11_send_20 : decode cX11_send 20 = .ok (.ireturn, 1) := by decide +kernel
theorem dX11_send_21 : decode cX11_send 21 = .ok (.aload_n 0, 1) := by decide +kernel
theorem dX11_send_22 : decode cX11_send 22 = .ok (.getfield 7, 3) := by decide +kernel
theorem dX11_send_25 : decode cX11_send 25 = .ok (.iconst 4, 1) := by decide +kernel
theorem dX11_send_26 : decode cX11_send 26 = .ok (.iaload, 1) := by decide +kernel
theorem dX11_send_27 : decode cX11_send 27 = .ok (.bipush 24, 2) := by decide +kernel
theorem dX11_send_29 : decode cX11_send 29 = .ok (.if_icmp .ne 6, 3) := by decide +kernel
theorem dX11_send_32 : decode cX11_send 32 = .ok (.ldc 97, 2) := by decide +kernel
theorem dX11_send_34 : decode cX11_send 34 = .ok (.ireturn, 1) := by decide +kernel
theorem dX11_send_35 : decode cX11_send 35 = .ok (.aload_n 0, 1) := by decide +kernel
theorem dX11_send_36 : decode cX11_send 36 = .ok (.invokevirtual 85, 3) := by decide +kernel
theorem dX11_send_39 : decode cX11_send 39 = .ok (.aload_n 0, 1) := by decide +kernel
theorem dX11_send_40 : decode cX11_send 40 = .ok (.iload_n 1, 1) := by decide +kernel
theorem dX11_send_41 : decode cX11_send 41 = .ok (.iload_n 2, 1) := by decide +kernel
theorem dX11_send_42 : decode cX11_send 42 = .ok (.invokevirtual 98, 3) := by decide +kernel
theorem dX11_send_45 : decode cX11_send 45 = .ok (.aload_n 0, 1) := by decide +kernel
theorem dX11_send_46 : decode cX11_send 46 = .ok (.aload_n 0, 1) := by decide +kernel
theorem dX11_send_47 : decode cX11_send 47 = .ok (.getfield 7, 3) := by decide +kernel
theorem dX11_send_50 : decode cX11_send 50 = .ok (.iconst 4, 1) := by decide +kernel
theorem dX11_send_51 : decode cX11_send 51 = .ok (.iaload, 1) := by decide +kernel
theorem dX11_send_52 : decode cX11_send 52 = .ok (.iconst 1, 1) := by decide +kernel
theorem dX11_send_53 : decode cX11_send 53 = .ok (.isub, 1) := by decide +kernel
theorem dX11_send_54 : decode cX11_send 54 = .ok (.invokevirtual 102, 3) := by decide +kernel
theorem dX11_send_57 : decode cX11_send 57 = .ok (.ireturn, 1) := by decide +kernel
theorem dX11_hear_0 : decode cX11_hear 0 = .ok (.iload_n 1, 1) := by decide +kernel
theorem dX11_hear_1 : decode cX11_hear 1 = .ok (.bipush (-99), 2) := by decide +kernel
theorem dX11_hear_3 : decode cX11_hear 3 = .ok (.bipush 99, 2) := by decide +kernel
theorem dX11_hear_5 : decode cX11_hear 5 = .ok (.invokestatic 69, 3) := by decide +kernel
theorem dX11_hear_8 : decode cX11_hear 8 = .ok (.ifCond .eq 14, 3) := by decide +kernel
theorem dX11_hear_11 : decode cX11_hear 11 = .ok (.iload_n 2, 1) := by decide +kernel
theorem dX11_hear_12 : decode cX11_hear 12 = .ok (.bipush (-99), 2) := by decide +kernel
theorem dX11_hear_14 : decode cX11_hear 14 = .ok (.bipush 99, 2) := by decide +kernel
theorem dX11_hear_16 : decode cX11_hear 16 = .ok (.invokestatic 69, 3) := by decide +kernel
theorem dX11_hear_19 : decode cX11_hear 19 = .ok (.ifCond .ne 6, 3) := by decide +kernel
theorem dX11_hear_22 : decode cX11_hear 22 = .ok (.ldc 84, 2) := by decide +kernel
theorem dX11_hear_24 : decode cX11_hear 24 = .ok (.ireturn, 1) := by decide +kernel
theorem dX11_hear_25 : decode cX11_hear 25 = .ok (.aload_n 0, 1) := by decide +kernel
theorem dX11_hear_26 : decode cX11_hear 26 = .ok (.getfield 7, 3) := by decide +kernel
theorem dX11_hear_29 : decode cX11_hear 29 = .ok (.iconst 5, 1) := by decide +kernel
theorem dX11_hear_30 : decode cX11_hear 30 = .ok (.iaload, 1) := by decide +kernel
theorem dX11_hear_31 : decode cX11_hear 31 = .ok (.bipush 24, 2) := by decide +kernel
theorem dX11_hear_33 : decode cX11_hear 33 = .ok (.if_icmp .ne 6, 3) := by decide +kernel
theorem dX11_hear_36 : decode cX11_hear 36 = .ok (.ldc 97, 2) := by decide +kernel
theorem dX11_hear_38 : decode cX11_hear 38 = .ok (.ireturn, 1) := by decide +kernel
theorem dX11_hear_39 : decode cX11_hear 39 = .ok (.aload_n 0, 1) := by decide +kernel
theorem dX11_hear_40 : decode cX11_hear 40 = .ok (.invokevirtual 85, 3) := by decide +kernel
theorem dX11_hear_43 : decode cX11_hear 43 = .ok (.aload_n 0, 1) := by decide +kernel
theorem dX11_hear_44 : decode cX11_hear 44 = .ok (.iload_n 1, 1) := by decide +kernel
theorem dX11_hear_45 : decode cX11_hear 45 = .ok (.iload_n 2, 1) := by decide +kernel
theorem dX11_hear_46 : decode cX11_hear 46 = .ok (.invokevirtual 105, 3) := by decide +kernel
theorem dX11_hear_49 : decode cX11_hear 49 = .ok (.aload_n 0, 1) := by decide +kernel
theorem dX11_hear_50 : decode cX11_hear 50 = .ok (.getfield 7, 3) := by decide +kernel
theorem dX11_hear_53 : decode cX11_hear 53 = .ok (.iconst 5, 1) := by decide +kernel
theorem dX11_hear_54 : decode cX11_hear 54 = .ok (.iaload, 1) := by decide +kernel
theorem dX11_hear_55 : decode cX11_hear 55 = .ok (.ireturn, 1) := by decide +kernel
theorem dX11_drawn_0 : decode cX11_drawn 0 = .ok (.lload_n 0, 1) := by decide +kernel
theorem dX11_drawn_1 : decode cX11_drawn 1 = .ok (.ldc2_w 108, 3) := by decide +kernel
theorem dX11_drawn_4 : decode cX11_drawn 4 = .ok (.lmul, 1) := by decide +kernel
theorem dX11_drawn_5 : decode cX11_drawn 5 = .ok (.ldc2_w 110, 3) := by decide +kernel
theorem dX11_drawn_8 : decode cX11_drawn 8 = .ok (.lrem, 1) := by decide +kernel
theorem dX11_drawn_9 : decode cX11_drawn 9 = .ok (.lreturn, 1) := by decide +kernel
theorem dX11_drift_0 : decode cX11_drift 0 = .ok (.iload_n 1, 1) := by decide +kernel
theorem dX11_drift_1 : decode cX11_drift 1 = .ok (.iconst 1, 1) := by decide +kernel
theorem dX11_drift_2 : decode cX11_drift 2 = .ok (.bipush 24, 2) := by decide +kernel
theorem dX11_drift_4 : decode cX11_drift 4 = .ok (.invokestatic 69, 3) := by decide +kernel
theorem dX11_drift_7 : decode cX11_drift 7 = .ok (.ifCond .eq 13, 3) := by decide +kernel
theorem dX11_drift_10 : decode cX11_drift 10 = .ok (.iload_n 2, 1) := by decide +kernel
theorem dX11_drift_11 : decode cX11_drift 11 = .ok (.iconst 1, 1) := by decide +kernel
theorem dX11_drift_12 : decode cX11_drift 12 = .ok (.ldc 112, 2) := by decide +kernel
theorem dX11_drift_14 : decode cX11_drift 14 = .ok (.invokestatic 69, 3) := by decide +kernel
theorem dX11_drift_17 : decode cX11_drift 17 = .ok (.ifCond .ne 6, 3) := by decide +kernel
theorem dX11_drift_20 : decode cX11_drift 20 = .ok (.ldc 84, 2) := by decide +kernel
theorem dX11_drift_22 : decode cX11_drift 22 = .ok (.ireturn, 1) := by decide +kernel
theorem dX11_drift_23 : decode cX11_drift 23 = .ok (.aload_n 0, 1) := by decide +kernel
theorem dX11_drift_24 : decode cX11_drift 24 = .ok (.invokevirtual 85, 3) := by decide +kernel
theorem dX11_drift_27 : decode cX11_drift 27 = .ok (.iload_n 2, 1) := by decide +kernel
theorem dX11_drift_28 : decode cX11_drift 28 = .ok (.i2l, 1) := by decide +kernel
theorem dX11_drift_29 : decode cX11_drift 29 = .ok (.lstore_n 3, 1) := by decide +kernel
theorem dX11_drift_30 : decode cX11_drift 30 = .ok (.iconst 0, 1) := by decide +kernel
theorem dX11_drift_31 : decode cX11_drift 31 = .ok (.istore 5, 2) := by decide +kernel
theorem dX11_drift_33 : decode cX11_drift 33 = .ok (.iload 5, 2) := by decide +kernel
theorem dX11_drift_35 : decode cX11_drift 35 = .ok (.iload_n 1, 1) := by decide +kernel
theorem dX11_drift_36 : decode cX11_drift 36 = .ok (.if_icmp .ge 123, 3) := by decide +kernel
theorem dX11_drift_39 : decode cX11_drift 39 = .ok (.aload_n 0, 1) := by decide +kernel
theorem dX11_drift_40 : decode cX11_drift 40 = .ok (.getfield 7, 3) := by decide +kernel
theorem dX11_drift_43 : decode cX11_drift 43 = .ok (.iconst 4, 1) := by decide +kernel
theorem dX11_drift_44 : decode cX11_drift 44 = .ok (.iaload, 1) := by decide +kernel
theorem dX11_drift_45 : decode cX11_drift 45 = .ok (.bipush 24, 2) := by decide +kernel
theorem dX11_drift_47 : decode cX11_drift 47 = .ok (.if_icmp .ge 112, 3) := by decide +kernel
theorem dX11_drift_50 : decode cX11_drift 50 = .ok (.aload_n 0, 1) := by decide +kernel
theorem dX11_drift_51 : decode cX11_drift 51 = .ok (.getfield 7, 3) := by decide +kernel
theorem dX11_drift_54 : decode cX11_drift 54 = .ok (.iconst 5, 1) := by decide +kernel
theorem dX11_drift_55 : decode cX11_drift 55 = .ok (.iaload, 1) := by decide +kernel
theorem dX11_drift_56 : decode cX11_drift 56 = .ok (.bipush 24, 2) := by decide +kernel
theorem dX11_drift_58 : decode cX11_drift 58 = .ok (.if_icmp .ge 101, 3) := by decide +kernel
theorem dX11_drift_61 : decode cX11_drift 61 = .ok (.lload_n 3, 1) := by decide +kernel
theorem dX11_drift_62 : decode cX11_drift 62 = .ok (.invokestatic 113, 3) := by decide +kernel
theorem dX11_drift_65 : decode cX11_drift 65 = .ok (.lstore_n 3, 1) := by decide +kernel
theorem dX11_drift_66 : decode cX11_drift 66 = .ok (.lload_n 3, 1) := by decide +kernel
theorem dX11_drift_67 : decode cX11_drift 67 = .ok (.ldc2_w 117, 3) := by decide +kernel
theorem dX11_drift_70 : decode cX11_drift 70 = .ok (.lrem, 1) := by decide +kernel
theorem dX11_drift_71 : decode cX11_drift 71 = .ok (.l2i, 1) := by decide +kernel
theorem dX11_drift_72 : decode cX11_drift 72 = .ok (.istore 6, 2) := by decide +kernel
theorem dX11_drift_74 : decode cX11_drift 74 = .ok (.lload_n 3, 1) := by decide +kernel
theorem dX11_drift_75 : decode cX11_drift 75 = .ok (.invokestatic 113, 3) := by decide +kernel
theorem dX11_drift_78 : decode cX11_drift 78 = .ok (.lstore_n 3, 1) := by decide +kernel
theorem dX11_drift_79 : decode cX11_drift 79 = .ok (.aload_n 0, 1) := by decide +kernel
theorem dX11_drift_80 : decode cX11_drift 80 = .ok (.iload 6, 2) := by decide +kernel
theorem dX11_drift_82 : decode cX11_drift 82 = .ok (.lload_n 3, 1) := by decide +kernel
theorem dX11_drift_83 : decode cX11_drift 83 = .ok (.ldc2_w 119, 3) := by decide +kernel
theorem dX11_drift_86 : decode cX11_drift 86 = .ok (.lrem, 1) := by decide +kernel
theorem dX11_drift_87 : decode cX11_drift 87 = .ok (.l2i, 1) := by decide +kernel
theorem dX11_drift_88 : decode cX11_drift 88 = .ok (.invokevirtual 98, 3) := by decide +kernel
theorem dX11_drift_91 : decode cX11_drift 91 = .ok (.aload_n 0, 1) := by decide +kernel
theorem dX11_drift_92 : decode cX11_drift 92 = .ok (.aload_n 0, 1) := by decide +kernel
theorem dX11_drift_93 : decode cX11_drift 93 = .ok (.getfield 7, 3) := by decide +kernel
theorem dX11_drift_96 : decode cX11_drift 96 = .ok (.iconst 4, 1) := by decide +kernel
theorem dX11_drift_97 : decode cX11_drift 97 = .ok (.iaload, 1) := by decide +kernel
theorem dX11_drift_98 : decode cX11_drift 98 = .ok (.iconst 1, 1) := by decide +kernel
theorem dX11_drift_99 : decode cX11_drift 99 = .ok (.isub, 1) := by decide +kernel
theorem dX11_drift_100 : decode cX11_drift 100 = .ok (.invokevirtual 102, 3) := by decide +kernel
theorem dX11_drift_103 : decode cX11_drift 103 = .ok (.istore 7, 2) := by decide +kernel
theorem dX11_drift_105 : decode cX11_drift 105 = .ok (.lload_n 3, 1) := by decide +kernel
theorem dX11_drift_106 : decode cX11_drift 106 = .ok (.invokestatic 113, 3) := by decide +kernel
theorem dX11_drift_109 : decode cX11_drift 109 = .ok (.lstore_n 3, 1) := by decide +kernel
theorem dX11_drift_110 : decode cX11_drift 110 = .ok (.lload_n 3, 1) := by decide +kernel
theorem dX11_drift_111 : decode cX11_drift 111 = .ok (.ldc2_w 121, 3) := by decide +kernel
theorem dX11_drift_114 : decode cX11_drift 114 = .ok (.lrem, 1) := by decide +kernel
theorem dX11_drift_115 : decode cX11_drift 115 = .ok (.l2i, 1) := by decide +kernel
theorem dX11_drift_116 : decode cX11_drift 116 = .ok (.bipush 12, 2) := by decide +kernel
theorem dX11_drift_118 : decode cX11_drift 118 = .ok (.isub, 1) := by decide +kernel
theorem dX11_drift_119 : decode cX11_drift 119 = .ok (.istore 8, 2) := by decide +kernel
theorem dX11_drift_121 : decode cX11_drift 121 = .ok (.lload_n 3, 1) := by decide +kernel
theorem dX11_drift_122 : decode cX11_drift 122 = .ok (.invokestatic 113, 3) := by decide +kernel
theorem dX11_drift_125 : decode cX11_drift 125 = .ok (.lstore_n 3, 1) := by decide +kernel
theorem dX11_drift_126 : decode cX11_drift 126 = .ok (.aload_n 0, 1) := by decide +kernel
theorem dX11_drift_127 : decode cX11_drift 127 = .ok (.iload 7, 2) := by decide +kernel
theorem dX11_drift_129 : decode cX11_drift 129 = .ok (.invokestatic 51, 3) := by decide +kernel
theorem dX11_drift_132 : decode cX11_drift 132 = .ok (.iload 8, 2) := by decide +kernel
theorem dX11_drift_134 : decode cX11_drift 134 = .ok (.iadd, 1) := by decide +kernel
theorem dX11_drift_135 : decode cX11_drift 135 = .ok (.iload 7, 2) := by decide +kernel
theorem dX11_drift_137 : decode cX11_drift 137 = .ok (.invokestatic 54, 3) := by decide +kernel
theorem dX11_drift_140 : decode cX11_drift 140 = .ok (.lload_n 3, 1) := by decide +kernel
theorem dX11_drift_141 : decode cX11_drift 141 = .ok (.ldc2_w 121, 3) := by decide +kernel
theorem dX11_drift_144 : decode cX11_drift 144 = .ok (.lrem, 1) := by decide +kernel
theorem dX11_drift_145 : decode cX11_drift 145 = .ok (.l2i, 1) := by decide +kernel
theorem dX11_drift_146 : decode cX11_drift 146 = .ok (.iadd, 1) := by decide +kernel
theorem dX11_drift_147 : decode cX11_drift 147 = .ok (.bipush 12, 2) := by decide +kernel
theorem dX11_drift_149 : decode cX11_drift 149 = .ok (.isub, 1) := by decide +kernel
theorem dX11_drift_150 : decode cX11_drift 150 = .ok (.invokevirtual 105, 3) := by decide +kernel
theorem dX11_drift_153 : decode cX11_drift 153 = .ok (.iinc 5 1, 3) := by decide +kernel
theorem dX11_drift_156 : decode cX11_drift 156 = .ok (.goto (-123), 3) := by decide +kernel
theorem dX11_drift_159 : decode cX11_drift 159 = .ok (.iload 5, 2) := by decide +kernel
theorem dX11_drift_161 : decode cX11_drift 161 = .ok (.ireturn, 1) := by decide +kernel
theorem dX11_wipe_0 : decode cX11_wipe 0 = .ok (.aload_n 0, 1) := by decide +kernel
theorem dX11_wipe_1 : decode cX11_wipe 1 = .ok (.invokevirtual 85, 3) := by decide +kernel
theorem dX11_wipe_4 : decode cX11_wipe 4 = .ok (.aload_n 0, 1) := by decide +kernel
theorem dX11_wipe_5 : decode cX11_wipe 5 = .ok (.getfield 7, 3) := by decide +kernel
theorem dX11_wipe_8 : decode cX11_wipe 8 = .ok (.iconst 4, 1) := by decide +kernel
theorem dX11_wipe_9 : decode cX11_wipe 9 = .ok (.iaload, 1) := by decide +kernel
theorem dX11_wipe_10 : decode cX11_wipe 10 = .ok (.aload_n 0, 1) := by decide +kernel
theorem dX11_wipe_11 : decode cX11_wipe 11 = .ok (.getfield 7, 3) := by decide +kernel
theorem dX11_wipe_14 : decode cX11_wipe 14 = .ok (.iconst 5, 1) := by decide +kernel
theorem dX11_wipe_15 : decode cX11_wipe 15 = .ok (.iaload, 1) := by decide +kernel
theorem dX11_wipe_16 : decode cX11_wipe 16 = .ok (.iadd, 1) := by decide +kernel
theorem dX11_wipe_17 : decode cX11_wipe 17 = .ok (.istore_n 1, 1) := by decide +kernel
theorem dX11_wipe_18 : decode cX11_wipe 18 = .ok (.aload_n 0, 1) := by decide +kernel
theorem dX11_wipe_19 : decode cX11_wipe 19 = .ok (.getfield 7, 3) := by decide +kernel
theorem dX11_wipe_22 : decode cX11_wipe 22 = .ok (.iconst 4, 1) := by decide +kernel
theorem dX11_wipe_23 : decode cX11_wipe 23 = .ok (.iconst 0, 1) := by decide +kernel
theorem dX11_wipe_24 : decode cX11_wipe 24 = .ok (.iastore, 1) := by decide +kernel
theorem dX11_wipe_25 : decode cX11_wipe 25 = .ok (.aload_n 0, 1) := by decide +kernel
theorem dX11_wipe_26 : decode cX11_wipe 26 = .ok (.getfield 7, 3) := by decide +kernel
theorem dX11_wipe_29 : decode cX11_wipe 29 = .ok (.iconst 5, 1) := by decide +kernel
theorem dX11_wipe_30 : decode cX11_wipe 30 = .ok (.iconst 0, 1) := by decide +kernel
theorem dX11_wipe_31 : decode cX11_wipe 31 = .ok (.iastore, 1) := by decide +kernel
theorem dX11_wipe_32 : decode cX11_wipe 32 = .ok (.iload_n 1, 1) := by decide +kernel
theorem dX11_wipe_33 : decode cX11_wipe 33 = .ok (.ireturn, 1) := by decide +kernel
theorem dX11_end_0 : decode cX11_end 0 = .ok (.iload_n 1, 1) := by decide +kernel
theorem dX11_end_1 : decode cX11_end 1 = .ok (.iconst (-1), 1) := by decide +kernel
theorem dX11_end_2 : decode cX11_end 2 = .ok (.if_icmp .eq 14, 3) := by decide +kernel
theorem dX11_end_5 : decode cX11_end 5 = .ok (.aload_n 0, 1) := by decide +kernel
theorem dX11_end_6 : decode cX11_end 6 = .ok (.iload_n 1, 1) := by decide +kernel
theorem dX11_end_7 : decode cX11_end 7 = .ok (.invokevirtual 123, 3) := by decide +kernel
theorem dX11_end_10 : decode cX11_end 10 = .ok (.ifCond .ne 6, 3) := by decide +kernel
theorem dX11_end_13 : decode cX11_end 13 = .ok (.ldc 127, 2) := by decide +kernel
theorem dX11_end_15 : decode cX11_end 15 = .ok (.ireturn, 1) := by decide +kernel
theorem dX11_end_16 : decode cX11_end 16 = .ok (.aload_n 0, 1) := by decide +kernel
theorem dX11_end_17 : decode cX11_end 17 = .ok (.invokevirtual 85, 3) := by decide +kernel
theorem dX11_end_20 : decode cX11_end 20 = .ok (.aload_n 0, 1) := by decide +kernel
theorem dX11_end_21 : decode cX11_end 21 = .ok (.getfield 7, 3) := by decide +kernel
theorem dX11_end_24 : decode cX11_end 24 = .ok (.iconst 3, 1) := by decide +kernel
theorem dX11_end_25 : decode cX11_end 25 = .ok (.iaload, 1) := by decide +kernel
theorem dX11_end_26 : decode cX11_end 26 = .ok (.istore_n 2, 1) := by decide +kernel
theorem dX11_end_27 : decode cX11_end 27 = .ok (.aload_n 0, 1) := by decide +kernel
theorem dX11_end_28 : decode cX11_end 28 = .ok (.getfield 7, 3) := by decide +kernel
theorem dX11_end_31 : decode cX11_end 31 = .ok (.iconst 3, 1) := by decide +kernel
theorem dX11_end_32 : decode cX11_end 32 = .ok (.iload_n 1, 1) := by decide +kernel
theorem dX11_end_33 : decode cX11_end 33 = .ok (.iastore, 1) := by decide +kernel
theorem dX11_end_34 : decode cX11_end 34 = .ok (.iload_n 2, 1) := by decide +kernel
theorem dX11_end_35 : decode cX11_end 35 = .ok (.ireturn, 1) := by decide +kernel
theorem dX11_undo_0 : decode cX11_undo 0 = .ok (.aload_n 0, 1) := by decide +kernel
theorem dX11_undo_1 : decode cX11_undo 1 = .ok (.getfield 80, 3) := by decide +kernel
theorem dX11_undo_4 : decode cX11_undo 4 = .ok (.ifCond .ne 6, 3) := by decide +kernel
theorem dX11_undo_7 : decode cX11_undo 7 = .ok (.ldc 128, 2) := by decide +kernel
theorem dX11_undo_9 : decode cX11_undo 9 = .ok (.ireturn, 1) := by decide +kernel
theorem dX11_undo_10 : decode cX11_undo 10 = .ok (.aload_n 0, 1) := by decide +kernel
theorem dX11_undo_11 : decode cX11_undo 11 = .ok (.dup, 1) := by decide +kernel
theorem dX11_undo_12 : decode cX11_undo 12 = .ok (.getfield 80, 3) := by decide +kernel
theorem dX11_undo_15 : decode cX11_undo 15 = .ok (.iconst 1, 1) := by decide +kernel
theorem dX11_undo_16 : decode cX11_undo 16 = .ok (.isub, 1) := by decide +kernel
theorem dX11_undo_17 : decode cX11_undo 17 = .ok (.putfield 80, 3) := by decide +kernel
theorem dX11_undo_20 : decode cX11_undo 20 = .ok (.iconst 0, 1) := by decide +kernel
theorem dX11_undo_21 : decode cX11_undo 21 = .ok (.istore_n 1, 1) := by decide +kernel
theorem dX11_undo_22 : decode cX11_undo 22 = .ok (.iload_n 1, 1) := by decide +kernel
theorem dX11_undo_23 : decode cX11_undo 23 = .ok (.bipush 102, 2) := by decide +kernel
theorem dX11_undo_25 : decode cX11_undo 25 = .ok (.if_icmp .ge 29, 3) := by decide +kernel
theorem dX11_undo_28 : decode cX11_undo 28 = .ok (.aload_n 0, 1) := by decide +kernel
theorem dX11_undo_29 : decode cX11_undo 29 = .ok (.getfield 7, 3) := by decide +kernel
theorem dX11_undo_32 : decode cX11_undo 32 = .ok (.iload_n 1, 1) := by decide +kernel
theorem dX11_undo_33 : decode cX11_undo 33 = .ok (.aload_n 0, 1) := by decide +kernel
theorem dX11_undo_34 : decode cX11_undo 34 = .ok (.getfield 13, 3) := by decide +kernel
theorem dX11_undo_37 : decode cX11_undo 37 = .ok (.bipush 102, 2) := by decide +kernel
theorem dX11_undo_39 : decode cX11_undo 39 = .ok (.aload_n 0, 1) := by decide +kernel
theorem dX11_undo_40 : decode cX11_undo 40 = .ok (.getfield 80, 3) := by decide +kernel
theorem dX11_undo_43 : decode cX11_undo 43 = .ok (.imul, 1) := by decide +kernel
theorem dX11_undo_44 : decode cX11_undo 44 = .ok (.iload_n 1, 1) := by decide +kernel
theorem dX11_undo_45 : decode cX11_undo 45 = .ok (.iadd, 1) := by decide +kernel
theorem dX11_undo_46 : decode cX11_undo 46 = .ok (.iaload, 1) := by decide +kernel
theorem dX11_undo_47 : decode cX11_undo 47 = .ok (.iastore, 1) := by decide +kernel
theorem dX11_undo_48 : decode cX11_undo 48 = .ok (.iinc 1 1, 3) := by decide +kernel
theorem dX11_undo_51 : decode cX11_undo 51 = .ok (.goto (-29), 3) := by decide +kernel
theorem dX11_undo_54 : decode cX11_undo 54 = .ok (.aload_n 0, 1) := by decide +kernel
theorem dX11_undo_55 : decode cX11_undo 55 = .ok (.getfield 80, 3) := by decide +kernel
theorem dX11_undo_58 : decode cX11_undo 58 = .ok (.ireturn, 1) := by decide +kernel
