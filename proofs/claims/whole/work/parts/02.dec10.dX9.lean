theorem dX9_init_0 : decode cX9_init 0 = .ok (.aload_n 0, 1) := by decide +kernel
theorem dX9_init_1 : decode cX9_init 1 = .ok (.invokespecial 3, 3) := by decide +kernel
theorem dX9_init_4 : decode cX9_init 4 = .ok (.aload_n 0, 1) := by decide +kernel
theorem dX9_init_5 : decode cX9_init 5 = .ok (.sipush 256, 3) := by decide +kernel
theorem dX9_init_8 : decode cX9_init 8 = .ok (.newarray .int, 2) := by decide +kernel
theorem dX9_init_10 : decode cX9_init 10 = .ok (.putfield 11, 3) := by decide +kernel
theorem dX9_init_13 : decode cX9_init 13 = .ok (.return_, 1) := by decide +kernel
theorem dX9_holdsFor_0 : decode cX9_holdsFor 0 = .ok (.iconst 1, 1) := by decide +kernel
theorem dX9_holdsFor_1 : decode cX9_holdsFor 1 = .ok (.aload_n 1, 1) := by decide +kernel
theorem dX9_holdsFor_2 : decode cX9_holdsFor 2 = .ok (.invokevirtual 15, 3) := by decide +kernel
theorem dX9_holdsFor_5 : decode cX9_holdsFor 5 = .ok (.ishl, 1) := by decide +kernel
theorem dX9_holdsFor_6 : decode cX9_holdsFor 6 = .ok (.iconst 1, 1) := by decide +kernel
theorem dX9_holdsFor_7 : decode cX9_holdsFor 7 = .ok (.isub, 1) := by decide +kernel
theorem dX9_holdsFor_8 : decode cX9_holdsFor 8 = .ok (.istore_n 2, 1) := by decide +kernel
theorem dX9_holdsFor_9 : decode cX9_holdsFor 9 = .ok (.aload_n 0, 1) := by decide +kernel
theorem dX9_holdsFor_10 : decode cX9_holdsFor 10 = .ok (.getfield 11, 3) := by decide +kernel
theorem dX9_holdsFor_13 : decode cX9_holdsFor 13 = .ok (.iconst 0, 1) := by decide +kernel
theorem dX9_holdsFor_14 : decode cX9_holdsFor 14 = .ok (.invokestatic 21, 3) := by decide +kernel
theorem dX9_holdsFor_17 : decode cX9_holdsFor 17 = .ok (.aload_n 0, 1) := by decide +kernel
theorem dX9_holdsFor_18 : decode cX9_holdsFor 18 = .ok (.getfield 11, 3) := by decide +kernel
theorem dX9_holdsFor_21 : decode cX9_holdsFor 21 = .ok (.iload_n 2, 1) := by decide +kernel
theorem dX9_holdsFor_22 : decode cX9_holdsFor 22 = .ok (.iload_n 2, 1) := by decide +kernel
theorem dX9_holdsFor_23 : decode cX9_holdsFor 23 = .ok (.iastore, 1) := by decide +kernel
theorem dX9_holdsFor_24 : decode cX9_holdsFor 24 = .ok (.aload_n 0, 1) := by decide +kernel
theorem dX9_holdsFor_25 : decode cX9_holdsFor 25 = .ok (.iconst 1, 1) := by decide +kernel
theorem dX9_holdsFor_26 : decode cX9_holdsFor 26 = .ok (.putfield 27, 3) := by decide +kernel
theorem dX9_holdsFor_29 : decode cX9_holdsFor 29 = .ok (.iconst 0, 1) := by decide +kernel
theorem dX9_holdsFor_30 : decode cX9_holdsFor 30 = .ok (.istore_n 3, 1) := by decide +kernel
theorem dX9_holdsFor_31 : decode cX9_holdsFor 31 = .ok (.aload_n 0, 1) := by decide +kernel
theorem dX9_holdsFor_32 : decode cX9_holdsFor 32 = .ok (.getfield 27, 3) := by decide +kernel
theorem dX9_holdsFor_35 : decode cX9_holdsFor 35 = .ok (.ifCond .eq 58, 3) := by decide +kernel
theorem dX9_holdsFor_38 : decode cX9_holdsFor 38 = .ok (.iload_n 3, 1) := by decide +kernel
theorem dX9_holdsFor_39 : decode cX9_holdsFor 39 = .ok (.sipush 2048, 3) := by decide +kernel
theorem dX9_holdsFor_42 : decode cX9_holdsFor 42 = .ok (.if_icmp .gt 51, 3) := by decide +kernel
theorem dX9_holdsFor_45 : decode cX9_holdsFor 45 = .ok (.aload_n 0, 1) := by decide +kernel
theorem dX9_holdsFor_46 : decode cX9_holdsFor 46 = .ok (.iconst 0, 1) := by decide +kernel
theorem dX9_holdsFor_47 : decode cX9_holdsFor 47 = .ok (.putfield 27, 3) := by decide +kernel
theorem dX9_holdsFor_50 : decode cX9_holdsFor 50 = .ok (.iconst 1, 1) := by decide +kernel
theorem dX9_holdsFor_51 : decode cX9_holdsFor 51 = .ok (.istore 4, 2) := by decide +kernel
theorem dX9_holdsFor_53 : decode cX9_holdsFor 53 = .ok (.iload 4, 2) := by decide +kernel
theorem dX9_holdsFor_55 : decode cX9_holdsFor 55 = .ok (.iload_n 2, 1) := by decide +kernel
theorem dX9_holdsFor_56 : decode cX9_holdsFor 56 = .ok (.if_icmp .gt 31, 3) := by decide +kernel
theorem dX9_holdsFor_59 : decode cX9_holdsFor 59 = .ok (.aload_n 0, 1) := by decide +kernel
theorem dX9_holdsFor_60 : decode cX9_holdsFor 60 = .ok (.getfield 11, 3) := by decide +kernel
theorem dX9_holdsFor_63 : decode cX9_holdsFor 63 = .ok (.iload 4, 2) := by decide +kernel
theorem dX9_holdsFor_65 : decode cX9_holdsFor 65 = .ok (.iaload, 1) := by decide +kernel
theorem dX9_holdsFor_66 : decode cX9_holdsFor 66 = .ok (.ifCond .eq 15, 3) := by decide +kernel
theorem dX9_holdsFor_69 : decode cX9_holdsFor 69 = .ok (.aload_n 0, 1) := by decide +kernel
theorem dX9_holdsFor_70 : decode cX9_holdsFor 70 = .ok (.aload_n 1, 1) := by decide +kernel
theorem dX9_holdsFor_71 : decode cX9_holdsFor 71 = .ok (.iload 4, 2) := by decide +kernel
theorem dX9_holdsFor_73 : decode cX9_holdsFor 73 = .ok (.invokevirtual 31, 3) := by decide +kernel
theorem dX9_holdsFor_76 : decode cX9_holdsFor 76 = .ok (.ifCond .ne 5, 3) := by decide +kernel
theorem dX9_holdsFor_79 : decode cX9_holdsFor 79 = .ok (.iconst 0, 1) := by decide +kernel
theorem dX9_holdsFor_80 : decode cX9_holdsFor 80 = .ok (.ireturn, 1) := by decide +kernel
theorem dX9_holdsFor_81 : decode cX9_holdsFor 81 = .ok (.iinc 4 1, 3) := by decide +kernel
theorem dX9_holdsFor_84 : decode cX9_holdsFor 84 = .ok (.goto (-31), 3) := by decide +kernel
theorem dX9_holdsFor_87 : decode cX9_holdsFor 87 = .ok (.iinc 3 1, 3) := by decide +kernel
theorem dX9_holdsFor_90 : decode cX9_holdsFor 90 = .ok (.goto (-59), 3) := by decide +kernel
theorem dX9_holdsFor_93 : decode cX9_holdsFor 93 = .ok (.iconst 1, 1) := by decide +kernel
theorem dX9_holdsFor_94 : decode cX9_holdsFor 94 = .ok (.ireturn, 1) := by decide +kernel
theorem dX9_carryOn_0 : decode cX9_carryOn 0 = .ok (.iconst 0, 1) := by decide +kernel
theorem dX9_carryOn_1 : decode cX9_carryOn 1 = .ok (.istore_n 3, 1) := by decide +kernel
theorem dX9_carryOn_2 : decode cX9_carryOn 2 = .ok (.iload_n 3, 1) := by decide +kernel
theorem dX9_carryOn_3 : decode cX9_carryOn 3 = .ok (.aload_n 1, 1) := by decide +kernel
theorem dX9_carryOn_4 : decode cX9_carryOn 4 = .ok (.invokevirtual 15, 3) := by decide +kernel
theorem dX9_carryOn_7 : decode cX9_carryOn 7 = .ok (.if_icmp .ge 77, 3) := by decide +kernel
theorem dX9_carryOn_10 : decode cX9_carryOn 10 = .ok (.aload_n 0, 1) := by decide +kernel
theorem dX9_carryOn_11 : decode cX9_carryOn 11 = .ok (.getfield 11, 3) := by decide +kernel
theorem dX9_carryOn_14 : decode cX9_carryOn 14 = .ok (.iload_n 2, 1) := by decide +kernel
theorem dX9_carryOn_15 : decode cX9_carryOn 15 = .ok (.iaload, 1) := by decide +kernel
theorem dX9_carryOn_16 : decode cX9_carryOn 16 = .ok (.iload_n 3, 1) := by decide +kernel
theorem dX9_carryOn_17 : decode cX9_carryOn 17 = .ok (.ishr, 1) := by decide +kernel
theorem dX9_carryOn_18 : decode cX9_carryOn 18 = .ok (.iconst 1, 1) := by decide +kernel
theorem dX9_carryOn_19 : decode cX9_carryOn 19 = .ok (.iand, 1) := by decide +kernel
theorem dX9_carryOn_20 : decode cX9_carryOn 20 = .ok (.ifCond .ne 6, 3) := by decide +kernel
theorem dX9_carryOn_23 : decode cX9_carryOn 23 = .ok (.goto 55, 3) := by decide +kernel
theorem dX9_carryOn_26 : decode cX9_carryOn 26 = .ok (.iconst 0, 1) := by decide +kernel
theorem dX9_carryOn_27 : decode cX9_carryOn 27 = .ok (.istore 4, 2) := by decide +kernel
theorem dX9_carryOn_29 : decode cX9_carryOn 29 = .ok (.iload 4, 2) := by decide +kernel
theorem dX9_carryOn_31 : decode cX9_carryOn 31 = .ok (.iconst 2, 1) := by decide +kernel
theorem dX9_carryOn_32 : decode cX9_carryOn 32 = .ok (.if_icmp .ge 46, 3) := by decide +kernel
theorem dX9_carryOn_35 : decode cX9_carryOn 35 = .ok (.aload_n 1, 1) := by decide +kernel
theorem dX9_carryOn_36 : decode cX9_carryOn 36 = .ok (.iload_n 2, 1) := by decide +kernel
theorem dX9_carryOn_37 : decode cX9_carryOn 37 = .ok (.aload_n 1, 1) := by decide +kernel
theorem dX9_carryOn_38 : decode cX9_carryOn 38 = .ok (.iload_n 3, 1) := by decide +kernel
theorem dX9_carryOn_39 : decode cX9_carryOn 39 = .ok (.iload 4, 2) := by decide +kernel
theorem dX9_carryOn_41 : decode cX9_carryOn 41 = .ok (.invokevirtual 35, 3) := by decide +kernel
theorem dX9_carryOn_44 : decode cX9_carryOn 44 = .ok (.invokestatic 39, 3) := by decide +kernel
theorem dX9_carryOn_47 : decode cX9_carryOn 47 = .ok (.invokestatic 45, 3) := by decide +kernel
theorem dX9_carryOn_50 : decode cX9_carryOn 50 = .ok (.istore 5, 2) := by decide +kernel
theorem dX9_carryOn_52 : decode cX9_carryOn 52 = .ok (.iload 5, 2) := by decide +kernel
theorem dX9_carryOn_54 : decode cX9_carryOn 54 = .ok (.ifCond .ne 5, 3) := by decide +kernel
theorem dX9_carryOn_57 : decode cX9_carryOn 57 = .ok (.iconst 0, 1) := by decide +kernel
theorem dX9_carryOn_58 : decode cX9_carryOn 58 = .ok (.ireturn, 1) := by decide +kernel
theorem dX9_carryOn_59 : decode cX9_carryOn 59 = .ok (.aload_n 0, 1) := by decide +kernel
theorem dX9_carryOn_60 : decode cX9_carryOn 60 = .ok (.iload 5, 2) := by decide +kernel
theorem dX9_carryOn_62 : decode cX9_carryOn 62 = .ok (.aload_n 1, 1) := by decide +kernel
theorem dX9_carryOn_63 : decode cX9_carryOn 63 = .ok (.iload_n 3, 1) := by decide +kernel
theorem dX9_carryOn_64 : decode cX9_carryOn 64 = .ok (.iload 4, 2) := by decide +kernel
theorem dX9_carryOn_66 : decode cX9_carryOn 66 = .ok (.invokevirtual 49, 3) := by decide +kernel
theorem dX9_carryOn_69 : decode cX9_carryOn 69 = .ok (.invokevirtual 52, 3) := by decide +kernel
theorem dX9_carryOn_72 : decode cX9_carryOn 72 = .ok (.iinc 4 1, 3) := by decide +kernel
theorem dX9_carryOn_75 : decode cX9_carryOn 75 = .ok (.goto (-46), 3) := by decide +kernel
theorem dX9_carryOn_78 : decode cX9_carryOn 78 = .ok (.iinc 3 1, 3) := by decide +kernel
theorem dX9_carryOn_81 : decode cX9_carryOn 81 = .ok (.goto (-79), 3) := by decide +kernel
theorem dX9_carryOn_84 : decode cX9_carryOn 84 = .ok (.iconst 1, 1) := by decide +kernel
theorem dX9_carryOn_85 : decode cX9_carryOn 85 = .ok (.ireturn, 1) := by decide +kernel
theorem dX9_mark_0 : decode cX9_mark 0 = .ok (.aload_n 0, 1) := by decide +kernel
theorem dX9_mark_1 : decode cX9_mark 1 = .ok (.getfield 11, 3) := by decide +kernel
theorem dX9_mark_4 : decode cX9_mark 4 = .ok (.iload_n 1, 1) := by decide +kernel
theorem dX9_mark_5 : decode cX9_mark 5 = .ok (.iaload, 1) := by decide +kernel
theorem dX9_mark_6 : decode cX9_mark 6 = .ok (.iload_n 2, 1) := by decide +kernel
theorem dX9_mark_7 : decode cX9_mark 7 = .ok (.ishr, 1) := by decide +kernel
theorem dX9_mark_8 : decode cX9_mark 8 = .ok (.iconst 1, 1) := by decide +kernel
theorem dX9_mark_9 : decode cX9_mark 9 = .ok (.iand, 1) := by decide +kernel
theorem dX9_mark_10 : decode cX9_mark 10 = .ok (.ifCond .ne 20, 3) := by decide +kernel
theorem dX9_mark_13 : decode cX9_mark 13 = .ok (.aload_n 0, 1) := by decide +kernel
theorem dX9_mark_14 : decode cX9_mark 14 = .ok (.getfield 11, 3) := by decide +kernel
theorem dX9_mark_17 : decode cX9_mark 17 = .ok (.iload_n 1, 1) := by decide +kernel
theorem dX9_mark_18 : decode cX9_mark 18 = .ok (.dup2, 1) := by decide +kernel
theorem dX9_mark_19 : decode cX9_mark 19 = .ok (.iaload, 1) := by decide +kernel
theorem dX9_mark_20 : decode cX9_mark 20 = .ok (.iconst 1, 1) := by decide +kernel
theorem dX9_mark_21 : decode cX9_mark 21 = .ok (.iload_n 2, 1) := by decide +kernel
theorem dX9_mark_22 : decode cX9_mark 22 = .ok (.ishl, 1) := by decide +kernel
theorem dX9_mark_23 : decode cX9_mark 23 = .ok (.ior, 1) := by decide +kernel
theorem dX9_mark_24 : decode cX9_mark 24 = .ok (.iastore, 1) := by decide +kernel
theorem dX9_mark_25 : decode cX9_mark 25 = .ok (.aload_n 0, 1) := by decide +kernel
theorem dX9_mark_26 : decode cX9_mark 26 = .ok (.iconst 1, 1) := by decide +kernel
theorem dX9_mark_27 : decode cX9_mark 27 = .ok (.putfield 27, 3) := by decide +kernel
theorem dX9_mark_30 : decode cX9_mark 30 = .ok (.return_, 1) := by decide +kernel
theorem dX9_follow_0 : decode cX9_follow 0 = .ok (.iconst 0, 1) := by decide +kernel
theorem dX9_follow_1 : decode cX9_follow 1 = .ok (.istore_n 3, 1) := by decide +kernel
theorem dX9_follow_2 : decode cX9_follow 2 = .ok (.iconst 0, 1) := by decide +kernel
theorem dX9_follow_3 : decode cX9_follow 3 = .ok (.istore 4, 2) := by decide +kernel
theorem dX9_follow_5 : decode cX9_follow 5 = .ok (.iload 4, 2) := by decide +kernel
theorem dX9_follow_7 : decode cX9_follow 7 = .ok (.aload_n 0, 1) := by decide +kernel
theorem dX9_follow_8 : decode cX9_follow 8 = .ok (.invokevirtual 15, 3) := by decide +kernel
theorem dX9_follow_11 : decode cX9_follow 11 = .ok (.if_icmp .ge 59, 3) := by decide +kernel
theorem dX9_follow_14 : decode cX9_follow 14 = .ok (.iconst 0, 1) := by decide +kernel
theorem dX9_follow_15 : decode cX9_follow 15 = .ok (.istore 5, 2) := by decide +kernel
theorem dX9_follow_17 : decode cX9_follow 17 = .ok (.iload 5, 2) := by decide +kernel
theorem dX9_follow_19 : decode cX9_follow 19 = .ok (.iconst 2, 1) := by decide +kernel
theorem dX9_follow_20 : decode cX9_follow 20 = .ok (.if_icmp .ge 44, 3) := by decide +kernel
theorem dX9_follow_23 : decode cX9_follow 23 = .ok (.iload_n 1, 1) := by decide +kernel
theorem dX9_follow_24 : decode cX9_follow 24 = .ok (.iload 4, 2) := by decide +kernel
theorem dX9_follow_26 : decode cX9_follow 26 = .ok (.ishr, 1) := by decide +kernel
theorem dX9_follow_27 : decode cX9_follow 27 = .ok (.iconst 1, 1) := by decide +kernel
theorem dX9_follow_28 : decode cX9_follow 28 = .ok (.iand, 1) := by decide +kernel
theorem dX9_follow_29 : decode cX9_follow 29 = .ok (.iconst 1, 1) := by decide +kernel
theorem dX9_follow_30 : decode cX9_follow 30 = .ok (.if_icmp .ne 28, 3) := by decide +kernel
theorem dX9_follow_33 : decode cX9_follow 33 = .ok (.aload_n 0, 1) := by decide +kernel
theorem dX9_follow_34 : decode cX9_follow 34 = .ok (.iload 4, 2) := by decide +kernel
theorem dX9_follow_36 : decode cX9_follow 36 = .ok (.iload 5, 2) := by decide +kernel
theorem dX9_follow_38 : decode cX9_follow 38 = .ok (.invokevirtual 35, 3) := by decide +kernel
theorem dX9_follow_41 : decode cX9_follow 41 = .ok (.iload_n 2, 1) := by decide +kernel
theorem dX9_follow_42 : decode cX9_follow 42 = .ok (.if_icmp .ne 16, 3) := by decide +kernel
theorem dX9_follow_45 : decode cX9_follow 45 = .ok (.iload_n 3, 1) := by decide +kernel
theorem dX9_follow_46 : decode cX9_follow 46 = .ok (.iconst 1, 1) := by decide +kernel
theorem dX9_follow_47 : decode cX9_follow 47 = .ok (.aload_n 0, 1) := by decide +kernel
theorem dX9_follow_48 : decode cX9_follow 48 = .ok (.iload 4, 2) := by decide +kernel
theorem dX9_follow_50 : decode cX9_follow 50 = .ok (.iload 5, 2) := by decide +kernel
theorem dX9_follow_52 : decode cX9_follow 52 = .ok (.invokevirtual 49, 3) := by decide +kernel
theorem dX9_follow_55 : decode cX9_follow 55 = .ok (.ishl, 1) := by decide +kernel
theorem dX9_follow_56 : decode cX9_follow 56 = .ok (.ior, 1) := by decide +kernel
theorem dX9_follow_57 : decode cX9_follow 57 = .ok (.istore_n 3, 1) := by decide +kernel
theorem dX9_follow_58 : decode cX9_follow 58 = .ok (.iinc 5 1, 3) := by decide +kernel
theorem dX9_follow_61 : decode cX9_follow 61 = .ok (.goto (-44), 3) := by decide +kernel
theorem dX9_follow_64 : decode cX9_follow 64 = .ok (.iinc 4 1, 3) := by decide +kernel
theorem dX9_follow_67 : decode cX9_follow 67 = .ok (.goto (-62), 3) := by decide +kernel
theorem dX9_follow_70 : decode cX9_follow 70 = .ok (.iload_n 3, 1) := by decide +kernel
theorem dX9_follow_71 : decode cX9_follow 71 = .ok (.ireturn, 1) := by decide +kernel
