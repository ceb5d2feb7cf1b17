theorem dX11_apart_22 : decode cX11_apart 22 = .ok (.ldc 127, 2) := by decide +kernel
theorem dX11_apart_24 : decode cX11_apart 24 = .ok (.ireturn, 1) := by decide +kernel
theorem dX11_distance_0 : decode cX11_distance 0 = .ok (.iload_n 1, 1) := by decide +kernel
theorem dX11_distance_1 : decode cX11_distance 1 = .ok (.invokestatic 164, 3) := by decide +kernel
theorem dX11_distance_4 : decode cX11_distance 4 = .ok (.ifCond .eq 30, 3) := by decide +kernel
theorem dX11_distance_7 : decode cX11_distance 7 = .ok (.iload_n 2, 1) := by decide +kernel
theorem dX11_distance_8 : decode cX11_distance 8 = .ok (.invokestatic 164, 3) := by decide +kernel
theorem dX11_distance_11 : decode cX11_distance 11 = .ok (.ifCond .eq 23, 3) := by decide +kernel
theorem dX11_distance_14 : decode cX11_distance 14 = .ok (.iload_n 1, 1) := by decide +kernel
theorem dX11_distance_15 : decode cX11_distance 15 = .ok (.iload_n 2, 1) := by decide +kernel
theorem dX11_distance_16 : decode cX11_distance 16 = .ok (.if_icmp .eq 18, 3) := by decide +kernel
theorem dX11_distance_19 : decode cX11_distance 19 = .ok (.iload_n 1, 1) := by decide +kernel
theorem dX11_distance_20 : decode cX11_distance 20 = .ok (.iload_n 2, 1) := by decide +kernel
theorem dX11_distance_21 : decode cX11_distance 21 = .ok (.invokestatic 51, 3) := by decide +kernel
theorem dX11_distance_24 : decode cX11_distance 24 = .ok (.iload_n 2, 1) := by decide +kernel
theorem dX11_distance_25 : decode cX11_distance 25 = .ok (.invokestatic 54, 3) := by decide +kernel
theorem dX11_distance_28 : decode cX11_distance 28 = .ok (.invokestatic 58, 3) := by decide +kernel
theorem dX11_distance_31 : decode cX11_distance 31 = .ok (.goto 5, 3) := by decide +kernel
theorem dX11_distance_34 : decode cX11_distance 34 = .ok (.ldc 127, 2) := by decide +kernel
theorem dX11_distance_36 : decode cX11_distance 36 = .ok (.ireturn, 1) := by decide +kernel
theorem dX11_turned_0 : decode cX11_turned 0 = .ok (.iload_n 1, 1) := by decide +kernel
theorem dX11_turned_1 : decode cX11_turned 1 = .ok (.invokestatic 170, 3) := by decide +kernel
theorem dX11_turned_4 : decode cX11_turned 4 = .ok (.ifCond .eq 10, 3) := by decide +kernel
theorem dX11_turned_7 : decode cX11_turned 7 = .ok (.iload_n 1, 1) := by decide +kernel
theorem dX11_turned_8 : decode cX11_turned 8 = .ok (.invokestatic 148, 3) := by decide +kernel
theorem dX11_turned_11 : decode cX11_turned 11 = .ok (.goto 5, 3) := by decide +kernel
theorem dX11_turned_14 : decode cX11_turned 14 = .ok (.ldc 127, 2) := by decide +kernel
theorem dX11_turned_16 : decode cX11_turned 16 = .ok (.ireturn, 1) := by decide +kernel
theorem dX11_next_0 : decode cX11_next 0 = .ok (.aload_n 0, 1) := by decide +kernel
theorem dX11_next_1 : decode cX11_next 1 = .ok (.iload_n 1, 1) := by decide +kernel
theorem dX11_next_2 : decode cX11_next 2 = .ok (.invokevirtual 123, 3) := by decide +kernel
theorem dX11_next_5 : decode cX11_next 5 = .ok (.ifCond .ne 6, 3) := by decide +kernel
theorem dX11_next_8 : decode cX11_next 8 = .ok (.ldc 127, 2) := by decide +kernel
theorem dX11_next_10 : decode cX11_next 10 = .ok (.ireturn, 1) := by decide +kernel
theorem dX11_next_11 : decode cX11_next 11 = .ok (.iload_n 2, 1) := by decide +kernel
theorem dX11_next_12 : decode cX11_next 12 = .ok (.iconst 0, 1) := by decide +kernel
theorem dX11_next_13 : decode cX11_next 13 = .ok (.iconst 1, 1) := by decide +kernel
theorem dX11_next_14 : decode cX11_next 14 = .ok (.invokestatic 69, 3) := by decide +kernel
theorem dX11_next_17 : decode cX11_next 17 = .ok (.ifCond .eq 12, 3) := by decide +kernel
theorem dX11_next_20 : decode cX11_next 20 = .ok (.iload_n 3, 1) := by decide +kernel
theorem dX11_next_21 : decode cX11_next 21 = .ok (.iconst 0, 1) := by decide +kernel
theorem dX11_next_22 : decode cX11_next 22 = .ok (.iconst 1, 1) := by decide +kernel
theorem dX11_next_23 : decode cX11_next 23 = .ok (.invokestatic 69, 3) := by decide +kernel
theorem dX11_next_26 : decode cX11_next 26 = .ok (.ifCond .ne 6, 3) := by decide +kernel
theorem dX11_next_29 : decode cX11_next 29 = .ok (.ldc 84, 2) := by decide +kernel
theorem dX11_next_31 : decode cX11_next 31 = .ok (.ireturn, 1) := by decide +kernel
theorem dX11_next_32 : decode cX11_next 32 = .ok (.iload_n 3, 1) := by decide +kernel
theorem dX11_next_33 : decode cX11_next 33 = .ok (.ifCond .ne 12, 3) := by decide +kernel
theorem dX11_next_36 : decode cX11_next 36 = .ok (.aload_n 0, 1) := by decide +kernel
theorem dX11_next_37 : decode cX11_next 37 = .ok (.iload_n 1, 1) := by decide +kernel
theorem dX11_next_38 : decode cX11_next 38 = .ok (.iload_n 2, 1) := by decide +kernel
theorem dX11_next_39 : decode cX11_next 39 = .ok (.invokevirtual 94, 3) := by decide +kernel
theorem dX11_next_42 : decode cX11_next 42 = .ok (.goto 9, 3) := by decide +kernel
theorem dX11_next_45 : decode cX11_next 45 = .ok (.aload_n 0, 1) := by decide +kernel
theorem dX11_next_46 : decode cX11_next 46 = .ok (.iload_n 1, 1) := by decide +kernel
theorem dX11_next_47 : decode cX11_next 47 = .ok (.iload_n 2, 1) := by decide +kernel
theorem dX11_next_48 : decode cX11_next 48 = .ok (.invokevirtual 88, 3) := by decide +kernel
theorem dX11_next_51 : decode cX11_next 51 = .ok (.ireturn, 1) := by decide +kernel
theorem dX11_sent_0 : decode cX11_sent 0 = .ok (.iload_n 1, 1) := by decide +kernel
theorem dX11_sent_1 : decode cX11_sent 1 = .ok (.iconst 0, 1) := by decide +kernel
theorem dX11_sent_2 : decode cX11_sent 2 = .ok (.aload_n 0, 1) := by decide +kernel
theorem dX11_sent_3 : decode cX11_sent 3 = .ok (.getfield 7, 3) := by decide +kernel
theorem dX11_sent_6 : decode cX11_sent 6 = .ok (.iconst 4, 1) := by decide +kernel
theorem dX11_sent_7 : decode cX11_sent 7 = .ok (.iaload, 1) := by decide +kernel
theorem dX11_sent_8 : decode cX11_sent 8 = .ok (.iconst 1, 1) := by decide +kernel
theorem dX11_sent_9 : decode cX11_sent 9 = .ok (.isub, 1) := by decide +kernel
theorem dX11_sent_10 : decode cX11_sent 10 = .ok (.invokestatic 69, 3) := by decide +kernel
theorem dX11_sent_13 : decode cX11_sent 13 = .ok (.ifCond .ne 6, 3) := by decide +kernel
theorem dX11_sent_16 : decode cX11_sent 16 = .ok (.ldc 127, 2) := by decide +kernel
theorem dX11_sent_18 : decode cX11_sent 18 = .ok (.ireturn, 1) := by decide +kernel
theorem dX11_sent_19 : decode cX11_sent 19 = .ok (.iload_n 2, 1) := by decide +kernel
theorem dX11_sent_20 : decode cX11_sent 20 = .ok (.tableswitch 60 0 3 #[32, 32, 46, 52], 32) := by decide +kernel
theorem dX11_sent_52 : decode cX11_sent 52 = .ok (.aload_n 0, 1) := by decide +kernel
theorem dX11_sent_53 : decode cX11_sent 53 = .ok (.getfield 7, 3) := by decide +kernel
theorem dX11_sent_56 : decode cX11_sent 56 = .ok (.bipush 6, 2) := by decide +kernel
theorem dX11_sent_58 : decode cX11_sent 58 = .ok (.iconst 2, 1) := by decide +kernel
theorem dX11_sent_59 : decode cX11_sent 59 = .ok (.iload_n 1, 1) := by decide +kernel
theorem dX11_sent_60 : decode cX11_sent 60 = .ok (.imul, 1) := by decide +kernel
theorem dX11_sent_61 : decode cX11_sent 61 = .ok (.iadd, 1) := by decide +kernel
theorem dX11_sent_62 : decode cX11_sent 62 = .ok (.iload_n 2, 1) := by decide +kernel
theorem dX11_sent_63 : decode cX11_sent 63 = .ok (.iadd, 1) := by decide +kernel
theorem dX11_sent_64 : decode cX11_sent 64 = .ok (.iaload, 1) := by decide +kernel
theorem dX11_sent_65 : decode cX11_sent 65 = .ok (.ireturn, 1) := by decide +kernel
theorem dX11_sent_66 : decode cX11_sent 66 = .ok (.aload_n 0, 1) := by decide +kernel
theorem dX11_sent_67 : decode cX11_sent 67 = .ok (.iload_n 1, 1) := by decide +kernel
theorem dX11_sent_68 : decode cX11_sent 68 = .ok (.invokevirtual 102, 3) := by decide +kernel
theorem dX11_sent_71 : decode cX11_sent 71 = .ok (.ireturn, 1) := by decide +kernel
theorem dX11_sent_72 : decode cX11_sent 72 = .ok (.aload_n 0, 1) := by decide +kernel
theorem dX11_sent_73 : decode cX11_sent 73 = .ok (.iload_n 1, 1) := by decide +kernel
theorem dX11_sent_74 : decode cX11_sent 74 = .ok (.iconst 1, 1) := by decide +kernel
theorem dX11_sent_75 : decode cX11_sent 75 = .ok (.iadd, 1) := by decide +kernel
theorem dX11_sent_76 : decode cX11_sent 76 = .ok (.invokevirtual 91, 3) := by decide +kernel
theorem dX11_sent_79 : decode cX11_sent 79 = .ok (.ireturn, 1) := by decide +kernel
theorem dX11_sent_80 : decode cX11_sent 80 = .ok (.ldc 84, 2) := by decide +kernel
theorem dX11_sent_82 : decode cX11_sent 82 = .ok (.ireturn, 1) := by decide +kernel
theorem dX11_heard_0 : decode cX11_heard 0 = .ok (.iload_n 1, 1) := by decide +kernel
theorem dX11_heard_1 : decode cX11_heard 1 = .ok (.iconst 0, 1) := by decide +kernel
theorem dX11_heard_2 : decode cX11_heard 2 = .ok (.aload_n 0, 1) := by decide +kernel
theorem dX11_heard_3 : decode cX11_heard 3 = .ok (.getfield 7, 3) := by decide +kernel
theorem dX11_heard_6 : decode cX11_heard 6 = .ok (.iconst 5, 1) := by decide +kernel
theorem dX11_heard_7 : decode cX11_heard 7 = .ok (.iaload, 1) := by decide +kernel
theorem dX11_heard_8 : decode cX11_heard 8 = .ok (.iconst 1, 1) := by decide +kernel
theorem dX11_heard_9 : decode cX11_heard 9 = .ok (.isub, 1) := by decide +kernel
theorem dX11_heard_10 : decode cX11_heard 10 = .ok (.invokestatic 69, 3) := by decide +kernel
theorem dX11_heard_13 : decode cX11_heard 13 = .ok (.ifCond .ne 6, 3) := by decide +kernel
theorem dX11_heard_16 : decode cX11_heard 16 = .ok (.ldc 127, 2) := by decide +kernel
theorem dX11_heard_18 : decode cX11_heard 18 = .ok (.ireturn, 1) := by decide +kernel
theorem dX11_heard_19 : decode cX11_heard 19 = .ok (.iload_n 2, 1) := by decide +kernel
theorem dX11_heard_20 : decode cX11_heard 20 = .ok (.iconst 0, 1) := by decide +kernel
theorem dX11_heard_21 : decode cX11_heard 21 = .ok (.iconst 2, 1) := by decide +kernel
theorem dX11_heard_22 : decode cX11_heard 22 = .ok (.invokestatic 69, 3) := by decide +kernel
theorem dX11_heard_25 : decode cX11_heard 25 = .ok (.ifCond .ne 6, 3) := by decide +kernel
theorem dX11_heard_28 : decode cX11_heard 28 = .ok (.ldc 84, 2) := by decide +kernel
theorem dX11_heard_30 : decode cX11_heard 30 = .ok (.ireturn, 1) := by decide +kernel
theorem dX11_heard_31 : decode cX11_heard 31 = .ok (.iload_n 2, 1) := by decide +kernel
theorem dX11_heard_32 : decode cX11_heard 32 = .ok (.iconst 2, 1) := by decide +kernel
theorem dX11_heard_33 : decode cX11_heard 33 = .ok (.if_icmp .ge 17, 3) := by decide +kernel
theorem dX11_heard_36 : decode cX11_heard 36 = .ok (.aload_n 0, 1) := by decide +kernel
theorem dX11_heard_37 : decode cX11_heard 37 = .ok (.getfield 7, 3) := by decide +kernel
theorem dX11_heard_40 : decode cX11_heard 40 = .ok (.bipush 54, 2) := by decide +kernel
theorem dX11_heard_42 : decode cX11_heard 42 = .ok (.iconst 2, 1) := by decide +kernel
theorem dX11_heard_43 : decode cX11_heard 43 = .ok (.iload_n 1, 1) := by decide +kernel
theorem dX11_heard_44 : decode cX11_heard 44 = .ok (.imul, 1) := by decide +kernel
theorem dX11_heard_45 : decode cX11_heard 45 = .ok (.iadd, 1) := by decide +kernel
theorem dX11_heard_46 : decode cX11_heard 46 = .ok (.iload_n 2, 1) := by decide +kernel
theorem dX11_heard_47 : decode cX11_heard 47 = .ok (.iadd, 1) := by decide +kernel
theorem dX11_heard_48 : decode cX11_heard 48 = .ok (.iaload, 1) := by decide +kernel
theorem dX11_heard_49 : decode cX11_heard 49 = .ok (.ireturn, 1) := by decide +kernel
theorem dX11_heard_50 : decode cX11_heard 50 = .ok (.iconst 0, 1) := by decide +kernel
theorem dX11_heard_51 : decode cX11_heard 51 = .ok (.istore_n 3, 1) := by decide +kernel
theorem dX11_heard_52 : decode cX11_heard 52 = .ok (.iconst 1, 1) := by decide +kernel
theorem dX11_heard_53 : decode cX11_heard 53 = .ok (.istore 4, 2) := by decide +kernel
theorem dX11_heard_55 : decode cX11_heard 55 = .ok (.iload 4, 2) := by decide +kernel
theorem dX11_heard_57 : decode cX11_heard 57 = .ok (.bipush 16, 2) := by decide +kernel
theorem dX11_heard_59 : decode cX11_heard 59 = .ok (.if_icmp .ge 32, 3) := by decide +kernel
theorem dX11_heard_62 : decode cX11_heard 62 = .ok (.aload_n 0, 1) := by decide +kernel
theorem dX11_heard_63 : decode cX11_heard 63 = .ok (.iload_n 1, 1) := by decide +kernel
theorem dX11_heard_64 : decode cX11_heard 64 = .ok (.iload 4, 2) := by decide +kernel
theorem dX11_heard_66 : decode cX11_heard 66 = .ok (.invokevirtual 129, 3) := by decide +kernel
theorem dX11_heard_69 : decode cX11_heard 69 = .ok (.aload_n 0, 1) := by decide +kernel
theorem dX11_heard_70 : decode cX11_heard 70 = .ok (.iload_n 1, 1) := by decide +kernel
theorem dX11_heard_71 : decode cX11_heard 71 = .ok (.iload_n 3, 1) := by decide +kernel
theorem dX11_heard_72 : decode cX11_heard 72 = .ok (.invokevirtual 129, 3) := by decide +kernel
theorem dX11_heard_75 : decode cX11_heard 75 = .ok (.if_icmp .ge 8, 3) := by decide +kernel
theorem dX11_heard_78 : decode cX11_heard 78 = .ok (.iload 4, 2) := by decide +kernel
theorem dX11_heard_80 : decode cX11_heard 80 = .ok (.goto 4, 3) := by decide +kernel
theorem dX11_heard_83 : decode cX11_heard 83 = .ok (.iload_n 3, 1) := by decide +kernel
theorem dX11_heard_84 : decode cX11_heard 84 = .ok (.istore_n 3, 1) := by decide +kernel
theorem dX11_heard_85 : decode cX11_heard 85 = .ok (.iinc 4 1, 3) := by decide +kernel
theorem dX11_heard_88 : decode cX11_heard 88 = .ok (.goto (-33), 3) := by decide +kernel
theorem dX11_heard_91 : decode cX11_heard 91 = .ok (.iload_n 3, 1) := by decide +kernel
theorem dX11_heard_92 : decode cX11_heard 92 = .ok (.ireturn, 1) := by decide +kernel
theorem dX11_nearest_0 : decode cX11_nearest 0 = .ok (.iload_n 1, 1) := by decide +kernel
theorem dX11_nearest_1 : decode cX11_nearest 1 = .ok (.iconst 0, 1) := by decide +kernel
theorem dX11_nearest_2 : decode cX11_nearest 2 = .ok (.aload_n 0, 1) := by decide +kernel
theorem dX11_nearest_3 : decode cX11_nearest 3 = .ok (.getfield 7, 3) := by decide +kernel
theorem dX11_nearest_6 : decode cX11_nearest 6 = .ok (.iconst 5, 1) := by decide +kernel
theorem dX11_nearest_7 : decode cX11_nearest 7 = .ok (.iaload, 1) := by decide +kernel
theorem dX11_nearest_8 : decode cX11_nearest 8 = .ok (.iconst 1, 1) := by decide +kernel
theorem dX11_nearest_9 : decode cX11_nearest 9 = .ok (.isub, 1) := by decide +kernel
theorem dX11_nearest_10 : decode cX11_nearest 10 = .ok (.invokestatic 69, 3) := by decide +kernel
theorem dX11_nearest_13 : decode cX11_nearest 13 = .ok (.ifCond .ne 6, 3) := by decide +kernel
theorem dX11_nearest_16 : decode cX11_nearest 16 = .ok (.ldc 127, 2) := by decide +kernel
theorem dX11_nearest_18 : decode cX11_nearest 18 = .ok (.ireturn, 1) := by decide +kernel
theorem dX11_nearest_19 : decode cX11_nearest 19 = .ok (.iload_n 2, 1) := by decide +kernel
theorem dX11_nearest_20 : decode cX11_nearest 20 = .ok (.iconst 0, 1) := by decide +kernel
theorem dX11_nearest_21 : decode cX11_nearest 21 = .ok (.iconst 3, 1) := by decide +kernel
theorem dX11_nearest_22 : decode cX11_nearest 22 = .ok (.invokestatic 69, 3) := by decide +kernel
theorem dX11_nearest_25 : decode cX11_nearest 25 = .ok (.ifCond .ne 6, 3) := by decide +kernel
theorem dX11_nearest_28 : decode cX11_nearest 28 = .ok (.ldc 84, 2) := by decide +kernel
theorem dX11_nearest_30 : decode cX11_nearest 30 = .ok (.ireturn, 1) := by decide +kernel
theorem dX11_nearest_31 : decode cX11_nearest 31 = .ok (.aload_n 0, 1) := by decide +kernel
theorem dX11_nearest_32 : decode cX11_nearest 32 = .ok (.aload_n 0, 1) := by decide +kernel
theorem dX11_nearest_33 : decode cX11_nearest 33 = .ok (.getfield 7, 3) := by decide +kernel
theorem dX11_nearest_36 : decode cX11_nearest 36 = .ok (.iconst 5, 1) := by decide +kernel
theorem dX11_nearest_37 : decode cX11_nearest 37 = .ok (.iaload, 1) := by decide +kernel
theorem dX11_nearest_38 : decode cX11_nearest 38 = .ok (.aload_n 0, 1) := by decide +kernel
theorem dX11_nearest_39 : decode cX11_nearest 39 = .ok (.getfield 7, 3) := by decide +kernel
theorem dX11_nearest_42 : decode cX11_nearest 42 = .ok (.iconst 3, 1) := by decide +kernel
theorem dX11_nearest_43 : decode cX11_nearest 43 = .ok (.iaload, 1) := by decide +kernel
theorem dX11_nearest_44 : decode cX11_nearest 44 = .ok (.invokevirtual 136, 3) := by decide +kernel
theorem dX11_nearest_47 : decode cX11_nearest 47 = .ok (.ldc 57, 2) := by decide +kernel
theorem dX11_nearest_49 : decode cX11_nearest 49 = .ok (.if_icmp .ne 5, 3) := by decide +kernel
theorem dX11_nearest_52 : decode cX11_nearest 52 = .ok (.iconst (-1), 1) := by decide +kernel
theorem dX11_nearest_53 : decode cX11_nearest 53 = .ok (.ireturn, 1) := by decide +kernel
theorem dX11_nearest_54 : decode cX11_nearest 54 = .ok (.iload_n 2, 1) := by decide +kernel
theorem dX11_nearest_55 : decode cX11_nearest 55 = .ok (.ifCond .ne 12, 3) := by decide +kernel
theorem dX11_nearest_58 : decode cX11_nearest 58 = .ok (.aload_n 0, 1) := by decide +kernel
theorem dX11_nearest_59 : decode cX11_nearest 59 = .ok (.getfield 26, 3) := by decide +kernel
theorem dX11_nearest_62 : decode cX11_nearest 62 = .ok (.iload_n 1, 1) := by decide +kernel
theorem dX11_nearest_63 : decode cX11_nearest 63 = .ok (.iaload, 1) := by decide +kernel
theorem dX11_nearest_64 : decode cX11_nearest 64 = .ok (.goto 36, 3) := by decide +kernel
theorem dX11_nearest_67 : decode cX11_nearest 67 = .ok (.iload_n 2, 1) := by decide +kernel
theorem dX11_nearest_68 : decode cX11_nearest 68 = .ok (.iconst 1, 1) := by decide +kernel
theorem dX11_nearest_69 : decode cX11_nearest 69 = .ok (.if_icmp .ne 12, 3) := by decide +kernel
theorem dX11_nearest_72 : decode cX11_nearest 72 = .ok (.aload_n 0, 1) := by decide +kernel
theorem dX11_nearest_73 : decode cX11_nearest 73 = .ok (.getfield 29, 3) := by decide +kernel
theorem dX11_nearest_76 : decode cX11_nearest 76 = .ok (.iload_n 1, 1) := by decide +kernel
theorem dX11_nearest_77 : decode cX11_nearest 77 = .ok (.iaload, 1) := by decide +kernel
theorem dX11_nearest_78 : decode cX11_nearest 78 = .ok (.goto 22, 3) := by decide +kernel
theorem dX11_nearest_81 : decode cX11_nearest 81 = .ok (.iload_n 2, 1) := by decide +kernel
theorem dX11_nearest_82 : decode cX11_nearest 82 = .ok (.iconst 2, 1) := by decide +kernel
theorem dX11_nearest_83 : decode cX11_nearest 83 = .ok (.if_icmp .ne 11, 3) := by decide +kernel
theorem dX11_nearest_86 : decode cX11_nearest 86 = .ok (.aload_n 0, 1) := by decide +kernel
theorem dX11_nearest_87 : decode cX11_nearest 87 = .ok (.iload_n 1, 1) := by decide +kernel
theorem dX11_nearest_88 : decode cX11_nearest 88 = .ok (.invokevirtual 139, 3) := by decide +kernel
theorem dX11_nearest_91 : decode cX11_nearest 91 = .ok (.goto 9, 3) := by decide +kernel
theorem dX11_nearest_94 : decode cX11_nearest 94 = .ok (.aload_n 0, 1) := by decide +kernel
theorem dX11_nearest_95 : decode cX11_nearest 95 = .ok (.getfield 32, 3) := by decide +kernel
theorem dX11_nearest_98 : decode cX11_nearest 98 = .ok (.iload_n 1, 1) := by decide +kernel
theorem dX11_nearest_99 : decode cX11_nearest 99 = .ok (.iaload, 1) := by decide +kernel
theorem dX11_nearest_100 : decode cX11_nearest 100 = .ok (.ireturn, 1) := by decide +kernel
theorem dX11_ahead_0 : decode cX11_ahead 0 = .ok (.aload_n 0, 1) := by decide +kernel
theorem dX11_ahead_1 : decode cX11_ahead 1 = .ok (.iload_n 2, 1) := by decide +kernel
theorem dX11_ahead_2 : decode cX11_ahead 2 = .ok (.invokevirtual 123, 3) := by decide +kernel
theorem dX11_ahead_5 : decode cX11_ahead 5 = .ok (.ifCond .ne 6, 3) := by decide +kernel
theorem dX11_ahead_8 : decode cX11_ahead 8 = .ok (.ldc 127, 2) := by decide +kernel
theorem dX11_ahead_10 : decode cX11_ahead 10 = .ok (.ireturn, 1) := by decide +kernel
theorem dX11_ahead_11 : decode cX11_ahead 11 = .ok (.iload_n 1, 1) := by decide +kernel
theorem dX11_ahead_12 : decode cX11_ahead 12 = .ok (.iconst 0, 1) := by decide +kernel
theorem dX11_ahead_13 : decode cX11_ahead 13 = .ok (.aload_n 0, 1) := by decide +kernel
theorem dX11_ahead_14 : decode cX11_ahead 14 = .ok (.getfield 7, 3) := by decide +kernel
theorem dX11_ahead_17 : decode cX11_ahead 17 = .ok (.iconst 5, 1) := by decide +kernel
theorem dX11_ahead_18 : decode cX11_ahead 18 = .ok (.iaload, 1) := by decide +kernel
theorem dX11_ahead_19 : decode cX11_ahead 19 = .ok (.invokestatic 69, 3) := by decide +kernel
theorem dX11_ahead_22 : decode cX11_ahead 22 = .ok (.ifCond .ne 6, 3) := by decide +kernel
theorem dX11_ahead_25 : decode cX11_ahead 25 = .ok (.ldc 84, 2) := by decide +kernel
theorem dX11_ahead_27 : decode cX11_ahead 27 = .ok (.ireturn, 1) := by decide +kernel
theorem dX11_ahead_28 : decode cX11_ahead 28 = .ok (.aload_n 0, 1) := by decide +kernel
theorem dX11_ahead_29 : decode cX11_ahead 29 = .ok (.iload_n 1, 1) := by decide +kernel
theorem dX11_ahead_30 : decode cX11_ahead 30 = .ok (.iload_n 2, 1) := by decide +kernel
theorem dX11_ahead_31 : decode cX11_ahead 31 = .ok (.invokevirtual 136, 3) := by decide +kernel
theorem dX11_ahead_34 : decode cX11_ahead 34 = .ok (.ireturn, 1) := by decide +kernel
theorem dX11_decided_0 : decode cX11_decided 0 = .ok (.iload_n 1, 1) := by decide +kernel
theorem dX11_decided_1 : decode cX11_decided 1 = .ok (.iconst 0, 1) := by decide +kernel
theorem dX11_decided_2 : decode cX11_decided 2 = .ok (.aload_n 0, 1) := by decide +kernel
theorem dX11_decided_3 : decode cX11_decided 3 = .ok (.getfield 7, 3) := by decide +kernel
theorem dX11_decided_6 : decode cX11_decided 6 = .ok (.iconst 5, 1) := by decide +kernel
theorem dX11_decided_7 : decode cX11_decided 7 = .ok (.iaload, 1) := by decide +kernel
theorem dX11_decided_8 : decode cX11_decided 8 = .ok (.iconst 1, 1) := by decide +kernel
theorem dX11_decided_9 : decode cX11_decided 9 = .ok (.isub, 1) := by decide +kernel
theorem dX11_decided_10 : decode cX11_decided 10 = .ok (.invokestatic 69, 3) := by decide +kernel
theorem dX11_decided_13 : decode cX11_decided 13 = .ok (.ifCond .ne 6, 3) := by decide +kernel
theorem dX11_decided_16 : decode cX11_decided 16 = .ok (.ldc 127, 2) := by decide +kernel
theorem dX11_decided_18 : decode cX11_decided 18 = .ok (.ireturn, 1) := by decide +kernel
theorem dX11_decided_19 : decode cX11_decided 19 = .ok (.iload_n 2, 1) := by decide +kernel
theorem dX11_decided_20 : decode cX11_decided 20 = .ok (.iconst 0, 1) := by decide +kernel
theorem dX11_decided_21 : decode cX11_decided 21 = .ok (.bipush 23, 2) := by decide +kernel
theorem dX11_decided_23 : decode cX11_decided 23 = .ok (.invokestatic 69, 3) := by decide +kernel
theorem dX11_decided_26 : decode cX11_decided 26 = .ok (.ifCond .ne 6, 3) := by decide +kernel
theorem dX11_decided_29 : decode cX11_decided 29 = .ok (.ldc 84, 2) := by decide +kernel
theorem dX11_decided_31 : decode cX11_decided 31 = .ok (.ireturn, 1) := by decide +kernel
theorem dX11_decided_32 : decode cX11_decided 32 = .ok (.iload_n 1, 1) := by decide +kernel
theorem dX11_decided_33 : decode cX11_decided 33 = .ok (.iload_n 2, 1) := by decide +kernel
theorem dX11_decided_34 : decode cX11_decided 34 = .ok (.iadd, 1) := by decide +kernel
theorem dX11_decided_35 : decode cX11_decided 35 = .ok (.iconst 1, 1) := by decide +kernel
theorem dX11_decided_36 : decode cX11_decided 36 = .ok (.iadd, 1) := by decide +kernel
theorem dX11_decided_37 : decode cX11_decided 37 = .ok (.aload_n 0, 1) := by decide +kernel
theorem dX11_decided_38 : decode cX11_decided 38 = .ok (.getfield 7, 3) := by decide +kernel
theorem dX11_decided_41 : decode cX11_decided 41 = .ok (.iconst 5, 1) := by decide +kernel
theorem dX11_decided_42 : decode cX11_decided 42 = .ok (.iaload, 1) := by decide +kernel
theorem dX11_decided_43 : decode cX11_decided 43 = .ok (.if_icmp .le 5, 3) := by decide +kernel
theorem dX11_decided_46 : decode cX11_decided 46 = .ok (.iconst (-1), 1) := by decide +kernel
theorem dX11_decided_47 : decode cX11_decided 47 = .ok (.ireturn, 1) := by decide +kernel
theorem dX11_decided_48 : decode cX11_decided 48 = .ok (.aload_n 0, 1) := by decide +kernel
theorem dX11_decided_49 : decode cX11_decided 49 = .ok (.iload_n 1, 1) := by decide +kernel
theorem dX11_decided_50 : decode cX11_decided 50 = .ok (.iload_n 2, 1) := by decide +kernel
theorem dX11_decided_51 : decode cX11_decided 51 = .ok (.iadd, 1) := by decide +kernel
theorem dX11_decided_52 : decode cX11_decided 52 = .ok (.iconst 1, 1) := by decide +kernel
theorem dX11_decided_53 : decode cX11_decided 53 = .ok (.iadd, 1) := by decide +kernel
theorem dX11_decided_54 : decode cX11_decided 54 = .ok (.iconst (-1), 1) := by decide +kernel
theorem dX11_decided_55 : decode cX11_decided 55 = .ok (.invokevirtual 136, 3) := by decide +kernel
theorem dX11_decided_58 : decode cX11_decided 58 = .ok (.pop, 1) := by decide +kernel
theorem dX11_decided_59 : decode cX11_decided 59 = .ok (.aload_n 0, 1) := by decide +kernel
theorem dX11_decided_60 : decode cX11_decided 60 = .ok (.iload_n 1, 1) := by decide +kernel
theorem dX11_decided_61 : decode cX11_decided 61 = .ok (.invokevirtual 139, 3) := by decide +kernel
theorem dX11_decided_64 : decode cX11_decided 64 = .ok (.ireturn, 1) := by decide +kernel
theorem dX11_cost_0 : decode cX11_cost 0 = .ok (.iconst 0, 1) := by decide +kernel
theorem dX11_cost_1 : decode cX11_cost 1 = .ok (.istore_n 1, 1) := by decide +kernel
theorem dX11_cost_2 : decode cX11_cost 2 = .ok (.iconst 0, 1) := by decide +kernel
theorem dX11_cost_3 : decode cX11_cost 3 = .ok (.istore_n 2, 1) := by decide +kernel
theorem dX11_cost_4 : decode cX11_cost 4 = .ok (.iload_n 2, 1) := by decide +kernel
theorem dX11_cost_5 : decode cX11_cost 5 = .ok (.aload_n 0, 1) := by decide +kernel
theorem dX11_cost_6 : decode cX11_cost 6 = .ok (.getfield 7, 3) := by decide +kernel
theorem dX11_cost_9 : decode cX11_cost 9 = .ok (.iconst 5, 1) := by decide +kernel
theorem dX11_cost_10 : decode cX11_cost 10 = .ok (.iaload, 1) := by decide +kernel
theorem dX11_cost_11 : decode cX11_cost 11 = .ok (.if_icmp .ge 32, 3) := by decide +kernel
theorem dX11_cost_14 : decode cX11_cost 14 = .ok (.iload_n 2, 1) := by decide +kernel
theorem dX11_cost_15 : decode cX11_cost 15 = .ok (.aload_n 0, 1) := by decide +kernel
theorem dX11_cost_16 : decode cX11_cost 16 = .ok (.getfield 7, 3) := by decide +kernel
theorem dX11_cost_19 : decode cX11_cost 19 = .ok (.iconst 4, 1) := by decide +kernel
theorem dX11_cost_20 : decode cX11_cost 20 = .ok (.iaload, 1) := by decide +kernel
theorem dX11_cost_21 : decode cX11_cost 21 = .ok (.if_icmp .ge 22, 3) := by decide +kernel
theorem dX11_cost_24 : decode cX11_cost 24 = .ok (.iload_n 1, 1) := by decide +kernel
theorem dX11_cost_25 : decode cX11_cost 25 = .ok (.aload_n 0, 1) := by decide +kernel
theorem dX11_cost_26 : decode cX11_cost 26 = .ok (.iload_n 2, 1) := by decide +kernel
theorem dX11_cost_27 : decode cX11_cost 27 = .ok (.aload_n 0, 1) := by decide +kernel
theorem dX11_cost_28 : decode cX11_cost 28 = .ok (.iload_n 2, 1) := by decide +kernel
theorem dX11_cost_29 : decode cX11_cost 29 = .ok (.invokevirtual 102, 3) := by decide +kernel
theorem dX11_cost_32 : decode cX11_cost 32 = .ok (.invokevirtual 129, 3) := by decide +kernel
theorem dX11_cost_35 : decode cX11_cost 35 = .ok (.iadd, 1) := by decide +kernel
theorem dX11_cost_36 : decode cX11_cost 36 = .ok (.istore_n 1, 1) := by decide +kernel
theorem dX11_cost_37 : decode cX11_cost 37 = .ok (.iinc 2 1, 3) := by decide +kernel
theorem dX11_cost_40 : decode cX11_cost 40 = .ok (.goto (-36), 3) := by decide +kernel
theorem dX11_cost_43 : decode cX11_cost 43 = .ok (.iload_n 1, 1) := by decide +kernel
theorem dX11_cost_44 : decode cX11_cost 44 = .ok (.ireturn, 1) := by decide +kernel
theorem dX11_sign_0 : decode cX11_sign 0 = .ok (.iload_n 1, 1) := by decide +kernel
theorem dX11_sign_1 : decode cX11_sign 1 = .ok (.ifCond .ge 6, 3) := by decide +kernel
theorem dX11_sign_4 : decode cX11_sign 4 = .ok (.ldc 84, 2) := by decide +kernel
theorem dX11_sign_6 : decode cX11_sign 6 = .ok (.ireturn, 1) := by decide +kernel
theorem dX11_sign_7 : decode cX11_sign 7 = .ok (.iload_n 1, 1) := by decide +kernel
theorem dX11_sign_8 : decode cX11_sign 8 = .ok (.aload_n 0, 1) := by decide +kernel
theorem dX11_sign_9 : decode cX11_sign 9 = .ok (.invokevirtual 161, 3) := by decide +kernel
theorem dX11_sign_12 : decode cX11_sign 12 = .ok (.if_icmp .lt 5, 3) := by decide +kernel
theorem dX11_sign_15 : decode cX11_sign 15 = .ok (.iconst (-1), 1) := by decide +kernel
theorem dX11_sign_16 : decode cX11_sign 16 = .ok (.ireturn, 1) := by decide +kernel
theorem dX11_sign_17 : decode cX11_sign 17 = .ok (.iconst 4, 1) := by decide +kernel
theorem dX11_sign_18 : decode cX11_sign 18 = .ok (.iload_n 1, 1) := by decide +kernel
theorem dX11_sign_19 : decode cX11_sign 19 = .ok (.bipush 9, 2) := by decide +kernel
theorem dX11_sign_21 : decode cX11_sign 21 = .ok (.idiv, 1) := by decide +kernel
theorem dX11_sign_22 : decode cX11_sign 22 = .ok (.imul, 1) := by decide +kernel
theorem dX11_sign_23 : decode cX11_sign 23 = .ok (.iload_n 1, 1) := by decide +kernel
theorem dX11_sign_24 : decode cX11_sign 24 = .ok (.bipush 9, 2) := by decide +kernel
theorem dX11_sign_26 : decode cX11_sign 26 = .ok (.irem, 1) := by decide +kernel
theorem dX11_sign_27 : decode cX11_sign 27 = .ok (.iconst 2, 1) := by decide +kernel
theorem dX11_sign_28 : decode cX11_sign 28 = .ok (.idiv, 1) := by decide +kernel
theorem dX11_sign_29 : decode cX11_sign 29 = .ok (.iadd, 1) := by decide +kernel
theorem dX11_sign_30 : decode cX11_sign 30 = .ok (.istore_n 2, 1) := by decide +kernel
theorem dX11_sign_31 : decode cX11_sign 31 = .ok (.iload_n 1, 1) := by decide +kernel
theorem dX11_sign_32 : decode cX11_sign 32 = .ok (.bipush 9, 2) := by decide +kernel
theorem dX11_sign_34 : decode cX11_sign 34 = .ok (.irem, 1) := by decide +kernel
theorem dX11_sign_35 : decode cX11_sign 35 = .ok (.bipush 8, 2) := by decide +kernel
theorem dX11_sign_37 : decode cX11_sign 37 = .ok (.if_icmp .ne 8, 3) := by decide +kernel
theorem dX11_sign_40 : decode cX11_sign 40 = .ok (.bipush 45, 2) := by decide +kernel
theorem dX11_sign_42 : decode cX11_sign 42 = .ok (.goto 35, 3) := by decide +kernel
theorem dX11_sign_45 : decode cX11_sign 45 = .ok (.iload_n 1, 1) := by decide +kernel
theorem dX11_sign_46 : decode cX11_sign 46 = .ok (.bipush 9, 2) := by decide +kernel
theorem dX11_sign_48 : decode cX11_sign 48 = .ok (.irem, 1) := by decide +kernel
theorem dX11_sign_49 : decode cX11_sign 49 = .ok (.iconst 2, 1) := by decide +kernel
theorem dX11_sign_50 : decode cX11_sign 50 = .ok (.irem, 1) := by decide +kernel
theorem dX11_sign_51 : decode cX11_sign 51 = .ok (.ifCond .ne 17, 3) := by decide +kernel
theorem dX11_sign_54 : decode cX11_sign 54 = .ok (.bipush 65, 2) := by decide +kernel
theorem dX11_sign_56 : decode cX11_sign 56 = .ok (.aload_n 0, 1) := by decide +kernel
theorem dX11_sign_57 : decode cX11_sign 57 = .ok (.iload_n 2, 1) := by decide +kernel
theorem dX11_sign_58 : decode cX11_sign 58 = .ok (.invokevirtual 139, 3) := by decide +kernel
theorem dX11_sign_61 : decode cX11_sign 61 = .ok (.invokestatic 47, 3) := by decide +kernel
theorem dX11_sign_64 : decode cX11_sign 64 = .ok (.iadd, 1) := by decide +kernel
theorem dX11_sign_65 : decode cX11_sign 65 = .ok (.goto 12, 3) := by decide +kernel
theorem dX11_sign_68 : decode cX11_sign 68 = .ok (.bipush 48, 2) := by decide +kernel
theorem dX11_sign_70 : decode cX11_sign 70 = .ok (.aload_n 0, 1) := by decide +kernel
theorem dX11_sign_71 : decode cX11_sign 71 = .ok (.getfield 29, 3) := by decide +kernel
theorem dX11_sign_74 : decode cX11_sign 74 = .ok (.iload_n 2, 1) := by decide +kernel
theorem dX11_sign_75 : decode cX11_sign 75 = .ok (.iaload, 1) := by decide +kernel
theorem dX11_sign_76 : decode cX11_sign 76 = .ok (.iadd, 1) := by decide +kernel
theorem dX11_sign_77 : decode cX11_sign 77 = .ok (.ireturn, 1) := by decide +kernel
theorem dX11_keep_0 : decode cX11_keep 0 = .ok (.iload_n 1, 1) := by decide +kernel
theorem dX11_keep_1 : decode cX11_keep 1 = .ok (.iconst 0, 1) := by decide +kernel
theorem dX11_keep_2 : decode cX11_keep 2 = .ok (.iconst 1, 1) := by decide +kernel
theorem dX11_keep_3 : decode cX11_keep 3 = .ok (.invokestatic 69, 3) := by decide +kernel
theorem dX11_keep_6 : decode cX11_keep 6 = .ok (.ifCond .ne 6, 3) := by decide +kernel
theorem dX11_keep_9 : decode cX11_keep 9 = .ok (.ldc 127, 2) := by decide +kernel
theorem dX11_keep_11 : decode cX11_keep 11 = .ok (.ireturn, 1) := by decide +kernel
theorem dX11_keep_12 : decode cX11_keep 12 = .ok (.iconst 0, 1) := by decide +kernel
theorem dX11_keep_13 : decode cX11_keep 13 = .ok (.istore_n 2, 1) := by decide +kernel
theorem dX11_keep_14 : decode cX11_keep 14 = .ok (.iload_n 2, 1) := by decide +kernel
theorem dX11_keep_15 : decode cX11_keep 15 = .ok (.bipush 102, 2) := by decide +kernel
theorem dX11_keep_17 : decode cX11_keep 17 = .ok (.if_icmp .ge 26, 3) := by decide +kernel
theorem dX11_keep_20 : decode cX11_keep 20 = .ok (.aload_n 0, 1) := by decide +kernel
theorem dX11_keep_21 : decode cX11_keep 21 = .ok (.getfield 16, 3) := by decide +kernel
theorem dX11_keep_24 : decode cX11_keep 24 = .ok (.bipush 102, 2) := by decide +kernel
theorem dX11_keep_26 : decode cX11_keep 26 = .ok (.iload_n 1, 1) := by decide +kernel
theorem dX11_keep_27 : decode cX11_keep 27 = .ok (.imul, 1) := by decide +kernel
theorem dX11_keep_28 : decode cX11_keep 28 = .ok (.iload_n 2, 1) := by decide +kernel
theorem dX11_keep_29 : decode cX11_keep 29 = .ok (.iadd, 1) := by decide +kernel
theorem dX11_keep_30 : decode cX11_keep 30 = .ok (.aload_n 0, 1) := by decide +kernel
theorem dX11_keep_31 : decode cX11_keep 31 = .ok (.getfield 7, 3) := by decide +kernel
theorem dX11_keep_34 : decode cX11_keep 34 = .ok (.iload_n 2, 1) := by decide +kernel
theorem dX11_keep_35 : decode cX11_keep 35 = .ok (.iaload, 1) := by decide +kernel
theorem dX11_keep_36 : decode cX11_keep 36 = .ok (.iastore, 1) := by decide +kernel
theorem dX11_keep_37 : decode cX11_keep 37 = .ok (.iinc 2 1, 3) := by decide +kernel
theorem dX11_keep_40 : decode cX11_keep 40 = .ok (.goto (-26), 3) := by decide +kernel
theorem dX11_keep_43 : decode cX11_keep 43 = .ok (.aload_n 0, 1) := by decide +kernel
theorem dX11_keep_44 : decode cX11_keep 44 = .ok (.getfield 19, 3) := by decide +kernel
theorem dX11_keep_47 : decode cX11_keep 47 = .ok (.iload_n 1, 1) := by decide +kernel
theorem dX11_keep_48 : decode cX11_keep 48 = .ok (.iconst 1, 1) := by decide +kernel
theorem dX11_keep_49 : decode cX11_keep 49 = .ok (.bastore, 1) := by decide +kernel
theorem dX11_keep_50 : decode cX11_keep 50 = .ok (.aload_n 0, 1) := by decide +kernel
theorem dX11_keep_51 : decode cX11_keep 51 = .ok (.iconst 0, 1) := by decide +kernel
theorem dX11_keep_52 : decode cX11_keep 52 = .ok (.putfield 80, 3) := by decide +kernel
theorem dX11_keep_55 : decode cX11_keep 55 = .ok (.aload_n 0, 1) := by decide +kernel
theorem dX11_keep_56 : decode cX11_keep 56 = .ok (.getfield 7, 3) := by decide +kernel
theorem dX11_keep_59 : decode cX11_keep 59 = .ok (.iconst 5, 1) := by decide +kernel
theorem dX11_keep_60 : decode cX11_keep 60 = .ok (.iaload, 1) := by decide +kernel
theorem dX11_keep_61 : decode cX11_keep 61 = .ok (.ireturn, 1) := by decide +kernel
theorem dX11_goBack_0 : decode cX11_goBack 0 = .ok (.iload_n 1, 1) := by decide +kernel
theorem dX11_goBack_1 : decode cX11_goBack 1 = .ok (.iconst 0, 1) := by decide +kernel
theorem dX11_goBack_2 : decode cX11_goBack 2 = .ok (.iconst 1, 1) := by decide +kernel
theorem dX11_goBack_3 : decode cX11_goBack 3 = .ok (.invokestatic 69, 3) := by decide +kernel
theorem dX11_goBack_6 : decode cX11_goBack 6 = .ok (.ifCond .ne 6, 3) := by decide +kernel
theorem dX11_goBack_9 : decode cX11_goBack 9 = .ok (.ldc 127, 2) := by decide +kernel
