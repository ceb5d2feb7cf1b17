theorem dX10_told_230 : decode cX10_told 230 = .ok (.ireturn, 1) := by decide +kernel
theorem dX10_point_0 : decode cX10_point 0 = .ok (.iload_n 1, 1) := by decide +kernel
theorem dX10_point_1 : decode cX10_point 1 = .ok (.invokestatic 174, 3) := by decide +kernel
theorem dX10_point_4 : decode cX10_point 4 = .ok (.ifCond .ne 6, 3) := by decide +kernel
theorem dX10_point_7 : decode cX10_point 7 = .ok (.ldc 139, 2) := by decide +kernel
theorem dX10_point_9 : decode cX10_point 9 = .ok (.ireturn, 1) := by decide +kernel
theorem dX10_point_10 : decode cX10_point 10 = .ok (.iload_n 2, 1) := by decide +kernel
theorem dX10_point_11 : decode cX10_point 11 = .ok (.tableswitch 58 0 4 #[33, 38, 43, 48, 53], 33) := by decide +kernel
theorem dX10_point_44 : decode cX10_point 44 = .ok (.iload_n 1, 1) := by decide +kernel
theorem dX10_point_45 : decode cX10_point 45 = .ok (.invokestatic 126, 3) := by decide +kernel
theorem dX10_point_48 : decode cX10_point 48 = .ok (.ireturn, 1) := by decide +kernel
theorem dX10_point_49 : decode cX10_point 49 = .ok (.iload_n 1, 1) := by decide +kernel
theorem dX10_point_50 : decode cX10_point 50 = .ok (.invokestatic 131, 3) := by decide +kernel
theorem dX10_point_53 : decode cX10_point 53 = .ok (.ireturn, 1) := by decide +kernel
theorem dX10_point_54 : decode cX10_point 54 = .ok (.iload_n 1, 1) := by decide +kernel
theorem dX10_point_55 : decode cX10_point 55 = .ok (.invokestatic 177, 3) := by decide +kernel
theorem dX10_point_58 : decode cX10_point 58 = .ok (.ireturn, 1) := by decide +kernel
theorem dX10_point_59 : decode cX10_point 59 = .ok (.iload_n 1, 1) := by decide +kernel
theorem dX10_point_60 : decode cX10_point 60 = .ok (.invokestatic 180, 3) := by decide +kernel
theorem dX10_point_63 : decode cX10_point 63 = .ok (.ireturn, 1) := by decide +kernel
theorem dX10_point_64 : decode cX10_point 64 = .ok (.iload_n 1, 1) := by decide +kernel
theorem dX10_point_65 : decode cX10_point 65 = .ok (.invokestatic 183, 3) := by decide +kernel
theorem dX10_point_68 : decode cX10_point 68 = .ok (.ireturn, 1) := by decide +kernel
theorem dX10_point_69 : decode cX10_point 69 = .ok (.ldc 59, 2) := by decide +kernel
theorem dX10_point_71 : decode cX10_point 71 = .ok (.ireturn, 1) := by decide +kernel
theorem dX10_member_0 : decode cX10_member 0 = .ok (.iload_n 1, 1) := by decide +kernel
theorem dX10_member_1 : decode cX10_member 1 = .ok (.invokestatic 186, 3) := by decide +kernel
theorem dX10_member_4 : decode cX10_member 4 = .ok (.ifCond .ne 6, 3) := by decide +kernel
theorem dX10_member_7 : decode cX10_member 7 = .ok (.ldc 139, 2) := by decide +kernel
theorem dX10_member_9 : decode cX10_member 9 = .ok (.ireturn, 1) := by decide +kernel
theorem dX10_member_10 : decode cX10_member 10 = .ok (.iload_n 2, 1) := by decide +kernel
theorem dX10_member_11 : decode cX10_member 11 = .ok (.iconst 0, 1) := by decide +kernel
theorem dX10_member_12 : decode cX10_member 12 = .ok (.iconst 3, 1) := by decide +kernel
theorem dX10_member_13 : decode cX10_member 13 = .ok (.invokestatic 60, 3) := by decide +kernel
theorem dX10_member_16 : decode cX10_member 16 = .ok (.ifCond .eq 6, 3) := by decide +kernel
theorem dX10_member_19 : decode cX10_member 19 = .ok (.ldc 59, 2) := by decide +kernel
theorem dX10_member_21 : decode cX10_member 21 = .ok (.ireturn, 1) := by decide +kernel
theorem dX10_member_22 : decode cX10_member 22 = .ok (.iload_n 1, 1) := by decide +kernel
theorem dX10_member_23 : decode cX10_member 23 = .ok (.iload_n 2, 1) := by decide +kernel
theorem dX10_member_24 : decode cX10_member 24 = .ok (.invokestatic 189, 3) := by decide +kernel
theorem dX10_member_27 : decode cX10_member 27 = .ok (.ireturn, 1) := by decide +kernel
theorem dX10_apart_0 : decode cX10_apart 0 = .ok (.iload_n 1, 1) := by decide +kernel
theorem dX10_apart_1 : decode cX10_apart 1 = .ok (.invokestatic 186, 3) := by decide +kernel
theorem dX10_apart_4 : decode cX10_apart 4 = .ok (.ifCond .eq 10, 3) := by decide +kernel
theorem dX10_apart_7 : decode cX10_apart 7 = .ok (.iload_n 2, 1) := by decide +kernel
theorem dX10_apart_8 : decode cX10_apart 8 = .ok (.invokestatic 186, 3) := by decide +kernel
theorem dX10_apart_11 : decode cX10_apart 11 = .ok (.ifCond .ne 6, 3) := by decide +kernel
theorem dX10_apart_14 : decode cX10_apart 14 = .ok (.ldc 139, 2) := by decide +kernel
theorem dX10_apart_16 : decode cX10_apart 16 = .ok (.ireturn, 1) := by decide +kernel
theorem dX10_apart_17 : decode cX10_apart 17 = .ok (.iload_n 1, 1) := by decide +kernel
theorem dX10_apart_18 : decode cX10_apart 18 = .ok (.iload_n 2, 1) := by decide +kernel
theorem dX10_apart_19 : decode cX10_apart 19 = .ok (.invokestatic 193, 3) := by decide +kernel
theorem dX10_apart_22 : decode cX10_apart 22 = .ok (.ireturn, 1) := by decide +kernel
theorem dX10_distance_0 : decode cX10_distance 0 = .ok (.iload_n 1, 1) := by decide +kernel
theorem dX10_distance_1 : decode cX10_distance 1 = .ok (.invokestatic 174, 3) := by decide +kernel
theorem dX10_distance_4 : decode cX10_distance 4 = .ok (.ifCond .eq 15, 3) := by decide +kernel
theorem dX10_distance_7 : decode cX10_distance 7 = .ok (.iload_n 2, 1) := by decide +kernel
theorem dX10_distance_8 : decode cX10_distance 8 = .ok (.invokestatic 174, 3) := by decide +kernel
theorem dX10_distance_11 : decode cX10_distance 11 = .ok (.ifCond .eq 8, 3) := by decide +kernel
theorem dX10_distance_14 : decode cX10_distance 14 = .ok (.iload_n 1, 1) := by decide +kernel
theorem dX10_distance_15 : decode cX10_distance 15 = .ok (.iload_n 2, 1) := by decide +kernel
theorem dX10_distance_16 : decode cX10_distance 16 = .ok (.if_icmp .ne 6, 3) := by decide +kernel
theorem dX10_distance_19 : decode cX10_distance 19 = .ok (.ldc 139, 2) := by decide +kernel
theorem dX10_distance_21 : decode cX10_distance 21 = .ok (.ireturn, 1) := by decide +kernel
theorem dX10_distance_22 : decode cX10_distance 22 = .ok (.iload_n 1, 1) := by decide +kernel
theorem dX10_distance_23 : decode cX10_distance 23 = .ok (.iload_n 2, 1) := by decide +kernel
theorem dX10_distance_24 : decode cX10_distance 24 = .ok (.invokestatic 126, 3) := by decide +kernel
theorem dX10_distance_27 : decode cX10_distance 27 = .ok (.iload_n 2, 1) := by decide +kernel
theorem dX10_distance_28 : decode cX10_distance 28 = .ok (.invokestatic 131, 3) := by decide +kernel
theorem dX10_distance_31 : decode cX10_distance 31 = .ok (.invokestatic 196, 3) := by decide +kernel
theorem dX10_distance_34 : decode cX10_distance 34 = .ok (.ireturn, 1) := by decide +kernel
theorem dX10_turned_0 : decode cX10_turned 0 = .ok (.iload_n 1, 1) := by decide +kernel
theorem dX10_turned_1 : decode cX10_turned 1 = .ok (.invokestatic 186, 3) := by decide +kernel
theorem dX10_turned_4 : decode cX10_turned 4 = .ok (.ifCond .ne 6, 3) := by decide +kernel
theorem dX10_turned_7 : decode cX10_turned 7 = .ok (.ldc 139, 2) := by decide +kernel
theorem dX10_turned_9 : decode cX10_turned 9 = .ok (.ireturn, 1) := by decide +kernel
theorem dX10_turned_10 : decode cX10_turned 10 = .ok (.iload_n 1, 1) := by decide +kernel
theorem dX10_turned_11 : decode cX10_turned 11 = .ok (.invokestatic 200, 3) := by decide +kernel
theorem dX10_turned_14 : decode cX10_turned 14 = .ok (.ireturn, 1) := by decide +kernel
theorem dX10_next_0 : decode cX10_next 0 = .ok (.aload_n 0, 1) := by decide +kernel
theorem dX10_next_1 : decode cX10_next 1 = .ok (.iload_n 1, 1) := by decide +kernel
theorem dX10_next_2 : decode cX10_next 2 = .ok (.invokevirtual 135, 3) := by decide +kernel
theorem dX10_next_5 : decode cX10_next 5 = .ok (.ifCond .ne 6, 3) := by decide +kernel
theorem dX10_next_8 : decode cX10_next 8 = .ok (.ldc 139, 2) := by decide +kernel
theorem dX10_next_10 : decode cX10_next 10 = .ok (.ireturn, 1) := by decide +kernel
theorem dX10_next_11 : decode cX10_next 11 = .ok (.iload_n 2, 1) := by decide +kernel
theorem dX10_next_12 : decode cX10_next 12 = .ok (.iconst 0, 1) := by decide +kernel
theorem dX10_next_13 : decode cX10_next 13 = .ok (.iconst 1, 1) := by decide +kernel
theorem dX10_next_14 : decode cX10_next 14 = .ok (.invokestatic 60, 3) := by decide +kernel
theorem dX10_next_17 : decode cX10_next 17 = .ok (.ifCond .eq 6, 3) := by decide +kernel
theorem dX10_next_20 : decode cX10_next 20 = .ok (.ldc 59, 2) := by decide +kernel
theorem dX10_next_22 : decode cX10_next 22 = .ok (.ireturn, 1) := by decide +kernel
theorem dX10_next_23 : decode cX10_next 23 = .ok (.iload_n 3, 1) := by decide +kernel
theorem dX10_next_24 : decode cX10_next 24 = .ok (.lookupswitch 54 #[(0, 28), (1, 41)], 28) := by decide +kernel
theorem dX10_next_52 : decode cX10_next 52 = .ok (.aload_n 0, 1) := by decide +kernel
theorem dX10_next_53 : decode cX10_next 53 = .ok (.getfield 10, 3) := by decide +kernel
theorem dX10_next_56 : decode cX10_next 56 = .ok (.getfield 68, 3) := by decide +kernel
theorem dX10_next_59 : decode cX10_next 59 = .ok (.iload_n 1, 1) := by decide +kernel
theorem dX10_next_60 : decode cX10_next 60 = .ok (.iload_n 2, 1) := by decide +kernel
theorem dX10_next_61 : decode cX10_next 61 = .ok (.invokevirtual 203, 3) := by decide +kernel
theorem dX10_next_64 : decode cX10_next 64 = .ok (.ireturn, 1) := by decide +kernel
theorem dX10_next_65 : decode cX10_next 65 = .ok (.aload_n 0, 1) := by decide +kernel
theorem dX10_next_66 : decode cX10_next 66 = .ok (.getfield 10, 3) := by decide +kernel
theorem dX10_next_69 : decode cX10_next 69 = .ok (.getfield 68, 3) := by decide +kernel
theorem dX10_next_72 : decode cX10_next 72 = .ok (.iload_n 1, 1) := by decide +kernel
theorem dX10_next_73 : decode cX10_next 73 = .ok (.iload_n 2, 1) := by decide +kernel
theorem dX10_next_74 : decode cX10_next 74 = .ok (.invokevirtual 206, 3) := by decide +kernel
theorem dX10_next_77 : decode cX10_next 77 = .ok (.ireturn, 1) := by decide +kernel
theorem dX10_next_78 : decode cX10_next 78 = .ok (.ldc 59, 2) := by decide +kernel
theorem dX10_next_80 : decode cX10_next 80 = .ok (.ireturn, 1) := by decide +kernel
theorem dX10_sent_0 : decode cX10_sent 0 = .ok (.iload_n 1, 1) := by decide +kernel
theorem dX10_sent_1 : decode cX10_sent 1 = .ok (.iconst 0, 1) := by decide +kernel
theorem dX10_sent_2 : decode cX10_sent 2 = .ok (.aload_n 0, 1) := by decide +kernel
theorem dX10_sent_3 : decode cX10_sent 3 = .ok (.getfield 10, 3) := by decide +kernel
theorem dX10_sent_6 : decode cX10_sent 6 = .ok (.getfield 89, 3) := by decide +kernel
theorem dX10_sent_9 : decode cX10_sent 9 = .ok (.getfield 134, 3) := by decide +kernel
theorem dX10_sent_12 : decode cX10_sent 12 = .ok (.iconst 1, 1) := by decide +kernel
theorem dX10_sent_13 : decode cX10_sent 13 = .ok (.isub, 1) := by decide +kernel
theorem dX10_sent_14 : decode cX10_sent 14 = .ok (.invokestatic 60, 3) := by decide +kernel
theorem dX10_sent_17 : decode cX10_sent 17 = .ok (.ifCond .eq 6, 3) := by decide +kernel
theorem dX10_sent_20 : decode cX10_sent 20 = .ok (.ldc 139, 2) := by decide +kernel
theorem dX10_sent_22 : decode cX10_sent 22 = .ok (.ireturn, 1) := by decide +kernel
theorem dX10_sent_23 : decode cX10_sent 23 = .ok (.aload_n 0, 1) := by decide +kernel
theorem dX10_sent_24 : decode cX10_sent 24 = .ok (.getfield 10, 3) := by decide +kernel
theorem dX10_sent_27 : decode cX10_sent 27 = .ok (.getfield 89, 3) := by decide +kernel
theorem dX10_sent_30 : decode cX10_sent 30 = .ok (.iload_n 1, 1) := by decide +kernel
theorem dX10_sent_31 : decode cX10_sent 31 = .ok (.iload_n 2, 1) := by decide +kernel
theorem dX10_sent_32 : decode cX10_sent 32 = .ok (.invokevirtual 209, 3) := by decide +kernel
theorem dX10_sent_35 : decode cX10_sent 35 = .ok (.ireturn, 1) := by decide +kernel
theorem dX10_heard_0 : decode cX10_heard 0 = .ok (.iload_n 1, 1) := by decide +kernel
theorem dX10_heard_1 : decode cX10_heard 1 = .ok (.iconst 0, 1) := by decide +kernel
theorem dX10_heard_2 : decode cX10_heard 2 = .ok (.aload_n 0, 1) := by decide +kernel
theorem dX10_heard_3 : decode cX10_heard 3 = .ok (.getfield 10, 3) := by decide +kernel
theorem dX10_heard_6 : decode cX10_heard 6 = .ok (.getfield 104, 3) := by decide +kernel
theorem dX10_heard_9 : decode cX10_heard 9 = .ok (.getfield 114, 3) := by decide +kernel
theorem dX10_heard_12 : decode cX10_heard 12 = .ok (.iconst 1, 1) := by decide +kernel
theorem dX10_heard_13 : decode cX10_heard 13 = .ok (.isub, 1) := by decide +kernel
theorem dX10_heard_14 : decode cX10_heard 14 = .ok (.invokestatic 60, 3) := by decide +kernel
theorem dX10_heard_17 : decode cX10_heard 17 = .ok (.ifCond .eq 6, 3) := by decide +kernel
theorem dX10_heard_20 : decode cX10_heard 20 = .ok (.ldc 139, 2) := by decide +kernel
theorem dX10_heard_22 : decode cX10_heard 22 = .ok (.ireturn, 1) := by decide +kernel
theorem dX10_heard_23 : decode cX10_heard 23 = .ok (.iload_n 2, 1) := by decide +kernel
theorem dX10_heard_24 : decode cX10_heard 24 = .ok (.tableswitch 82 0 2 #[28, 41, 54], 28) := by decide +kernel
theorem dX10_heard_52 : decode cX10_heard 52 = .ok (.aload_n 0, 1) := by decide +kernel
theorem dX10_heard_53 : decode cX10_heard 53 = .ok (.getfield 10, 3) := by decide +kernel
theorem dX10_heard_56 : decode cX10_heard 56 = .ok (.getfield 104, 3) := by decide +kernel
theorem dX10_heard_59 : decode cX10_heard 59 = .ok (.getfield 212, 3) := by decide +kernel
theorem dX10_heard_62 : decode cX10_heard 62 = .ok (.iload_n 1, 1) := by decide +kernel
theorem dX10_heard_63 : decode cX10_heard 63 = .ok (.iaload, 1) := by decide +kernel
theorem dX10_heard_64 : decode cX10_heard 64 = .ok (.ireturn, 1) := by decide +kernel
theorem dX10_heard_65 : decode cX10_heard 65 = .ok (.aload_n 0, 1) := by decide +kernel
theorem dX10_heard_66 : decode cX10_heard 66 = .ok (.getfield 10, 3) := by decide +kernel
theorem dX10_heard_69 : decode cX10_heard 69 = .ok (.getfield 104, 3) := by decide +kernel
theorem dX10_heard_72 : decode cX10_heard 72 = .ok (.getfield 216, 3) := by decide +kernel
theorem dX10_heard_75 : decode cX10_heard 75 = .ok (.iload_n 1, 1) := by decide +kernel
theorem dX10_heard_76 : decode cX10_heard 76 = .ok (.iaload, 1) := by decide +kernel
theorem dX10_heard_77 : decode cX10_heard 77 = .ok (.ireturn, 1) := by decide +kernel
theorem dX10_heard_78 : decode cX10_heard 78 = .ok (.aload_n 0, 1) := by decide +kernel
theorem dX10_heard_79 : decode cX10_heard 79 = .ok (.getfield 10, 3) := by decide +kernel
theorem dX10_heard_82 : decode cX10_heard 82 = .ok (.getfield 104, 3) := by decide +kernel
theorem dX10_heard_85 : decode cX10_heard 85 = .ok (.getfield 212, 3) := by decide +kernel
theorem dX10_heard_88 : decode cX10_heard 88 = .ok (.iload_n 1, 1) := by decide +kernel
theorem dX10_heard_89 : decode cX10_heard 89 = .ok (.iaload, 1) := by decide +kernel
theorem dX10_heard_90 : decode cX10_heard 90 = .ok (.aload_n 0, 1) := by decide +kernel
theorem dX10_heard_91 : decode cX10_heard 91 = .ok (.getfield 10, 3) := by decide +kernel
theorem dX10_heard_94 : decode cX10_heard 94 = .ok (.getfield 104, 3) := by decide +kernel
theorem dX10_heard_97 : decode cX10_heard 97 = .ok (.getfield 216, 3) := by decide +kernel
theorem dX10_heard_100 : decode cX10_heard 100 = .ok (.iload_n 1, 1) := by decide +kernel
theorem dX10_heard_101 : decode cX10_heard 101 = .ok (.iaload, 1) := by decide +kernel
theorem dX10_heard_102 : decode cX10_heard 102 = .ok (.invokestatic 219, 3) := by decide +kernel
theorem dX10_heard_105 : decode cX10_heard 105 = .ok (.ireturn, 1) := by decide +kernel
theorem dX10_heard_106 : decode cX10_heard 106 = .ok (.ldc 59, 2) := by decide +kernel
theorem dX10_heard_108 : decode cX10_heard 108 = .ok (.ireturn, 1) := by decide +kernel
theorem dX10_nearest_0 : decode cX10_nearest 0 = .ok (.iload_n 1, 1) := by decide +kernel
theorem dX10_nearest_1 : decode cX10_nearest 1 = .ok (.iconst 0, 1) := by decide +kernel
theorem dX10_nearest_2 : decode cX10_nearest 2 = .ok (.aload_n 0, 1) := by decide +kernel
theorem dX10_nearest_3 : decode cX10_nearest 3 = .ok (.getfield 10, 3) := by decide +kernel
theorem dX10_nearest_6 : decode cX10_nearest 6 = .ok (.getfield 104, 3) := by decide +kernel
theorem dX10_nearest_9 : decode cX10_nearest 9 = .ok (.getfield 114, 3) := by decide +kernel
theorem dX10_nearest_12 : decode cX10_nearest 12 = .ok (.iconst 1, 1) := by decide +kernel
theorem dX10_nearest_13 : decode cX10_nearest 13 = .ok (.isub, 1) := by decide +kernel
theorem dX10_nearest_14 : decode cX10_nearest 14 = .ok (.invokestatic 60, 3) := by decide +kernel
theorem dX10_nearest_17 : decode cX10_nearest 17 = .ok (.ifCond .eq 6, 3) := by decide +kernel
theorem dX10_nearest_20 : decode cX10_nearest 20 = .ok (.ldc 139, 2) := by decide +kernel
theorem dX10_nearest_22 : decode cX10_nearest 22 = .ok (.ireturn, 1) := by decide +kernel
theorem dX10_nearest_23 : decode cX10_nearest 23 = .ok (.iload_n 2, 1) := by decide +kernel
theorem dX10_nearest_24 : decode cX10_nearest 24 = .ok (.iconst 0, 1) := by decide +kernel
theorem dX10_nearest_25 : decode cX10_nearest 25 = .ok (.iconst 3, 1) := by decide +kernel
theorem dX10_nearest_26 : decode cX10_nearest 26 = .ok (.invokestatic 60, 3) := by decide +kernel
theorem dX10_nearest_29 : decode cX10_nearest 29 = .ok (.ifCond .eq 6, 3) := by decide +kernel
theorem dX10_nearest_32 : decode cX10_nearest 32 = .ok (.ldc 59, 2) := by decide +kernel
theorem dX10_nearest_34 : decode cX10_nearest 34 = .ok (.ireturn, 1) := by decide +kernel
theorem dX10_nearest_35 : decode cX10_nearest 35 = .ok (.aload_n 0, 1) := by decide +kernel
theorem dX10_nearest_36 : decode cX10_nearest 36 = .ok (.invokevirtual 157, 3) := by decide +kernel
theorem dX10_nearest_39 : decode cX10_nearest 39 = .ok (.ldc 222, 2) := by decide +kernel
theorem dX10_nearest_41 : decode cX10_nearest 41 = .ok (.if_icmp .ne 5, 3) := by decide +kernel
theorem dX10_nearest_44 : decode cX10_nearest 44 = .ok (.iconst (-1), 1) := by decide +kernel
theorem dX10_nearest_45 : decode cX10_nearest 45 = .ok (.ireturn, 1) := by decide +kernel
theorem dX10_nearest_46 : decode cX10_nearest 46 = .ok (.aload_n 0, 1) := by decide +kernel
theorem dX10_nearest_47 : decode cX10_nearest 47 = .ok (.getfield 41, 3) := by decide +kernel
theorem dX10_nearest_50 : decode cX10_nearest 50 = .ok (.getfield 223, 3) := by decide +kernel
theorem dX10_nearest_53 : decode cX10_nearest 53 = .ok (.iload_n 1, 1) := by decide +kernel
theorem dX10_nearest_54 : decode cX10_nearest 54 = .ok (.iload_n 2, 1) := by decide +kernel
theorem dX10_nearest_55 : decode cX10_nearest 55 = .ok (.invokevirtual 209, 3) := by decide +kernel
theorem dX10_nearest_58 : decode cX10_nearest 58 = .ok (.ireturn, 1) := by decide +kernel
theorem dX10_ahead_0 : decode cX10_ahead 0 = .ok (.aload_n 0, 1) := by decide +kernel
theorem dX10_ahead_1 : decode cX10_ahead 1 = .ok (.iload_n 2, 1) := by decide +kernel
theorem dX10_ahead_2 : decode cX10_ahead 2 = .ok (.invokevirtual 135, 3) := by decide +kernel
theorem dX10_ahead_5 : decode cX10_ahead 5 = .ok (.ifCond .ne 6, 3) := by decide +kernel
theorem dX10_ahead_8 : decode cX10_ahead 8 = .ok (.ldc 139, 2) := by decide +kernel
theorem dX10_ahead_10 : decode cX10_ahead 10 = .ok (.ireturn, 1) := by decide +kernel
theorem dX10_ahead_11 : decode cX10_ahead 11 = .ok (.iload_n 1, 1) := by decide +kernel
theorem dX10_ahead_12 : decode cX10_ahead 12 = .ok (.iconst 0, 1) := by decide +kernel
theorem dX10_ahead_13 : decode cX10_ahead 13 = .ok (.aload_n 0, 1) := by decide +kernel
theorem dX10_ahead_14 : decode cX10_ahead 14 = .ok (.getfield 10, 3) := by decide +kernel
theorem dX10_ahead_17 : decode cX10_ahead 17 = .ok (.getfield 104, 3) := by decide +kernel
theorem dX10_ahead_20 : decode cX10_ahead 20 = .ok (.getfield 114, 3) := by decide +kernel
theorem dX10_ahead_23 : decode cX10_ahead 23 = .ok (.invokestatic 60, 3) := by decide +kernel
theorem dX10_ahead_26 : decode cX10_ahead 26 = .ok (.ifCond .eq 6, 3) := by decide +kernel
theorem dX10_ahead_29 : decode cX10_ahead 29 = .ok (.ldc 59, 2) := by decide +kernel
theorem dX10_ahead_31 : decode cX10_ahead 31 = .ok (.ireturn, 1) := by decide +kernel
theorem dX10_ahead_32 : decode cX10_ahead 32 = .ok (.aload_n 0, 1) := by decide +kernel
theorem dX10_ahead_33 : decode cX10_ahead 33 = .ok (.getfield 41, 3) := by decide +kernel
theorem dX10_ahead_36 : decode cX10_ahead 36 = .ok (.aload_n 0, 1) := by decide +kernel
theorem dX10_ahead_37 : decode cX10_ahead 37 = .ok (.getfield 10, 3) := by decide +kernel
theorem dX10_ahead_40 : decode cX10_ahead 40 = .ok (.iload_n 1, 1) := by decide +kernel
theorem dX10_ahead_41 : decode cX10_ahead 41 = .ok (.iload_n 2, 1) := by decide +kernel
theorem dX10_ahead_42 : decode cX10_ahead 42 = .ok (.invokevirtual 224, 3) := by decide +kernel
theorem dX10_ahead_45 : decode cX10_ahead 45 = .ok (.ireturn, 1) := by decide +kernel
theorem dX10_decided_0 : decode cX10_decided 0 = .ok (.iload_n 1, 1) := by decide +kernel
theorem dX10_decided_1 : decode cX10_decided 1 = .ok (.iconst 0, 1) := by decide +kernel
theorem dX10_decided_2 : decode cX10_decided 2 = .ok (.aload_n 0, 1) := by decide +kernel
theorem dX10_decided_3 : decode cX10_decided 3 = .ok (.getfield 10, 3) := by decide +kernel
theorem dX10_decided_6 : decode cX10_decided 6 = .ok (.getfield 104, 3) := by decide +kernel
theorem dX10_decided_9 : decode cX10_decided 9 = .ok (.getfield 114, 3) := by decide +kernel
theorem dX10_decided_12 : decode cX10_decided 12 = .ok (.iconst 1, 1) := by decide +kernel
theorem dX10_decided_13 : decode cX10_decided 13 = .ok (.isub, 1) := by decide +kernel
theorem dX10_decided_14 : decode cX10_decided 14 = .ok (.invokestatic 60, 3) := by decide +kernel
theorem dX10_decided_17 : decode cX10_decided 17 = .ok (.ifCond .eq 6, 3) := by decide +kernel
theorem dX10_decided_20 : decode cX10_decided 20 = .ok (.ldc 139, 2) := by decide +kernel
theorem dX10_decided_22 : decode cX10_decided 22 = .ok (.ireturn, 1) := by decide +kernel
theorem dX10_decided_23 : decode cX10_decided 23 = .ok (.iload_n 2, 1) := by decide +kernel
theorem dX10_decided_24 : decode cX10_decided 24 = .ok (.iconst 0, 1) := by decide +kernel
theorem dX10_decided_25 : decode cX10_decided 25 = .ok (.bipush 23, 2) := by decide +kernel
theorem dX10_decided_27 : decode cX10_decided 27 = .ok (.invokestatic 60, 3) := by decide +kernel
theorem dX10_decided_30 : decode cX10_decided 30 = .ok (.ifCond .eq 6, 3) := by decide +kernel
theorem dX10_decided_33 : decode cX10_decided 33 = .ok (.ldc 59, 2) := by decide +kernel
theorem dX10_decided_35 : decode cX10_decided 35 = .ok (.ireturn, 1) := by decide +kernel
theorem dX10_decided_36 : decode cX10_decided 36 = .ok (.iload_n 1, 1) := by decide +kernel
theorem dX10_decided_37 : decode cX10_decided 37 = .ok (.iload_n 2, 1) := by decide +kernel
theorem dX10_decided_38 : decode cX10_decided 38 = .ok (.iadd, 1) := by decide +kernel
theorem dX10_decided_39 : decode cX10_decided 39 = .ok (.iconst 1, 1) := by decide +kernel
theorem dX10_decided_40 : decode cX10_decided 40 = .ok (.iadd, 1) := by decide +kernel
theorem dX10_decided_41 : decode cX10_decided 41 = .ok (.istore_n 3, 1) := by decide +kernel
theorem dX10_decided_42 : decode cX10_decided 42 = .ok (.iload_n 3, 1) := by decide +kernel
theorem dX10_decided_43 : decode cX10_decided 43 = .ok (.aload_n 0, 1) := by decide +kernel
theorem dX10_decided_44 : decode cX10_decided 44 = .ok (.getfield 10, 3) := by decide +kernel
theorem dX10_decided_47 : decode cX10_decided 47 = .ok (.getfield 104, 3) := by decide +kernel
theorem dX10_decided_50 : decode cX10_decided 50 = .ok (.getfield 114, 3) := by decide +kernel
theorem dX10_decided_53 : decode cX10_decided 53 = .ok (.if_icmp .le 5, 3) := by decide +kernel
theorem dX10_decided_56 : decode cX10_decided 56 = .ok (.iconst (-1), 1) := by decide +kernel
theorem dX10_decided_57 : decode cX10_decided 57 = .ok (.ireturn, 1) := by decide +kernel
theorem dX10_decided_58 : decode cX10_decided 58 = .ok (.aload_n 0, 1) := by decide +kernel
theorem dX10_decided_59 : decode cX10_decided 59 = .ok (.getfield 41, 3) := by decide +kernel
theorem dX10_decided_62 : decode cX10_decided 62 = .ok (.aload_n 0, 1) := by decide +kernel
theorem dX10_decided_63 : decode cX10_decided 63 = .ok (.getfield 10, 3) := by decide +kernel
theorem dX10_decided_66 : decode cX10_decided 66 = .ok (.iload_n 3, 1) := by decide +kernel
theorem dX10_decided_67 : decode cX10_decided 67 = .ok (.iconst (-1), 1) := by decide +kernel
theorem dX10_decided_68 : decode cX10_decided 68 = .ok (.invokevirtual 224, 3) := by decide +kernel
theorem dX10_decided_71 : decode cX10_decided 71 = .ok (.pop, 1) := by decide +kernel
theorem dX10_decided_72 : decode cX10_decided 72 = .ok (.aload_n 0, 1) := by decide +kernel
theorem dX10_decided_73 : decode cX10_decided 73 = .ok (.getfield 41, 3) := by decide +kernel
theorem dX10_decided_76 : decode cX10_decided 76 = .ok (.getfield 223, 3) := by decide +kernel
theorem dX10_decided_79 : decode cX10_decided 79 = .ok (.getfield 228, 3) := by decide +kernel
theorem dX10_decided_82 : decode cX10_decided 82 = .ok (.iload_n 1, 1) := by decide +kernel
theorem dX10_decided_83 : decode cX10_decided 83 = .ok (.iaload, 1) := by decide +kernel
theorem dX10_decided_84 : decode cX10_decided 84 = .ok (.ireturn, 1) := by decide +kernel
theorem dX10_cost_0 : decode cX10_cost 0 = .ok (.aload_n 0, 1) := by decide +kernel
theorem dX10_cost_1 : decode cX10_cost 1 = .ok (.getfield 10, 3) := by decide +kernel
theorem dX10_cost_4 : decode cX10_cost 4 = .ok (.getfield 89, 3) := by decide +kernel
theorem dX10_cost_7 : decode cX10_cost 7 = .ok (.getfield 134, 3) := by decide +kernel
theorem dX10_cost_10 : decode cX10_cost 10 = .ok (.aload_n 0, 1) := by decide +kernel
theorem dX10_cost_11 : decode cX10_cost 11 = .ok (.getfield 10, 3) := by decide +kernel
theorem dX10_cost_14 : decode cX10_cost 14 = .ok (.getfield 104, 3) := by decide +kernel
theorem dX10_cost_17 : decode cX10_cost 17 = .ok (.getfield 114, 3) := by decide +kernel
theorem dX10_cost_20 : decode cX10_cost 20 = .ok (.invokestatic 231, 3) := by decide +kernel
theorem dX10_cost_23 : decode cX10_cost 23 = .ok (.istore_n 1, 1) := by decide +kernel
theorem dX10_cost_24 : decode cX10_cost 24 = .ok (.iconst 0, 1) := by decide +kernel
theorem dX10_cost_25 : decode cX10_cost 25 = .ok (.istore_n 2, 1) := by decide +kernel
theorem dX10_cost_26 : decode cX10_cost 26 = .ok (.iconst 0, 1) := by decide +kernel
theorem dX10_cost_27 : decode cX10_cost 27 = .ok (.istore_n 3, 1) := by decide +kernel
theorem dX10_cost_28 : decode cX10_cost 28 = .ok (.iload_n 3, 1) := by decide +kernel
theorem dX10_cost_29 : decode cX10_cost 29 = .ok (.iload_n 1, 1) := by decide +kernel
theorem dX10_cost_30 : decode cX10_cost 30 = .ok (.if_icmp .ge 51, 3) := by decide +kernel
theorem dX10_cost_33 : decode cX10_cost 33 = .ok (.iload_n 2, 1) := by decide +kernel
theorem dX10_cost_34 : decode cX10_cost 34 = .ok (.aload_n 0, 1) := by decide +kernel
theorem dX10_cost_35 : decode cX10_cost 35 = .ok (.getfield 10, 3) := by decide +kernel
theorem dX10_cost_38 : decode cX10_cost 38 = .ok (.getfield 89, 3) := by decide +kernel
theorem dX10_cost_41 : decode cX10_cost 41 = .ok (.getfield 228, 3) := by decide +kernel
theorem dX10_cost_44 : decode cX10_cost 44 = .ok (.iload_n 3, 1) := by decide +kernel
theorem dX10_cost_45 : decode cX10_cost 45 = .ok (.iaload, 1) := by decide +kernel
theorem dX10_cost_46 : decode cX10_cost 46 = .ok (.aload_n 0, 1) := by decide +kernel
theorem dX10_cost_47 : decode cX10_cost 47 = .ok (.getfield 10, 3) := by decide +kernel
theorem dX10_cost_50 : decode cX10_cost 50 = .ok (.getfield 104, 3) := by decide +kernel
theorem dX10_cost_53 : decode cX10_cost 53 = .ok (.getfield 212, 3) := by decide +kernel
theorem dX10_cost_56 : decode cX10_cost 56 = .ok (.iload_n 3, 1) := by decide +kernel
theorem dX10_cost_57 : decode cX10_cost 57 = .ok (.iaload, 1) := by decide +kernel
theorem dX10_cost_58 : decode cX10_cost 58 = .ok (.aload_n 0, 1) := by decide +kernel
theorem dX10_cost_59 : decode cX10_cost 59 = .ok (.getfield 10, 3) := by decide +kernel
theorem dX10_cost_62 : decode cX10_cost 62 = .ok (.getfield 104, 3) := by decide +kernel
theorem dX10_cost_65 : decode cX10_cost 65 = .ok (.getfield 216, 3) := by decide +kernel
theorem dX10_cost_68 : decode cX10_cost 68 = .ok (.iload_n 3, 1) := by decide +kernel
theorem dX10_cost_69 : decode cX10_cost 69 = .ok (.iaload, 1) := by decide +kernel
theorem dX10_cost_70 : decode cX10_cost 70 = .ok (.invokestatic 196, 3) := by decide +kernel
theorem dX10_cost_73 : decode cX10_cost 73 = .ok (.iadd, 1) := by decide +kernel
theorem dX10_cost_74 : decode cX10_cost 74 = .ok (.istore_n 2, 1) := by decide +kernel
theorem dX10_cost_75 : decode cX10_cost 75 = .ok (.iinc 3 1, 3) := by decide +kernel
theorem dX10_cost_78 : decode cX10_cost 78 = .ok (.goto (-50), 3) := by decide +kernel
theorem dX10_cost_81 : decode cX10_cost 81 = .ok (.iload_n 2, 1) := by decide +kernel
theorem dX10_cost_82 : decode cX10_cost 82 = .ok (.ireturn, 1) := by decide +kernel
theorem dX10_sign_0 : decode cX10_sign 0 = .ok (.iload_n 1, 1) := by decide +kernel
theorem dX10_sign_1 : decode cX10_sign 1 = .ok (.ifCond .ge 6, 3) := by decide +kernel
theorem dX10_sign_4 : decode cX10_sign 4 = .ok (.ldc 59, 2) := by decide +kernel
theorem dX10_sign_6 : decode cX10_sign 6 = .ok (.ireturn, 1) := by decide +kernel
theorem dX10_sign_7 : decode cX10_sign 7 = .ok (.aload_n 0, 1) := by decide +kernel
theorem dX10_sign_8 : decode cX10_sign 8 = .ok (.invokevirtual 157, 3) := by decide +kernel
theorem dX10_sign_11 : decode cX10_sign 11 = .ok (.pop, 1) := by decide +kernel
theorem dX10_sign_12 : decode cX10_sign 12 = .ok (.iload_n 1, 1) := by decide +kernel
theorem dX10_sign_13 : decode cX10_sign 13 = .ok (.aload_n 0, 1) := by decide +kernel
theorem dX10_sign_14 : decode cX10_sign 14 = .ok (.invokevirtual 171, 3) := by decide +kernel
theorem dX10_sign_17 : decode cX10_sign 17 = .ok (.if_icmp .lt 5, 3) := by decide +kernel
theorem dX10_sign_20 : decode cX10_sign 20 = .ok (.iconst (-1), 1) := by decide +kernel
theorem dX10_sign_21 : decode cX10_sign 21 = .ok (.ireturn, 1) := by decide +kernel
theorem dX10_sign_22 : decode cX10_sign 22 = .ok (.iload_n 1, 1) := by decide +kernel
theorem dX10_sign_23 : decode cX10_sign 23 = .ok (.bipush 9, 2) := by decide +kernel
theorem dX10_sign_25 : decode cX10_sign 25 = .ok (.irem, 1) := by decide +kernel
theorem dX10_sign_26 : decode cX10_sign 26 = .ok (.istore_n 2, 1) := by decide +kernel
theorem dX10_sign_27 : decode cX10_sign 27 = .ok (.iload_n 2, 1) := by decide +kernel
theorem dX10_sign_28 : decode cX10_sign 28 = .ok (.bipush 8, 2) := by decide +kernel
theorem dX10_sign_30 : decode cX10_sign 30 = .ok (.if_icmp .ne 6, 3) := by decide +kernel
theorem dX10_sign_33 : decode cX10_sign 33 = .ok (.bipush 45, 2) := by decide +kernel
theorem dX10_sign_35 : decode cX10_sign 35 = .ok (.ireturn, 1) := by decide +kernel
theorem dX10_sign_36 : decode cX10_sign 36 = .ok (.iload_n 1, 1) := by decide +kernel
theorem dX10_sign_37 : decode cX10_sign 37 = .ok (.bipush 9, 2) := by decide +kernel
theorem dX10_sign_39 : decode cX10_sign 39 = .ok (.idiv, 1) := by decide +kernel
theorem dX10_sign_40 : decode cX10_sign 40 = .ok (.iconst 4, 1) := by decide +kernel
theorem dX10_sign_41 : decode cX10_sign 41 = .ok (.imul, 1) := by decide +kernel
theorem dX10_sign_42 : decode cX10_sign 42 = .ok (.iload_n 2, 1) := by decide +kernel
theorem dX10_sign_43 : decode cX10_sign 43 = .ok (.iconst 2, 1) := by decide +kernel
theorem dX10_sign_44 : decode cX10_sign 44 = .ok (.idiv, 1) := by decide +kernel
theorem dX10_sign_45 : decode cX10_sign 45 = .ok (.iadd, 1) := by decide +kernel
theorem dX10_sign_46 : decode cX10_sign 46 = .ok (.istore_n 3, 1) := by decide +kernel
theorem dX10_sign_47 : decode cX10_sign 47 = .ok (.iload_n 2, 1) := by decide +kernel
theorem dX10_sign_48 : decode cX10_sign 48 = .ok (.iconst 2, 1) := by decide +kernel
theorem dX10_sign_49 : decode cX10_sign 49 = .ok (.irem, 1) := by decide +kernel
theorem dX10_sign_50 : decode cX10_sign 50 = .ok (.ifCond .ne 22, 3) := by decide +kernel
theorem dX10_sign_53 : decode cX10_sign 53 = .ok (.bipush 65, 2) := by decide +kernel
theorem dX10_sign_55 : decode cX10_sign 55 = .ok (.aload_n 0, 1) := by decide +kernel
theorem dX10_sign_56 : decode cX10_sign 56 = .ok (.getfield 41, 3) := by decide +kernel
theorem dX10_sign_59 : decode cX10_sign 59 = .ok (.getfield 223, 3) := by decide +kernel
theorem dX10_sign_62 : decode cX10_sign 62 = .ok (.getfield 228, 3) := by decide +kernel
theorem dX10_sign_65 : decode cX10_sign 65 = .ok (.iload_n 3, 1) := by decide +kernel
theorem dX10_sign_66 : decode cX10_sign 66 = .ok (.iaload, 1) := by decide +kernel
theorem dX10_sign_67 : decode cX10_sign 67 = .ok (.invokestatic 177, 3) := by decide +kernel
theorem dX10_sign_70 : decode cX10_sign 70 = .ok (.iadd, 1) := by decide +kernel
theorem dX10_sign_71 : decode cX10_sign 71 = .ok (.ireturn, 1) := by decide +kernel
theorem dX10_sign_72 : decode cX10_sign 72 = .ok (.bipush 48, 2) := by decide +kernel
theorem dX10_sign_74 : decode cX10_sign 74 = .ok (.aload_n 0, 1) := by decide +kernel
theorem dX10_sign_75 : decode cX10_sign 75 = .ok (.getfield 41, 3) := by decide +kernel
theorem dX10_sign_78 : decode cX10_sign 78 = .ok (.getfield 223, 3) := by decide +kernel
theorem dX10_sign_81 : decode cX10_sign 81 = .ok (.getfield 236, 3) := by decide +kernel
theorem dX10_sign_84 : decode cX10_sign 84 = .ok (.iload_n 3, 1) := by decide +kernel
theorem dX10_sign_85 : decode cX10_sign 85 = .ok (.iaload, 1) := by decide +kernel
theorem dX10_sign_86 : decode cX10_sign 86 = .ok (.iadd, 1) := by decide +kernel
theorem dX10_sign_87 : decode cX10_sign 87 = .ok (.ireturn, 1) := by decide +kernel
theorem dX10_keep_0 : decode cX10_keep 0 = .ok (.iload_n 1, 1) := by decide +kernel
theorem dX10_keep_1 : decode cX10_keep 1 = .ok (.iconst 0, 1) := by decide +kernel
theorem dX10_keep_2 : decode cX10_keep 2 = .ok (.iconst 1, 1) := by decide +kernel
theorem dX10_keep_3 : decode cX10_keep 3 = .ok (.invokestatic 60, 3) := by decide +kernel
theorem dX10_keep_6 : decode cX10_keep 6 = .ok (.ifCond .eq 6, 3) := by decide +kernel
theorem dX10_keep_9 : decode cX10_keep 9 = .ok (.ldc 139, 2) := by decide +kernel
theorem dX10_keep_11 : decode cX10_keep 11 = .ok (.ireturn, 1) := by decide +kernel
theorem dX10_keep_12 : decode cX10_keep 12 = .ok (.aload_n 0, 1) := by decide +kernel
theorem dX10_keep_13 : decode cX10_keep 13 = .ok (.getfield 23, 3) := by decide +kernel
theorem dX10_keep_16 : decode cX10_keep 16 = .ok (.iload_n 1, 1) := by decide +kernel
theorem dX10_keep_17 : decode cX10_keep 17 = .ok (.aaload, 1) := by decide +kernel
theorem dX10_keep_18 : decode cX10_keep 18 = .ok (.aload_n 0, 1) := by decide +kernel
theorem dX10_keep_19 : decode cX10_keep 19 = .ok (.getfield 10, 3) := by decide +kernel
theorem dX10_keep_22 : decode cX10_keep 22 = .ok (.invokevirtual 239, 3) := by decide +kernel
theorem dX10_keep_25 : decode cX10_keep 25 = .ok (.aload_n 0, 1) := by decide +kernel
theorem dX10_keep_26 : decode cX10_keep 26 = .ok (.getfield 27, 3) := by decide +kernel
theorem dX10_keep_29 : decode cX10_keep 29 = .ok (.iload_n 1, 1) := by decide +kernel
theorem dX10_keep_30 : decode cX10_keep 30 = .ok (.iconst 1, 1) := by decide +kernel
theorem dX10_keep_31 : decode cX10_keep 31 = .ok (.bastore, 1) := by decide +kernel
theorem dX10_keep_32 : decode cX10_keep 32 = .ok (.aload_n 0, 1) := by decide +kernel
theorem dX10_keep_33 : decode cX10_keep 33 = .ok (.getfield 19, 3) := by decide +kernel
theorem dX10_keep_36 : decode cX10_keep 36 = .ok (.invokevirtual 242, 3) := by decide +kernel
theorem dX10_keep_39 : decode cX10_keep 39 = .ok (.aload_n 0, 1) := by decide +kernel
theorem dX10_keep_40 : decode cX10_keep 40 = .ok (.getfield 10, 3) := by decide +kernel
theorem dX10_keep_43 : decode cX10_keep 43 = .ok (.getfield 104, 3) := by decide +kernel
