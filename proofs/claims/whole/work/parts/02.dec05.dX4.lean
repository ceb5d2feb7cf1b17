theorem dX4_init_0 : decode cX4_init 0 = .ok (.aload_n 0, 1) := by decide +kernel
theorem dX4_init_1 : decode cX4_init 1 = .ok (.invokespecial 3, 3) := by decide +kernel
theorem dX4_init_4 : decode cX4_init 4 = .ok (.aload_n 0, 1) := by decide +kernel
theorem dX4_init_5 : decode cX4_init 5 = .ok (.bipush 16, 2) := by decide +kernel
theorem dX4_init_7 : decode cX4_init 7 = .ok (.newarray .int, 2) := by decide +kernel
theorem dX4_init_9 : decode cX4_init 9 = .ok (.putfield 9, 3) := by decide +kernel
theorem dX4_init_12 : decode cX4_init 12 = .ok (.aload_n 0, 1) := by decide +kernel
theorem dX4_init_13 : decode cX4_init 13 = .ok (.bipush 64, 2) := by decide +kernel
theorem dX4_init_15 : decode cX4_init 15 = .ok (.newarray .int, 2) := by decide +kernel
theorem dX4_init_17 : decode cX4_init 17 = .ok (.putfield 15, 3) := by decide +kernel
theorem dX4_init_20 : decode cX4_init 20 = .ok (.aload_n 0, 1) := by decide +kernel
theorem dX4_init_21 : decode cX4_init 21 = .ok (.bipush 64, 2) := by decide +kernel
theorem dX4_init_23 : decode cX4_init 23 = .ok (.newarray .int, 2) := by decide +kernel
theorem dX4_init_25 : decode cX4_init 25 = .ok (.putfield 18, 3) := by decide +kernel
theorem dX4_init_28 : decode cX4_init 28 = .ok (.return_, 1) := by decide +kernel
theorem dX4_leastSum_0 : decode cX4_leastSum 0 = .ok (.ldc 21, 2) := by decide +kernel
theorem dX4_leastSum_2 : decode cX4_leastSum 2 = .ok (.istore_n 2, 1) := by decide +kernel
theorem dX4_leastSum_3 : decode cX4_leastSum 3 = .ok (.iconst 0, 1) := by decide +kernel
theorem dX4_leastSum_4 : decode cX4_leastSum 4 = .ok (.istore_n 3, 1) := by decide +kernel
theorem dX4_leastSum_5 : decode cX4_leastSum 5 = .ok (.iload_n 3, 1) := by decide +kernel
theorem dX4_leastSum_6 : decode cX4_leastSum 6 = .ok (.iconst 4, 1) := by decide +kernel
theorem dX4_leastSum_7 : decode cX4_leastSum 7 = .ok (.if_icmp .ge 19, 3) := by decide +kernel
theorem dX4_leastSum_10 : decode cX4_leastSum 10 = .ok (.iload_n 2, 1) := by decide +kernel
theorem dX4_leastSum_11 : decode cX4_leastSum 11 = .ok (.iload_n 3, 1) := by decide +kernel
theorem dX4_leastSum_12 : decode cX4_leastSum 12 = .ok (.iload_n 3, 1) := by decide +kernel
theorem dX4_leastSum_13 : decode cX4_leastSum 13 = .ok (.invokestatic 22, 3) := by decide +kernel
theorem dX4_leastSum_16 : decode cX4_leastSum 16 = .ok (.invokestatic 28, 3) := by decide +kernel
theorem dX4_leastSum_19 : decode cX4_leastSum 19 = .ok (.istore_n 2, 1) := by decide +kernel
theorem dX4_leastSum_20 : decode cX4_leastSum 20 = .ok (.iinc 3 1, 3) := by decide +kernel
theorem dX4_leastSum_23 : decode cX4_leastSum 23 = .ok (.goto (-18), 3) := by decide +kernel
theorem dX4_leastSum_26 : decode cX4_leastSum 26 = .ok (.aload_n 0, 1) := by decide +kernel
theorem dX4_leastSum_27 : decode cX4_leastSum 27 = .ok (.invokevirtual 33, 3) := by decide +kernel
theorem dX4_leastSum_30 : decode cX4_leastSum 30 = .ok (.aload_n 0, 1) := by decide +kernel
theorem dX4_leastSum_31 : decode cX4_leastSum 31 = .ok (.aload_n 1, 1) := by decide +kernel
theorem dX4_leastSum_32 : decode cX4_leastSum 32 = .ok (.invokevirtual 36, 3) := by decide +kernel
theorem dX4_leastSum_35 : decode cX4_leastSum 35 = .ok (.iconst 2, 1) := by decide +kernel
theorem dX4_leastSum_36 : decode cX4_leastSum 36 = .ok (.istore_n 3, 1) := by decide +kernel
theorem dX4_leastSum_37 : decode cX4_leastSum 37 = .ok (.iload_n 3, 1) := by decide +kernel
theorem dX4_leastSum_38 : decode cX4_leastSum 38 = .ok (.bipush 30, 2) := by decide +kernel
theorem dX4_leastSum_40 : decode cX4_leastSum 40 = .ok (.if_icmp .gt 16, 3) := by decide +kernel
theorem dX4_leastSum_43 : decode cX4_leastSum 43 = .ok (.aload_n 0, 1) := by decide +kernel
theorem dX4_leastSum_44 : decode cX4_leastSum 44 = .ok (.aload_n 1, 1) := by decide +kernel
theorem dX4_leastSum_45 : decode cX4_leastSum 45 = .ok (.iload_n 2, 1) := by decide +kernel
theorem dX4_leastSum_46 : decode cX4_leastSum 46 = .ok (.invokevirtual 40, 3) := by decide +kernel
theorem dX4_leastSum_49 : decode cX4_leastSum 49 = .ok (.istore_n 2, 1) := by decide +kernel
theorem dX4_leastSum_50 : decode cX4_leastSum 50 = .ok (.iinc 3 1, 3) := by decide +kernel
theorem dX4_leastSum_53 : decode cX4_leastSum 53 = .ok (.goto (-16), 3) := by decide +kernel
theorem dX4_leastSum_56 : decode cX4_leastSum 56 = .ok (.iload_n 2, 1) := by decide +kernel
theorem dX4_leastSum_57 : decode cX4_leastSum 57 = .ok (.ireturn, 1) := by decide +kernel
theorem dX4_fillGaps_0 : decode cX4_fillGaps 0 = .ok (.iconst 0, 1) := by decide +kernel
theorem dX4_fillGaps_1 : decode cX4_fillGaps 1 = .ok (.istore_n 1, 1) := by decide +kernel
theorem dX4_fillGaps_2 : decode cX4_fillGaps 2 = .ok (.iload_n 1, 1) := by decide +kernel
theorem dX4_fillGaps_3 : decode cX4_fillGaps 3 = .ok (.iconst 4, 1) := by decide +kernel
theorem dX4_fillGaps_4 : decode cX4_fillGaps 4 = .ok (.if_icmp .ge 46, 3) := by decide +kernel
theorem dX4_fillGaps_7 : decode cX4_fillGaps 7 = .ok (.iconst 0, 1) := by decide +kernel
theorem dX4_fillGaps_8 : decode cX4_fillGaps 8 = .ok (.istore_n 2, 1) := by decide +kernel
theorem dX4_fillGaps_9 : decode cX4_fillGaps 9 = .ok (.iload_n 2, 1) := by decide +kernel
theorem dX4_fillGaps_10 : decode cX4_fillGaps 10 = .ok (.iconst 4, 1) := by decide +kernel
theorem dX4_fillGaps_11 : decode cX4_fillGaps 11 = .ok (.if_icmp .ge 33, 3) := by decide +kernel
theorem dX4_fillGaps_14 : decode cX4_fillGaps 14 = .ok (.aload_n 0, 1) := by decide +kernel
theorem dX4_fillGaps_15 : decode cX4_fillGaps 15 = .ok (.getfield 9, 3) := by decide +kernel
theorem dX4_fillGaps_18 : decode cX4_fillGaps 18 = .ok (.iload_n 1, 1) := by decide +kernel
theorem dX4_fillGaps_19 : decode cX4_fillGaps 19 = .ok (.iconst 4, 1) := by decide +kernel
theorem dX4_fillGaps_20 : decode cX4_fillGaps 20 = .ok (.imul, 1) := by decide +kernel
theorem dX4_fillGaps_21 : decode cX4_fillGaps 21 = .ok (.iload_n 2, 1) := by decide +kernel
theorem dX4_fillGaps_22 : decode cX4_fillGaps 22 = .ok (.iadd, 1) := by decide +kernel
theorem dX4_fillGaps_23 : decode cX4_fillGaps 23 = .ok (.iload_n 1, 1) := by decide +kernel
theorem dX4_fillGaps_24 : decode cX4_fillGaps 24 = .ok (.iload_n 2, 1) := by decide +kernel
theorem dX4_fillGaps_25 : decode cX4_fillGaps 25 = .ok (.if_icmp .ne 7, 3) := by decide +kernel
theorem dX4_fillGaps_28 : decode cX4_fillGaps 28 = .ok (.iconst 0, 1) := by decide +kernel
theorem dX4_fillGaps_29 : decode cX4_fillGaps 29 = .ok (.goto 8, 3) := by decide +kernel
theorem dX4_fillGaps_32 : decode cX4_fillGaps 32 = .ok (.iload_n 1, 1) := by decide +kernel
theorem dX4_fillGaps_33 : decode cX4_fillGaps 33 = .ok (.iload_n 2, 1) := by decide +kernel
theorem dX4_fillGaps_34 : decode cX4_fillGaps 34 = .ok (.invokestatic 22, 3) := by decide +kernel
theorem dX4_fillGaps_37 : decode cX4_fillGaps 37 = .ok (.iastore, 1) := by decide +kernel
theorem dX4_fillGaps_38 : decode cX4_fillGaps 38 = .ok (.iinc 2 1, 3) := by decide +kernel
theorem dX4_fillGaps_41 : decode cX4_fillGaps 41 = .ok (.goto (-32), 3) := by decide +kernel
theorem dX4_fillGaps_44 : decode cX4_fillGaps 44 = .ok (.iinc 1 1, 3) := by decide +kernel
theorem dX4_fillGaps_47 : decode cX4_fillGaps 47 = .ok (.goto (-45), 3) := by decide +kernel
theorem dX4_fillGaps_50 : decode cX4_fillGaps 50 = .ok (.return_, 1) := by decide +kernel
theorem dX4_part_0 : decode cX4_part 0 = .ok (.aload_n 0, 1) := by decide +kernel
theorem dX4_part_1 : decode cX4_part 1 = .ok (.getfield 15, 3) := by decide +kernel
theorem dX4_part_4 : decode cX4_part 4 = .ok (.ldc 21, 2) := by decide +kernel
theorem dX4_part_6 : decode cX4_part 6 = .ok (.invokestatic 44, 3) := by decide +kernel
theorem dX4_part_9 : decode cX4_part 9 = .ok (.iconst 0, 1) := by decide +kernel
theorem dX4_part_10 : decode cX4_part 10 = .ok (.istore_n 2, 1) := by decide +kernel
theorem dX4_part_11 : decode cX4_part 11 = .ok (.iload_n 2, 1) := by decide +kernel
theorem dX4_part_12 : decode cX4_part 12 = .ok (.aload_n 1, 1) := by decide +kernel
theorem dX4_part_13 : decode cX4_part 13 = .ok (.invokevirtual 50, 3) := by decide +kernel
theorem dX4_part_16 : decode cX4_part 16 = .ok (.if_icmp .ge 50, 3) := by decide +kernel
theorem dX4_part_19 : decode cX4_part 19 = .ok (.aload_n 1, 1) := by decide +kernel
theorem dX4_part_20 : decode cX4_part 20 = .ok (.iload_n 2, 1) := by decide +kernel
theorem dX4_part_21 : decode cX4_part 21 = .ok (.iconst 0, 1) := by decide +kernel
theorem dX4_part_22 : decode cX4_part 22 = .ok (.invokevirtual 56, 3) := by decide +kernel
theorem dX4_part_25 : decode cX4_part 25 = .ok (.bipush 8, 2) := by decide +kernel
theorem dX4_part_27 : decode cX4_part 27 = .ok (.imul, 1) := by decide +kernel
theorem dX4_part_28 : decode cX4_part 28 = .ok (.aload_n 1, 1) := by decide +kernel
theorem dX4_part_29 : decode cX4_part 29 = .ok (.iload_n 2, 1) := by decide +kernel
theorem dX4_part_30 : decode cX4_part 30 = .ok (.iconst 1, 1) := by decide +kernel
theorem dX4_part_31 : decode cX4_part 31 = .ok (.invokevirtual 56, 3) := by decide +kernel
theorem dX4_part_34 : decode cX4_part 34 = .ok (.iadd, 1) := by decide +kernel
theorem dX4_part_35 : decode cX4_part 35 = .ok (.istore_n 3, 1) := by decide +kernel
theorem dX4_part_36 : decode cX4_part 36 = .ok (.aload_n 0, 1) := by decide +kernel
theorem dX4_part_37 : decode cX4_part 37 = .ok (.getfield 15, 3) := by decide +kernel
theorem dX4_part_40 : decode cX4_part 40 = .ok (.iload_n 3, 1) := by decide +kernel
theorem dX4_part_41 : decode cX4_part 41 = .ok (.aload_n 0, 1) := by decide +kernel
theorem dX4_part_42 : decode cX4_part 42 = .ok (.getfield 15, 3) := by decide +kernel
theorem dX4_part_45 : decode cX4_part 45 = .ok (.iload_n 3, 1) := by decide +kernel
theorem dX4_part_46 : decode cX4_part 46 = .ok (.iaload, 1) := by decide +kernel
theorem dX4_part_47 : decode cX4_part 47 = .ok (.aload_n 0, 1) := by decide +kernel
theorem dX4_part_48 : decode cX4_part 48 = .ok (.aload_n 1, 1) := by decide +kernel
theorem dX4_part_49 : decode cX4_part 49 = .ok (.iload_n 2, 1) := by decide +kernel
theorem dX4_part_50 : decode cX4_part 50 = .ok (.iconst 0, 1) := by decide +kernel
theorem dX4_part_51 : decode cX4_part 51 = .ok (.iload_n 2, 1) := by decide +kernel
theorem dX4_part_52 : decode cX4_part 52 = .ok (.iconst 1, 1) := by decide +kernel
theorem dX4_part_53 : decode cX4_part 53 = .ok (.invokevirtual 59, 3) := by decide +kernel
theorem dX4_part_56 : decode cX4_part 56 = .ok (.invokestatic 28, 3) := by decide +kernel
theorem dX4_part_59 : decode cX4_part 59 = .ok (.iastore, 1) := by decide +kernel
theorem dX4_part_60 : decode cX4_part 60 = .ok (.iinc 2 1, 3) := by decide +kernel
theorem dX4_part_63 : decode cX4_part 63 = .ok (.goto (-52), 3) := by decide +kernel
theorem dX4_part_66 : decode cX4_part 66 = .ok (.return_, 1) := by decide +kernel
theorem dX4_advance_0 : decode cX4_advance 0 = .ok (.aload_n 0, 1) := by decide +kernel
theorem dX4_advance_1 : decode cX4_advance 1 = .ok (.getfield 18, 3) := by decide +kernel
theorem dX4_advance_4 : decode cX4_advance 4 = .ok (.ldc 21, 2) := by decide +kernel
theorem dX4_advance_6 : decode cX4_advance 6 = .ok (.invokestatic 44, 3) := by decide +kernel
theorem dX4_advance_9 : decode cX4_advance 9 = .ok (.iload_n 2, 1) := by decide +kernel
theorem dX4_advance_10 : decode cX4_advance 10 = .ok (.istore_n 3, 1) := by decide +kernel
theorem dX4_advance_11 : decode cX4_advance 11 = .ok (.iconst 0, 1) := by decide +kernel
theorem dX4_advance_12 : decode cX4_advance 12 = .ok (.istore 4, 2) := by decide +kernel
theorem dX4_advance_14 : decode cX4_advance 14 = .ok (.iload 4, 2) := by decide +kernel
theorem dX4_advance_16 : decode cX4_advance 16 = .ok (.aload_n 1, 1) := by decide +kernel
theorem dX4_advance_17 : decode cX4_advance 17 = .ok (.invokevirtual 50, 3) := by decide +kernel
theorem dX4_advance_20 : decode cX4_advance 20 = .ok (.if_icmp .ge 58, 3) := by decide +kernel
theorem dX4_advance_23 : decode cX4_advance 23 = .ok (.iconst 0, 1) := by decide +kernel
theorem dX4_advance_24 : decode cX4_advance 24 = .ok (.istore 5, 2) := by decide +kernel
theorem dX4_advance_26 : decode cX4_advance 26 = .ok (.iload 5, 2) := by decide +kernel
theorem dX4_advance_28 : decode cX4_advance 28 = .ok (.aload_n 1, 1) := by decide +kernel
theorem dX4_advance_29 : decode cX4_advance 29 = .ok (.invokevirtual 50, 3) := by decide +kernel
theorem dX4_advance_32 : decode cX4_advance 32 = .ok (.if_icmp .ge 40, 3) := by decide +kernel
theorem dX4_advance_35 : decode cX4_advance 35 = .ok (.aload_n 0, 1) := by decide +kernel
theorem dX4_advance_36 : decode cX4_advance 36 = .ok (.getfield 15, 3) := by decide +kernel
theorem dX4_advance_39 : decode cX4_advance 39 = .ok (.iload 4, 2) := by decide +kernel
theorem dX4_advance_41 : decode cX4_advance 41 = .ok (.bipush 8, 2) := by decide +kernel
theorem dX4_advance_43 : decode cX4_advance 43 = .ok (.imul, 1) := by decide +kernel
theorem dX4_advance_44 : decode cX4_advance 44 = .ok (.iload 5, 2) := by decide +kernel
theorem dX4_advance_46 : decode cX4_advance 46 = .ok (.iadd, 1) := by decide +kernel
theorem dX4_advance_47 : decode cX4_advance 47 = .ok (.iaload, 1) := by decide +kernel
theorem dX4_advance_48 : decode cX4_advance 48 = .ok (.iload_n 3, 1) := by decide +kernel
theorem dX4_advance_49 : decode cX4_advance 49 = .ok (.if_icmp .ge 17, 3) := by decide +kernel
theorem dX4_advance_52 : decode cX4_advance 52 = .ok (.iload_n 3, 1) := by decide +kernel
theorem dX4_advance_53 : decode cX4_advance 53 = .ok (.aload_n 0, 1) := by decide +kernel
theorem dX4_advance_54 : decode cX4_advance 54 = .ok (.aload_n 1, 1) := by decide +kernel
theorem dX4_advance_55 : decode cX4_advance 55 = .ok (.iload 4, 2) := by decide +kernel
theorem dX4_advance_57 : decode cX4_advance 57 = .ok (.iload 5, 2) := by decide +kernel
theorem dX4_advance_59 : decode cX4_advance 59 = .ok (.invokevirtual 63, 3) := by decide +kernel
theorem dX4_advance_62 : decode cX4_advance 62 = .ok (.invokestatic 28, 3) := by decide +kernel
theorem dX4_advance_65 : decode cX4_advance 65 = .ok (.istore_n 3, 1) := by decide +kernel
theorem dX4_advance_66 : decode cX4_advance 66 = .ok (.iinc 5 1, 3) := by decide +kernel
theorem dX4_advance_69 : decode cX4_advance 69 = .ok (.goto (-43), 3) := by decide +kernel
theorem dX4_advance_72 : decode cX4_advance 72 = .ok (.iinc 4 1, 3) := by decide +kernel
theorem dX4_advance_75 : decode cX4_advance 75 = .ok (.goto (-61), 3) := by decide +kernel
theorem dX4_advance_78 : decode cX4_advance 78 = .ok (.aload_n 0, 1) := by decide +kernel
theorem dX4_advance_79 : decode cX4_advance 79 = .ok (.getfield 18, 3) := by decide +kernel
theorem dX4_advance_82 : decode cX4_advance 82 = .ok (.iconst 0, 1) := by decide +kernel
theorem dX4_advance_83 : decode cX4_advance 83 = .ok (.aload_n 0, 1) := by decide +kernel
theorem dX4_advance_84 : decode cX4_advance 84 = .ok (.getfield 15, 3) := by decide +kernel
theorem dX4_advance_87 : decode cX4_advance 87 = .ok (.iconst 0, 1) := by decide +kernel
theorem dX4_advance_88 : decode cX4_advance 88 = .ok (.aload_n 0, 1) := by decide +kernel
theorem dX4_advance_89 : decode cX4_advance 89 = .ok (.getfield 15, 3) := by decide +kernel
theorem dX4_advance_92 : decode cX4_advance 92 = .ok (.arraylength, 1) := by decide +kernel
theorem dX4_advance_93 : decode cX4_advance 93 = .ok (.invokestatic 67, 3) := by decide +kernel
theorem dX4_advance_96 : decode cX4_advance 96 = .ok (.iload_n 3, 1) := by decide +kernel
theorem dX4_advance_97 : decode cX4_advance 97 = .ok (.ireturn, 1) := by decide +kernel
theorem dX4_advancePair_0 : decode cX4_advancePair 0 = .ok (.ldc 21, 2) := by decide +kernel
theorem dX4_advancePair_2 : decode cX4_advancePair 2 = .ok (.istore 4, 2) := by decide +kernel
theorem dX4_advancePair_4 : decode cX4_advancePair 4 = .ok (.iconst 0, 1) := by decide +kernel
theorem dX4_advancePair_5 : decode cX4_advancePair 5 = .ok (.istore 5, 2) := by decide +kernel
theorem dX4_advancePair_7 : decode cX4_advancePair 7 = .ok (.iload 5, 2) := by decide +kernel
theorem dX4_advancePair_9 : decode cX4_advancePair 9 = .ok (.iconst 2, 1) := by decide +kernel
theorem dX4_advancePair_10 : decode cX4_advancePair 10 = .ok (.if_icmp .ge 115, 3) := by decide +kernel
theorem dX4_advancePair_13 : decode cX4_advancePair 13 = .ok (.iconst 0, 1) := by decide +kernel
theorem dX4_advancePair_14 : decode cX4_advancePair 14 = .ok (.istore 6, 2) := by decide +kernel
theorem dX4_advancePair_16 : decode cX4_advancePair 16 = .ok (.iload 6, 2) := by decide +kernel
theorem dX4_advancePair_18 : decode cX4_advancePair 18 = .ok (.iconst 2, 1) := by decide +kernel
theorem dX4_advancePair_19 : decode cX4_advancePair 19 = .ok (.if_icmp .ge 100, 3) := by decide +kernel
theorem dX4_advancePair_22 : decode cX4_advancePair 22 = .ok (.aload_n 0, 1) := by decide +kernel
theorem dX4_advancePair_23 : decode cX4_advancePair 23 = .ok (.getfield 15, 3) := by decide +kernel
theorem dX4_advancePair_26 : decode cX4_advancePair 26 = .ok (.iload_n 2, 1) := by decide +kernel
theorem dX4_advancePair_27 : decode cX4_advancePair 27 = .ok (.bipush 8, 2) := by decide +kernel
theorem dX4_advancePair_29 : decode cX4_advancePair 29 = .ok (.imul, 1) := by decide +kernel
theorem dX4_advancePair_30 : decode cX4_advancePair 30 = .ok (.iload_n 3, 1) := by decide +kernel
theorem dX4_advancePair_31 : decode cX4_advancePair 31 = .ok (.iadd, 1) := by decide +kernel
theorem dX4_advancePair_32 : decode cX4_advancePair 32 = .ok (.iaload, 1) := by decide +kernel
theorem dX4_advancePair_33 : decode cX4_advancePair 33 = .ok (.aload_n 0, 1) := by decide +kernel
theorem dX4_advancePair_34 : decode cX4_advancePair 34 = .ok (.aload_n 1, 1) := by decide +kernel
theorem dX4_advancePair_35 : decode cX4_advancePair 35 = .ok (.iload_n 2, 1) := by decide +kernel
theorem dX4_advancePair_36 : decode cX4_advancePair 36 = .ok (.iload 5, 2) := by decide +kernel
theorem dX4_advancePair_38 : decode cX4_advancePair 38 = .ok (.iload_n 3, 1) := by decide +kernel
theorem dX4_advancePair_39 : decode cX4_advancePair 39 = .ok (.iload 6, 2) := by decide +kernel
theorem dX4_advancePair_41 : decode cX4_advancePair 41 = .ok (.invokevirtual 59, 3) := by decide +kernel
theorem dX4_advancePair_44 : decode cX4_advancePair 44 = .ok (.iadd, 1) := by decide +kernel
theorem dX4_advancePair_45 : decode cX4_advancePair 45 = .ok (.istore 7, 2) := by decide +kernel
theorem dX4_advancePair_47 : decode cX4_advancePair 47 = .ok (.aload_n 1, 1) := by decide +kernel
theorem dX4_advancePair_48 : decode cX4_advancePair 48 = .ok (.iload_n 2, 1) := by decide +kernel
theorem dX4_advancePair_49 : decode cX4_advancePair 49 = .ok (.iload 5, 2) := by decide +kernel
theorem dX4_advancePair_51 : decode cX4_advancePair 51 = .ok (.invokevirtual 56, 3) := by decide +kernel
theorem dX4_advancePair_54 : decode cX4_advancePair 54 = .ok (.istore 8, 2) := by decide +kernel
theorem dX4_advancePair_56 : decode cX4_advancePair 56 = .ok (.aload_n 1, 1) := by decide +kernel
theorem dX4_advancePair_57 : decode cX4_advancePair 57 = .ok (.iload_n 3, 1) := by decide +kernel
theorem dX4_advancePair_58 : decode cX4_advancePair 58 = .ok (.iload 6, 2) := by decide +kernel
theorem dX4_advancePair_60 : decode cX4_advancePair 60 = .ok (.invokevirtual 56, 3) := by decide +kernel
theorem dX4_advancePair_63 : decode cX4_advancePair 63 = .ok (.istore 9, 2) := by decide +kernel
theorem dX4_advancePair_65 : decode cX4_advancePair 65 = .ok (.iload 8, 2) := by decide +kernel
theorem dX4_advancePair_67 : decode cX4_advancePair 67 = .ok (.iload 9, 2) := by decide +kernel
theorem dX4_advancePair_69 : decode cX4_advancePair 69 = .ok (.if_icmp .ne 15, 3) := by decide +kernel
theorem dX4_advancePair_72 : decode cX4_advancePair 72 = .ok (.iload 4, 2) := by decide +kernel
theorem dX4_advancePair_74 : decode cX4_advancePair 74 = .ok (.iload 7, 2) := by decide +kernel
theorem dX4_advancePair_76 : decode cX4_advancePair 76 = .ok (.invokestatic 28, 3) := by decide +kernel
theorem dX4_advancePair_79 : decode cX4_advancePair 79 = .ok (.istore 4, 2) := by decide +kernel
theorem dX4_advancePair_81 : decode cX4_advancePair 81 = .ok (.goto 32, 3) := by decide +kernel
theorem dX4_advancePair_84 : decode cX4_advancePair 84 = .ok (.iload 8, 2) := by decide +kernel
theorem dX4_advancePair_86 : decode cX4_advancePair 86 = .ok (.bipush 8, 2) := by decide +kernel
theorem dX4_advancePair_88 : decode cX4_advancePair 88 = .ok (.imul, 1) := by decide +kernel
theorem dX4_advancePair_89 : decode cX4_advancePair 89 = .ok (.iload 9, 2) := by decide +kernel
theorem dX4_advancePair_91 : decode cX4_advancePair 91 = .ok (.iadd, 1) := by decide +kernel
theorem dX4_advancePair_92 : decode cX4_advancePair 92 = .ok (.istore 10, 2) := by decide +kernel
theorem dX4_advancePair_94 : decode cX4_advancePair 94 = .ok (.aload_n 0, 1) := by decide +kernel
theorem dX4_advancePair_95 : decode cX4_advancePair 95 = .ok (.getfield 18, 3) := by decide +kernel
theorem dX4_advancePair_98 : decode cX4_advancePair 98 = .ok (.iload 10, 2) := by decide +kernel
theorem dX4_advancePair_100 : decode cX4_advancePair 100 = .ok (.aload_n 0, 1) := by decide +kernel
theorem dX4_advancePair_101 : decode cX4_advancePair 101 = .ok (.getfield 18, 3) := by decide +kernel
theorem dX4_advancePair_104 : decode cX4_advancePair 104 = .ok (.iload 10, 2) := by decide +kernel
theorem dX4_advancePair_106 : decode cX4_advancePair 106 = .ok (.iaload, 1) := by decide +kernel
theorem dX4_advancePair_107 : decode cX4_advancePair 107 = .ok (.iload 7, 2) := by decide +kernel
theorem dX4_advancePair_109 : decode cX4_advancePair 109 = .ok (.invokestatic 28, 3) := by decide +kernel
theorem dX4_advancePair_112 : decode cX4_advancePair 112 = .ok (.iastore, 1) := by decide +kernel
theorem dX4_advancePair_113 : decode cX4_advancePair 113 = .ok (.iinc 6 1, 3) := by decide +kernel
theorem dX4_advancePair_116 : decode cX4_advancePair 116 = .ok (.goto (-100), 3) := by decide +kernel
theorem dX4_advancePair_119 : decode cX4_advancePair 119 = .ok (.iinc 5 1, 3) := by decide +kernel
theorem dX4_advancePair_122 : decode cX4_advancePair 122 = .ok (.goto (-115), 3) := by decide +kernel
theorem dX4_advancePair_125 : decode cX4_advancePair 125 = .ok (.iload 4, 2) := by decide +kernel
theorem dX4_advancePair_127 : decode cX4_advancePair 127 = .ok (.ireturn, 1) := by decide +kernel
theorem dX4_gapOfSteps_0 : decode cX4_gapOfSteps 0 = .ok (.aload_n 0, 1) := by decide +kernel
theorem dX4_gapOfSteps_1 : decode cX4_gapOfSteps 1 = .ok (.getfield 9, 3) := by decide +kernel
theorem dX4_gapOfSteps_4 : decode cX4_gapOfSteps 4 = .ok (.aload_n 1, 1) := by decide +kernel
theorem dX4_gapOfSteps_5 : decode cX4_gapOfSteps 5 = .ok (.iload_n 2, 1) := by decide +kernel
theorem dX4_gapOfSteps_6 : decode cX4_gapOfSteps 6 = .ok (.iload_n 3, 1) := by decide +kernel
theorem dX4_gapOfSteps_7 : decode cX4_gapOfSteps 7 = .ok (.invokevirtual 73, 3) := by decide +kernel
theorem dX4_gapOfSteps_10 : decode cX4_gapOfSteps 10 = .ok (.iconst 4, 1) := by decide +kernel
theorem dX4_gapOfSteps_11 : decode cX4_gapOfSteps 11 = .ok (.imul, 1) := by decide +kernel
theorem dX4_gapOfSteps_12 : decode cX4_gapOfSteps 12 = .ok (.aload_n 1, 1) := by decide +kernel
theorem dX4_gapOfSteps_13 : decode cX4_gapOfSteps 13 = .ok (.iload 4, 2) := by decide +kernel
theorem dX4_gapOfSteps_15 : decode cX4_gapOfSteps 15 = .ok (.iload 5, 2) := by decide +kernel
theorem dX4_gapOfSteps_17 : decode cX4_gapOfSteps 17 = .ok (.invokevirtual 73, 3) := by decide +kernel
theorem dX4_gapOfSteps_20 : decode cX4_gapOfSteps 20 = .ok (.iadd, 1) := by decide +kernel
theorem dX4_gapOfSteps_21 : decode cX4_gapOfSteps 21 = .ok (.iaload, 1) := by decide +kernel
theorem dX4_gapOfSteps_22 : decode cX4_gapOfSteps 22 = .ok (.ireturn, 1) := by decide +kernel
