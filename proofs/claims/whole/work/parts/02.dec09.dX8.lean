theorem dX8_init_0 : decode cX8_init 0 = .ok (.aload_n 0, 1) := by decide +kernel
theorem dX8_init_1 : decode cX8_init 1 = .ok (.invokespecial 3, 3) := by decide +kernel
theorem dX8_init_4 : decode cX8_init 4 = .ok (.aload_n 0, 1) := by decide +kernel
theorem dX8_init_5 : decode cX8_init 5 = .ok (.new 9, 3) := by decide +kernel
theorem dX8_init_8 : decode cX8_init 8 = .ok (.dup, 1) := by decide +kernel
theorem dX8_init_9 : decode cX8_init 9 = .ok (.invokespecial 11, 3) := by decide +kernel
theorem dX8_init_12 : decode cX8_init 12 = .ok (.putfield 12, 3) := by decide +kernel
theorem dX8_init_15 : decode cX8_init 15 = .ok (.aload_n 0, 1) := by decide +kernel
theorem dX8_init_16 : decode cX8_init 16 = .ok (.bipush 96, 2) := by decide +kernel
theorem dX8_init_18 : decode cX8_init 18 = .ok (.newarray .int, 2) := by decide +kernel
theorem dX8_init_20 : decode cX8_init 20 = .ok (.putfield 18, 3) := by decide +kernel
theorem dX8_init_23 : decode cX8_init 23 = .ok (.aload_n 0, 1) := by decide +kernel
theorem dX8_init_24 : decode cX8_init 24 = .ok (.bipush 96, 2) := by decide +kernel
theorem dX8_init_26 : decode cX8_init 26 = .ok (.newarray .int, 2) := by decide +kernel
theorem dX8_init_28 : decode cX8_init 28 = .ok (.putfield 22, 3) := by decide +kernel
theorem dX8_init_31 : decode cX8_init 31 = .ok (.aload_n 0, 1) := by decide +kernel
theorem dX8_init_32 : decode cX8_init 32 = .ok (.sipush 200, 3) := by decide +kernel
theorem dX8_init_35 : decode cX8_init 35 = .ok (.newarray .int, 2) := by decide +kernel
theorem dX8_init_37 : decode cX8_init 37 = .ok (.putfield 25, 3) := by decide +kernel
theorem dX8_init_40 : decode cX8_init 40 = .ok (.return_, 1) := by decide +kernel
theorem dX8_seek_0 : decode cX8_seek 0 = .ok (.aload_n 0, 1) := by decide +kernel
theorem dX8_seek_1 : decode cX8_seek 1 = .ok (.aload_n 1, 1) := by decide +kernel
theorem dX8_seek_2 : decode cX8_seek 2 = .ok (.getfield 28, 3) := by decide +kernel
theorem dX8_seek_5 : decode cX8_seek 5 = .ok (.iload_n 2, 1) := by decide +kernel
theorem dX8_seek_6 : decode cX8_seek 6 = .ok (.invokevirtual 34, 3) := by decide +kernel
theorem dX8_seek_9 : decode cX8_seek 9 = .ok (.aload_n 0, 1) := by decide +kernel
theorem dX8_seek_10 : decode cX8_seek 10 = .ok (.aload_n 1, 1) := by decide +kernel
theorem dX8_seek_11 : decode cX8_seek 11 = .ok (.getfield 38, 3) := by decide +kernel
theorem dX8_seek_14 : decode cX8_seek 14 = .ok (.iload_n 2, 1) := by decide +kernel
theorem dX8_seek_15 : decode cX8_seek 15 = .ok (.iload_n 3, 1) := by decide +kernel
theorem dX8_seek_16 : decode cX8_seek 16 = .ok (.invokevirtual 42, 3) := by decide +kernel
theorem dX8_seek_19 : decode cX8_seek 19 = .ok (.aload_n 0, 1) := by decide +kernel
theorem dX8_seek_20 : decode cX8_seek 20 = .ok (.getfield 12, 3) := by decide +kernel
theorem dX8_seek_23 : decode cX8_seek 23 = .ok (.iconst 0, 1) := by decide +kernel
theorem dX8_seek_24 : decode cX8_seek 24 = .ok (.putfield 46, 3) := by decide +kernel
theorem dX8_seek_27 : decode cX8_seek 27 = .ok (.aload_n 0, 1) := by decide +kernel
theorem dX8_seek_28 : decode cX8_seek 28 = .ok (.getfield 25, 3) := by decide +kernel
theorem dX8_seek_31 : decode cX8_seek 31 = .ok (.iconst 0, 1) := by decide +kernel
theorem dX8_seek_32 : decode cX8_seek 32 = .ok (.iaload, 1) := by decide +kernel
theorem dX8_seek_33 : decode cX8_seek 33 = .ok (.ldc 50, 2) := by decide +kernel
theorem dX8_seek_35 : decode cX8_seek 35 = .ok (.if_icmp .ge 12, 3) := by decide +kernel
theorem dX8_seek_38 : decode cX8_seek 38 = .ok (.aload_n 0, 1) := by decide +kernel
theorem dX8_seek_39 : decode cX8_seek 39 = .ok (.aload_n 1, 1) := by decide +kernel
theorem dX8_seek_40 : decode cX8_seek 40 = .ok (.getfield 38, 3) := by decide +kernel
theorem dX8_seek_43 : decode cX8_seek 43 = .ok (.iload_n 2, 1) := by decide +kernel
theorem dX8_seek_44 : decode cX8_seek 44 = .ok (.invokevirtual 51, 3) := by decide +kernel
theorem dX8_seek_47 : decode cX8_seek 47 = .ok (.aload_n 0, 1) := by decide +kernel
theorem dX8_seek_48 : decode cX8_seek 48 = .ok (.getfield 25, 3) := by decide +kernel
theorem dX8_seek_51 : decode cX8_seek 51 = .ok (.iconst 0, 1) := by decide +kernel
theorem dX8_seek_52 : decode cX8_seek 52 = .ok (.iaload, 1) := by decide +kernel
theorem dX8_seek_53 : decode cX8_seek 53 = .ok (.ireturn, 1) := by decide +kernel
theorem dX8_weigh_0 : decode cX8_weigh 0 = .ok (.iconst 0, 1) := by decide +kernel
theorem dX8_weigh_1 : decode cX8_weigh 1 = .ok (.istore_n 3, 1) := by decide +kernel
theorem dX8_weigh_2 : decode cX8_weigh 2 = .ok (.iload_n 3, 1) := by decide +kernel
theorem dX8_weigh_3 : decode cX8_weigh 3 = .ok (.iload_n 2, 1) := by decide +kernel
theorem dX8_weigh_4 : decode cX8_weigh 4 = .ok (.if_icmp .ge 43, 3) := by decide +kernel
theorem dX8_weigh_7 : decode cX8_weigh 7 = .ok (.iconst 0, 1) := by decide +kernel
theorem dX8_weigh_8 : decode cX8_weigh 8 = .ok (.istore 4, 2) := by decide +kernel
theorem dX8_weigh_10 : decode cX8_weigh 10 = .ok (.iload 4, 2) := by decide +kernel
theorem dX8_weigh_12 : decode cX8_weigh 12 = .ok (.iconst 4, 1) := by decide +kernel
theorem dX8_weigh_13 : decode cX8_weigh 13 = .ok (.if_icmp .ge 28, 3) := by decide +kernel
theorem dX8_weigh_16 : decode cX8_weigh 16 = .ok (.aload_n 0, 1) := by decide +kernel
theorem dX8_weigh_17 : decode cX8_weigh 17 = .ok (.iload_n 3, 1) := by decide +kernel
theorem dX8_weigh_18 : decode cX8_weigh 18 = .ok (.iload 4, 2) := by decide +kernel
theorem dX8_weigh_20 : decode cX8_weigh 20 = .ok (.aload_n 1, 1) := by decide +kernel
theorem dX8_weigh_21 : decode cX8_weigh 21 = .ok (.getfield 55, 3) := by decide +kernel
theorem dX8_weigh_24 : decode cX8_weigh 24 = .ok (.iload_n 3, 1) := by decide +kernel
theorem dX8_weigh_25 : decode cX8_weigh 25 = .ok (.iaload, 1) := by decide +kernel
theorem dX8_weigh_26 : decode cX8_weigh 26 = .ok (.aload_n 1, 1) := by decide +kernel
theorem dX8_weigh_27 : decode cX8_weigh 27 = .ok (.getfield 60, 3) := by decide +kernel
theorem dX8_weigh_30 : decode cX8_weigh 30 = .ok (.iload_n 3, 1) := by decide +kernel
theorem dX8_weigh_31 : decode cX8_weigh 31 = .ok (.iaload, 1) := by decide +kernel
theorem dX8_weigh_32 : decode cX8_weigh 32 = .ok (.invokevirtual 63, 3) := by decide +kernel
theorem dX8_weigh_35 : decode cX8_weigh 35 = .ok (.iinc 4 1, 3) := by decide +kernel
theorem dX8_weigh_38 : decode cX8_weigh 38 = .ok (.goto (-28), 3) := by decide +kernel
theorem dX8_weigh_41 : decode cX8_weigh 41 = .ok (.iinc 3 1, 3) := by decide +kernel
theorem dX8_weigh_44 : decode cX8_weigh 44 = .ok (.goto (-42), 3) := by decide +kernel
theorem dX8_weigh_47 : decode cX8_weigh 47 = .ok (.return_, 1) := by decide +kernel
theorem dX8_choose_0 : decode cX8_choose 0 = .ok (.iload_n 1, 1) := by decide +kernel
theorem dX8_choose_1 : decode cX8_choose 1 = .ok (.iconst 4, 1) := by decide +kernel
theorem dX8_choose_2 : decode cX8_choose 2 = .ok (.imul, 1) := by decide +kernel
theorem dX8_choose_3 : decode cX8_choose 3 = .ok (.iload_n 2, 1) := by decide +kernel
theorem dX8_choose_4 : decode cX8_choose 4 = .ok (.iadd, 1) := by decide +kernel
theorem dX8_choose_5 : decode cX8_choose 5 = .ok (.istore 5, 2) := by decide +kernel
theorem dX8_choose_7 : decode cX8_choose 7 = .ok (.aload_n 0, 1) := by decide +kernel
theorem dX8_choose_8 : decode cX8_choose 8 = .ok (.getfield 22, 3) := by decide +kernel
theorem dX8_choose_11 : decode cX8_choose 11 = .ok (.iload 5, 2) := by decide +kernel
theorem dX8_choose_13 : decode cX8_choose 13 = .ok (.ldc 50, 2) := by decide +kernel
theorem dX8_choose_15 : decode cX8_choose 15 = .ok (.iastore, 1) := by decide +kernel
theorem dX8_choose_16 : decode cX8_choose 16 = .ok (.iconst 0, 1) := by decide +kernel
theorem dX8_choose_17 : decode cX8_choose 17 = .ok (.istore 6, 2) := by decide +kernel
theorem dX8_choose_19 : decode cX8_choose 19 = .ok (.iload 6, 2) := by decide +kernel
theorem dX8_choose_21 : decode cX8_choose 21 = .ok (.iconst 4, 1) := by decide +kernel
theorem dX8_choose_22 : decode cX8_choose 22 = .ok (.if_icmp .ge 53, 3) := by decide +kernel
theorem dX8_choose_25 : decode cX8_choose 25 = .ok (.iload_n 2, 1) := by decide +kernel
theorem dX8_choose_26 : decode cX8_choose 26 = .ok (.iload 6, 2) := by decide +kernel
theorem dX8_choose_28 : decode cX8_choose 28 = .ok (.invokestatic 67, 3) := by decide +kernel
theorem dX8_choose_31 : decode cX8_choose 31 = .ok (.iload_n 3, 1) := by decide +kernel
theorem dX8_choose_32 : decode cX8_choose 32 = .ok (.iload 4, 2) := by decide +kernel
theorem dX8_choose_34 : decode cX8_choose 34 = .ok (.invokestatic 73, 3) := by decide +kernel
theorem dX8_choose_37 : decode cX8_choose 37 = .ok (.istore 7, 2) := by decide +kernel
theorem dX8_choose_39 : decode cX8_choose 39 = .ok (.iload 7, 2) := by decide +kernel
theorem dX8_choose_41 : decode cX8_choose 41 = .ok (.aload_n 0, 1) := by decide +kernel
theorem dX8_choose_42 : decode cX8_choose 42 = .ok (.getfield 22, 3) := by decide +kernel
theorem dX8_choose_45 : decode cX8_choose 45 = .ok (.iload 5, 2) := by decide +kernel
theorem dX8_choose_47 : decode cX8_choose 47 = .ok (.iaload, 1) := by decide +kernel
theorem dX8_choose_48 : decode cX8_choose 48 = .ok (.if_icmp .ge 21, 3) := by decide +kernel
theorem dX8_choose_51 : decode cX8_choose 51 = .ok (.aload_n 0, 1) := by decide +kernel
theorem dX8_choose_52 : decode cX8_choose 52 = .ok (.getfield 22, 3) := by decide +kernel
theorem dX8_choose_55 : decode cX8_choose 55 = .ok (.iload 5, 2) := by decide +kernel
theorem dX8_choose_57 : decode cX8_choose 57 = .ok (.iload 7, 2) := by decide +kernel
theorem dX8_choose_59 : decode cX8_choose 59 = .ok (.iastore, 1) := by decide +kernel
theorem dX8_choose_60 : decode cX8_choose 60 = .ok (.aload_n 0, 1) := by decide +kernel
theorem dX8_choose_61 : decode cX8_choose 61 = .ok (.getfield 18, 3) := by decide +kernel
theorem dX8_choose_64 : decode cX8_choose 64 = .ok (.iload 5, 2) := by decide +kernel
theorem dX8_choose_66 : decode cX8_choose 66 = .ok (.iload 6, 2) := by decide +kernel
theorem dX8_choose_68 : decode cX8_choose 68 = .ok (.iastore, 1) := by decide +kernel
theorem dX8_choose_69 : decode cX8_choose 69 = .ok (.iinc 6 1, 3) := by decide +kernel
theorem dX8_choose_72 : decode cX8_choose 72 = .ok (.goto (-53), 3) := by decide +kernel
theorem dX8_choose_75 : decode cX8_choose 75 = .ok (.return_, 1) := by decide +kernel
theorem dX8_reckon_0 : decode cX8_reckon 0 = .ok (.iconst 0, 1) := by decide +kernel
theorem dX8_reckon_1 : decode cX8_reckon 1 = .ok (.istore 4, 2) := by decide +kernel
theorem dX8_reckon_3 : decode cX8_reckon 3 = .ok (.iload 4, 2) := by decide +kernel
theorem dX8_reckon_5 : decode cX8_reckon 5 = .ok (.bipush 8, 2) := by decide +kernel
theorem dX8_reckon_7 : decode cX8_reckon 7 = .ok (.if_icmp .ge 38, 3) := by decide +kernel
theorem dX8_reckon_10 : decode cX8_reckon 10 = .ok (.aload_n 0, 1) := by decide +kernel
theorem dX8_reckon_11 : decode cX8_reckon 11 = .ok (.getfield 25, 3) := by decide +kernel
theorem dX8_reckon_14 : decode cX8_reckon 14 = .ok (.iload_n 2, 1) := by decide +kernel
theorem dX8_reckon_15 : decode cX8_reckon 15 = .ok (.bipush 8, 2) := by decide +kernel
theorem dX8_reckon_17 : decode cX8_reckon 17 = .ok (.imul, 1) := by decide +kernel
theorem dX8_reckon_18 : decode cX8_reckon 18 = .ok (.iload 4, 2) := by decide +kernel
theorem dX8_reckon_20 : decode cX8_reckon 20 = .ok (.iadd, 1) := by decide +kernel
theorem dX8_reckon_21 : decode cX8_reckon 21 = .ok (.iload_n 3, 1) := by decide +kernel
theorem dX8_reckon_22 : decode cX8_reckon 22 = .ok (.iconst (-1), 1) := by decide +kernel
theorem dX8_reckon_23 : decode cX8_reckon 23 = .ok (.if_icmp .eq 9, 3) := by decide +kernel
theorem dX8_reckon_26 : decode cX8_reckon 26 = .ok (.iload_n 3, 1) := by decide +kernel
theorem dX8_reckon_27 : decode cX8_reckon 27 = .ok (.iload 4, 2) := by decide +kernel
theorem dX8_reckon_29 : decode cX8_reckon 29 = .ok (.if_icmp .ne 7, 3) := by decide +kernel
theorem dX8_reckon_32 : decode cX8_reckon 32 = .ok (.iconst 0, 1) := by decide +kernel
theorem dX8_reckon_33 : decode cX8_reckon 33 = .ok (.goto 5, 3) := by decide +kernel
theorem dX8_reckon_36 : decode cX8_reckon 36 = .ok (.ldc 50, 2) := by decide +kernel
theorem dX8_reckon_38 : decode cX8_reckon 38 = .ok (.iastore, 1) := by decide +kernel
theorem dX8_reckon_39 : decode cX8_reckon 39 = .ok (.iinc 4 1, 3) := by decide +kernel
theorem dX8_reckon_42 : decode cX8_reckon 42 = .ok (.goto (-39), 3) := by decide +kernel
theorem dX8_reckon_45 : decode cX8_reckon 45 = .ok (.iload_n 2, 1) := by decide +kernel
theorem dX8_reckon_46 : decode cX8_reckon 46 = .ok (.iconst 1, 1) := by decide +kernel
theorem dX8_reckon_47 : decode cX8_reckon 47 = .ok (.isub, 1) := by decide +kernel
theorem dX8_reckon_48 : decode cX8_reckon 48 = .ok (.istore 4, 2) := by decide +kernel
theorem dX8_reckon_50 : decode cX8_reckon 50 = .ok (.iload 4, 2) := by decide +kernel
theorem dX8_reckon_52 : decode cX8_reckon 52 = .ok (.ifCond .lt 63, 3) := by decide +kernel
theorem dX8_reckon_55 : decode cX8_reckon 55 = .ok (.iconst 0, 1) := by decide +kernel
theorem dX8_reckon_56 : decode cX8_reckon 56 = .ok (.istore 5, 2) := by decide +kernel
theorem dX8_reckon_58 : decode cX8_reckon 58 = .ok (.iload 5, 2) := by decide +kernel
theorem dX8_reckon_60 : decode cX8_reckon 60 = .ok (.aload_n 1, 1) := by decide +kernel
theorem dX8_reckon_61 : decode cX8_reckon 61 = .ok (.invokevirtual 77, 3) := by decide +kernel
theorem dX8_reckon_64 : decode cX8_reckon 64 = .ok (.if_icmp .ge 45, 3) := by decide +kernel
theorem dX8_reckon_67 : decode cX8_reckon 67 = .ok (.aload_n 0, 1) := by decide +kernel
theorem dX8_reckon_68 : decode cX8_reckon 68 = .ok (.getfield 25, 3) := by decide +kernel
theorem dX8_reckon_71 : decode cX8_reckon 71 = .ok (.iload 4, 2) := by decide +kernel
theorem dX8_reckon_73 : decode cX8_reckon 73 = .ok (.bipush 8, 2) := by decide +kernel
theorem dX8_reckon_75 : decode cX8_reckon 75 = .ok (.imul, 1) := by decide +kernel
theorem dX8_reckon_76 : decode cX8_reckon 76 = .ok (.iload 5, 2) := by decide +kernel
theorem dX8_reckon_78 : decode cX8_reckon 78 = .ok (.iadd, 1) := by decide +kernel
theorem dX8_reckon_79 : decode cX8_reckon 79 = .ok (.aload_n 0, 1) := by decide +kernel
theorem dX8_reckon_80 : decode cX8_reckon 80 = .ok (.aload_n 1, 1) := by decide +kernel
theorem dX8_reckon_81 : decode cX8_reckon 81 = .ok (.iload 4, 2) := by decide +kernel
theorem dX8_reckon_83 : decode cX8_reckon 83 = .ok (.iload 5, 2) := by decide +kernel
theorem dX8_reckon_85 : decode cX8_reckon 85 = .ok (.iconst 0, 1) := by decide +kernel
theorem dX8_reckon_86 : decode cX8_reckon 86 = .ok (.invokevirtual 83, 3) := by decide +kernel
theorem dX8_reckon_89 : decode cX8_reckon 89 = .ok (.aload_n 0, 1) := by decide +kernel
theorem dX8_reckon_90 : decode cX8_reckon 90 = .ok (.aload_n 1, 1) := by decide +kernel
theorem dX8_reckon_91 : decode cX8_reckon 91 = .ok (.iload 4, 2) := by decide +kernel
theorem dX8_reckon_93 : decode cX8_reckon 93 = .ok (.iload 5, 2) := by decide +kernel
theorem dX8_reckon_95 : decode cX8_reckon 95 = .ok (.iconst 1, 1) := by decide +kernel
theorem dX8_reckon_96 : decode cX8_reckon 96 = .ok (.invokevirtual 83, 3) := by decide +kernel
theorem dX8_reckon_99 : decode cX8_reckon 99 = .ok (.invokestatic 87, 3) := by decide +kernel
theorem dX8_reckon_102 : decode cX8_reckon 102 = .ok (.iastore, 1) := by decide +kernel
theorem dX8_reckon_103 : decode cX8_reckon 103 = .ok (.iinc 5 1, 3) := by decide +kernel
theorem dX8_reckon_106 : decode cX8_reckon 106 = .ok (.goto (-48), 3) := by decide +kernel
theorem dX8_reckon_109 : decode cX8_reckon 109 = .ok (.iinc 4 (-1), 3) := by decide +kernel
theorem dX8_reckon_112 : decode cX8_reckon 112 = .ok (.goto (-62), 3) := by decide +kernel
theorem dX8_reckon_115 : decode cX8_reckon 115 = .ok (.return_, 1) := by decide +kernel
theorem dX8_restBy_0 : decode cX8_restBy 0 = .ok (.aload_n 0, 1) := by decide +kernel
theorem dX8_restBy_1 : decode cX8_restBy 1 = .ok (.getfield 25, 3) := by decide +kernel
theorem dX8_restBy_4 : decode cX8_restBy 4 = .ok (.iload_n 2, 1) := by decide +kernel
theorem dX8_restBy_5 : decode cX8_restBy 5 = .ok (.iconst 1, 1) := by decide +kernel
theorem dX8_restBy_6 : decode cX8_restBy 6 = .ok (.iadd, 1) := by decide +kernel
theorem dX8_restBy_7 : decode cX8_restBy 7 = .ok (.bipush 8, 2) := by decide +kernel
theorem dX8_restBy_9 : decode cX8_restBy 9 = .ok (.imul, 1) := by decide +kernel
theorem dX8_restBy_10 : decode cX8_restBy 10 = .ok (.aload_n 1, 1) := by decide +kernel
theorem dX8_restBy_11 : decode cX8_restBy 11 = .ok (.iload_n 3, 1) := by decide +kernel
theorem dX8_restBy_12 : decode cX8_restBy 12 = .ok (.iload 4, 2) := by decide +kernel
theorem dX8_restBy_14 : decode cX8_restBy 14 = .ok (.invokevirtual 92, 3) := by decide +kernel
theorem dX8_restBy_17 : decode cX8_restBy 17 = .ok (.iadd, 1) := by decide +kernel
theorem dX8_restBy_18 : decode cX8_restBy 18 = .ok (.iaload, 1) := by decide +kernel
theorem dX8_restBy_19 : decode cX8_restBy 19 = .ok (.istore 5, 2) := by decide +kernel
theorem dX8_restBy_21 : decode cX8_restBy 21 = .ok (.iload 5, 2) := by decide +kernel
theorem dX8_restBy_23 : decode cX8_restBy 23 = .ok (.ldc 50, 2) := by decide +kernel
theorem dX8_restBy_25 : decode cX8_restBy 25 = .ok (.if_icmp .ne 6, 3) := by decide +kernel
theorem dX8_restBy_28 : decode cX8_restBy 28 = .ok (.ldc 50, 2) := by decide +kernel
theorem dX8_restBy_30 : decode cX8_restBy 30 = .ok (.ireturn, 1) := by decide +kernel
theorem dX8_restBy_31 : decode cX8_restBy 31 = .ok (.iload 5, 2) := by decide +kernel
theorem dX8_restBy_33 : decode cX8_restBy 33 = .ok (.aload_n 0, 1) := by decide +kernel
theorem dX8_restBy_34 : decode cX8_restBy 34 = .ok (.getfield 22, 3) := by decide +kernel
theorem dX8_restBy_37 : decode cX8_restBy 37 = .ok (.iload_n 2, 1) := by decide +kernel
theorem dX8_restBy_38 : decode cX8_restBy 38 = .ok (.iconst 4, 1) := by decide +kernel
theorem dX8_restBy_39 : decode cX8_restBy 39 = .ok (.imul, 1) := by decide +kernel
theorem dX8_restBy_40 : decode cX8_restBy 40 = .ok (.aload_n 1, 1) := by decide +kernel
theorem dX8_restBy_41 : decode cX8_restBy 41 = .ok (.iload_n 3, 1) := by decide +kernel
theorem dX8_restBy_42 : decode cX8_restBy 42 = .ok (.iload 4, 2) := by decide +kernel
theorem dX8_restBy_44 : decode cX8_restBy 44 = .ok (.invokevirtual 95, 3) := by decide +kernel
theorem dX8_restBy_47 : decode cX8_restBy 47 = .ok (.iadd, 1) := by decide +kernel
theorem dX8_restBy_48 : decode cX8_restBy 48 = .ok (.iaload, 1) := by decide +kernel
theorem dX8_restBy_49 : decode cX8_restBy 49 = .ok (.iadd, 1) := by decide +kernel
theorem dX8_restBy_50 : decode cX8_restBy 50 = .ok (.ireturn, 1) := by decide +kernel
theorem dX8_walk_0 : decode cX8_walk 0 = .ok (.iconst 0, 1) := by decide +kernel
theorem dX8_walk_1 : decode cX8_walk 1 = .ok (.istore_n 3, 1) := by decide +kernel
theorem dX8_walk_2 : decode cX8_walk 2 = .ok (.iload_n 3, 1) := by decide +kernel
theorem dX8_walk_3 : decode cX8_walk 3 = .ok (.iload_n 2, 1) := by decide +kernel
theorem dX8_walk_4 : decode cX8_walk 4 = .ok (.if_icmp .ge 74, 3) := by decide +kernel
theorem dX8_walk_7 : decode cX8_walk 7 = .ok (.aload_n 0, 1) := by decide +kernel
theorem dX8_walk_8 : decode cX8_walk 8 = .ok (.getfield 12, 3) := by decide +kernel
theorem dX8_walk_11 : decode cX8_walk 11 = .ok (.invokevirtual 98, 3) := by decide +kernel
theorem dX8_walk_14 : decode cX8_walk 14 = .ok (.istore 4, 2) := by decide +kernel
theorem dX8_walk_16 : decode cX8_walk 16 = .ok (.aload_n 0, 1) := by decide +kernel
theorem dX8_walk_17 : decode cX8_walk 17 = .ok (.aload_n 1, 1) := by decide +kernel
theorem dX8_walk_18 : decode cX8_walk 18 = .ok (.iload_n 3, 1) := by decide +kernel
theorem dX8_walk_19 : decode cX8_walk 19 = .ok (.iload 4, 2) := by decide +kernel
theorem dX8_walk_21 : decode cX8_walk 21 = .ok (.iconst 0, 1) := by decide +kernel
theorem dX8_walk_22 : decode cX8_walk 22 = .ok (.invokevirtual 83, 3) := by decide +kernel
theorem dX8_walk_25 : decode cX8_walk 25 = .ok (.aload_n 0, 1) := by decide +kernel
theorem dX8_walk_26 : decode cX8_walk 26 = .ok (.aload_n 1, 1) := by decide +kernel
theorem dX8_walk_27 : decode cX8_walk 27 = .ok (.iload_n 3, 1) := by decide +kernel
theorem dX8_walk_28 : decode cX8_walk 28 = .ok (.iload 4, 2) := by decide +kernel
theorem dX8_walk_30 : decode cX8_walk 30 = .ok (.iconst 1, 1) := by decide +kernel
theorem dX8_walk_31 : decode cX8_walk 31 = .ok (.invokevirtual 83, 3) := by decide +kernel
theorem dX8_walk_34 : decode cX8_walk 34 = .ok (.if_icmp .gt 7, 3) := by decide +kernel
theorem dX8_walk_37 : decode cX8_walk 37 = .ok (.iconst 0, 1) := by decide +kernel
theorem dX8_walk_38 : decode cX8_walk 38 = .ok (.goto 4, 3) := by decide +kernel
theorem dX8_walk_41 : decode cX8_walk 41 = .ok (.iconst 1, 1) := by decide +kernel
theorem dX8_walk_42 : decode cX8_walk 42 = .ok (.istore 5, 2) := by decide +kernel
theorem dX8_walk_44 : decode cX8_walk 44 = .ok (.aload_n 0, 1) := by decide +kernel
theorem dX8_walk_45 : decode cX8_walk 45 = .ok (.getfield 12, 3) := by decide +kernel
theorem dX8_walk_48 : decode cX8_walk 48 = .ok (.aload_n 1, 1) := by decide +kernel
theorem dX8_walk_49 : decode cX8_walk 49 = .ok (.iload 5, 2) := by decide +kernel
theorem dX8_walk_51 : decode cX8_walk 51 = .ok (.aload_n 0, 1) := by decide +kernel
theorem dX8_walk_52 : decode cX8_walk 52 = .ok (.getfield 18, 3) := by decide +kernel
theorem dX8_walk_55 : decode cX8_walk 55 = .ok (.iload_n 3, 1) := by decide +kernel
theorem dX8_walk_56 : decode cX8_walk 56 = .ok (.iconst 4, 1) := by decide +kernel
theorem dX8_walk_57 : decode cX8_walk 57 = .ok (.imul, 1) := by decide +kernel
theorem dX8_walk_58 : decode cX8_walk 58 = .ok (.aload_n 1, 1) := by decide +kernel
theorem dX8_walk_59 : decode cX8_walk 59 = .ok (.iload 4, 2) := by decide +kernel
theorem dX8_walk_61 : decode cX8_walk 61 = .ok (.iload 5, 2) := by decide +kernel
theorem dX8_walk_63 : decode cX8_walk 63 = .ok (.invokevirtual 95, 3) := by decide +kernel
theorem dX8_walk_66 : decode cX8_walk 66 = .ok (.iadd, 1) := by decide +kernel
theorem dX8_walk_67 : decode cX8_walk 67 = .ok (.iaload, 1) := by decide +kernel
theorem dX8_walk_68 : decode cX8_walk 68 = .ok (.invokevirtual 101, 3) := by decide +kernel
theorem dX8_walk_71 : decode cX8_walk 71 = .ok (.pop, 1) := by decide +kernel
theorem dX8_walk_72 : decode cX8_walk 72 = .ok (.iinc 3 1, 3) := by decide +kernel
theorem dX8_walk_75 : decode cX8_walk 75 = .ok (.goto (-73), 3) := by decide +kernel
theorem dX8_walk_78 : decode cX8_walk 78 = .ok (.return_, 1) := by decide +kernel
