theorem dX11_init_0 : decode cX11_init 0 = .ok (.aload_n 0, 1) := by decide +kernel
theorem dX11_init_1 : decode cX11_init 1 = .ok (.invokespecial 1, 3) := by decide +kernel
theorem dX11_init_4 : decode cX11_init 4 = .ok (.aload_n 0, 1) := by decide +kernel
theorem dX11_init_5 : decode cX11_init 5 = .ok (.bipush 102, 2) := by decide +kernel
theorem dX11_init_7 : decode cX11_init 7 = .ok (.newarray .int, 2) := by decide +kernel
theorem dX11_init_9 : decode cX11_init 9 = .ok (.putfield 7, 3) := by decide +kernel
theorem dX11_init_12 : decode cX11_init 12 = .ok (.aload_n 0, 1) := by decide +kernel
theorem dX11_init_13 : decode cX11_init 13 = .ok (.sipush 816, 3) := by decide +kernel
theorem dX11_init_16 : decode cX11_init 16 = .ok (.newarray .int, 2) := by decide +kernel
theorem dX11_init_18 : decode cX11_init 18 = .ok (.putfield 13, 3) := by decide +kernel
theorem dX11_init_21 : decode cX11_init 21 = .ok (.aload_n 0, 1) := by decide +kernel
theorem dX11_init_22 : decode cX11_init 22 = .ok (.sipush 204, 3) := by decide +kernel
theorem dX11_init_25 : decode cX11_init 25 = .ok (.newarray .int, 2) := by decide +kernel
theorem dX11_init_27 : decode cX11_init 27 = .ok (.putfield 16, 3) := by decide +kernel
theorem dX11_init_30 : decode cX11_init 30 = .ok (.aload_n 0, 1) := by decide +kernel
theorem dX11_init_31 : decode cX11_init 31 = .ok (.iconst 2, 1) := by decide +kernel
theorem dX11_init_32 : decode cX11_init 32 = .ok (.newarray .boolean, 2) := by decide +kernel
theorem dX11_init_34 : decode cX11_init 34 = .ok (.putfield 19, 3) := by decide +kernel
theorem dX11_init_37 : decode cX11_init 37 = .ok (.aload_n 0, 1) := by decide +kernel
theorem dX11_init_38 : decode cX11_init 38 = .ok (.sipush 200, 3) := by decide +kernel
theorem dX11_init_41 : decode cX11_init 41 = .ok (.newarray .int, 2) := by decide +kernel
theorem dX11_init_43 : decode cX11_init 43 = .ok (.putfield 23, 3) := by decide +kernel
theorem dX11_init_46 : decode cX11_init 46 = .ok (.aload_n 0, 1) := by decide +kernel
theorem dX11_init_47 : decode cX11_init 47 = .ok (.bipush 24, 2) := by decide +kernel
theorem dX11_init_49 : decode cX11_init 49 = .ok (.newarray .int, 2) := by decide +kernel
theorem dX11_init_51 : decode cX11_init 51 = .ok (.putfield 26, 3) := by decide +kernel
theorem dX11_init_54 : decode cX11_init 54 = .ok (.aload_n 0, 1) := by decide +kernel
theorem dX11_init_55 : decode cX11_init 55 = .ok (.bipush 24, 2) := by decide +kernel
theorem dX11_init_57 : decode cX11_init 57 = .ok (.newarray .int, 2) := by decide +kernel
theorem dX11_init_59 : decode cX11_init 59 = .ok (.putfield 29, 3) := by decide +kernel
theorem dX11_init_62 : decode cX11_init 62 = .ok (.aload_n 0, 1) := by decide +kernel
theorem dX11_init_63 : decode cX11_init 63 = .ok (.bipush 24, 2) := by decide +kernel
theorem dX11_init_65 : decode cX11_init 65 = .ok (.newarray .int, 2) := by decide +kernel
theorem dX11_init_67 : decode cX11_init 67 = .ok (.putfield 32, 3) := by decide +kernel
theorem dX11_init_70 : decode cX11_init 70 = .ok (.aload_n 0, 1) := by decide +kernel
theorem dX11_init_71 : decode cX11_init 71 = .ok (.bipush 64, 2) := by decide +kernel
theorem dX11_init_73 : decode cX11_init 73 = .ok (.newarray .int, 2) := by decide +kernel
theorem dX11_init_75 : decode cX11_init 75 = .ok (.putfield 35, 3) := by decide +kernel
theorem dX11_init_78 : decode cX11_init 78 = .ok (.aload_n 0, 1) := by decide +kernel
theorem dX11_init_79 : decode cX11_init 79 = .ok (.bipush 64, 2) := by decide +kernel
theorem dX11_init_81 : decode cX11_init 81 = .ok (.newarray .int, 2) := by decide +kernel
theorem dX11_init_83 : decode cX11_init 83 = .ok (.putfield 38, 3) := by decide +kernel
theorem dX11_init_86 : decode cX11_init 86 = .ok (.aload_n 0, 1) := by decide +kernel
theorem dX11_init_87 : decode cX11_init 87 = .ok (.sipush 2048, 3) := by decide +kernel
theorem dX11_init_90 : decode cX11_init 90 = .ok (.newarray .boolean, 2) := by decide +kernel
theorem dX11_init_92 : decode cX11_init 92 = .ok (.putfield 41, 3) := by decide +kernel
theorem dX11_init_95 : decode cX11_init 95 = .ok (.aload_n 0, 1) := by decide +kernel
theorem dX11_init_96 : decode cX11_init 96 = .ok (.sipush 2048, 3) := by decide +kernel
theorem dX11_init_99 : decode cX11_init 99 = .ok (.newarray .int, 2) := by decide +kernel
theorem dX11_init_101 : decode cX11_init 101 = .ok (.putfield 44, 3) := by decide +kernel
theorem dX11_init_104 : decode cX11_init 104 = .ok (.aload_n 0, 1) := by decide +kernel
theorem dX11_init_105 : decode cX11_init 105 = .ok (.getfield 7, 3) := by decide +kernel
theorem dX11_init_108 : decode cX11_init 108 = .ok (.iconst 0, 1) := by decide +kernel
theorem dX11_init_109 : decode cX11_init 109 = .ok (.iconst 2, 1) := by decide +kernel
theorem dX11_init_110 : decode cX11_init 110 = .ok (.iastore, 1) := by decide +kernel
theorem dX11_init_111 : decode cX11_init 111 = .ok (.aload_n 0, 1) := by decide +kernel
theorem dX11_init_112 : decode cX11_init 112 = .ok (.getfield 7, 3) := by decide +kernel
theorem dX11_init_115 : decode cX11_init 115 = .ok (.iconst 1, 1) := by decide +kernel
theorem dX11_init_116 : decode cX11_init 116 = .ok (.iconst 5, 1) := by decide +kernel
theorem dX11_init_117 : decode cX11_init 117 = .ok (.iastore, 1) := by decide +kernel
theorem dX11_init_118 : decode cX11_init 118 = .ok (.aload_n 0, 1) := by decide +kernel
theorem dX11_init_119 : decode cX11_init 119 = .ok (.getfield 7, 3) := by decide +kernel
theorem dX11_init_122 : decode cX11_init 122 = .ok (.iconst 2, 1) := by decide +kernel
theorem dX11_init_123 : decode cX11_init 123 = .ok (.iconst 2, 1) := by decide +kernel
theorem dX11_init_124 : decode cX11_init 124 = .ok (.iastore, 1) := by decide +kernel
theorem dX11_init_125 : decode cX11_init 125 = .ok (.aload_n 0, 1) := by decide +kernel
theorem dX11_init_126 : decode cX11_init 126 = .ok (.getfield 7, 3) := by decide +kernel
theorem dX11_init_129 : decode cX11_init 129 = .ok (.iconst 3, 1) := by decide +kernel
theorem dX11_init_130 : decode cX11_init 130 = .ok (.iconst (-1), 1) := by decide +kernel
theorem dX11_init_131 : decode cX11_init 131 = .ok (.iastore, 1) := by decide +kernel
theorem dX11_init_132 : decode cX11_init 132 = .ok (.return_, 1) := by decide +kernel
theorem dX11_in_0 : decode cX11_in 0 = .ok (.iload_n 0, 1) := by decide +kernel
theorem dX11_in_1 : decode cX11_in 1 = .ok (.iload_n 1, 1) := by decide +kernel
theorem dX11_in_2 : decode cX11_in 2 = .ok (.if_icmp .lt 12, 3) := by decide +kernel
theorem dX11_in_5 : decode cX11_in 5 = .ok (.iload_n 0, 1) := by decide +kernel
theorem dX11_in_6 : decode cX11_in 6 = .ok (.iload_n 2, 1) := by decide +kernel
theorem dX11_in_7 : decode cX11_in 7 = .ok (.if_icmp .gt 7, 3) := by decide +kernel
theorem dX11_in_10 : decode cX11_in 10 = .ok (.iconst 1, 1) := by decide +kernel
theorem dX11_in_11 : decode cX11_in 11 = .ok (.goto 4, 3) := by decide +kernel
theorem dX11_in_14 : decode cX11_in 14 = .ok (.iconst 0, 1) := by decide +kernel
theorem dX11_in_15 : decode cX11_in 15 = .ok (.ireturn, 1) := by decide +kernel
theorem dX11_xOf_0 : decode cX11_xOf 0 = .ok (.bipush 20, 2) := by decide +kernel
theorem dX11_xOf_2 : decode cX11_xOf 2 = .ok (.iload_n 0, 1) := by decide +kernel
theorem dX11_xOf_3 : decode cX11_xOf 3 = .ok (.iconst 4, 1) := by decide +kernel
theorem dX11_xOf_4 : decode cX11_xOf 4 = .ok (.idiv, 1) := by decide +kernel
theorem dX11_xOf_5 : decode cX11_xOf 5 = .ok (.imul, 1) := by decide +kernel
theorem dX11_xOf_6 : decode cX11_xOf 6 = .ok (.bipush 30, 2) := by decide +kernel
theorem dX11_xOf_8 : decode cX11_xOf 8 = .ok (.isub, 1) := by decide +kernel
theorem dX11_xOf_9 : decode cX11_xOf 9 = .ok (.ireturn, 1) := by decide +kernel
theorem dX11_yOf_0 : decode cX11_yOf 0 = .ok (.bipush 20, 2) := by decide +kernel
theorem dX11_yOf_2 : decode cX11_yOf 2 = .ok (.iload_n 0, 1) := by decide +kernel
theorem dX11_yOf_3 : decode cX11_yOf 3 = .ok (.iconst 4, 1) := by decide +kernel
theorem dX11_yOf_4 : decode cX11_yOf 4 = .ok (.irem, 1) := by decide +kernel
theorem dX11_yOf_5 : decode cX11_yOf 5 = .ok (.imul, 1) := by decide +kernel
theorem dX11_yOf_6 : decode cX11_yOf 6 = .ok (.bipush 30, 2) := by decide +kernel
theorem dX11_yOf_8 : decode cX11_yOf 8 = .ok (.isub, 1) := by decide +kernel
theorem dX11_yOf_9 : decode cX11_yOf 9 = .ok (.ireturn, 1) := by decide +kernel
theorem dX11_familyOf_0 : decode cX11_familyOf 0 = .ok (.iload_n 0, 1) := by decide +kernel
theorem dX11_familyOf_1 : decode cX11_familyOf 1 = .ok (.iconst 4, 1) := by decide +kernel
theorem dX11_familyOf_2 : decode cX11_familyOf 2 = .ok (.idiv, 1) := by decide +kernel
theorem dX11_familyOf_3 : decode cX11_familyOf 3 = .ok (.istore_n 1, 1) := by decide +kernel
theorem dX11_familyOf_4 : decode cX11_familyOf 4 = .ok (.iload_n 0, 1) := by decide +kernel
theorem dX11_familyOf_5 : decode cX11_familyOf 5 = .ok (.iconst 4, 1) := by decide +kernel
theorem dX11_familyOf_6 : decode cX11_familyOf 6 = .ok (.irem, 1) := by decide +kernel
theorem dX11_familyOf_7 : decode cX11_familyOf 7 = .ok (.istore_n 2, 1) := by decide +kernel
theorem dX11_familyOf_8 : decode cX11_familyOf 8 = .ok (.iconst 2, 1) := by decide +kernel
theorem dX11_familyOf_9 : decode cX11_familyOf 9 = .ok (.iload_n 1, 1) := by decide +kernel
theorem dX11_familyOf_10 : decode cX11_familyOf 10 = .ok (.iload_n 2, 1) := by decide +kernel
theorem dX11_familyOf_11 : decode cX11_familyOf 11 = .ok (.iadd, 1) := by decide +kernel
theorem dX11_familyOf_12 : decode cX11_familyOf 12 = .ok (.iconst 2, 1) := by decide +kernel
theorem dX11_familyOf_13 : decode cX11_familyOf 13 = .ok (.irem, 1) := by decide +kernel
theorem dX11_familyOf_14 : decode cX11_familyOf 14 = .ok (.imul, 1) := by decide +kernel
theorem dX11_familyOf_15 : decode cX11_familyOf 15 = .ok (.iload_n 2, 1) := by decide +kernel
theorem dX11_familyOf_16 : decode cX11_familyOf 16 = .ok (.iconst 2, 1) := by decide +kernel
theorem dX11_familyOf_17 : decode cX11_familyOf 17 = .ok (.irem, 1) := by decide +kernel
theorem dX11_familyOf_18 : decode cX11_familyOf 18 = .ok (.iadd, 1) := by decide +kernel
theorem dX11_familyOf_19 : decode cX11_familyOf 19 = .ok (.ireturn, 1) := by decide +kernel
theorem dX11_turn_0 : decode cX11_turn 0 = .ok (.iconst 4, 1) := by decide +kernel
theorem dX11_turn_1 : decode cX11_turn 1 = .ok (.iconst 3, 1) := by decide +kernel
theorem dX11_turn_2 : decode cX11_turn 2 = .ok (.iload_n 0, 1) := by decide +kernel
theorem dX11_turn_3 : decode cX11_turn 3 = .ok (.iconst 4, 1) := by decide +kernel
theorem dX11_turn_4 : decode cX11_turn 4 = .ok (.irem, 1) := by decide +kernel
theorem dX11_turn_5 : decode cX11_turn 5 = .ok (.isub, 1) := by decide +kernel
theorem dX11_turn_6 : decode cX11_turn 6 = .ok (.imul, 1) := by decide +kernel
theorem dX11_turn_7 : decode cX11_turn 7 = .ok (.iload_n 0, 1) := by decide +kernel
theorem dX11_turn_8 : decode cX11_turn 8 = .ok (.iconst 4, 1) := by decide +kernel
theorem dX11_turn_9 : decode cX11_turn 9 = .ok (.idiv, 1) := by decide +kernel
theorem dX11_turn_10 : decode cX11_turn 10 = .ok (.iadd, 1) := by decide +kernel
theorem dX11_turn_11 : decode cX11_turn 11 = .ok (.ireturn, 1) := by decide +kernel
theorem dX11_memberOf_0 : decode cX11_memberOf 0 = .ok (.iload_n 1, 1) := by decide +kernel
theorem dX11_memberOf_1 : decode cX11_memberOf 1 = .ok (.istore_n 2, 1) := by decide +kernel
theorem dX11_memberOf_2 : decode cX11_memberOf 2 = .ok (.iconst 0, 1) := by decide +kernel
theorem dX11_memberOf_3 : decode cX11_memberOf 3 = .ok (.istore_n 3, 1) := by decide +kernel
theorem dX11_memberOf_4 : decode cX11_memberOf 4 = .ok (.iload_n 3, 1) := by decide +kernel
theorem dX11_memberOf_5 : decode cX11_memberOf 5 = .ok (.invokestatic 47, 3) := by decide +kernel
theorem dX11_memberOf_8 : decode cX11_memberOf 8 = .ok (.iload_n 0, 1) := by decide +kernel
theorem dX11_memberOf_9 : decode cX11_memberOf 9 = .ok (.if_icmp .ne 7, 3) := by decide +kernel
theorem dX11_memberOf_12 : decode cX11_memberOf 12 = .ok (.iload_n 2, 1) := by decide +kernel
theorem dX11_memberOf_13 : decode cX11_memberOf 13 = .ok (.ifCond .le 25, 3) := by decide +kernel
theorem dX11_memberOf_16 : decode cX11_memberOf 16 = .ok (.iload_n 2, 1) := by decide +kernel
theorem dX11_memberOf_17 : decode cX11_memberOf 17 = .ok (.iload_n 3, 1) := by decide +kernel
theorem dX11_memberOf_18 : decode cX11_memberOf 18 = .ok (.invokestatic 47, 3) := by decide +kernel
theorem dX11_memberOf_21 : decode cX11_memberOf 21 = .ok (.iload_n 0, 1) := by decide +kernel
theorem dX11_memberOf_22 : decode cX11_memberOf 22 = .ok (.if_icmp .ne 7, 3) := by decide +kernel
theorem dX11_memberOf_25 : decode cX11_memberOf 25 = .ok (.iconst 1, 1) := by decide +kernel
theorem dX11_memberOf_26 : decode cX11_memberOf 26 = .ok (.goto 4, 3) := by decide +kernel
theorem dX11_memberOf_29 : decode cX11_memberOf 29 = .ok (.iconst 0, 1) := by decide +kernel
theorem dX11_memberOf_30 : decode cX11_memberOf 30 = .ok (.isub, 1) := by decide +kernel
theorem dX11_memberOf_31 : decode cX11_memberOf 31 = .ok (.istore_n 2, 1) := by decide +kernel
theorem dX11_memberOf_32 : decode cX11_memberOf 32 = .ok (.iinc 3 1, 3) := by decide +kernel
theorem dX11_memberOf_35 : decode cX11_memberOf 35 = .ok (.goto (-31), 3) := by decide +kernel
theorem dX11_memberOf_38 : decode cX11_memberOf 38 = .ok (.iload_n 3, 1) := by decide +kernel
theorem dX11_memberOf_39 : decode cX11_memberOf 39 = .ok (.ireturn, 1) := by decide +kernel
theorem dX11_orderOf_0 : decode cX11_orderOf 0 = .ok (.iconst 0, 1) := by decide +kernel
theorem dX11_orderOf_1 : decode cX11_orderOf 1 = .ok (.istore_n 1, 1) := by decide +kernel
theorem dX11_orderOf_2 : decode cX11_orderOf 2 = .ok (.iconst 0, 1) := by decide +kernel
theorem dX11_orderOf_3 : decode cX11_orderOf 3 = .ok (.istore_n 2, 1) := by decide +kernel
theorem dX11_orderOf_4 : decode cX11_orderOf 4 = .ok (.iload_n 2, 1) := by decide +kernel
theorem dX11_orderOf_5 : decode cX11_orderOf 5 = .ok (.iload_n 0, 1) := by decide +kernel
theorem dX11_orderOf_6 : decode cX11_orderOf 6 = .ok (.if_icmp .ge 28, 3) := by decide +kernel
theorem dX11_orderOf_9 : decode cX11_orderOf 9 = .ok (.iload_n 1, 1) := by decide +kernel
theorem dX11_orderOf_10 : decode cX11_orderOf 10 = .ok (.iload_n 2, 1) := by decide +kernel
theorem dX11_orderOf_11 : decode cX11_orderOf 11 = .ok (.invokestatic 47, 3) := by decide +kernel
theorem dX11_orderOf_14 : decode cX11_orderOf 14 = .ok (.iload_n 0, 1) := by decide +kernel
theorem dX11_orderOf_15 : decode cX11_orderOf 15 = .ok (.invokestatic 47, 3) := by decide +kernel
theorem dX11_orderOf_18 : decode cX11_orderOf 18 = .ok (.if_icmp .ne 7, 3) := by decide +kernel
theorem dX11_orderOf_21 : decode cX11_orderOf 21 = .ok (.iconst 1, 1) := by decide +kernel
theorem dX11_orderOf_22 : decode cX11_orderOf 22 = .ok (.goto 4, 3) := by decide +kernel
theorem dX11_orderOf_25 : decode cX11_orderOf 25 = .ok (.iconst 0, 1) := by decide +kernel
theorem dX11_orderOf_26 : decode cX11_orderOf 26 = .ok (.iadd, 1) := by decide +kernel
theorem dX11_orderOf_27 : decode cX11_orderOf 27 = .ok (.istore_n 1, 1) := by decide +kernel
theorem dX11_orderOf_28 : decode cX11_orderOf 28 = .ok (.iinc 2 1, 3) := by decide +kernel
theorem dX11_orderOf_31 : decode cX11_orderOf 31 = .ok (.goto (-27), 3) := by decide +kernel
theorem dX11_orderOf_34 : decode cX11_orderOf 34 = .ok (.iload_n 1, 1) := by decide +kernel
theorem dX11_orderOf_35 : decode cX11_orderOf 35 = .ok (.ireturn, 1) := by decide +kernel
theorem dX11_far_0 : decode cX11_far 0 = .ok (.iload_n 0, 1) := by decide +kernel
theorem dX11_far_1 : decode cX11_far 1 = .ok (.invokestatic 51, 3) := by decide +kernel
theorem dX11_far_4 : decode cX11_far 4 = .ok (.iload_n 1, 1) := by decide +kernel
theorem dX11_far_5 : decode cX11_far 5 = .ok (.isub, 1) := by decide +kernel
theorem dX11_far_6 : decode cX11_far 6 = .ok (.istore_n 3, 1) := by decide +kernel
theorem dX11_far_7 : decode cX11_far 7 = .ok (.iload_n 0, 1) := by decide +kernel
theorem dX11_far_8 : decode cX11_far 8 = .ok (.invokestatic 54, 3) := by decide +kernel
theorem dX11_far_11 : decode cX11_far 11 = .ok (.iload_n 2, 1) := by decide +kernel
theorem dX11_far_12 : decode cX11_far 12 = .ok (.isub, 1) := by decide +kernel
theorem dX11_far_13 : decode cX11_far 13 = .ok (.istore 4, 2) := by decide +kernel
theorem dX11_far_15 : decode cX11_far 15 = .ok (.iload_n 3, 1) := by decide +kernel
theorem dX11_far_16 : decode cX11_far 16 = .ok (.iload_n 3, 1) := by decide +kernel
theorem dX11_far_17 : decode cX11_far 17 = .ok (.imul, 1) := by decide +kernel
theorem dX11_far_18 : decode cX11_far 18 = .ok (.iload 4, 2) := by decide +kernel
theorem dX11_far_20 : decode cX11_far 20 = .ok (.iload 4, 2) := by decide +kernel
theorem dX11_far_22 : decode cX11_far 22 = .ok (.imul, 1) := by decide +kernel
theorem dX11_far_23 : decode cX11_far 23 = .ok (.iadd, 1) := by decide +kernel
theorem dX11_far_24 : decode cX11_far 24 = .ok (.ireturn, 1) := by decide +kernel
theorem dX11_apartOf_0 : decode cX11_apartOf 0 = .ok (.ldc 57, 2) := by decide +kernel
theorem dX11_apartOf_2 : decode cX11_apartOf 2 = .ok (.istore_n 2, 1) := by decide +kernel
theorem dX11_apartOf_3 : decode cX11_apartOf 3 = .ok (.iconst 0, 1) := by decide +kernel
theorem dX11_apartOf_4 : decode cX11_apartOf 4 = .ok (.istore_n 3, 1) := by decide +kernel
theorem dX11_apartOf_5 : decode cX11_apartOf 5 = .ok (.iload_n 3, 1) := by decide +kernel
theorem dX11_apartOf_6 : decode cX11_apartOf 6 = .ok (.bipush 16, 2) := by decide +kernel
theorem dX11_apartOf_8 : decode cX11_apartOf 8 = .ok (.if_icmp .ge 89, 3) := by decide +kernel
theorem dX11_apartOf_11 : decode cX11_apartOf 11 = .ok (.iconst 0, 1) := by decide +kernel
theorem dX11_apartOf_12 : decode cX11_apartOf 12 = .ok (.istore 4, 2) := by decide +kernel
theorem dX11_apartOf_14 : decode cX11_apartOf 14 = .ok (.iload 4, 2) := by decide +kernel
theorem dX11_apartOf_16 : decode cX11_apartOf 16 = .ok (.bipush 16, 2) := by decide +kernel
theorem dX11_apartOf_18 : decode cX11_apartOf 18 = .ok (.if_icmp .ge 73, 3) := by decide +kernel
theorem dX11_apartOf_21 : decode cX11_apartOf 21 = .ok (.iload_n 3, 1) := by decide +kernel
theorem dX11_apartOf_22 : decode cX11_apartOf 22 = .ok (.invokestatic 47, 3) := by decide +kernel
theorem dX11_apartOf_25 : decode cX11_apartOf 25 = .ok (.iload_n 0, 1) := by decide +kernel
theorem dX11_apartOf_26 : decode cX11_apartOf 26 = .ok (.if_icmp .ne 22, 3) := by decide +kernel
theorem dX11_apartOf_29 : decode cX11_apartOf 29 = .ok (.iload 4, 2) := by decide +kernel
theorem dX11_apartOf_31 : decode cX11_apartOf 31 = .ok (.invokestatic 47, 3) := by decide +kernel
theorem dX11_apartOf_34 : decode cX11_apartOf 34 = .ok (.iload_n 1, 1) := by decide +kernel
theorem dX11_apartOf_35 : decode cX11_apartOf 35 = .ok (.if_icmp .ne 13, 3) := by decide +kernel
theorem dX11_apartOf_38 : decode cX11_apartOf 38 = .ok (.iload_n 3, 1) := by decide +kernel
theorem dX11_apartOf_39 : decode cX11_apartOf 39 = .ok (.iload 4, 2) := by decide +kernel
theorem dX11_apartOf_41 : decode cX11_apartOf 41 = .ok (.if_icmp .eq 7, 3) := by decide +kernel
theorem dX11_apartOf_44 : decode cX11_apartOf 44 = .ok (.iconst 1, 1) := by decide +kernel
theorem dX11_apartOf_45 : decode cX11_apartOf 45 = .ok (.goto 4, 3) := by decide +kernel
theorem dX11_apartOf_48 : decode cX11_apartOf 48 = .ok (.iconst 0, 1) := by decide +kernel
theorem dX11_apartOf_49 : decode cX11_apartOf 49 = .ok (.istore 5, 2) := by decide +kernel
theorem dX11_apartOf_51 : decode cX11_apartOf 51 = .ok (.iload_n 3, 1) := by decide +kernel
theorem dX11_apartOf_52 : decode cX11_apartOf 52 = .ok (.iload 4, 2) := by decide +kernel
theorem dX11_apartOf_54 : decode cX11_apartOf 54 = .ok (.invokestatic 51, 3) := by decide +kernel
theorem dX11_apartOf_57 : decode cX11_apartOf 57 = .ok (.iload 4, 2) := by decide +kernel
theorem dX11_apartOf_59 : decode cX11_apartOf 59 = .ok (.invokestatic 54, 3) := by decide +kernel
theorem dX11_apartOf_62 : decode cX11_apartOf 62 = .ok (.invokestatic 58, 3) := by decide +kernel
theorem dX11_apartOf_65 : decode cX11_apartOf 65 = .ok (.istore 6, 2) := by decide +kernel
theorem dX11_apartOf_67 : decode cX11_apartOf 67 = .ok (.iload 5, 2) := by decide +kernel
theorem dX11_apartOf_69 : decode cX11_apartOf 69 = .ok (.ifCond .eq 14, 3) := by decide +kernel
theorem dX11_apartOf_72 : decode cX11_apartOf 72 = .ok (.iload 6, 2) := by decide +kernel
theorem dX11_apartOf_74 : decode cX11_apartOf 74 = .ok (.iload_n 2, 1) := by decide +kernel
theorem dX11_apartOf_75 : decode cX11_apartOf 75 = .ok (.if_icmp .ge 8, 3) := by decide +kernel
theorem dX11_apartOf_78 : decode cX11_apartOf 78 = .ok (.iload 6, 2) := by decide +kernel
theorem dX11_apartOf_80 : decode cX11_apartOf 80 = .ok (.goto 4, 3) := by decide +kernel
theorem dX11_apartOf_83 : decode cX11_apartOf 83 = .ok (.iload_n 2, 1) := by decide +kernel
theorem dX11_apartOf_84 : decode cX11_apartOf 84 = .ok (.istore_n 2, 1) := by decide +kernel
theorem dX11_apartOf_85 : decode cX11_apartOf 85 = .ok (.iinc 4 1, 3) := by decide +kernel
theorem dX11_apartOf_88 : decode cX11_apartOf 88 = .ok (.goto (-74), 3) := by decide +kernel
theorem dX11_apartOf_91 : decode cX11_apartOf 91 = .ok (.iinc 3 1, 3) := by decide +kernel
theorem dX11_apartOf_94 : decode cX11_apartOf 94 = .ok (.goto (-89), 3) := by decide +kernel
theorem dX11_apartOf_97 : decode cX11_apartOf 97 = .ok (.iload_n 2, 1) := by decide +kernel
theorem dX11_apartOf_98 : decode cX11_apartOf 98 = .ok (.ireturn, 1) := by decide +kernel
theorem dX11_turnedFamily_0 : decode cX11_turnedFamily 0 = .ok (.iload_n 0, 1) := by decide +kernel
theorem dX11_turnedFamily_1 : decode cX11_turnedFamily 1 = .ok (.iconst 0, 1) := by decide +kernel
theorem dX11_turnedFamily_2 : decode cX11_turnedFamily 2 = .ok (.invokestatic 62, 3) := by decide +kernel
theorem dX11_turnedFamily_5 : decode cX11_turnedFamily 5 = .ok (.invokestatic 66, 3) := by decide +kernel
theorem dX11_turnedFamily_8 : decode cX11_turnedFamily 8 = .ok (.invokestatic 47, 3) := by decide +kernel
theorem dX11_turnedFamily_11 : decode cX11_turnedFamily 11 = .ok (.ireturn, 1) := by decide +kernel
theorem dX11_isPoint_0 : decode cX11_isPoint 0 = .ok (.iload_n 0, 1) := by decide +kernel
theorem dX11_isPoint_1 : decode cX11_isPoint 1 = .ok (.iconst 0, 1) := by decide +kernel
theorem dX11_isPoint_2 : decode cX11_isPoint 2 = .ok (.bipush 15, 2) := by decide +kernel
theorem dX11_isPoint_4 : decode cX11_isPoint 4 = .ok (.invokestatic 69, 3) := by decide +kernel
theorem dX11_isPoint_7 : decode cX11_isPoint 7 = .ok (.ireturn, 1) := by decide +kernel
theorem dX11_isFamily_0 : decode cX11_isFamily 0 = .ok (.iload_n 0, 1) := by decide +kernel
theorem dX11_isFamily_1 : decode cX11_isFamily 1 = .ok (.iconst 0, 1) := by decide +kernel
theorem dX11_isFamily_2 : decode cX11_isFamily 2 = .ok (.iconst 3, 1) := by decide +kernel
theorem dX11_isFamily_3 : decode cX11_isFamily 3 = .ok (.invokestatic 69, 3) := by decide +kernel
theorem dX11_isFamily_6 : decode cX11_isFamily 6 = .ok (.ireturn, 1) := by decide +kernel
theorem dX11_manyStates_0 : decode cX11_manyStates 0 = .ok (.iconst 1, 1) := by decide +kernel
theorem dX11_manyStates_1 : decode cX11_manyStates 1 = .ok (.aload_n 0, 1) := by decide +kernel
theorem dX11_manyStates_2 : decode cX11_manyStates 2 = .ok (.getfield 7, 3) := by decide +kernel
theorem dX11_manyStates_5 : decode cX11_manyStates 5 = .ok (.iconst 0, 1) := by decide +kernel
theorem dX11_manyStates_6 : decode cX11_manyStates 6 = .ok (.iaload, 1) := by decide +kernel
theorem dX11_manyStates_7 : decode cX11_manyStates 7 = .ok (.ishl, 1) := by decide +kernel
theorem dX11_manyStates_8 : decode cX11_manyStates 8 = .ok (.ireturn, 1) := by decide +kernel
theorem dX11_isState_0 : decode cX11_isState 0 = .ok (.iload_n 1, 1) := by decide +kernel
theorem dX11_isState_1 : decode cX11_isState 1 = .ok (.iconst 0, 1) := by decide +kernel
theorem dX11_isState_2 : decode cX11_isState 2 = .ok (.aload_n 0, 1) := by decide +kernel
theorem dX11_isState_3 : decode cX11_isState 3 = .ok (.invokevirtual 73, 3) := by decide +kernel
theorem dX11_isState_6 : decode cX11_isState 6 = .ok (.iconst 1, 1) := by decide +kernel
theorem dX11_isState_7 : decode cX11_isState 7 = .ok (.isub, 1) := by decide +kernel
theorem dX11_isState_8 : decode cX11_isState 8 = .ok (.invokestatic 69, 3) := by decide +kernel
theorem dX11_isState_11 : decode cX11_isState 11 = .ok (.ireturn, 1) := by decide +kernel
theorem dX11_odd_0 : decode cX11_odd 0 = .ok (.iconst 0, 1) := by decide +kernel
theorem dX11_odd_1 : decode cX11_odd 1 = .ok (.istore_n 1, 1) := by decide +kernel
theorem dX11_odd_2 : decode cX11_odd 2 = .ok (.iconst 0, 1) := by decide +kernel
theorem dX11_odd_3 : decode cX11_odd 3 = .ok (.istore_n 2, 1) := by decide +kernel
theorem dX11_odd_4 : decode cX11_odd 4 = .ok (.iload_n 2, 1) := by decide +kernel
theorem dX11_odd_5 : decode cX11_odd 5 = .ok (.iconst 4, 1) := by decide +kernel
theorem dX11_odd_6 : decode cX11_odd 6 = .ok (.if_icmp .ge 17, 3) := by decide +kernel
theorem dX11_odd_9 : decode cX11_odd 9 = .ok (.iload_n 1, 1) := by decide +kernel
theorem dX11_odd_10 : decode cX11_odd 10 = .ok (.iload_n 0, 1) := by decide +kernel
theorem dX11_odd_11 : decode cX11_odd 11 = .ok (.iload_n 2, 1) := by decide +kernel
theorem dX11_odd_12 : decode cX11_odd 12 = .ok (.ishr, 1) := by decide +kernel
theorem dX11_odd_13 : decode cX11_odd 13 = .ok (.iconst 1, 1) := by decide +kernel
theorem dX11_odd_14 : decode cX11_odd 14 = .ok (.iand, 1) := by decide +kernel
theorem dX11_odd_15 : decode cX11_odd 15 = .ok (.iadd, 1) := by decide +kernel
theorem dX11_odd_16 : decode cX11_odd 16 = .ok (.istore_n 1, 1) := by decide +kernel
theorem dX11_odd_17 : decode cX11_odd 17 = .ok (.iinc 2 1, 3) := by decide +kernel
theorem dX11_odd_20 : decode cX11_odd 20 = .ok (.goto (-16), 3) := by decide +kernel
theorem dX11_odd_23 : decode cX11_odd 23 = .ok (.iload_n 1, 1) := by decide +kernel
theorem dX11_odd_24 : decode cX11_odd 24 = .ok (.iconst 2, 1) := by decide +kernel
theorem dX11_odd_25 : decode cX11_odd 25 = .ok (.irem, 1) := by decide +kernel
theorem dX11_odd_26 : decode cX11_odd 26 = .ok (.ireturn, 1) := by decide +kernel
theorem dX11_familyBy_0 : decode cX11_familyBy 0 = .ok (.iload_n 2, 1) := by decide +kernel
theorem dX11_familyBy_1 : decode cX11_familyBy 1 = .ok (.aload_n 0, 1) := by decide +kernel
theorem dX11_familyBy_2 : decode cX11_familyBy 2 = .ok (.getfield 7, 3) := by decide +kernel
theorem dX11_familyBy_5 : decode cX11_familyBy 5 = .ok (.iconst 0, 1) := by decide +kernel
theorem dX11_familyBy_6 : decode cX11_familyBy 6 = .ok (.iaload, 1) := by decide +kernel
theorem dX11_familyBy_7 : decode cX11_familyBy 7 = .ok (.ishl, 1) := by decide +kernel
theorem dX11_familyBy_8 : decode cX11_familyBy 8 = .ok (.iload_n 1, 1) := by decide +kernel
theorem dX11_familyBy_9 : decode cX11_familyBy 9 = .ok (.iadd, 1) := by decide +kernel
theorem dX11_familyBy_10 : decode cX11_familyBy 10 = .ok (.istore_n 3, 1) := by decide +kernel
theorem dX11_familyBy_11 : decode cX11_familyBy 11 = .ok (.iconst 2, 1) := by decide +kernel
theorem dX11_familyBy_12 : decode cX11_familyBy 12 = .ok (.iload_n 3, 1) := by decide +kernel
theorem dX11_familyBy_13 : decode cX11_familyBy 13 = .ok (.aload_n 0, 1) := by decide +kernel
theorem dX11_familyBy_14 : decode cX11_familyBy 14 = .ok (.getfield 7, 3) := by decide +kernel
theorem dX11_familyBy_17 : decode cX11_familyBy 17 = .ok (.iconst 1, 1) := by decide +kernel
theorem dX11_familyBy_18 : decode cX11_familyBy 18 = .ok (.iaload, 1) := by decide +kernel
theorem dX11_familyBy_19 : decode cX11_familyBy 19 = .ok (.iand, 1) := by decide +kernel
theorem dX11_familyBy_20 : decode cX11_familyBy 20 = .ok (.invokestatic 77, 3) := by decide +kernel
theorem dX11_familyBy_23 : decode cX11_familyBy 23 = .ok (.imul, 1) := by decide +kernel
theorem dX11_familyBy_24 : decode cX11_familyBy 24 = .ok (.iload_n 3, 1) := by decide +kernel
theorem dX11_familyBy_25 : decode cX11_familyBy 25 = .ok (.aload_n 0, 1) := by decide +kernel
theorem dX11_familyBy_26 : decode cX11_familyBy 26 = .ok (.getfield 7, 3) := by decide +kernel
theorem dX11_familyBy_29 : decode cX11_familyBy 29 = .ok (.iconst 2, 1) := by decide +kernel
theorem dX11_familyBy_30 : decode cX11_familyBy 30 = .ok (.iaload, 1) := by decide +kernel
theorem dX11_familyBy_31 : decode cX11_familyBy 31 = .ok (.iand, 1) := by decide +kernel
theorem dX11_familyBy_32 : decode cX11_familyBy 32 = .ok (.invokestatic 77, 3) := by decide +kernel
theorem dX11_familyBy_35 : decode cX11_familyBy 35 = .ok (.iadd, 1) := by decide +kernel
theorem dX11_familyBy_36 : decode cX11_familyBy 36 = .ok (.ireturn, 1) := by decide +kernel
theorem dX11_stateBy_0 : decode cX11_stateBy 0 = .ok (.iload_n 2, 1) := by decide +kernel
theorem dX11_stateBy_1 : decode cX11_stateBy 1 = .ok (.aload_n 0, 1) := by decide +kernel
theorem dX11_stateBy_2 : decode cX11_stateBy 2 = .ok (.getfield 7, 3) := by decide +kernel
theorem dX11_stateBy_5 : decode cX11_stateBy 5 = .ok (.iconst 0, 1) := by decide +kernel
theorem dX11_stateBy_6 : decode cX11_stateBy 6 = .ok (.iaload, 1) := by decide +kernel
theorem dX11_stateBy_7 : decode cX11_stateBy 7 = .ok (.ishl, 1) := by decide +kernel
theorem dX11_stateBy_8 : decode cX11_stateBy 8 = .ok (.iload_n 1, 1) := by decide +kernel
theorem dX11_stateBy_9 : decode cX11_stateBy 9 = .ok (.iadd, 1) := by decide +kernel
theorem dX11_stateBy_10 : decode cX11_stateBy 10 = .ok (.iconst 2, 1) := by decide +kernel
theorem dX11_stateBy_11 : decode cX11_stateBy 11 = .ok (.idiv, 1) := by decide +kernel
theorem dX11_stateBy_12 : decode cX11_stateBy 12 = .ok (.ireturn, 1) := by decide +kernel
theorem dX11_notes_0 : decode cX11_notes 0 = .ok (.aload_n 0, 1) := by decide +kernel
theorem dX11_notes_1 : decode cX11_notes 1 = .ok (.getfield 80, 3) := by decide +kernel
theorem dX11_notes_4 : decode cX11_notes 4 = .ok (.bipush 8, 2) := by decide +kernel
theorem dX11_notes_6 : decode cX11_notes 6 = .ok (.if_icmp .ne 43, 3) := by decide +kernel
theorem dX11_notes_9 : decode cX11_notes 9 = .ok (.iconst 0, 1) := by decide +kernel
theorem dX11_notes_10 : decode cX11_notes 10 = .ok (.istore_n 1, 1) := by decide +kernel
theorem dX11_notes_11 : decode cX11_notes 11 = .ok (.iload_n 1, 1) := by decide +kernel
theorem dX11_notes_12 : decode cX11_notes 12 = .ok (.sipush 714, 3) := by decide +kernel
theorem dX11_notes_15 : decode cX11_notes 15 = .ok (.if_icmp .ge 24, 3) := by decide +kernel
theorem dX11_notes_18 : decode cX11_notes 18 = .ok (.aload_n 0, 1) := by decide +kernel
theorem dX11_notes_19 : decode cX11_notes 19 = .ok (.getfield 13, 3) := by decide +kernel
theorem dX11_notes_22 : decode cX11_notes 22 = .ok (.iload_n 1, 1) := by decide +kernel
theorem dX11_notes_23 : decode cX11_notes 23 = .ok (.aload_n 0, 1) := by decide +kernel
theorem dX11_notes_24 : decode cX11_notes 24 = .ok (.getfield 13, 3) := by decide +kernel
theorem dX11_notes_27 : decode cX11_notes 27 = .ok (.iload_n 1, 1) := by decide +kernel
theorem dX11_notes_28 : decode cX11_notes 28 = .ok (.bipush 102, 2) := by decide +kernel
theorem dX11_notes_30 : decode cX11_notes 30 = .ok (.iadd, 1) := by decide +kernel
theorem dX11_notes_31 : decode cX11_notes 31 = .ok (.iaload, 1) := by decide +kernel
theorem dX11_notes_32 : decode cX11_notes 32 = .ok (.iastore, 1) := by decide +kernel
theorem dX11_notes_33 : decode cX11_notes 33 = .ok (.iinc 1 1, 3) := by decide +kernel
theorem dX11_notes_36 : decode cX11_notes 36 = .ok (.goto (-25), 3) := by decide +kernel
theorem dX11_notes_39 : decode cX11_notes 39 = .ok (.aload_n 0, 1) := by decide +kernel
theorem dX11_notes_40 : decode cX11_notes 40 = .ok (.dup, 1) := by decide +kernel
theorem dX11_notes_41 : decode cX11_notes 41 = .ok (.getfield 80, 3) := by decide +kernel
theorem dX11_notes_44 : decode cX11_notes 44 = .ok (.iconst 1, 1) := by decide +kernel
theorem dX11_notes_45 : decode cX11_notes 45 = .ok (.isub, 1) := by decide +kernel
theorem dX11_notes_46 : decode cX11_notes 46 = .ok (.putfield 80, 3) := by decide +kernel
theorem dX11_notes_49 : decode cX11_notes 49 = .ok (.iconst 0, 1) := by decide +kernel
theorem dX11_notes_50 : decode cX11_notes 50 = .ok (.istore_n 1, 1) := by decide +kernel
theorem dX11_notes_51 : decode cX11_notes 51 = .ok (.iload_n 1, 1) := by decide +kernel
theorem dX11_notes_52 : decode cX11_notes 52 = .ok (.bipush 102, 2) := by decide +kernel
theorem dX11_notes_54 : decode cX11_notes 54 = .ok (.if_icmp .ge 29, 3) := by decide +kernel
theorem dX11_notes_57 : decode cX11_notes 57 = .ok (.aload_n 0, 1) := by decide +kernel
theorem dX11_notes_58 : decode cX11_notes 58 = .ok (.getfield 13, 3) := by decide +kernel
theorem dX11_notes_61 : decode cX11_notes 61 = .ok (.bipush 102, 2) := by decide +kernel
theorem dX11_notes_63 : decode cX11_notes 63 = .ok (.aload_n 0, 1) := by decide +kernel
theorem dX11_notes_64 : decode cX11_notes 64 = .ok (.getfield 80, 3) := by decide +kernel
theorem dX11_notes_67 : decode cX11_notes 67 = .ok (.imul, 1) := by decide +kernel
theorem dX11_notes_68 : decode cX11_notes 68 = .ok (.iload_n 1, 1) := by decide +kernel
theorem dX11_notes_69 : decode cX11_notes 69 = .ok (.iadd, 1) := by decide +kernel
theorem dX11_notes_70 : decode cX11_notes 70 = .ok (.aload_n 0, 1) := by decide +kernel
theorem dX11_notes_71 : decode cX11_notes 71 = .ok (.getfield 7, 3) := by decide +kernel
theorem dX11_notes_74 : decode cX11_notes 74 = .ok (.iload_n 1, 1) := by decide +kernel
theorem dX11_notes_75 : decode cX11_notes 75 = .ok (.iaload, 1) := by decide +kernel
theorem dX11_notes_76 : decode cX11_notes 76 = .ok (.iastore, 1) := by decide +kernel
theorem dX11_notes_77 : decode cX11_notes 77 = .ok (.iinc 1 1, 3) := by decide +kernel
theorem dX11_notes_80 : decode cX11_notes 80 = .ok (.goto (-29), 3) := by decide +kernel
theorem dX11_notes_83 : decode cX11_notes 83 = .ok (.aload_n 0, 1) := by decide +kernel
theorem dX11_notes_84 : decode cX11_notes 84 = .ok (.dup, 1) := by decide +kernel
theorem dX11_notes_85 : decode cX11_notes 85 = .ok (.getfield 80, 3) := by decide +kernel
theorem dX11_notes_88 : decode cX11_notes 88 = .ok (.iconst 1, 1) := by decide +kernel
theorem dX11_notes_89 : decode cX11_notes 89 = .ok (.iadd, 1) := by decide +kernel
theorem dX11_notes_90 : decode cX11_notes 90 = .ok (.putfield 80, 3) := by decide +kernel
theorem dX11_notes_93 : decode cX11_notes 93 = .ok (.return_, 1) := by decide +kernel
theorem dX11_code_0 : decode cX11_code 0 = .ok (.iload_n 1, 1) := by decide +kernel
theorem dX11_code_1 : decode cX11_code 1 = .ok (.iconst 1, 1) := by decide +kernel
theorem dX11_code_2 : decode cX11_code 2 = .ok (.iconst 3, 1) := by decide +kernel
theorem dX11_code_3 : decode cX11_code 3 = .ok (.invokestatic 69, 3) := by decide +kernel
theorem dX11_code_6 : decode cX11_code 6 = .ok (.ifCond .eq 29, 3) := by decide +kernel
theorem dX11_code_9 : decode cX11_code 9 = .ok (.iload_n 2, 1) := by decide +kernel
theorem dX11_code_10 : decode cX11_code 10 = .ok (.iconst 1, 1) := by decide +kernel
theorem dX11_code_11 : decode cX11_code 11 = .ok (.iconst 2, 1) := by decide +kernel
theorem dX11_code_12 : decode cX11_code 12 = .ok (.iload_n 1, 1) := by decide +kernel
theorem dX11_code_13 : decode cX11_code 13 = .ok (.ishl, 1) := by decide +kernel
theorem dX11_code_14 : decode cX11_code 14 = .ok (.iconst 1, 1) := by decide +kernel
theorem dX11_code_15 : decode cX11_code 15 = .ok (.isub, 1) := by decide +kernel
theorem dX11_code_16 : decode cX11_code 16 = .ok (.invokestatic 69, 3) := by decide +kernel
theorem dX11_code_19 : decode cX11_code 19 = .ok (.ifCond .eq 16, 3) := by decide +kernel
