theorem dX1_xOf_0 : decode cX1_xOf 0 = .ok (.bipush 20, 2) := by decide +kernel
theorem dX1_xOf_2 : decode cX1_xOf 2 = .ok (.iload_n 0, 1) := by decide +kernel
theorem dX1_xOf_3 : decode cX1_xOf 3 = .ok (.iconst 4, 1) := by decide +kernel
theorem dX1_xOf_4 : decode cX1_xOf 4 = .ok (.idiv, 1) := by decide +kernel
theorem dX1_xOf_5 : decode cX1_xOf 5 = .ok (.imul, 1) := by decide +kernel
theorem dX1_xOf_6 : decode cX1_xOf 6 = .ok (.bipush 30, 2) := by decide +kernel
theorem dX1_xOf_8 : decode cX1_xOf 8 = .ok (.isub, 1) := by decide +kernel
theorem dX1_xOf_9 : decode cX1_xOf 9 = .ok (.ireturn, 1) := by decide +kernel
theorem dX1_yOf_0 : decode cX1_yOf 0 = .ok (.bipush 20, 2) := by decide +kernel
theorem dX1_yOf_2 : decode cX1_yOf 2 = .ok (.iload_n 0, 1) := by decide +kernel
theorem dX1_yOf_3 : decode cX1_yOf 3 = .ok (.iconst 4, 1) := by decide +kernel
theorem dX1_yOf_4 : decode cX1_yOf 4 = .ok (.irem, 1) := by decide +kernel
theorem dX1_yOf_5 : decode cX1_yOf 5 = .ok (.imul, 1) := by decide +kernel
theorem dX1_yOf_6 : decode cX1_yOf 6 = .ok (.bipush 30, 2) := by decide +kernel
theorem dX1_yOf_8 : decode cX1_yOf 8 = .ok (.isub, 1) := by decide +kernel
theorem dX1_yOf_9 : decode cX1_yOf 9 = .ok (.ireturn, 1) := by decide +kernel
theorem dX1_familyOf_0 : decode cX1_familyOf 0 = .ok (.iload_n 0, 1) := by decide +kernel
theorem dX1_familyOf_1 : decode cX1_familyOf 1 = .ok (.iconst 4, 1) := by decide +kernel
theorem dX1_familyOf_2 : decode cX1_familyOf 2 = .ok (.idiv, 1) := by decide +kernel
theorem dX1_familyOf_3 : decode cX1_familyOf 3 = .ok (.istore_n 1, 1) := by decide +kernel
theorem dX1_familyOf_4 : decode cX1_familyOf 4 = .ok (.iload_n 0, 1) := by decide +kernel
theorem dX1_familyOf_5 : decode cX1_familyOf 5 = .ok (.iconst 4, 1) := by decide +kernel
theorem dX1_familyOf_6 : decode cX1_familyOf 6 = .ok (.irem, 1) := by decide +kernel
theorem dX1_familyOf_7 : decode cX1_familyOf 7 = .ok (.istore_n 2, 1) := by decide +kernel
theorem dX1_familyOf_8 : decode cX1_familyOf 8 = .ok (.iconst 2, 1) := by decide +kernel
theorem dX1_familyOf_9 : decode cX1_familyOf 9 = .ok (.iload_n 1, 1) := by decide +kernel
theorem dX1_familyOf_10 : decode cX1_familyOf 10 = .ok (.iload_n 2, 1) := by decide +kernel
theorem dX1_familyOf_11 : decode cX1_familyOf 11 = .ok (.iadd, 1) := by decide +kernel
theorem dX1_familyOf_12 : decode cX1_familyOf 12 = .ok (.iconst 2, 1) := by decide +kernel
theorem dX1_familyOf_13 : decode cX1_familyOf 13 = .ok (.irem, 1) := by decide +kernel
theorem dX1_familyOf_14 : decode cX1_familyOf 14 = .ok (.imul, 1) := by decide +kernel
theorem dX1_familyOf_15 : decode cX1_familyOf 15 = .ok (.iload_n 2, 1) := by decide +kernel
theorem dX1_familyOf_16 : decode cX1_familyOf 16 = .ok (.iconst 2, 1) := by decide +kernel
theorem dX1_familyOf_17 : decode cX1_familyOf 17 = .ok (.irem, 1) := by decide +kernel
theorem dX1_familyOf_18 : decode cX1_familyOf 18 = .ok (.iadd, 1) := by decide +kernel
theorem dX1_familyOf_19 : decode cX1_familyOf 19 = .ok (.ireturn, 1) := by decide +kernel
theorem dX1_rankOf_0 : decode cX1_rankOf 0 = .ok (.iload_n 0, 1) := by decide +kernel
theorem dX1_rankOf_1 : decode cX1_rankOf 1 = .ok (.iconst 4, 1) := by decide +kernel
theorem dX1_rankOf_2 : decode cX1_rankOf 2 = .ok (.idiv, 1) := by decide +kernel
theorem dX1_rankOf_3 : decode cX1_rankOf 3 = .ok (.istore_n 1, 1) := by decide +kernel
theorem dX1_rankOf_4 : decode cX1_rankOf 4 = .ok (.iload_n 0, 1) := by decide +kernel
theorem dX1_rankOf_5 : decode cX1_rankOf 5 = .ok (.iconst 4, 1) := by decide +kernel
theorem dX1_rankOf_6 : decode cX1_rankOf 6 = .ok (.irem, 1) := by decide +kernel
theorem dX1_rankOf_7 : decode cX1_rankOf 7 = .ok (.istore_n 2, 1) := by decide +kernel
theorem dX1_rankOf_8 : decode cX1_rankOf 8 = .ok (.iconst 2, 1) := by decide +kernel
theorem dX1_rankOf_9 : decode cX1_rankOf 9 = .ok (.iload_n 1, 1) := by decide +kernel
theorem dX1_rankOf_10 : decode cX1_rankOf 10 = .ok (.iconst 2, 1) := by decide +kernel
theorem dX1_rankOf_11 : decode cX1_rankOf 11 = .ok (.idiv, 1) := by decide +kernel
theorem dX1_rankOf_12 : decode cX1_rankOf 12 = .ok (.imul, 1) := by decide +kernel
theorem dX1_rankOf_13 : decode cX1_rankOf 13 = .ok (.iload_n 2, 1) := by decide +kernel
theorem dX1_rankOf_14 : decode cX1_rankOf 14 = .ok (.iconst 2, 1) := by decide +kernel
theorem dX1_rankOf_15 : decode cX1_rankOf 15 = .ok (.idiv, 1) := by decide +kernel
theorem dX1_rankOf_16 : decode cX1_rankOf 16 = .ok (.iadd, 1) := by decide +kernel
theorem dX1_rankOf_17 : decode cX1_rankOf 17 = .ok (.ireturn, 1) := by decide +kernel
theorem dX1_pointOf_0 : decode cX1_pointOf 0 = .ok (.iload_n 0, 1) := by decide +kernel
theorem dX1_pointOf_1 : decode cX1_pointOf 1 = .ok (.iconst 2, 1) := by decide +kernel
theorem dX1_pointOf_2 : decode cX1_pointOf 2 = .ok (.irem, 1) := by decide +kernel
theorem dX1_pointOf_3 : decode cX1_pointOf 3 = .ok (.istore_n 2, 1) := by decide +kernel
theorem dX1_pointOf_4 : decode cX1_pointOf 4 = .ok (.iload_n 0, 1) := by decide +kernel
theorem dX1_pointOf_5 : decode cX1_pointOf 5 = .ok (.iconst 2, 1) := by decide +kernel
theorem dX1_pointOf_6 : decode cX1_pointOf 6 = .ok (.idiv, 1) := by decide +kernel
theorem dX1_pointOf_7 : decode cX1_pointOf 7 = .ok (.iload_n 2, 1) := by decide +kernel
theorem dX1_pointOf_8 : decode cX1_pointOf 8 = .ok (.iadd, 1) := by decide +kernel
theorem dX1_pointOf_9 : decode cX1_pointOf 9 = .ok (.iconst 2, 1) := by decide +kernel
theorem dX1_pointOf_10 : decode cX1_pointOf 10 = .ok (.irem, 1) := by decide +kernel
theorem dX1_pointOf_11 : decode cX1_pointOf 11 = .ok (.istore_n 3, 1) := by decide +kernel
theorem dX1_pointOf_12 : decode cX1_pointOf 12 = .ok (.iload_n 3, 1) := by decide +kernel
theorem dX1_pointOf_13 : decode cX1_pointOf 13 = .ok (.iconst 2, 1) := by decide +kernel
theorem dX1_pointOf_14 : decode cX1_pointOf 14 = .ok (.iload_n 1, 1) := by decide +kernel
theorem dX1_pointOf_15 : decode cX1_pointOf 15 = .ok (.iconst 2, 1) := by decide +kernel
theorem dX1_pointOf_16 : decode cX1_pointOf 16 = .ok (.idiv, 1) := by decide +kernel
theorem dX1_pointOf_17 : decode cX1_pointOf 17 = .ok (.imul, 1) := by decide +kernel
theorem dX1_pointOf_18 : decode cX1_pointOf 18 = .ok (.iadd, 1) := by decide +kernel
theorem dX1_pointOf_19 : decode cX1_pointOf 19 = .ok (.istore 4, 2) := by decide +kernel
theorem dX1_pointOf_21 : decode cX1_pointOf 21 = .ok (.iload_n 2, 1) := by decide +kernel
theorem dX1_pointOf_22 : decode cX1_pointOf 22 = .ok (.iconst 2, 1) := by decide +kernel
theorem dX1_pointOf_23 : decode cX1_pointOf 23 = .ok (.iload_n 1, 1) := by decide +kernel
theorem dX1_pointOf_24 : decode cX1_pointOf 24 = .ok (.iconst 2, 1) := by decide +kernel
theorem dX1_pointOf_25 : decode cX1_pointOf 25 = .ok (.irem, 1) := by decide +kernel
theorem dX1_pointOf_26 : decode cX1_pointOf 26 = .ok (.imul, 1) := by decide +kernel
theorem dX1_pointOf_27 : decode cX1_pointOf 27 = .ok (.iadd, 1) := by decide +kernel
theorem dX1_pointOf_28 : decode cX1_pointOf 28 = .ok (.istore 5, 2) := by decide +kernel
theorem dX1_pointOf_30 : decode cX1_pointOf 30 = .ok (.iconst 4, 1) := by decide +kernel
theorem dX1_pointOf_31 : decode cX1_pointOf 31 = .ok (.iload 4, 2) := by decide +kernel
theorem dX1_pointOf_33 : decode cX1_pointOf 33 = .ok (.imul, 1) := by decide +kernel
theorem dX1_pointOf_34 : decode cX1_pointOf 34 = .ok (.iload 5, 2) := by decide +kernel
theorem dX1_pointOf_36 : decode cX1_pointOf 36 = .ok (.iadd, 1) := by decide +kernel
theorem dX1_pointOf_37 : decode cX1_pointOf 37 = .ok (.ireturn, 1) := by decide +kernel
theorem dX1_turnOf_0 : decode cX1_turnOf 0 = .ok (.iconst 4, 1) := by decide +kernel
theorem dX1_turnOf_1 : decode cX1_turnOf 1 = .ok (.iconst 3, 1) := by decide +kernel
theorem dX1_turnOf_2 : decode cX1_turnOf 2 = .ok (.iload_n 0, 1) := by decide +kernel
theorem dX1_turnOf_3 : decode cX1_turnOf 3 = .ok (.iconst 4, 1) := by decide +kernel
theorem dX1_turnOf_4 : decode cX1_turnOf 4 = .ok (.irem, 1) := by decide +kernel
theorem dX1_turnOf_5 : decode cX1_turnOf 5 = .ok (.isub, 1) := by decide +kernel
theorem dX1_turnOf_6 : decode cX1_turnOf 6 = .ok (.imul, 1) := by decide +kernel
theorem dX1_turnOf_7 : decode cX1_turnOf 7 = .ok (.iload_n 0, 1) := by decide +kernel
theorem dX1_turnOf_8 : decode cX1_turnOf 8 = .ok (.iconst 4, 1) := by decide +kernel
theorem dX1_turnOf_9 : decode cX1_turnOf 9 = .ok (.idiv, 1) := by decide +kernel
theorem dX1_turnOf_10 : decode cX1_turnOf 10 = .ok (.iadd, 1) := by decide +kernel
theorem dX1_turnOf_11 : decode cX1_turnOf 11 = .ok (.ireturn, 1) := by decide +kernel
theorem dX1_turnOfFamily_0 : decode cX1_turnOfFamily 0 = .ok (.iload_n 0, 1) := by decide +kernel
theorem dX1_turnOfFamily_1 : decode cX1_turnOfFamily 1 = .ok (.iconst 0, 1) := by decide +kernel
theorem dX1_turnOfFamily_2 : decode cX1_turnOfFamily 2 = .ok (.invokestatic 9, 3) := by decide +kernel
theorem dX1_turnOfFamily_5 : decode cX1_turnOfFamily 5 = .ok (.invokestatic 15, 3) := by decide +kernel
theorem dX1_turnOfFamily_8 : decode cX1_turnOfFamily 8 = .ok (.invokestatic 19, 3) := by decide +kernel
theorem dX1_turnOfFamily_11 : decode cX1_turnOfFamily 11 = .ok (.ireturn, 1) := by decide +kernel
theorem dX1_farFrom_0 : decode cX1_farFrom 0 = .ok (.iload_n 0, 1) := by decide +kernel
theorem dX1_farFrom_1 : decode cX1_farFrom 1 = .ok (.invokestatic 22, 3) := by decide +kernel
theorem dX1_farFrom_4 : decode cX1_farFrom 4 = .ok (.iload_n 1, 1) := by decide +kernel
theorem dX1_farFrom_5 : decode cX1_farFrom 5 = .ok (.isub, 1) := by decide +kernel
theorem dX1_farFrom_6 : decode cX1_farFrom 6 = .ok (.istore_n 3, 1) := by decide +kernel
theorem dX1_farFrom_7 : decode cX1_farFrom 7 = .ok (.iload_n 0, 1) := by decide +kernel
theorem dX1_farFrom_8 : decode cX1_farFrom 8 = .ok (.invokestatic 25, 3) := by decide +kernel
theorem dX1_farFrom_11 : decode cX1_farFrom 11 = .ok (.iload_n 2, 1) := by decide +kernel
theorem dX1_farFrom_12 : decode cX1_farFrom 12 = .ok (.isub, 1) := by decide +kernel
theorem dX1_farFrom_13 : decode cX1_farFrom 13 = .ok (.istore 4, 2) := by decide +kernel
theorem dX1_farFrom_15 : decode cX1_farFrom 15 = .ok (.iload_n 3, 1) := by decide +kernel
theorem dX1_farFrom_16 : decode cX1_farFrom 16 = .ok (.iload_n 3, 1) := by decide +kernel
theorem dX1_farFrom_17 : decode cX1_farFrom 17 = .ok (.imul, 1) := by decide +kernel
theorem dX1_farFrom_18 : decode cX1_farFrom 18 = .ok (.iload 4, 2) := by decide +kernel
theorem dX1_farFrom_20 : decode cX1_farFrom 20 = .ok (.iload 4, 2) := by decide +kernel
theorem dX1_farFrom_22 : decode cX1_farFrom 22 = .ok (.imul, 1) := by decide +kernel
theorem dX1_farFrom_23 : decode cX1_farFrom 23 = .ok (.iadd, 1) := by decide +kernel
theorem dX1_farFrom_24 : decode cX1_farFrom 24 = .ok (.ireturn, 1) := by decide +kernel
theorem dX1_pointAt_0 : decode cX1_pointAt 0 = .ok (.iconst 0, 1) := by decide +kernel
theorem dX1_pointAt_1 : decode cX1_pointAt 1 = .ok (.istore_n 2, 1) := by decide +kernel
theorem dX1_pointAt_2 : decode cX1_pointAt 2 = .ok (.iconst 1, 1) := by decide +kernel
theorem dX1_pointAt_3 : decode cX1_pointAt 3 = .ok (.istore_n 3, 1) := by decide +kernel
theorem dX1_pointAt_4 : decode cX1_pointAt 4 = .ok (.iload_n 3, 1) := by decide +kernel
theorem dX1_pointAt_5 : decode cX1_pointAt 5 = .ok (.bipush 16, 2) := by decide +kernel
theorem dX1_pointAt_7 : decode cX1_pointAt 7 = .ok (.if_icmp .ge 26, 3) := by decide +kernel
theorem dX1_pointAt_10 : decode cX1_pointAt 10 = .ok (.iload_n 3, 1) := by decide +kernel
theorem dX1_pointAt_11 : decode cX1_pointAt 11 = .ok (.iload_n 0, 1) := by decide +kernel
theorem dX1_pointAt_12 : decode cX1_pointAt 12 = .ok (.iload_n 1, 1) := by decide +kernel
theorem dX1_pointAt_13 : decode cX1_pointAt 13 = .ok (.invokestatic 28, 3) := by decide +kernel
theorem dX1_pointAt_16 : decode cX1_pointAt 16 = .ok (.iload_n 2, 1) := by decide +kernel
theorem dX1_pointAt_17 : decode cX1_pointAt 17 = .ok (.iload_n 0, 1) := by decide +kernel
theorem dX1_pointAt_18 : decode cX1_pointAt 18 = .ok (.iload_n 1, 1) := by decide +kernel
theorem dX1_pointAt_19 : decode cX1_pointAt 19 = .ok (.invokestatic 28, 3) := by decide +kernel
theorem dX1_pointAt_22 : decode cX1_pointAt 22 = .ok (.if_icmp .ge 5, 3) := by decide +kernel
theorem dX1_pointAt_25 : decode cX1_pointAt 25 = .ok (.iload_n 3, 1) := by decide +kernel
theorem dX1_pointAt_26 : decode cX1_pointAt 26 = .ok (.istore_n 2, 1) := by decide +kernel
theorem dX1_pointAt_27 : decode cX1_pointAt 27 = .ok (.iinc 3 1, 3) := by decide +kernel
theorem dX1_pointAt_30 : decode cX1_pointAt 30 = .ok (.goto (-26), 3) := by decide +kernel
theorem dX1_pointAt_33 : decode cX1_pointAt 33 = .ok (.iload_n 2, 1) := by decide +kernel
theorem dX1_pointAt_34 : decode cX1_pointAt 34 = .ok (.ireturn, 1) := by decide +kernel
theorem dX1_gapOf_0 : decode cX1_gapOf 0 = .ok (.ldc 32, 2) := by decide +kernel
theorem dX1_gapOf_2 : decode cX1_gapOf 2 = .ok (.istore_n 2, 1) := by decide +kernel
theorem dX1_gapOf_3 : decode cX1_gapOf 3 = .ok (.iconst 0, 1) := by decide +kernel
theorem dX1_gapOf_4 : decode cX1_gapOf 4 = .ok (.istore_n 3, 1) := by decide +kernel
theorem dX1_gapOf_5 : decode cX1_gapOf 5 = .ok (.iload_n 3, 1) := by decide +kernel
theorem dX1_gapOf_6 : decode cX1_gapOf 6 = .ok (.iconst 4, 1) := by decide +kernel
theorem dX1_gapOf_7 : decode cX1_gapOf 7 = .ok (.if_icmp .ge 66, 3) := by decide +kernel
theorem dX1_gapOf_10 : decode cX1_gapOf 10 = .ok (.iconst 0, 1) := by decide +kernel
theorem dX1_gapOf_11 : decode cX1_gapOf 11 = .ok (.istore 4, 2) := by decide +kernel
theorem dX1_gapOf_13 : decode cX1_gapOf 13 = .ok (.iload 4, 2) := by decide +kernel
theorem dX1_gapOf_15 : decode cX1_gapOf 15 = .ok (.iconst 4, 1) := by decide +kernel
theorem dX1_gapOf_16 : decode cX1_gapOf 16 = .ok (.if_icmp .ge 51, 3) := by decide +kernel
theorem dX1_gapOf_19 : decode cX1_gapOf 19 = .ok (.iload_n 0, 1) := by decide +kernel
theorem dX1_gapOf_20 : decode cX1_gapOf 20 = .ok (.iload_n 3, 1) := by decide +kernel
theorem dX1_gapOf_21 : decode cX1_gapOf 21 = .ok (.invokestatic 9, 3) := by decide +kernel
theorem dX1_gapOf_24 : decode cX1_gapOf 24 = .ok (.istore 5, 2) := by decide +kernel
theorem dX1_gapOf_26 : decode cX1_gapOf 26 = .ok (.iload_n 1, 1) := by decide +kernel
theorem dX1_gapOf_27 : decode cX1_gapOf 27 = .ok (.iload 4, 2) := by decide +kernel
theorem dX1_gapOf_29 : decode cX1_gapOf 29 = .ok (.invokestatic 9, 3) := by decide +kernel
theorem dX1_gapOf_32 : decode cX1_gapOf 32 = .ok (.istore 6, 2) := by decide +kernel
theorem dX1_gapOf_34 : decode cX1_gapOf 34 = .ok (.iload 5, 2) := by decide +kernel
theorem dX1_gapOf_36 : decode cX1_gapOf 36 = .ok (.iload 6, 2) := by decide +kernel
theorem dX1_gapOf_38 : decode cX1_gapOf 38 = .ok (.if_icmp .eq 23, 3) := by decide +kernel
theorem dX1_gapOf_41 : decode cX1_gapOf 41 = .ok (.iload_n 2, 1) := by decide +kernel
theorem dX1_gapOf_42 : decode cX1_gapOf 42 = .ok (.iload 5, 2) := by decide +kernel
theorem dX1_gapOf_44 : decode cX1_gapOf 44 = .ok (.iload 6, 2) := by decide +kernel
theorem dX1_gapOf_46 : decode cX1_gapOf 46 = .ok (.invokestatic 22, 3) := by decide +kernel
theorem dX1_gapOf_49 : decode cX1_gapOf 49 = .ok (.iload 6, 2) := by decide +kernel
theorem dX1_gapOf_51 : decode cX1_gapOf 51 = .ok (.invokestatic 25, 3) := by decide +kernel
theorem dX1_gapOf_54 : decode cX1_gapOf 54 = .ok (.invokestatic 28, 3) := by decide +kernel
theorem dX1_gapOf_57 : decode cX1_gapOf 57 = .ok (.invokestatic 33, 3) := by decide +kernel
theorem dX1_gapOf_60 : decode cX1_gapOf 60 = .ok (.istore_n 2, 1) := by decide +kernel
theorem dX1_gapOf_61 : decode cX1_gapOf 61 = .ok (.iinc 4 1, 3) := by decide +kernel
theorem dX1_gapOf_64 : decode cX1_gapOf 64 = .ok (.goto (-51), 3) := by decide +kernel
theorem dX1_gapOf_67 : decode cX1_gapOf 67 = .ok (.iinc 3 1, 3) := by decide +kernel
theorem dX1_gapOf_70 : decode cX1_gapOf 70 = .ok (.goto (-65), 3) := by decide +kernel
theorem dX1_gapOf_73 : decode cX1_gapOf 73 = .ok (.iload_n 2, 1) := by decide +kernel
theorem dX1_gapOf_74 : decode cX1_gapOf 74 = .ok (.ireturn, 1) := by decide +kernel
