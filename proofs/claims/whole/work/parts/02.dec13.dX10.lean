theorem dX10_keep_46 : decode cX10_keep 46 = .ok (.getfield 114, 3) := by decide +kernel
theorem dX10_keep_49 : decode cX10_keep 49 = .ok (.ireturn, 1) := by decide +kernel
theorem dX10_goBack_0 : decode cX10_goBack 0 = .ok (.iload_n 1, 1) := by decide +kernel
theorem dX10_goBack_1 : decode cX10_goBack 1 = .ok (.iconst 0, 1) := by decide +kernel
theorem dX10_goBack_2 : decode cX10_goBack 2 = .ok (.iconst 1, 1) := by decide +kernel
theorem dX10_goBack_3 : decode cX10_goBack 3 = .ok (.invokestatic 60, 3) := by decide +kernel
theorem dX10_goBack_6 : decode cX10_goBack 6 = .ok (.ifCond .eq 6, 3) := by decide +kernel
theorem dX10_goBack_9 : decode cX10_goBack 9 = .ok (.ldc 139, 2) := by decide +kernel
theorem dX10_goBack_11 : decode cX10_goBack 11 = .ok (.ireturn, 1) := by decide +kernel
theorem dX10_goBack_12 : decode cX10_goBack 12 = .ok (.aload_n 0, 1) := by decide +kernel
theorem dX10_goBack_13 : decode cX10_goBack 13 = .ok (.getfield 27, 3) := by decide +kernel
theorem dX10_goBack_16 : decode cX10_goBack 16 = .ok (.iload_n 1, 1) := by decide +kernel
theorem dX10_goBack_17 : decode cX10_goBack 17 = .ok (.baload, 1) := by decide +kernel
theorem dX10_goBack_18 : decode cX10_goBack 18 = .ok (.ifCond .ne 6, 3) := by decide +kernel
theorem dX10_goBack_21 : decode cX10_goBack 21 = .ok (.ldc 141, 2) := by decide +kernel
theorem dX10_goBack_23 : decode cX10_goBack 23 = .ok (.ireturn, 1) := by decide +kernel
theorem dX10_goBack_24 : decode cX10_goBack 24 = .ok (.aload_n 0, 1) := by decide +kernel
theorem dX10_goBack_25 : decode cX10_goBack 25 = .ok (.getfield 10, 3) := by decide +kernel
theorem dX10_goBack_28 : decode cX10_goBack 28 = .ok (.aload_n 0, 1) := by decide +kernel
theorem dX10_goBack_29 : decode cX10_goBack 29 = .ok (.getfield 23, 3) := by decide +kernel
theorem dX10_goBack_32 : decode cX10_goBack 32 = .ok (.iload_n 1, 1) := by decide +kernel
theorem dX10_goBack_33 : decode cX10_goBack 33 = .ok (.aaload, 1) := by decide +kernel
theorem dX10_goBack_34 : decode cX10_goBack 34 = .ok (.invokevirtual 239, 3) := by decide +kernel
theorem dX10_goBack_37 : decode cX10_goBack 37 = .ok (.aload_n 0, 1) := by decide +kernel
theorem dX10_goBack_38 : decode cX10_goBack 38 = .ok (.getfield 19, 3) := by decide +kernel
theorem dX10_goBack_41 : decode cX10_goBack 41 = .ok (.invokevirtual 242, 3) := by decide +kernel
theorem dX10_goBack_44 : decode cX10_goBack 44 = .ok (.aload_n 0, 1) := by decide +kernel
theorem dX10_goBack_45 : decode cX10_goBack 45 = .ok (.getfield 10, 3) := by decide +kernel
theorem dX10_goBack_48 : decode cX10_goBack 48 = .ok (.getfield 104, 3) := by decide +kernel
theorem dX10_goBack_51 : decode cX10_goBack 51 = .ok (.getfield 114, 3) := by decide +kernel
theorem dX10_goBack_54 : decode cX10_goBack 54 = .ok (.ireturn, 1) := by decide +kernel
theorem dX10_isOutside_0 : decode cX10_isOutside 0 = .ok (.iload_n 0, 1) := by decide +kernel
theorem dX10_isOutside_1 : decode cX10_isOutside 1 = .ok (.iload_n 1, 1) := by decide +kernel
theorem dX10_isOutside_2 : decode cX10_isOutside 2 = .ok (.if_icmp .lt 8, 3) := by decide +kernel
theorem dX10_isOutside_5 : decode cX10_isOutside 5 = .ok (.iload_n 0, 1) := by decide +kernel
theorem dX10_isOutside_6 : decode cX10_isOutside 6 = .ok (.iload_n 2, 1) := by decide +kernel
theorem dX10_isOutside_7 : decode cX10_isOutside 7 = .ok (.if_icmp .le 7, 3) := by decide +kernel
theorem dX10_isOutside_10 : decode cX10_isOutside 10 = .ok (.iconst 1, 1) := by decide +kernel
theorem dX10_isOutside_11 : decode cX10_isOutside 11 = .ok (.goto 4, 3) := by decide +kernel
theorem dX10_isOutside_14 : decode cX10_isOutside 14 = .ok (.iconst 0, 1) := by decide +kernel
theorem dX10_isOutside_15 : decode cX10_isOutside 15 = .ok (.ireturn, 1) := by decide +kernel
theorem dX10_isPoint_0 : decode cX10_isPoint 0 = .ok (.iload_n 0, 1) := by decide +kernel
theorem dX10_isPoint_1 : decode cX10_isPoint 1 = .ok (.ifCond .lt 13, 3) := by decide +kernel
theorem dX10_isPoint_4 : decode cX10_isPoint 4 = .ok (.iload_n 0, 1) := by decide +kernel
theorem dX10_isPoint_5 : decode cX10_isPoint 5 = .ok (.bipush 16, 2) := by decide +kernel
theorem dX10_isPoint_7 : decode cX10_isPoint 7 = .ok (.if_icmp .ge 7, 3) := by decide +kernel
theorem dX10_isPoint_10 : decode cX10_isPoint 10 = .ok (.iconst 1, 1) := by decide +kernel
theorem dX10_isPoint_11 : decode cX10_isPoint 11 = .ok (.goto 4, 3) := by decide +kernel
theorem dX10_isPoint_14 : decode cX10_isPoint 14 = .ok (.iconst 0, 1) := by decide +kernel
theorem dX10_isPoint_15 : decode cX10_isPoint 15 = .ok (.ireturn, 1) := by decide +kernel
theorem dX10_isFamily_0 : decode cX10_isFamily 0 = .ok (.iload_n 0, 1) := by decide +kernel
theorem dX10_isFamily_1 : decode cX10_isFamily 1 = .ok (.ifCond .lt 12, 3) := by decide +kernel
theorem dX10_isFamily_4 : decode cX10_isFamily 4 = .ok (.iload_n 0, 1) := by decide +kernel
theorem dX10_isFamily_5 : decode cX10_isFamily 5 = .ok (.iconst 4, 1) := by decide +kernel
theorem dX10_isFamily_6 : decode cX10_isFamily 6 = .ok (.if_icmp .ge 7, 3) := by decide +kernel
theorem dX10_isFamily_9 : decode cX10_isFamily 9 = .ok (.iconst 1, 1) := by decide +kernel
theorem dX10_isFamily_10 : decode cX10_isFamily 10 = .ok (.goto 4, 3) := by decide +kernel
theorem dX10_isFamily_13 : decode cX10_isFamily 13 = .ok (.iconst 0, 1) := by decide +kernel
theorem dX10_isFamily_14 : decode cX10_isFamily 14 = .ok (.ireturn, 1) := by decide +kernel
theorem dX10_isState_0 : decode cX10_isState 0 = .ok (.iload_n 1, 1) := by decide +kernel
theorem dX10_isState_1 : decode cX10_isState 1 = .ok (.ifCond .lt 21, 3) := by decide +kernel
theorem dX10_isState_4 : decode cX10_isState 4 = .ok (.iload_n 1, 1) := by decide +kernel
theorem dX10_isState_5 : decode cX10_isState 5 = .ok (.aload_n 0, 1) := by decide +kernel
theorem dX10_isState_6 : decode cX10_isState 6 = .ok (.getfield 10, 3) := by decide +kernel
theorem dX10_isState_9 : decode cX10_isState 9 = .ok (.getfield 68, 3) := by decide +kernel
theorem dX10_isState_12 : decode cX10_isState 12 = .ok (.invokevirtual 85, 3) := by decide +kernel
theorem dX10_isState_15 : decode cX10_isState 15 = .ok (.if_icmp .ge 7, 3) := by decide +kernel
theorem dX10_isState_18 : decode cX10_isState 18 = .ok (.iconst 1, 1) := by decide +kernel
theorem dX10_isState_19 : decode cX10_isState 19 = .ok (.goto 4, 3) := by decide +kernel
theorem dX10_isState_22 : decode cX10_isState 22 = .ok (.iconst 0, 1) := by decide +kernel
theorem dX10_isState_23 : decode cX10_isState 23 = .ok (.ireturn, 1) := by decide +kernel
theorem dX10_seekNearest_0 : decode cX10_seekNearest 0 = .ok (.aload_n 0, 1) := by decide +kernel
theorem dX10_seekNearest_1 : decode cX10_seekNearest 1 = .ok (.getfield 41, 3) := by decide +kernel
theorem dX10_seekNearest_4 : decode cX10_seekNearest 4 = .ok (.aload_n 0, 1) := by decide +kernel
theorem dX10_seekNearest_5 : decode cX10_seekNearest 5 = .ok (.getfield 10, 3) := by decide +kernel
theorem dX10_seekNearest_8 : decode cX10_seekNearest 8 = .ok (.aload_n 0, 1) := by decide +kernel
theorem dX10_seekNearest_9 : decode cX10_seekNearest 9 = .ok (.getfield 10, 3) := by decide +kernel
theorem dX10_seekNearest_12 : decode cX10_seekNearest 12 = .ok (.getfield 104, 3) := by decide +kernel
theorem dX10_seekNearest_15 : decode cX10_seekNearest 15 = .ok (.getfield 114, 3) := by decide +kernel
theorem dX10_seekNearest_18 : decode cX10_seekNearest 18 = .ok (.aload_n 0, 1) := by decide +kernel
theorem dX10_seekNearest_19 : decode cX10_seekNearest 19 = .ok (.getfield 10, 3) := by decide +kernel
theorem dX10_seekNearest_22 : decode cX10_seekNearest 22 = .ok (.getfield 81, 3) := by decide +kernel
theorem dX10_seekNearest_25 : decode cX10_seekNearest 25 = .ok (.invokevirtual 224, 3) := by decide +kernel
theorem dX10_seekNearest_28 : decode cX10_seekNearest 28 = .ok (.ireturn, 1) := by decide +kernel
theorem dX10_countUnlike_0 : decode cX10_countUnlike 0 = .ok (.aload_n 0, 1) := by decide +kernel
theorem dX10_countUnlike_1 : decode cX10_countUnlike 1 = .ok (.getfield 10, 3) := by decide +kernel
theorem dX10_countUnlike_4 : decode cX10_countUnlike 4 = .ok (.getfield 89, 3) := by decide +kernel
theorem dX10_countUnlike_7 : decode cX10_countUnlike 7 = .ok (.getfield 134, 3) := by decide +kernel
theorem dX10_countUnlike_10 : decode cX10_countUnlike 10 = .ok (.aload_n 0, 1) := by decide +kernel
theorem dX10_countUnlike_11 : decode cX10_countUnlike 11 = .ok (.getfield 41, 3) := by decide +kernel
theorem dX10_countUnlike_14 : decode cX10_countUnlike 14 = .ok (.getfield 223, 3) := by decide +kernel
theorem dX10_countUnlike_17 : decode cX10_countUnlike 17 = .ok (.getfield 134, 3) := by decide +kernel
theorem dX10_countUnlike_20 : decode cX10_countUnlike 20 = .ok (.invokestatic 231, 3) := by decide +kernel
theorem dX10_countUnlike_23 : decode cX10_countUnlike 23 = .ok (.istore_n 1, 1) := by decide +kernel
theorem dX10_countUnlike_24 : decode cX10_countUnlike 24 = .ok (.iconst 0, 1) := by decide +kernel
theorem dX10_countUnlike_25 : decode cX10_countUnlike 25 = .ok (.istore_n 2, 1) := by decide +kernel
theorem dX10_countUnlike_26 : decode cX10_countUnlike 26 = .ok (.iconst 0, 1) := by decide +kernel
theorem dX10_countUnlike_27 : decode cX10_countUnlike 27 = .ok (.istore_n 3, 1) := by decide +kernel
theorem dX10_countUnlike_28 : decode cX10_countUnlike 28 = .ok (.iload_n 3, 1) := by decide +kernel
theorem dX10_countUnlike_29 : decode cX10_countUnlike 29 = .ok (.iload_n 1, 1) := by decide +kernel
theorem dX10_countUnlike_30 : decode cX10_countUnlike 30 = .ok (.if_icmp .ge 39, 3) := by decide +kernel
theorem dX10_countUnlike_33 : decode cX10_countUnlike 33 = .ok (.aload_n 0, 1) := by decide +kernel
theorem dX10_countUnlike_34 : decode cX10_countUnlike 34 = .ok (.getfield 10, 3) := by decide +kernel
theorem dX10_countUnlike_37 : decode cX10_countUnlike 37 = .ok (.getfield 89, 3) := by decide +kernel
theorem dX10_countUnlike_40 : decode cX10_countUnlike 40 = .ok (.getfield 228, 3) := by decide +kernel
theorem dX10_countUnlike_43 : decode cX10_countUnlike 43 = .ok (.iload_n 3, 1) := by decide +kernel
theorem dX10_countUnlike_44 : decode cX10_countUnlike 44 = .ok (.iaload, 1) := by decide +kernel
theorem dX10_countUnlike_45 : decode cX10_countUnlike 45 = .ok (.aload_n 0, 1) := by decide +kernel
theorem dX10_countUnlike_46 : decode cX10_countUnlike 46 = .ok (.getfield 41, 3) := by decide +kernel
theorem dX10_countUnlike_49 : decode cX10_countUnlike 49 = .ok (.getfield 223, 3) := by decide +kernel
theorem dX10_countUnlike_52 : decode cX10_countUnlike 52 = .ok (.getfield 228, 3) := by decide +kernel
theorem dX10_countUnlike_55 : decode cX10_countUnlike 55 = .ok (.iload_n 3, 1) := by decide +kernel
theorem dX10_countUnlike_56 : decode cX10_countUnlike 56 = .ok (.iaload, 1) := by decide +kernel
theorem dX10_countUnlike_57 : decode cX10_countUnlike 57 = .ok (.if_icmp .eq 6, 3) := by decide +kernel
theorem dX10_countUnlike_60 : decode cX10_countUnlike 60 = .ok (.iinc 2 1, 3) := by decide +kernel
theorem dX10_countUnlike_63 : decode cX10_countUnlike 63 = .ok (.iinc 3 1, 3) := by decide +kernel
theorem dX10_countUnlike_66 : decode cX10_countUnlike 66 = .ok (.goto (-38), 3) := by decide +kernel
theorem dX10_countUnlike_69 : decode cX10_countUnlike 69 = .ok (.iload_n 2, 1) := by decide +kernel
theorem dX10_countUnlike_70 : decode cX10_countUnlike 70 = .ok (.ireturn, 1) := by decide +kernel
theorem dX10_countSigns_0 : decode cX10_countSigns 0 = .ok (.aload_n 0, 1) := by decide +kernel
theorem dX10_countSigns_1 : decode cX10_countSigns 1 = .ok (.getfield 41, 3) := by decide +kernel
theorem dX10_countSigns_4 : decode cX10_countSigns 4 = .ok (.getfield 223, 3) := by decide +kernel
theorem dX10_countSigns_7 : decode cX10_countSigns 7 = .ok (.getfield 134, 3) := by decide +kernel
theorem dX10_countSigns_10 : decode cX10_countSigns 10 = .ok (.istore_n 1, 1) := by decide +kernel
theorem dX10_countSigns_11 : decode cX10_countSigns 11 = .ok (.iload_n 1, 1) := by decide +kernel
theorem dX10_countSigns_12 : decode cX10_countSigns 12 = .ok (.ifCond .ne 5, 3) := by decide +kernel
theorem dX10_countSigns_15 : decode cX10_countSigns 15 = .ok (.iconst 0, 1) := by decide +kernel
theorem dX10_countSigns_16 : decode cX10_countSigns 16 = .ok (.ireturn, 1) := by decide +kernel
theorem dX10_countSigns_17 : decode cX10_countSigns 17 = .ok (.iconst 2, 1) := by decide +kernel
theorem dX10_countSigns_18 : decode cX10_countSigns 18 = .ok (.iload_n 1, 1) := by decide +kernel
theorem dX10_countSigns_19 : decode cX10_countSigns 19 = .ok (.imul, 1) := by decide +kernel
theorem dX10_countSigns_20 : decode cX10_countSigns 20 = .ok (.iload_n 1, 1) := by decide +kernel
theorem dX10_countSigns_21 : decode cX10_countSigns 21 = .ok (.iconst 1, 1) := by decide +kernel
theorem dX10_countSigns_22 : decode cX10_countSigns 22 = .ok (.isub, 1) := by decide +kernel
theorem dX10_countSigns_23 : decode cX10_countSigns 23 = .ok (.iconst 4, 1) := by decide +kernel
theorem dX10_countSigns_24 : decode cX10_countSigns 24 = .ok (.idiv, 1) := by decide +kernel
theorem dX10_countSigns_25 : decode cX10_countSigns 25 = .ok (.iadd, 1) := by decide +kernel
theorem dX10_countSigns_26 : decode cX10_countSigns 26 = .ok (.ireturn, 1) := by decide +kernel
